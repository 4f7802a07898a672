/-! fields, rows, branches -/
theorem k9_ob_ne {k i : Nat} (hv : k9_vk (k9_r k i)) (h0 : Nat.beq k 0 = false) (h9 : Nat.ble 9 (k9_et k) = false) : (k, i) ∈ k9_cells := by
  rcases hv with h | h | h
  · have h : k = 0 := h
    subst h
    cases h0
  · exact h
  · rw [h9] at h; cases h
theorem k9_mv_r {adr : Nat → Nat → Nat} {k i : Nat} (h0 : Nat.beq k 0 = false) : k9_mv adr (k9_r k i) = .ref (adr k i) := by
  cases k with
  | zero => cases h0
  | succ k => rfl
theorem k9_fl_spec {y k b : Nat} {w : k9_W} (h : k9_fl y w k b = true) : (Nat.beq k 0 = false ∧ Nat.ble 9 (k9_et k) = false ∧ k9_ob k = true ∧ b < (k9_vc k).2.2) ∧ (Cond.fieldLink (k9_ow y) w.2.2.1 ((k9_vc k).2.1 b).1 ((k9_vc k).2.1 b).2.1 ((k9_vc k).2.1 b).2.2.1 ∈ k9_TB ∨ Cond.fieldLinkNest (k9_ow y) w.2.2.1 ((k9_vc k).2.1 b).1 ((k9_vc k).2.1 b).2.1 ((k9_vc k).2.1 b).2.2.1 k9_host ∈ k9_NS) := by
  simp only [k9_fl, Bool.and_eq_true, Bool.not_eq_true'] at h
  obtain ⟨⟨⟨⟨h1, h2⟩, h3⟩, h4⟩, h5⟩ := h
  refine ⟨⟨h1, h2, h3, Nat.le_of_ble_eq_true h4⟩, ?_⟩
  split at h5
  · exact Or.inl (k9_hw_mem h5)
  · exact Or.inr (k9_hn_mem h5)
theorem k9_fs_at {dT : Nat → ClassId} {adr : Nat → Nat → Nat} {I : k9_I} {J : k9_J} {k i : Nat} (ho : k9_ob k = true) : k9_ent dT adr I J (k, i) = .inr (k9_ci k, (List.range (k9_vc k).2.2).map (fun s => k9_fv adr I J k i s)) := by
  simp only [k9_ent, ho]
theorem k9_row_at {dT : Nat → ClassId} {adr : Nat → Nat → Nat} {I : k9_I} {J : k9_J} {k i : Nat} (ho : k9_ob k = false) : k9_ent dT adr I J (k, i) = .inl (dT (k9_et k), k9_len k, k9_row adr I J k i) := by
  simp only [k9_ent, ho]
theorem k9_rg {α : Type} (f : Nat → α) {n b : Nat} (h : b < n) : ((List.range n).map f)[b]? = some (f b) := by
  simp [h]

theorem k9_x_4_0 {K : k9_K} {S : k9_S} {d ix a b : Nat} {z : Int32} {L : k9_L} {st : List k9_v} {I : k9_I} {J : k9_J} {i : Nat} (hv : k9_vk (k9_r a i)) (hC : k9_C S d K) (hok : k9_okP (k9_y K) ix) (hc : k9_cod (k9_y K) ix = (4, 0, a, b, z))  (kk : k9_G (ix + 1) L (k9_i (I a i b) :: st) I J K) : k9_G ix L (k9_r a i :: st) I J K := by
  obtain ⟨p, l, e, R, s, m, args, below, meth, c, cells, slots, QF, y, dC, dI, dT, adr, A⟩ := K
  obtain ⟨hx, hb, hml, hown, hts, hns, hK, hST, hA, hR, hScr⟩ := hC
  obtain ⟨hd, hf, hs⟩ := k9_use hok hc
  dsimp only [k9_y] at hc hd hf hs
  intro H locs ls hP hD hS hL
  have hn := hf rfl
  change decode (k9_by y) (k9_pc y ix) = .ok (.getfield (k9_raw y ix).2.2.1, 3) at hd
  change k9_pc y (ix + 1) = k9_pc y ix + 3 at hn
  have kk := kk H locs ls hP hD hS hL
  rw [hn] at kk
  simp only [k9_sid, Bool.and_eq_true] at hs
  obtain ⟨hs, ht⟩ := hs
  obtain ⟨⟨h0, h9, ho, hb1⟩, hlk⟩ := k9_fl_spec hs
  have hcl := k9_kd ho
  obtain ⟨q0, -, hw⟩ := k9_ws_at (dT := dT) (adr := adr) (I := I) (J := J) (k9_ob_ne hv h0 h9)
  rw [k9_fs_at ho] at hw
  have hg := k9_rg (fun s => k9_fv adr I J a i s) hb1
  simp only [List.map_cons, k9_mv_r h0]
  rcases hlk with hlk | hlk
  · refine va_get (C := (k9_vc a).1) (T := (k9_vc a).2.1) (N := (k9_vc a).2.2) hx hb hts hcl.2.1 hown hK hP q0 hw hcl.1 b hb1 (hts _ hlk) (fun _ h => h) hg hd ?_
    have e : k9_fv adr I J a i b = .int (I a i b) := by simp only [k9_fv, Nat.eq_of_beq_eq_true ht]
    rw [e]
    exact kk
  · refine va_getN (C := (k9_vc a).1) (T := (k9_vc a).2.1) (N := (k9_vc a).2.2) hx hb hts hcl.2.1 hown hK hP q0 hw hcl.1 b hb1 (va_Nw.use rfl (hns _ hlk)) (fun _ h => h) hg hd ?_
    have e : k9_fv adr I J a i b = .int (I a i b) := by simp only [k9_fv, Nat.eq_of_beq_eq_true ht]
    rw [e]
    exact kk

theorem k9_x_4_1 {K : k9_K} {S : k9_S} {d ix a b : Nat} {z : Int32} {L : k9_L} {st : List k9_v} {I : k9_I} {J : k9_J} {i : Nat} (hv : k9_vk (k9_r a i)) (hC : k9_C S d K) (hok : k9_okP (k9_y K) ix) (hc : k9_cod (k9_y K) ix = (4, 1, a, b, z))  (kk : k9_G (ix + 1) L (k9_l (J a i b) :: st) I J K) : k9_G ix L (k9_r a i :: st) I J K := by
  obtain ⟨p, l, e, R, s, m, args, below, meth, c, cells, slots, QF, y, dC, dI, dT, adr, A⟩ := K
  obtain ⟨hx, hb, hml, hown, hts, hns, hK, hST, hA, hR, hScr⟩ := hC
  obtain ⟨hd, hf, hs⟩ := k9_use hok hc
  dsimp only [k9_y] at hc hd hf hs
  intro H locs ls hP hD hS hL
  have hn := hf rfl
  change decode (k9_by y) (k9_pc y ix) = .ok (.getfield (k9_raw y ix).2.2.1, 3) at hd
  change k9_pc y (ix + 1) = k9_pc y ix + 3 at hn
  have kk := kk H locs ls hP hD hS hL
  rw [hn] at kk
  simp only [k9_sid, Bool.and_eq_true] at hs
  obtain ⟨hs, ht⟩ := hs
  obtain ⟨⟨h0, h9, ho, hb1⟩, hlk⟩ := k9_fl_spec hs
  have hcl := k9_kd ho
  obtain ⟨q0, -, hw⟩ := k9_ws_at (dT := dT) (adr := adr) (I := I) (J := J) (k9_ob_ne hv h0 h9)
  rw [k9_fs_at ho] at hw
  have hg := k9_rg (fun s => k9_fv adr I J a i s) hb1
  simp only [List.map_cons, k9_mv_r h0]
  rcases hlk with hlk | hlk
  · refine va_get (C := (k9_vc a).1) (T := (k9_vc a).2.1) (N := (k9_vc a).2.2) hx hb hts hcl.2.1 hown hK hP q0 hw hcl.1 b hb1 (hts _ hlk) (fun _ h => h) hg hd ?_
    have e : k9_fv adr I J a i b = .long (J a i b) := by simp only [k9_fv, Nat.eq_of_beq_eq_true ht]
    rw [e]
    exact kk
  · refine va_getN (C := (k9_vc a).1) (T := (k9_vc a).2.1) (N := (k9_vc a).2.2) hx hb hts hcl.2.1 hown hK hP q0 hw hcl.1 b hb1 (va_Nw.use rfl (hns _ hlk)) (fun _ h => h) hg hd ?_
    have e : k9_fv adr I J a i b = .long (J a i b) := by simp only [k9_fv, Nat.eq_of_beq_eq_true ht]
    rw [e]
    exact kk

theorem k9_x_4_2 {K : k9_K} {S : k9_S} {d ix a b : Nat} {z : Int32} {L : k9_L} {st : List k9_v} {I : k9_I} {J : k9_J} {i : Nat} (hv : k9_vk (k9_r a i)) (hC : k9_C S d K) (hok : k9_okP (k9_y K) ix) (hc : k9_cod (k9_y K) ix = (4, 2, a, b, z))  (kk : k9_G (ix + 1) L (Sum.inr (Sum.inr (k9_fr a b i)) :: st) I J K) : k9_G ix L (k9_r a i :: st) I J K := by
  obtain ⟨p, l, e, R, s, m, args, below, meth, c, cells, slots, QF, y, dC, dI, dT, adr, A⟩ := K
  obtain ⟨hx, hb, hml, hown, hts, hns, hK, hST, hA, hR, hScr⟩ := hC
  obtain ⟨hd, hf, hs⟩ := k9_use hok hc
  dsimp only [k9_y] at hc hd hf hs
  intro H locs ls hP hD hS hL
  have hn := hf rfl
  change decode (k9_by y) (k9_pc y ix) = .ok (.getfield (k9_raw y ix).2.2.1, 3) at hd
  change k9_pc y (ix + 1) = k9_pc y ix + 3 at hn
  have kk := kk H locs ls hP hD hS hL
  rw [hn] at kk
  simp only [k9_sid, Bool.and_eq_true] at hs
  obtain ⟨hs, ht⟩ := hs
  obtain ⟨⟨h0, h9, ho, hb1⟩, hlk⟩ := k9_fl_spec hs
  have hcl := k9_kd ho
  obtain ⟨q0, -, hw⟩ := k9_ws_at (dT := dT) (adr := adr) (I := I) (J := J) (k9_ob_ne hv h0 h9)
  rw [k9_fs_at ho] at hw
  have hg := k9_rg (fun s => k9_fv adr I J a i s) hb1
  simp only [List.map_cons, k9_mv_r h0]
  rcases hlk with hlk | hlk
  · refine va_get (C := (k9_vc a).1) (T := (k9_vc a).2.1) (N := (k9_vc a).2.2) hx hb hts hcl.2.1 hown hK hP q0 hw hcl.1 b hb1 (hts _ hlk) (fun _ h => h) hg hd ?_
    have e : k9_fv adr I J a i b = k9_mv adr (Sum.inr (Sum.inr (k9_fr a b i))) := by simp only [k9_fv, Nat.eq_of_beq_eq_true ht]; rfl
    rw [e]
    exact kk
  · refine va_getN (C := (k9_vc a).1) (T := (k9_vc a).2.1) (N := (k9_vc a).2.2) hx hb hts hcl.2.1 hown hK hP q0 hw hcl.1 b hb1 (va_Nw.use rfl (hns _ hlk)) (fun _ h => h) hg hd ?_
    have e : k9_fv adr I J a i b = k9_mv adr (Sum.inr (Sum.inr (k9_fr a b i))) := by simp only [k9_fv, Nat.eq_of_beq_eq_true ht]; rfl
    rw [e]
    exact kk

theorem k9_x_4_3 {K : k9_K} {S : k9_S} {d ix a b : Nat} {z : Int32} {L : k9_L} {st : List k9_v} {I : k9_I} {J : k9_J} {i : Nat} {v : Int32} (hv : k9_vk (k9_r a i)) (hC : k9_C S d K) (hok : k9_okP (k9_y K) ix) (hc : k9_cod (k9_y K) ix = (4, 3, a, b, z))  (kk : k9_G (ix + 1) L (st) (k9_u I a i b v) J K) : k9_G ix L (k9_i v :: k9_r a i :: st) I J K := by
  obtain ⟨p, l, e, R, s, m, args, below, meth, c, cells, slots, QF, y, dC, dI, dT, adr, A⟩ := K
  obtain ⟨hx, hb, hml, hown, hts, hns, hK, hST, hA, hR, hScr⟩ := hC
  obtain ⟨hd, hf, hs⟩ := k9_use hok hc
  dsimp only [k9_y] at hc hd hf hs
  intro H locs ls hP hD hS hL
  have hn := hf rfl
  change decode (k9_by y) (k9_pc y ix) = .ok (.putfield (k9_raw y ix).2.2.1, 3) at hd
  change k9_pc y (ix + 1) = k9_pc y ix + 3 at hn
  simp only [k9_sid, Bool.and_eq_true, Bool.not_eq_true', decide_eq_true_eq] at hs
  obtain ⟨⟨⟨hs, ht⟩, hty⟩, hfin⟩ := hs
  obtain ⟨⟨h0, h9, ho, hb1⟩, hlk⟩ := k9_fl_spec hs
  have hcl := k9_kd ho
  obtain ⟨q0, hq0, hw⟩ := k9_ws_at (dT := dT) (adr := adr) (I := I) (J := J) (k9_ob_ne hv h0 h9)
  rw [k9_fs_at ho] at hw
  have e : ((List.range (k9_vc a).2.2).map (fun s => k9_fv adr I J a i s)).set b (.int v) = (List.range (k9_vc a).2.2).map (fun s => k9_fv adr (k9_u I a i b v) J a i s) := by
    apply k9_map_set
    · simp only [k9_fv, Nat.eq_of_beq_eq_true ht, k9_u_same]
    · intro j hj
      simp only [k9_fv, k9_u_ne _ _ _ _ _ (fun z : a = a ∧ i = i ∧ j = b => hj z.2.2)]
  have e2 := k9_ws_set (dT := dT) (adr := adr) (I := I) (I' := (k9_u I a i b v)) (J := J) (J' := J) (e := .inr (k9_ci a, (List.range (k9_vc a).2.2).map (fun s => k9_fv adr (k9_u I a i b v) J a i s))) k9_cells_nd hq0 (k9_fs_at ho).symm (fun q hq => k9_ent_u hq)
  have kk := fun H1 locs1 hP1 hD1 hS1 => kk H1 locs1 ls hP1 hD1 hS1 hL
  rw [hn] at kk
  simp only [List.map_cons, k9_mv_r h0]
  rcases hlk with hlk | hlk
  · refine va_put (C := (k9_vc a).1) (T := (k9_vc a).2.1) (N := (k9_vc a).2.2) (v := .int v) hx hb hts hcl.2.1 (k9_tyf a) hcl.2.2.1 hcl.2.2.2 hown hK hP hD hS q0 hw hcl.1 b hb1 (hts _ hlk) (fun _ h => h) hfin hty rfl rfl (by simpa using hb1) hd (fun H1 locs1 hP1 hD1 hS1 => ?_)
    rw [e, e2] at hP1 hD1
    exact kk H1 locs1 hP1 hD1 hS1
  · refine va_putN (C := (k9_vc a).1) (T := (k9_vc a).2.1) (N := (k9_vc a).2.2) (v := .int v) hx hb hts hcl.2.1 (k9_tyf a) hcl.2.2.1 hcl.2.2.2 hown hK hP hD hS q0 hw hcl.1 b hb1 (va_Nw.use rfl (hns _ hlk)) (fun _ h => h) hfin hty rfl rfl (by simpa using hb1) hd (fun H1 locs1 hP1 hD1 hS1 => ?_)
    rw [e, e2] at hP1 hD1
    exact kk H1 locs1 hP1 hD1 hS1

theorem k9_x_4_4 {K : k9_K} {S : k9_S} {d ix a b : Nat} {z : Int32} {L : k9_L} {st : List k9_v} {I : k9_I} {J : k9_J} {i : Nat} {v : Int32} (hz : v = 0 ∨ v = 1) (hv : k9_vk (k9_r a i)) (hC : k9_C S d K) (hok : k9_okP (k9_y K) ix) (hc : k9_cod (k9_y K) ix = (4, 4, a, b, z))  (kk : k9_G (ix + 1) L (st) (k9_u I a i b v) J K) : k9_G ix L (k9_i v :: k9_r a i :: st) I J K := by
  obtain ⟨p, l, e, R, s, m, args, below, meth, c, cells, slots, QF, y, dC, dI, dT, adr, A⟩ := K
  obtain ⟨hx, hb, hml, hown, hts, hns, hK, hST, hA, hR, hScr⟩ := hC
  obtain ⟨hd, hf, hs⟩ := k9_use hok hc
  dsimp only [k9_y] at hc hd hf hs
  intro H locs ls hP hD hS hL
  have hn := hf rfl
  change decode (k9_by y) (k9_pc y ix) = .ok (.putfield (k9_raw y ix).2.2.1, 3) at hd
  change k9_pc y (ix + 1) = k9_pc y ix + 3 at hn
  simp only [k9_sid, Bool.and_eq_true, Bool.not_eq_true', decide_eq_true_eq] at hs
  obtain ⟨⟨⟨hs, ht⟩, hty⟩, hfin⟩ := hs
  obtain ⟨⟨h0, h9, ho, hb1⟩, hlk⟩ := k9_fl_spec hs
  have hcl := k9_kd ho
  obtain ⟨q0, hq0, hw⟩ := k9_ws_at (dT := dT) (adr := adr) (I := I) (J := J) (k9_ob_ne hv h0 h9)
  rw [k9_fs_at ho] at hw
  have e : ((List.range (k9_vc a).2.2).map (fun s => k9_fv adr I J a i s)).set b (.int v) = (List.range (k9_vc a).2.2).map (fun s => k9_fv adr (k9_u I a i b v) J a i s) := by
    apply k9_map_set
    · simp only [k9_fv, Nat.eq_of_beq_eq_true ht, k9_u_same]
    · intro j hj
      simp only [k9_fv, k9_u_ne _ _ _ _ _ (fun z : a = a ∧ i = i ∧ j = b => hj z.2.2)]
  have e2 := k9_ws_set (dT := dT) (adr := adr) (I := I) (I' := (k9_u I a i b v)) (J := J) (J' := J) (e := .inr (k9_ci a, (List.range (k9_vc a).2.2).map (fun s => k9_fv adr (k9_u I a i b v) J a i s))) k9_cells_nd hq0 (k9_fs_at ho).symm (fun q hq => k9_ent_u hq)
  have kk := fun H1 locs1 hP1 hD1 hS1 => kk H1 locs1 ls hP1 hD1 hS1 hL
  rw [hn] at kk
  simp only [List.map_cons, k9_mv_r h0]
  rcases hlk with hlk | hlk
  · refine va_put (C := (k9_vc a).1) (T := (k9_vc a).2.1) (N := (k9_vc a).2.2) (v := .int v) hx hb hts hcl.2.1 (k9_tyf a) hcl.2.2.1 hcl.2.2.2 hown hK hP hD hS q0 hw hcl.1 b hb1 (hts _ hlk) (fun _ h => h) hfin hty (by rcases hz with rfl | rfl <;> rfl) (by rcases hz with rfl | rfl <;> rfl) (by simpa using hb1) hd (fun H1 locs1 hP1 hD1 hS1 => ?_)
    rw [e, e2] at hP1 hD1
    exact kk H1 locs1 hP1 hD1 hS1
  · refine va_putN (C := (k9_vc a).1) (T := (k9_vc a).2.1) (N := (k9_vc a).2.2) (v := .int v) hx hb hts hcl.2.1 (k9_tyf a) hcl.2.2.1 hcl.2.2.2 hown hK hP hD hS q0 hw hcl.1 b hb1 (va_Nw.use rfl (hns _ hlk)) (fun _ h => h) hfin hty (by rcases hz with rfl | rfl <;> rfl) (by rcases hz with rfl | rfl <;> rfl) (by simpa using hb1) hd (fun H1 locs1 hP1 hD1 hS1 => ?_)
    rw [e, e2] at hP1 hD1
    exact kk H1 locs1 hP1 hD1 hS1

theorem k9_x_4_5 {K : k9_K} {S : k9_S} {d ix a b : Nat} {z : Int32} {L : k9_L} {st : List k9_v} {I : k9_I} {J : k9_J} {i : Nat} {v : Int64} (hv : k9_vk (k9_r a i)) (hC : k9_C S d K) (hok : k9_okP (k9_y K) ix) (hc : k9_cod (k9_y K) ix = (4, 5, a, b, z))  (kk : k9_G (ix + 1) L (st) I (k9_uJ J a i b v) K) : k9_G ix L (k9_l v :: k9_r a i :: st) I J K := by
  obtain ⟨p, l, e, R, s, m, args, below, meth, c, cells, slots, QF, y, dC, dI, dT, adr, A⟩ := K
  obtain ⟨hx, hb, hml, hown, hts, hns, hK, hST, hA, hR, hScr⟩ := hC
  obtain ⟨hd, hf, hs⟩ := k9_use hok hc
  dsimp only [k9_y] at hc hd hf hs
  intro H locs ls hP hD hS hL
  have hn := hf rfl
  change decode (k9_by y) (k9_pc y ix) = .ok (.putfield (k9_raw y ix).2.2.1, 3) at hd
  change k9_pc y (ix + 1) = k9_pc y ix + 3 at hn
  simp only [k9_sid, Bool.and_eq_true, Bool.not_eq_true', decide_eq_true_eq] at hs
  obtain ⟨⟨⟨hs, ht⟩, hty⟩, hfin⟩ := hs
  obtain ⟨⟨h0, h9, ho, hb1⟩, hlk⟩ := k9_fl_spec hs
  have hcl := k9_kd ho
  obtain ⟨q0, hq0, hw⟩ := k9_ws_at (dT := dT) (adr := adr) (I := I) (J := J) (k9_ob_ne hv h0 h9)
  rw [k9_fs_at ho] at hw
  have e : ((List.range (k9_vc a).2.2).map (fun s => k9_fv adr I J a i s)).set b (.long v) = (List.range (k9_vc a).2.2).map (fun s => k9_fv adr I (k9_uJ J a i b v) a i s) := by
    apply k9_map_set
    · simp only [k9_fv, Nat.eq_of_beq_eq_true ht, k9_uJ_same]
    · intro j hj
      simp only [k9_fv, k9_uJ_ne _ _ _ _ _ (fun z : a = a ∧ i = i ∧ j = b => hj z.2.2)]
  have e2 := k9_ws_set (dT := dT) (adr := adr) (I := I) (I' := I) (J := J) (J' := (k9_uJ J a i b v)) (e := .inr (k9_ci a, (List.range (k9_vc a).2.2).map (fun s => k9_fv adr I (k9_uJ J a i b v) a i s))) k9_cells_nd hq0 (k9_fs_at ho).symm (fun q hq => k9_ent_uJ hq)
  have kk := fun H1 locs1 hP1 hD1 hS1 => kk H1 locs1 ls hP1 hD1 hS1 hL
  rw [hn] at kk
  simp only [List.map_cons, k9_mv_r h0]
  rcases hlk with hlk | hlk
  · refine va_put (C := (k9_vc a).1) (T := (k9_vc a).2.1) (N := (k9_vc a).2.2) (v := .long v) hx hb hts hcl.2.1 (k9_tyf a) hcl.2.2.1 hcl.2.2.2 hown hK hP hD hS q0 hw hcl.1 b hb1 (hts _ hlk) (fun _ h => h) hfin hty rfl rfl (by simpa using hb1) hd (fun H1 locs1 hP1 hD1 hS1 => ?_)
    rw [e, e2] at hP1 hD1
    exact kk H1 locs1 hP1 hD1 hS1
  · refine va_putN (C := (k9_vc a).1) (T := (k9_vc a).2.1) (N := (k9_vc a).2.2) (v := .long v) hx hb hts hcl.2.1 (k9_tyf a) hcl.2.2.1 hcl.2.2.2 hown hK hP hD hS q0 hw hcl.1 b hb1 (va_Nw.use rfl (hns _ hlk)) (fun _ h => h) hfin hty rfl rfl (by simpa using hb1) hd (fun H1 locs1 hP1 hD1 hS1 => ?_)
    rw [e, e2] at hP1 hD1
    exact kk H1 locs1 hP1 hD1 hS1

theorem k9_et_ne {k n : Nat} (h : Nat.beq (k9_et k) (n + 1) = true) : Nat.beq k 0 = false ∧ k9_ob k = false := by
  have h1 := Nat.eq_of_beq_eq_true h
  constructor
  · cases k with
    | zero => rw [k9_et_0] at h1; cases h1
    | succ k => rfl
  · simp only [k9_ob, h1]
    rfl
theorem k9_et_9 {k n : Nat} (h : Nat.beq (k9_et k) n = true) (hn : Nat.ble 9 n = false) : Nat.ble 9 (k9_et k) = false := by
  rw [Nat.eq_of_beq_eq_true h]; exact hn

theorem k9_x_4_6 {K : k9_K} {S : k9_S} {d ix a b : Nat} {z : Int32} {L : k9_L} {st : List k9_v} {I : k9_I} {J : k9_J} {k i : Nat} {j : Int32} (hv : k9_vk (k9_r k i)) (he : Nat.beq (k9_et k) 1 = true) (hj : k9_in j (k9_len k) = true) (hC : k9_C S d K) (hok : k9_okP (k9_y K) ix) (hc : k9_cod (k9_y K) ix = (4, 6, a, b, z))  (kk : k9_G (ix + 1) L (k9_i (I k i j.toNatClampNeg) :: st) I J K) : k9_G ix L (k9_i j :: k9_r k i :: st) I J K := by
  obtain ⟨p, l, e, R, s, m, args, below, meth, c, cells, slots, QF, y, dC, dI, dT, adr, A⟩ := K
  obtain ⟨hx, hb, hml, hown, hts, hns, hK, hST, hA, hR, hScr⟩ := hC
  obtain ⟨hd, hf, hs⟩ := k9_use hok hc
  dsimp only [k9_y] at hc hd hf hs
  intro H locs ls hP hD hS hL
  have hn := hf rfl
  change decode (k9_by y) (k9_pc y ix) = .ok (.iaload, 1) at hd
  change k9_pc y (ix + 1) = k9_pc y ix + 1 at hn
  have kk := kk H locs ls hP hD hS hL
  rw [hn] at kk
  obtain ⟨h0, ho⟩ := k9_et_ne he
  obtain ⟨q0, -, hw⟩ := k9_ws_at (dT := dT) (adr := adr) (I := I) (J := J) (k9_ob_ne hv h0 (k9_et_9 he rfl))
  rw [k9_row_at ho, Nat.eq_of_beq_eq_true he] at hw
  have e : k9_row adr I J k i = .inl (fun j => I k i j) := by simp only [k9_row, Nat.eq_of_beq_eq_true he]
  rw [e] at hw
  simp only [List.map_cons, k9_mv_r h0]
  exact va_iald hx hb hK hP q0 0 hw rfl (k9_in_spec hj) hd kk

theorem k9_x_4_7 {K : k9_K} {S : k9_S} {d ix a b : Nat} {z : Int32} {L : k9_L} {st : List k9_v} {I : k9_I} {J : k9_J} {k i : Nat} {j : Int32} (hv : k9_vk (k9_r k i)) (he : Nat.beq (k9_et k) 2 = true) (hj : k9_in j (k9_len k) = true) (hC : k9_C S d K) (hok : k9_okP (k9_y K) ix) (hc : k9_cod (k9_y K) ix = (4, 7, a, b, z))  (kk : k9_G (ix + 1) L (k9_l (J k i j.toNatClampNeg) :: st) I J K) : k9_G ix L (k9_i j :: k9_r k i :: st) I J K := by
  obtain ⟨p, l, e, R, s, m, args, below, meth, c, cells, slots, QF, y, dC, dI, dT, adr, A⟩ := K
  obtain ⟨hx, hb, hml, hown, hts, hns, hK, hST, hA, hR, hScr⟩ := hC
  obtain ⟨hd, hf, hs⟩ := k9_use hok hc
  dsimp only [k9_y] at hc hd hf hs
  intro H locs ls hP hD hS hL
  have hn := hf rfl
  change decode (k9_by y) (k9_pc y ix) = .ok (.laload, 1) at hd
  change k9_pc y (ix + 1) = k9_pc y ix + 1 at hn
  have kk := kk H locs ls hP hD hS hL
  rw [hn] at kk
  obtain ⟨h0, ho⟩ := k9_et_ne he
  obtain ⟨q0, -, hw⟩ := k9_ws_at (dT := dT) (adr := adr) (I := I) (J := J) (k9_ob_ne hv h0 (k9_et_9 he rfl))
  rw [k9_row_at ho, Nat.eq_of_beq_eq_true he] at hw
  have e : k9_row adr I J k i = .inr (.inl (fun j => J k i j)) := by simp only [k9_row, Nat.eq_of_beq_eq_true he]
  rw [e] at hw
  simp only [List.map_cons, k9_mv_r h0]
  exact va_lald hx hb hK hP q0 1 hw rfl (k9_in_spec hj) hd kk

theorem k9_x_4_8 {K : k9_K} {S : k9_S} {d ix a b : Nat} {z : Int32} {L : k9_L} {st : List k9_v} {I : k9_I} {J : k9_J} {k i : Nat} {j : Int32} (hv : k9_vk (k9_r k i)) (he : Nat.beq (k9_et k) 3 = true) (hj : k9_in j (k9_len k) = true) (hC : k9_C S d K) (hok : k9_okP (k9_y K) ix) (hc : k9_cod (k9_y K) ix = (4, 8, a, b, z))  (kk : k9_G (ix + 1) L (Sum.inr (Sum.inr (k9_ar k i j.toNatClampNeg)) :: st) I J K) : k9_G ix L (k9_i j :: k9_r k i :: st) I J K := by
  obtain ⟨p, l, e, R, s, m, args, below, meth, c, cells, slots, QF, y, dC, dI, dT, adr, A⟩ := K
  obtain ⟨hx, hb, hml, hown, hts, hns, hK, hST, hA, hR, hScr⟩ := hC
  obtain ⟨hd, hf, hs⟩ := k9_use hok hc
  dsimp only [k9_y] at hc hd hf hs
  intro H locs ls hP hD hS hL
  have hn := hf rfl
  change decode (k9_by y) (k9_pc y ix) = .ok (.aaload, 1) at hd
  change k9_pc y (ix + 1) = k9_pc y ix + 1 at hn
  have kk := kk H locs ls hP hD hS hL
  rw [hn] at kk
  obtain ⟨h0, ho⟩ := k9_et_ne he
  obtain ⟨q0, -, hw⟩ := k9_ws_at (dT := dT) (adr := adr) (I := I) (J := J) (k9_ob_ne hv h0 (k9_et_9 he rfl))
  rw [k9_row_at ho, Nat.eq_of_beq_eq_true he] at hw
  have e : k9_row adr I J k i = .inr (.inr (.inr (.inr (fun j => k9_rf adr (k9_ar k i j))))) := by simp only [k9_row, Nat.eq_of_beq_eq_true he]
  rw [e] at hw
  simp only [List.map_cons, k9_mv_r h0]
  exact va_aldq hx hb hK hP q0 2 hw rfl (k9_in_spec hj) hd kk

theorem k9_x_4_9 {K : k9_K} {S : k9_S} {d ix a b : Nat} {z : Int32} {L : k9_L} {st : List k9_v} {I : k9_I} {J : k9_J} {k i : Nat} {j : Int32} {v : Int32} (hv : k9_vk (k9_r k i)) (he : Nat.beq (k9_et k) 1 = true) (hj : k9_in j (k9_len k) = true) (hC : k9_C S d K) (hok : k9_okP (k9_y K) ix) (hc : k9_cod (k9_y K) ix = (4, 9, a, b, z))  (kk : k9_G (ix + 1) L (st) (k9_u I k i j.toNatClampNeg v) J K) : k9_G ix L (k9_i v :: k9_i j :: k9_r k i :: st) I J K := by
  obtain ⟨p, l, e, R, s, m, args, below, meth, c, cells, slots, QF, y, dC, dI, dT, adr, A⟩ := K
  obtain ⟨hx, hb, hml, hown, hts, hns, hK, hST, hA, hR, hScr⟩ := hC
  obtain ⟨hd, hf, hs⟩ := k9_use hok hc
  dsimp only [k9_y] at hc hd hf hs
  intro H locs ls hP hD hS hL
  have hn := hf rfl
  change decode (k9_by y) (k9_pc y ix) = .ok (.iastore, 1) at hd
  change k9_pc y (ix + 1) = k9_pc y ix + 1 at hn
  obtain ⟨h0, ho⟩ := k9_et_ne he
  have he1 := Nat.eq_of_beq_eq_true he
  obtain ⟨q0, hq0, hw⟩ := k9_ws_at (dT := dT) (adr := adr) (I := I) (J := J) (k9_ob_ne hv h0 (k9_et_9 he rfl))
  rw [k9_row_at ho, he1] at hw
  have e : k9_row adr I J k i = .inl (fun j => I k i j) := by simp only [k9_row, he1]
  rw [e] at hw
  have e3 : (.inl (dT 1, k9_len k, .inl (upd (fun j => I k i j) j.toNatClampNeg v)) : va_E) = k9_ent dT adr (k9_u I k i j.toNatClampNeg v) J (k, i) := by
    rw [k9_row_at ho, he1]
    simp only [k9_row, he1]
    congr 3
    first
      | (congr 1; funext q; simp only [upd, vp_updL, k9_u, k9_uJ]; by_cases h : q = j.toNatClampNeg <;> simp [h])
      | (congr 2; funext q; simp only [upd, vp_updL, k9_u, k9_uJ]; by_cases h : q = j.toNatClampNeg <;> simp [h])
      | (funext q; simp only [upd, vp_updL, k9_u, k9_uJ]; by_cases h : q = j.toNatClampNeg <;> simp [h])
  have e2 := k9_ws_set (dT := dT) (adr := adr) (I := I) (I' := (k9_u I k i j.toNatClampNeg v)) (J := J) (J' := J) k9_cells_nd hq0 e3 (fun q hq => k9_ent_u hq)
  have kk := fun H1 locs1 hP1 hD1 hS1 => kk H1 locs1 ls hP1 hD1 hS1 hL
  rw [hn] at kk
  simp only [List.map_cons, k9_mv_r h0]
  refine va_iast hx hb hK hP hD hS q0 0 hw rfl (k9_in_spec hj) hd (fun H1 locs1 hP1 hD1 hS1 => ?_)
  rw [e2] at hP1 hD1
  exact kk H1 locs1 hP1 hD1 hS1

theorem k9_x_4_10 {K : k9_K} {S : k9_S} {d ix a b : Nat} {z : Int32} {L : k9_L} {st : List k9_v} {I : k9_I} {J : k9_J} {k i : Nat} {j : Int32} {v : Int64} (hv : k9_vk (k9_r k i)) (he : Nat.beq (k9_et k) 2 = true) (hj : k9_in j (k9_len k) = true) (hC : k9_C S d K) (hok : k9_okP (k9_y K) ix) (hc : k9_cod (k9_y K) ix = (4, 10, a, b, z))  (kk : k9_G (ix + 1) L (st) I (k9_uJ J k i j.toNatClampNeg v) K) : k9_G ix L (k9_l v :: k9_i j :: k9_r k i :: st) I J K := by
  obtain ⟨p, l, e, R, s, m, args, below, meth, c, cells, slots, QF, y, dC, dI, dT, adr, A⟩ := K
  obtain ⟨hx, hb, hml, hown, hts, hns, hK, hST, hA, hR, hScr⟩ := hC
  obtain ⟨hd, hf, hs⟩ := k9_use hok hc
  dsimp only [k9_y] at hc hd hf hs
  intro H locs ls hP hD hS hL
  have hn := hf rfl
  change decode (k9_by y) (k9_pc y ix) = .ok (.lastore, 1) at hd
  change k9_pc y (ix + 1) = k9_pc y ix + 1 at hn
  obtain ⟨h0, ho⟩ := k9_et_ne he
  have he1 := Nat.eq_of_beq_eq_true he
  obtain ⟨q0, hq0, hw⟩ := k9_ws_at (dT := dT) (adr := adr) (I := I) (J := J) (k9_ob_ne hv h0 (k9_et_9 he rfl))
  rw [k9_row_at ho, he1] at hw
  have e : k9_row adr I J k i = .inr (.inl (fun j => J k i j)) := by simp only [k9_row, he1]
  rw [e] at hw
  have e3 : (.inl (dT 2, k9_len k, .inr (.inl (vp_updL (fun j => J k i j) j.toNatClampNeg v))) : va_E) = k9_ent dT adr I (k9_uJ J k i j.toNatClampNeg v) (k, i) := by
    rw [k9_row_at ho, he1]
    simp only [k9_row, he1]
    congr 3
    first
      | (congr 1; funext q; simp only [upd, vp_updL, k9_u, k9_uJ]; by_cases h : q = j.toNatClampNeg <;> simp [h])
      | (congr 2; funext q; simp only [upd, vp_updL, k9_u, k9_uJ]; by_cases h : q = j.toNatClampNeg <;> simp [h])
      | (funext q; simp only [upd, vp_updL, k9_u, k9_uJ]; by_cases h : q = j.toNatClampNeg <;> simp [h])
  have e2 := k9_ws_set (dT := dT) (adr := adr) (I := I) (I' := I) (J := J) (J' := (k9_uJ J k i j.toNatClampNeg v)) k9_cells_nd hq0 e3 (fun q hq => k9_ent_uJ hq)
  have kk := fun H1 locs1 hP1 hD1 hS1 => kk H1 locs1 ls hP1 hD1 hS1 hL
  rw [hn] at kk
  simp only [List.map_cons, k9_mv_r h0]
  refine va_last hx hb hK hP hD hS q0 1 hw rfl (k9_in_spec hj) hd (fun H1 locs1 hP1 hD1 hS1 => ?_)
  rw [e2] at hP1 hD1
  exact kk H1 locs1 hP1 hD1 hS1

theorem k9_x_4_11 {K : k9_K} {S : k9_S} {d ix a b : Nat} {z : Int32} {L : k9_L} {st : List k9_v} {I : k9_I} {J : k9_J} {k i : Nat} (hv : k9_vk (k9_r k i)) (he : (Nat.ble 1 (k9_et k) && Nat.ble (k9_et k) 3) = true) (hC : k9_C S d K) (hok : k9_okP (k9_y K) ix) (hc : k9_cod (k9_y K) ix = (4, 11, a, b, z))  (kk : k9_G (ix + 1) L (k9_i (Int32.ofNat (k9_len k)) :: st) I J K) : k9_G ix L (k9_r k i :: st) I J K := by
  obtain ⟨p, l, e, R, s, m, args, below, meth, c, cells, slots, QF, y, dC, dI, dT, adr, A⟩ := K
  obtain ⟨hx, hb, hml, hown, hts, hns, hK, hST, hA, hR, hScr⟩ := hC
  obtain ⟨hd, hf, hs⟩ := k9_use hok hc
  dsimp only [k9_y] at hc hd hf hs
  intro H locs ls hP hD hS hL
  have hn := hf rfl
  change decode (k9_by y) (k9_pc y ix) = .ok (.arraylength, 1) at hd
  change k9_pc y (ix + 1) = k9_pc y ix + 1 at hn
  have kk := kk H locs ls hP hD hS hL
  rw [hn] at kk
  have key : Nat.beq (k9_et k) 1 = true ∨ Nat.beq (k9_et k) 2 = true ∨ Nat.beq (k9_et k) 3 = true := by
    simp only [Bool.and_eq_true, Nat.ble_eq, Nat.beq_eq] at he ⊢
    omega
  have ⟨h0, ho, h9⟩ : Nat.beq k 0 = false ∧ k9_ob k = false ∧ Nat.ble 9 (k9_et k) = false := by
    rcases key with h | h | h
    · exact ⟨(k9_et_ne h).1, (k9_et_ne h).2, k9_et_9 h rfl⟩
    · exact ⟨(k9_et_ne h).1, (k9_et_ne h).2, k9_et_9 h rfl⟩
    · exact ⟨(k9_et_ne h).1, (k9_et_ne h).2, k9_et_9 h rfl⟩
  obtain ⟨q0, -, hw⟩ := k9_ws_at (dT := dT) (adr := adr) (I := I) (J := J) (k9_ob_ne hv h0 h9)
  rw [k9_row_at ho] at hw
  simp only [List.map_cons, k9_mv_r h0]
  rcases key with h | h | h
  · rw [Nat.eq_of_beq_eq_true h] at hw
    exact va_alen hx hb hK hP q0 0 hw (ty := .int) rfl rfl hd kk
  · rw [Nat.eq_of_beq_eq_true h] at hw
    exact va_alen hx hb hK hP q0 1 hw (ty := .long) rfl rfl hd kk
  · rw [Nat.eq_of_beq_eq_true h] at hw
    exact va_alen hx hb hK hP q0 2 hw (ty := .object k9_rc) rfl rfl hd kk

theorem k9_x_4_12 {K : k9_K} {S : k9_S} {d ix a b : Nat} {z : Int32} {L : k9_L} {st : List k9_v} {I : k9_I} {J : k9_J}  (hC : k9_C S d K) (hok : k9_okP (k9_y K) ix) (hc : k9_cod (k9_y K) ix = (4, 12, a, b, z))  (kk : k9_G (ix + 1) L (k9_r a 0 :: st) I J K) : k9_G ix L (st) I J K := by
  obtain ⟨p, l, e, R, s, m, args, below, meth, c, cells, slots, QF, y, dC, dI, dT, adr, A⟩ := K
  obtain ⟨hx, hb, hml, hown, hts, hns, hK, hST, hA, hR, hScr⟩ := hC
  obtain ⟨hd, hf, hs⟩ := k9_use hok hc
  dsimp only [k9_y] at hc hd hf hs
  intro H locs ls hP hD hS hL
  have hn := hf rfl
  change decode (k9_by y) (k9_pc y ix) = .ok (.getstatic (k9_raw y ix).2.2.1, 3) at hd
  change k9_pc y (ix + 1) = k9_pc y ix + 3 at hn
  have kk := kk H locs ls hP hD hS hL
  rw [hn] at kk
  simp only [k9_sid, Bool.and_eq_true] at hs
  obtain ⟨hs, he⟩ := hs
  obtain ⟨⟨k, C, n, de⟩, htm, hs2⟩ := List.any_eq_true.mp hs
  clear hs
  simp only [Bool.and_eq_true, decide_eq_true_eq] at hs2
  obtain ⟨rfl, hs2⟩ := hs2
  have hZ := (hST _ htm).1
  have e : (List.map (k9_mv adr) (k9_r k 0 :: st)) = .ref (adr k 0) :: st.map (k9_mv adr) := by
    rw [List.map_cons, k9_mv_r (k9_et_ne he).1]
  rw [e] at kk
  split at hs2
  · exact va_gets hx hb hZ hS hown (hts _ (k9_hw_mem hs2)) (fun _ h => h) hd kk
  · exact va_getsN hx hb hZ hS hown (va_Nw.use rfl (hns _ (k9_hn_mem hs2))) (fun _ h => h) hd kk

theorem k9_x_4_13 {K : k9_K} {S : k9_S} {d ix a b : Nat} {z : Int32} {L : k9_L} {st : List k9_v} {I : k9_I} {J : k9_J} {k : Nat} {j : Int32} (he : Nat.beq (k9_et k) 9 = true) (hj : k9_in j (k9_len k) = true) (hC : k9_C S d K) (hok : k9_okP (k9_y K) ix) (hc : k9_cod (k9_y K) ix = (4, 13, a, b, z))  (kk : k9_G (ix + 1) L (k9_i (k9_tab k j.toNatClampNeg) :: st) I J K) : k9_G ix L (k9_i j :: k9_r k 0 :: st) I J K := by
  obtain ⟨p, l, e, R, s, m, args, below, meth, c, cells, slots, QF, y, dC, dI, dT, adr, A⟩ := K
  obtain ⟨hx, hb, hml, hown, hts, hns, hK, hST, hA, hR, hScr⟩ := hC
  obtain ⟨hd, hf, hs⟩ := k9_use hok hc
  dsimp only [k9_y] at hc hd hf hs
  intro H locs ls hP hD hS hL
  have hn := hf rfl
  change decode (k9_by y) (k9_pc y ix) = .ok (.iaload, 1) at hd
  change k9_pc y (ix + 1) = k9_pc y ix + 1 at hn
  have kk := kk H locs ls hP hD hS hL
  rw [hn] at kk
  obtain ⟨q, hq, rfl⟩ := k9_tab_in he
  have hT := (hST _ hq).2
  simp only [List.map_cons, k9_mv_r (k9_et_ne he).1]
  exact va_ti hx hb hT hS (k9_in_spec hj) rfl hd kk

theorem k9_x_4_14 {K : k9_K} {S : k9_S} {d ix a b : Nat} {z : Int32} {L : k9_L} {st : List k9_v} {I : k9_I} {J : k9_J} {k : Nat} (he : Nat.beq (k9_et k) 9 = true) (hC : k9_C S d K) (hok : k9_okP (k9_y K) ix) (hc : k9_cod (k9_y K) ix = (4, 14, a, b, z))  (kk : k9_G (ix + 1) L (k9_i (Int32.ofNat (k9_len k)) :: st) I J K) : k9_G ix L (k9_r k 0 :: st) I J K := by
  obtain ⟨p, l, e, R, s, m, args, below, meth, c, cells, slots, QF, y, dC, dI, dT, adr, A⟩ := K
  obtain ⟨hx, hb, hml, hown, hts, hns, hK, hST, hA, hR, hScr⟩ := hC
  obtain ⟨hd, hf, hs⟩ := k9_use hok hc
  dsimp only [k9_y] at hc hd hf hs
  intro H locs ls hP hD hS hL
  have hn := hf rfl
  change decode (k9_by y) (k9_pc y ix) = .ok (.arraylength, 1) at hd
  change k9_pc y (ix + 1) = k9_pc y ix + 1 at hn
  have kk := kk H locs ls hP hD hS hL
  rw [hn] at kk
  obtain ⟨q, hq, rfl⟩ := k9_tab_in he
  have hT := (hST _ hq).2
  simp only [List.map_cons, k9_mv_r (k9_et_ne he).1]
  exact va_tlen hx hb hT hS rfl hd kk

theorem k9_x_4_15 {K : k9_K} {S : k9_S} {d ix a b : Nat} {z : Int32} {L : k9_L} {st : List k9_v} {I : k9_I} {J : k9_J} {j : Int32} (hy : k9_y K = k9_law) (hj : k9_in j S.2 = true) (hC : k9_C S d K) (hok : k9_okP (k9_y K) ix) (hc : k9_cod (k9_y K) ix = (4, 15, a, b, z))  (kk : k9_G (ix + 1) L (k9_i (S.1 j.toNatClampNeg) :: st) I J K) : k9_G ix L (k9_i j :: k9_r k9_kS 0 :: st) I J K := by
  obtain ⟨p, l, e, R, s, m, args, below, meth, c, cells, slots, QF, y, dC, dI, dT, adr, A⟩ := K
  obtain ⟨hx, hb, hml, hown, hts, hns, hK, hST, hA, hR, hScr⟩ := hC
  obtain ⟨hd, hf, hs⟩ := k9_use hok hc
  dsimp only [k9_y] at hc hd hf hs
  intro H locs ls hP hD hS hL
  have hn := hf rfl
  change decode (k9_by y) (k9_pc y ix) = .ok (.iaload, 1) at hd
  change k9_pc y (ix + 1) = k9_pc y ix + 1 at hn
  have kk := kk H locs ls hP hD hS hL
  rw [hn] at kk
  dsimp only [k9_y] at hy
  obtain ⟨hX, hbl, hbA⟩ := hScr hy
  simp only [List.map_cons, show k9_mv adr (k9_r k9_kS 0) = .ref (adr k9_kS 0) from rfl]
  exact va_sld hx hb hX hbl hbA hS (k9_in_spec hj) hd kk

theorem k9_x_4_16 {K : k9_K} {S : k9_S} {d ix a b : Nat} {z : Int32} {L : k9_L} {st : List k9_v} {I : k9_I} {J : k9_J} (hy : k9_y K = k9_law) (hC : k9_C S d K) (hok : k9_okP (k9_y K) ix) (hc : k9_cod (k9_y K) ix = (4, 16, a, b, z))  (kk : k9_G (ix + 1) L (k9_i (Int32.ofNat S.2) :: st) I J K) : k9_G ix L (k9_r k9_kS 0 :: st) I J K := by
  obtain ⟨p, l, e, R, s, m, args, below, meth, c, cells, slots, QF, y, dC, dI, dT, adr, A⟩ := K
  obtain ⟨hx, hb, hml, hown, hts, hns, hK, hST, hA, hR, hScr⟩ := hC
  obtain ⟨hd, hf, hs⟩ := k9_use hok hc
  dsimp only [k9_y] at hc hd hf hs
  intro H locs ls hP hD hS hL
  have hn := hf rfl
  change decode (k9_by y) (k9_pc y ix) = .ok (.arraylength, 1) at hd
  change k9_pc y (ix + 1) = k9_pc y ix + 1 at hn
  have kk := kk H locs ls hP hD hS hL
  rw [hn] at kk
  dsimp only [k9_y] at hy
  obtain ⟨hX, hbl, hbA⟩ := hScr hy
  simp only [List.map_cons, show k9_mv adr (k9_r k9_kS 0) = .ref (adr k9_kS 0) from rfl]
  exact va_slen hx hb hX hbl hbA hS hd kk

theorem k9_kp_at : ∀ (n : Nat) (L : k9_L) (i : Nat) (v : k9_v), k9_at (k9_kp n L) i = some v → k9_at L i = some v
  | n, [], i, v, h => by cases n <;> exact h
  | 0, x :: r, i, v, h => by
    cases i with
    | zero => cases h
    | succ i => exact k9_kp_at 0 r i v h
  | n + 1, x :: r, i, v, h => by
    cases i with
    | zero => exact h
    | succ i => exact k9_kp_at n r i v h
theorem k9_kp_len : ∀ (n : Nat) (L : k9_L), (k9_kp n L).length = L.length
  | n, [] => by cases n <;> rfl
  | 0, x :: r => by rw [k9_kp, List.length_cons, List.length_cons, k9_kp_len 0 r]
  | n + 1, x :: r => by rw [k9_kp, List.length_cons, List.length_cons, k9_kp_len n r]
theorem k9_Lh.kp {adr : Nat → Nat → Nat} {nL : Nat} {ls : Array Slot} {L : k9_L} (h : k9_Lh adr nL ls L) (n : Nat) : k9_Lh adr nL ls (k9_kp n L) := by
  refine ⟨⟨h.1.1, h.1.2.1, fun q hq => ?_⟩, by rw [k9_kp_len]; exact h.2.1, fun i v hv => h.2.2 i v (k9_kp_at n L i v hv)⟩
  obtain ⟨i, v, hv, rfl⟩ := (k9_lv_mem 0 _).mp hq
  exact h.1.2.2 _ ((k9_lv_mem 0 L).mpr ⟨i, v, k9_kp_at n L i v hv, rfl⟩)

theorem k9_x_5_0 {K : k9_K} {S : k9_S} {d ix a b : Nat} {z : Int32} {L : k9_L} {st : List k9_v} {I : k9_I} {J : k9_J}  (hC : k9_C S d K) (hok : k9_okP (k9_y K) ix) (hc : k9_cod (k9_y K) ix = (5, 0, a, b, z))  (kk : k9_G a (k9_kp b L) (st) I J K) : k9_G ix L (st) I J K := by
  obtain ⟨p, l, e, R, s, m, args, below, meth, c, cells, slots, QF, y, dC, dI, dT, adr, A⟩ := K
  obtain ⟨hx, hb, hml, hown, hts, hns, hK, hST, hA, hR, hScr⟩ := hC
  obtain ⟨hd, hf, hs⟩ := k9_use hok hc
  dsimp only [k9_y] at hc hd hf hs
  intro H locs ls hP hD hS hL
  change decode (k9_by y) (k9_pc y ix) = .ok (.goto (k9_o (k9_raw y ix) (k9_pc y) a), 3) at hd
  exact lv_goto hx hb hd (k9_off rfl) (kk H locs ls hP hD hS (hL.kp b))

theorem k9_x_5_1 {K : k9_K} {S : k9_S} {d ix a b : Nat} {z : Int32} {L : k9_L} {st : List k9_v} {I : k9_I} {J : k9_J} {x y0 : Int32} (hC : k9_C S d K) (hok : k9_okP (k9_y K) ix) (hc : k9_cod (k9_y K) ix = (5, 1, a, b, z))  (kt : x = 0 → k9_G a L st I J K) (kf : ¬ x = 0 → k9_G (ix + 1) L st I J K) : k9_G ix L (k9_i x :: st) I J K := by
  obtain ⟨p, l, e, R, s, m, args, below, meth, c, cells, slots, QF, y, dC, dI, dT, adr, A⟩ := K
  obtain ⟨hx, hb, hml, hown, hts, hns, hK, hST, hA, hR, hScr⟩ := hC
  obtain ⟨hd, hf, hs⟩ := k9_use hok hc
  dsimp only [k9_y] at hc hd hf hs
  intro H locs ls hP hD hS hL
  have hn := hf rfl
  change decode (k9_by y) (k9_pc y ix) = .ok (.ifCond .eq (k9_o (k9_raw y ix) (k9_pc y) a), 3) at hd
  change k9_pc y (ix + 1) = k9_pc y ix + 3 at hn
  refine lv_if_eq hx hb hd (k9_off rfl) (fun h => kt h H locs ls hP hD hS hL) (fun h => ?_)
  have kf := kf h H locs ls hP hD hS hL
  rw [hn] at kf
  exact kf

theorem k9_x_5_2 {K : k9_K} {S : k9_S} {d ix a b : Nat} {z : Int32} {L : k9_L} {st : List k9_v} {I : k9_I} {J : k9_J} {x y0 : Int32} (hC : k9_C S d K) (hok : k9_okP (k9_y K) ix) (hc : k9_cod (k9_y K) ix = (5, 2, a, b, z))  (kt : ¬ x = 0 → k9_G a L st I J K) (kf : x = 0 → k9_G (ix + 1) L st I J K) : k9_G ix L (k9_i x :: st) I J K := by
  obtain ⟨p, l, e, R, s, m, args, below, meth, c, cells, slots, QF, y, dC, dI, dT, adr, A⟩ := K
  obtain ⟨hx, hb, hml, hown, hts, hns, hK, hST, hA, hR, hScr⟩ := hC
  obtain ⟨hd, hf, hs⟩ := k9_use hok hc
  dsimp only [k9_y] at hc hd hf hs
  intro H locs ls hP hD hS hL
  have hn := hf rfl
  change decode (k9_by y) (k9_pc y ix) = .ok (.ifCond .ne (k9_o (k9_raw y ix) (k9_pc y) a), 3) at hd
  change k9_pc y (ix + 1) = k9_pc y ix + 3 at hn
  refine lv_if_ne hx hb hd (k9_off rfl) (fun h => kt h H locs ls hP hD hS hL) (fun h => ?_)
  have kf := kf h H locs ls hP hD hS hL
  rw [hn] at kf
  exact kf

theorem k9_x_5_3 {K : k9_K} {S : k9_S} {d ix a b : Nat} {z : Int32} {L : k9_L} {st : List k9_v} {I : k9_I} {J : k9_J} {x y0 : Int32} (hC : k9_C S d K) (hok : k9_okP (k9_y K) ix) (hc : k9_cod (k9_y K) ix = (5, 3, a, b, z))  (kt : x < 0 → k9_G a L st I J K) (kf : ¬ x < 0 → k9_G (ix + 1) L st I J K) : k9_G ix L (k9_i x :: st) I J K := by
  obtain ⟨p, l, e, R, s, m, args, below, meth, c, cells, slots, QF, y, dC, dI, dT, adr, A⟩ := K
  obtain ⟨hx, hb, hml, hown, hts, hns, hK, hST, hA, hR, hScr⟩ := hC
  obtain ⟨hd, hf, hs⟩ := k9_use hok hc
  dsimp only [k9_y] at hc hd hf hs
  intro H locs ls hP hD hS hL
  have hn := hf rfl
  change decode (k9_by y) (k9_pc y ix) = .ok (.ifCond .lt (k9_o (k9_raw y ix) (k9_pc y) a), 3) at hd
  change k9_pc y (ix + 1) = k9_pc y ix + 3 at hn
  refine lv_if_lt hx hb hd (k9_off rfl) (fun h => kt h H locs ls hP hD hS hL) (fun h => ?_)
  have kf := kf h H locs ls hP hD hS hL
  rw [hn] at kf
  exact kf

theorem k9_x_5_4 {K : k9_K} {S : k9_S} {d ix a b : Nat} {z : Int32} {L : k9_L} {st : List k9_v} {I : k9_I} {J : k9_J} {x y0 : Int32} (hC : k9_C S d K) (hok : k9_okP (k9_y K) ix) (hc : k9_cod (k9_y K) ix = (5, 4, a, b, z))  (kt : 0 ≤ x → k9_G a L st I J K) (kf : ¬ 0 ≤ x → k9_G (ix + 1) L st I J K) : k9_G ix L (k9_i x :: st) I J K := by
  obtain ⟨p, l, e, R, s, m, args, below, meth, c, cells, slots, QF, y, dC, dI, dT, adr, A⟩ := K
  obtain ⟨hx, hb, hml, hown, hts, hns, hK, hST, hA, hR, hScr⟩ := hC
  obtain ⟨hd, hf, hs⟩ := k9_use hok hc
  dsimp only [k9_y] at hc hd hf hs
  intro H locs ls hP hD hS hL
  have hn := hf rfl
  change decode (k9_by y) (k9_pc y ix) = .ok (.ifCond .ge (k9_o (k9_raw y ix) (k9_pc y) a), 3) at hd
  change k9_pc y (ix + 1) = k9_pc y ix + 3 at hn
  refine lv_if_ge hx hb hd (k9_off rfl) (fun h => kt h H locs ls hP hD hS hL) (fun h => ?_)
  have kf := kf h H locs ls hP hD hS hL
  rw [hn] at kf
  exact kf

theorem k9_x_5_5 {K : k9_K} {S : k9_S} {d ix a b : Nat} {z : Int32} {L : k9_L} {st : List k9_v} {I : k9_I} {J : k9_J} {x y0 : Int32} (hC : k9_C S d K) (hok : k9_okP (k9_y K) ix) (hc : k9_cod (k9_y K) ix = (5, 5, a, b, z))  (kt : 0 < x → k9_G a L st I J K) (kf : ¬ 0 < x → k9_G (ix + 1) L st I J K) : k9_G ix L (k9_i x :: st) I J K := by
  obtain ⟨p, l, e, R, s, m, args, below, meth, c, cells, slots, QF, y, dC, dI, dT, adr, A⟩ := K
  obtain ⟨hx, hb, hml, hown, hts, hns, hK, hST, hA, hR, hScr⟩ := hC
  obtain ⟨hd, hf, hs⟩ := k9_use hok hc
  dsimp only [k9_y] at hc hd hf hs
  intro H locs ls hP hD hS hL
  have hn := hf rfl
  change decode (k9_by y) (k9_pc y ix) = .ok (.ifCond .gt (k9_o (k9_raw y ix) (k9_pc y) a), 3) at hd
  change k9_pc y (ix + 1) = k9_pc y ix + 3 at hn
  refine lv_if_gt hx hb hd (k9_off rfl) (fun h => kt h H locs ls hP hD hS hL) (fun h => ?_)
  have kf := kf h H locs ls hP hD hS hL
  rw [hn] at kf
  exact kf

theorem k9_x_5_6 {K : k9_K} {S : k9_S} {d ix a b : Nat} {z : Int32} {L : k9_L} {st : List k9_v} {I : k9_I} {J : k9_J} {x y0 : Int32} (hC : k9_C S d K) (hok : k9_okP (k9_y K) ix) (hc : k9_cod (k9_y K) ix = (5, 6, a, b, z))  (kt : x ≤ 0 → k9_G a L st I J K) (kf : ¬ x ≤ 0 → k9_G (ix + 1) L st I J K) : k9_G ix L (k9_i x :: st) I J K := by
  obtain ⟨p, l, e, R, s, m, args, below, meth, c, cells, slots, QF, y, dC, dI, dT, adr, A⟩ := K
  obtain ⟨hx, hb, hml, hown, hts, hns, hK, hST, hA, hR, hScr⟩ := hC
  obtain ⟨hd, hf, hs⟩ := k9_use hok hc
  dsimp only [k9_y] at hc hd hf hs
  intro H locs ls hP hD hS hL
  have hn := hf rfl
  change decode (k9_by y) (k9_pc y ix) = .ok (.ifCond .le (k9_o (k9_raw y ix) (k9_pc y) a), 3) at hd
  change k9_pc y (ix + 1) = k9_pc y ix + 3 at hn
  refine lv_if_le hx hb hd (k9_off rfl) (fun h => kt h H locs ls hP hD hS hL) (fun h => ?_)
  have kf := kf h H locs ls hP hD hS hL
  rw [hn] at kf
  exact kf

theorem k9_x_5_7 {K : k9_K} {S : k9_S} {d ix a b : Nat} {z : Int32} {L : k9_L} {st : List k9_v} {I : k9_I} {J : k9_J} {x y0 : Int32} (hC : k9_C S d K) (hok : k9_okP (k9_y K) ix) (hc : k9_cod (k9_y K) ix = (5, 7, a, b, z))  (kt : x = y0 → k9_G a L st I J K) (kf : ¬ x = y0 → k9_G (ix + 1) L st I J K) : k9_G ix L (k9_i y0 :: k9_i x :: st) I J K := by
  obtain ⟨p, l, e, R, s, m, args, below, meth, c, cells, slots, QF, y, dC, dI, dT, adr, A⟩ := K
  obtain ⟨hx, hb, hml, hown, hts, hns, hK, hST, hA, hR, hScr⟩ := hC
  obtain ⟨hd, hf, hs⟩ := k9_use hok hc
  dsimp only [k9_y] at hc hd hf hs
  intro H locs ls hP hD hS hL
  have hn := hf rfl
  change decode (k9_by y) (k9_pc y ix) = .ok (.if_icmp .eq (k9_o (k9_raw y ix) (k9_pc y) a), 3) at hd
  change k9_pc y (ix + 1) = k9_pc y ix + 3 at hn
  refine lv_icmp_eq hx hb hd (k9_off rfl) (fun h => kt h H locs ls hP hD hS hL) (fun h => ?_)
  have kf := kf h H locs ls hP hD hS hL
  rw [hn] at kf
  exact kf

theorem k9_x_5_8 {K : k9_K} {S : k9_S} {d ix a b : Nat} {z : Int32} {L : k9_L} {st : List k9_v} {I : k9_I} {J : k9_J} {x y0 : Int32} (hC : k9_C S d K) (hok : k9_okP (k9_y K) ix) (hc : k9_cod (k9_y K) ix = (5, 8, a, b, z))  (kt : ¬ x = y0 → k9_G a L st I J K) (kf : x = y0 → k9_G (ix + 1) L st I J K) : k9_G ix L (k9_i y0 :: k9_i x :: st) I J K := by
  obtain ⟨p, l, e, R, s, m, args, below, meth, c, cells, slots, QF, y, dC, dI, dT, adr, A⟩ := K
  obtain ⟨hx, hb, hml, hown, hts, hns, hK, hST, hA, hR, hScr⟩ := hC
  obtain ⟨hd, hf, hs⟩ := k9_use hok hc
  dsimp only [k9_y] at hc hd hf hs
  intro H locs ls hP hD hS hL
  have hn := hf rfl
  change decode (k9_by y) (k9_pc y ix) = .ok (.if_icmp .ne (k9_o (k9_raw y ix) (k9_pc y) a), 3) at hd
  change k9_pc y (ix + 1) = k9_pc y ix + 3 at hn
  refine lv_icmp_ne hx hb hd (k9_off rfl) (fun h => kt h H locs ls hP hD hS hL) (fun h => ?_)
  have kf := kf h H locs ls hP hD hS hL
  rw [hn] at kf
  exact kf

theorem k9_x_5_9 {K : k9_K} {S : k9_S} {d ix a b : Nat} {z : Int32} {L : k9_L} {st : List k9_v} {I : k9_I} {J : k9_J} {x y0 : Int32} (hC : k9_C S d K) (hok : k9_okP (k9_y K) ix) (hc : k9_cod (k9_y K) ix = (5, 9, a, b, z))  (kt : x < y0 → k9_G a L st I J K) (kf : ¬ x < y0 → k9_G (ix + 1) L st I J K) : k9_G ix L (k9_i y0 :: k9_i x :: st) I J K := by
  obtain ⟨p, l, e, R, s, m, args, below, meth, c, cells, slots, QF, y, dC, dI, dT, adr, A⟩ := K
  obtain ⟨hx, hb, hml, hown, hts, hns, hK, hST, hA, hR, hScr⟩ := hC
  obtain ⟨hd, hf, hs⟩ := k9_use hok hc
  dsimp only [k9_y] at hc hd hf hs
  intro H locs ls hP hD hS hL
  have hn := hf rfl
  change decode (k9_by y) (k9_pc y ix) = .ok (.if_icmp .lt (k9_o (k9_raw y ix) (k9_pc y) a), 3) at hd
  change k9_pc y (ix + 1) = k9_pc y ix + 3 at hn
  refine lv_icmp_lt hx hb hd (k9_off rfl) (fun h => kt h H locs ls hP hD hS hL) (fun h => ?_)
  have kf := kf h H locs ls hP hD hS hL
  rw [hn] at kf
  exact kf

theorem k9_x_5_10 {K : k9_K} {S : k9_S} {d ix a b : Nat} {z : Int32} {L : k9_L} {st : List k9_v} {I : k9_I} {J : k9_J} {x y0 : Int32} (hC : k9_C S d K) (hok : k9_okP (k9_y K) ix) (hc : k9_cod (k9_y K) ix = (5, 10, a, b, z))  (kt : y0 ≤ x → k9_G a L st I J K) (kf : ¬ y0 ≤ x → k9_G (ix + 1) L st I J K) : k9_G ix L (k9_i y0 :: k9_i x :: st) I J K := by
  obtain ⟨p, l, e, R, s, m, args, below, meth, c, cells, slots, QF, y, dC, dI, dT, adr, A⟩ := K
  obtain ⟨hx, hb, hml, hown, hts, hns, hK, hST, hA, hR, hScr⟩ := hC
  obtain ⟨hd, hf, hs⟩ := k9_use hok hc
  dsimp only [k9_y] at hc hd hf hs
  intro H locs ls hP hD hS hL
  have hn := hf rfl
  change decode (k9_by y) (k9_pc y ix) = .ok (.if_icmp .ge (k9_o (k9_raw y ix) (k9_pc y) a), 3) at hd
  change k9_pc y (ix + 1) = k9_pc y ix + 3 at hn
  refine lv_icmp_ge hx hb hd (k9_off rfl) (fun h => kt h H locs ls hP hD hS hL) (fun h => ?_)
  have kf := kf h H locs ls hP hD hS hL
  rw [hn] at kf
  exact kf

theorem k9_x_5_11 {K : k9_K} {S : k9_S} {d ix a b : Nat} {z : Int32} {L : k9_L} {st : List k9_v} {I : k9_I} {J : k9_J} {x y0 : Int32} (hC : k9_C S d K) (hok : k9_okP (k9_y K) ix) (hc : k9_cod (k9_y K) ix = (5, 11, a, b, z))  (kt : y0 < x → k9_G a L st I J K) (kf : ¬ y0 < x → k9_G (ix + 1) L st I J K) : k9_G ix L (k9_i y0 :: k9_i x :: st) I J K := by
  obtain ⟨p, l, e, R, s, m, args, below, meth, c, cells, slots, QF, y, dC, dI, dT, adr, A⟩ := K
  obtain ⟨hx, hb, hml, hown, hts, hns, hK, hST, hA, hR, hScr⟩ := hC
  obtain ⟨hd, hf, hs⟩ := k9_use hok hc
  dsimp only [k9_y] at hc hd hf hs
  intro H locs ls hP hD hS hL
  have hn := hf rfl
  change decode (k9_by y) (k9_pc y ix) = .ok (.if_icmp .gt (k9_o (k9_raw y ix) (k9_pc y) a), 3) at hd
  change k9_pc y (ix + 1) = k9_pc y ix + 3 at hn
  refine lv_icmp_gt hx hb hd (k9_off rfl) (fun h => kt h H locs ls hP hD hS hL) (fun h => ?_)
  have kf := kf h H locs ls hP hD hS hL
  rw [hn] at kf
  exact kf

theorem k9_x_5_12 {K : k9_K} {S : k9_S} {d ix a b : Nat} {z : Int32} {L : k9_L} {st : List k9_v} {I : k9_I} {J : k9_J} {x y0 : Int32} (hC : k9_C S d K) (hok : k9_okP (k9_y K) ix) (hc : k9_cod (k9_y K) ix = (5, 12, a, b, z))  (kt : x ≤ y0 → k9_G a L st I J K) (kf : ¬ x ≤ y0 → k9_G (ix + 1) L st I J K) : k9_G ix L (k9_i y0 :: k9_i x :: st) I J K := by
  obtain ⟨p, l, e, R, s, m, args, below, meth, c, cells, slots, QF, y, dC, dI, dT, adr, A⟩ := K
  obtain ⟨hx, hb, hml, hown, hts, hns, hK, hST, hA, hR, hScr⟩ := hC
  obtain ⟨hd, hf, hs⟩ := k9_use hok hc
  dsimp only [k9_y] at hc hd hf hs
  intro H locs ls hP hD hS hL
  have hn := hf rfl
  change decode (k9_by y) (k9_pc y ix) = .ok (.if_icmp .le (k9_o (k9_raw y ix) (k9_pc y) a), 3) at hd
  change k9_pc y (ix + 1) = k9_pc y ix + 3 at hn
  refine lv_icmp_le hx hb hd (k9_off rfl) (fun h => kt h H locs ls hP hD hS hL) (fun h => ?_)
  have kf := kf h H locs ls hP hD hS hL
  rw [hn] at kf
  exact kf

theorem k9_x_5_13 {K : k9_K} {S : k9_S} {d ix a b : Nat} {z : Int32} {L : k9_L} {st : List k9_v} {I : k9_I} {J : k9_J} {k i : Nat} (hC : k9_C S d K) (hok : k9_okP (k9_y K) ix) (hc : k9_cod (k9_y K) ix = (5, 13, a, b, z))  (kk : k9_G (bif Nat.beq k 0 then a else ix + 1) L (st) I J K) : k9_G ix L (k9_r k i :: st) I J K := by
  obtain ⟨p, l, e, R, s, m, args, below, meth, c, cells, slots, QF, y, dC, dI, dT, adr, A⟩ := K
  obtain ⟨hx, hb, hml, hown, hts, hns, hK, hST, hA, hR, hScr⟩ := hC
  obtain ⟨hd, hf, hs⟩ := k9_use hok hc
  dsimp only [k9_y] at hc hd hf hs
  intro H locs ls hP hD hS hL
  have hn := hf rfl
  change decode (k9_by y) (k9_pc y ix) = .ok (.ifnull (k9_o (k9_raw y ix) (k9_pc y) a), 3) at hd
  change k9_pc y (ix + 1) = k9_pc y ix + 3 at hn
  have kk := kk H locs ls hP hD hS hL
  cases k with
  | zero =>
    exact lv_ifnullN hx hb hd (k9_off rfl) kk
  | succ k =>
    have kk : W p l e R s m args below meth c H locs cells slots QF (F0 m (k9_pc y (ix + 1)) ls (st.map (k9_mv adr))) := kk
    rw [hn] at kk
    exact lv_ifnull hx hb hd kk

theorem k9_x_5_14 {K : k9_K} {S : k9_S} {d ix a b : Nat} {z : Int32} {L : k9_L} {st : List k9_v} {I : k9_I} {J : k9_J} {k i : Nat} (hC : k9_C S d K) (hok : k9_okP (k9_y K) ix) (hc : k9_cod (k9_y K) ix = (5, 14, a, b, z))  (kk : k9_G (bif Nat.beq k 0 then ix + 1 else a) L (st) I J K) : k9_G ix L (k9_r k i :: st) I J K := by
  obtain ⟨p, l, e, R, s, m, args, below, meth, c, cells, slots, QF, y, dC, dI, dT, adr, A⟩ := K
  obtain ⟨hx, hb, hml, hown, hts, hns, hK, hST, hA, hR, hScr⟩ := hC
  obtain ⟨hd, hf, hs⟩ := k9_use hok hc
  dsimp only [k9_y] at hc hd hf hs
  intro H locs ls hP hD hS hL
  have hn := hf rfl
  change decode (k9_by y) (k9_pc y ix) = .ok (.ifnonnull (k9_o (k9_raw y ix) (k9_pc y) a), 3) at hd
  change k9_pc y (ix + 1) = k9_pc y ix + 3 at hn
  have kk := kk H locs ls hP hD hS hL
  cases k with
  | zero =>
    have kk : W p l e R s m args below meth c H locs cells slots QF (F0 m (k9_pc y (ix + 1)) ls (st.map (k9_mv adr))) := kk
    rw [hn] at kk
    exact lv_ifnonnullN hx hb hd kk
  | succ k =>
    exact lv_ifnonnull hx hb hd (k9_off rfl) kk
