/-! switches, Math, calls, ends -/
theorem k9_swk_lk {w : k9_W} {tp : Nat → Nat} {b : Nat} (x : Int32) : ∀ l : List (Int32 × Nat), Op.lookupswitch.offset (l.map (fun c => (c.1.toInt, k9_o w tp c.2))) (k9_o w tp b) x.toInt = k9_o w tp (k9_swk (fun t => t) x b l)
  | [] => rfl
  | c :: r => by
    rw [List.map_cons, Op.lookupswitch.offset_cons, k9_swk_lk x r]
    by_cases h : x = c.1
    · subst h
      simp [k9_swk]
    · have h1 : ¬ c.1.toInt = x.toInt := fun z => h (Int32.toInt_inj.mp z.symm)
      have h2 : ¬ x.toInt = c.1.toInt := fun z => h (Int32.toInt_inj.mp z)
      simp [k9_swk, h, h1, h2]
theorem k9_swk_tb {b : Nat} (x : Int32) : ∀ (l : List (Int32 × Nat)) (lo : Int), k9_cs lo l = true → ((x.toInt < lo ∨ lo + (l.length : Int) ≤ x.toInt) → k9_swk (fun t => t) x b l = b) ∧ (∀ j : Nat, x.toInt = lo + (j : Int) → j < l.length → ∃ c, l[j]? = some c ∧ k9_swk (fun t => t) x b l = c.2)
  | [], _, _ => ⟨fun _ => rfl, fun _ _ h => by cases h⟩
  | c :: r, lo, h => by
    simp only [k9_cs, Bool.and_eq_true, decide_eq_true_eq] at h
    obtain ⟨h1, h2⟩ := h
    obtain ⟨i1, i2⟩ := k9_swk_tb (b := b) x r (lo + 1) h2
    simp only [List.length_cons]
    constructor
    · intro h3
      have hn : ¬ x = c.1 := by
        intro z
        subst z
        rw [h1] at h3
        omega
      simp only [k9_swk, if_neg hn]
      exact i1 (by omega)
    · intro j hj hl
      cases j with
      | zero =>
        have he : x = c.1 := Int32.toInt_inj.mp (by rw [h1]; omega)
        exact ⟨c, rfl, by simp [k9_swk, he]⟩
      | succ j =>
        have hn : ¬ x = c.1 := by
          intro z
          subst z
          rw [h1] at hj
          omega
        obtain ⟨c', e1, e2⟩ := i2 j (by omega) (by omega)
        exact ⟨c', by rw [List.getElem?_cons_succ]; exact e1, by simp only [k9_swk, if_neg hn]; exact e2⟩

theorem k9_x_5_15 {K : k9_K} {S : k9_S} {d ix a b : Nat} {z : Int32} {L : k9_L} {st : List k9_v} {I : k9_I} {J : k9_J} {x : Int32} (hC : k9_C S d K) (hok : k9_okP (k9_y K) ix) (hc : k9_cod (k9_y K) ix = (5, 15, a, b, z))  (kk : k9_G (k9_swk (fun t => t) x b (k9_swt a)) L (st) I J K) : k9_G ix L (k9_i x :: st) I J K := by
  obtain ⟨p, l, e, R, s, m, args, below, meth, c, cells, slots, QF, y, dC, dI, dT, adr, A⟩ := K
  obtain ⟨hx, hb, hml, hown, hts, hns, hK, hST, hA, hR, hScr⟩ := hC
  obtain ⟨hd, hf, hs⟩ := k9_use hok hc
  dsimp only [k9_y] at hc hd hf hs
  intro H locs ls hP hD hS hL
  have kk := kk H locs ls hP hD hS hL
  simp only [k9_ins] at hd
  simp only [k9_sid] at hs
  cases hq : (k9_raw y ix).2.1 with
  | zero =>
    rw [hq] at hd hs
    try dsimp only at hd hs
    exact lv_lookup hx hb hd hs (by rw [List.toList_toArray]; exact k9_swk_lk x _) (k9_off rfl) kk
  | succ n =>
    rw [hq] at hd hs
    try dsimp only at hd hs
    obtain ⟨i1, i2⟩ := k9_swk_tb (b := b) x (k9_swt a) (k9_lo a) hs
    by_cases h1 : x.toInt < k9_lo a
    · rw [i1 (Or.inl h1)] at kk
      exact lv_tableOut hx hb hd (Or.inl h1) (k9_off rfl) kk
    · by_cases h2 : k9_lo a + ((k9_swt a).length : Int) ≤ x.toInt
      · rw [i1 (Or.inr h2)] at kk
        exact lv_tableOut hx hb hd (Or.inr (by omega)) (k9_off rfl) kk
      · obtain ⟨c', e1, e2⟩ := i2 (x.toInt - k9_lo a).toNat (by omega) (by omega)
        rw [e2] at kk
        exact lv_tableIn hx hb hd h1 (by omega) (by rw [List.getElem?_toArray, List.getElem?_map, e1]; rfl) (k9_off rfl) kk

theorem k9_cat_le (adr : Nat → Nat → Nat) : ∀ st : List k9_v, ((st.map (k9_mv adr)).map fun v => v.category).sum ≤ 2 * st.length
  | [] => Nat.le_refl _
  | v :: st => by
    have h := k9_cat_le adr st
    simp only [List.map_cons, List.sum_cons, List.length_cons]
    rw [k9_mv_cat]
    split <;> omega

theorem k9_x_6_2 {K : k9_K} {S : k9_S} {d ix a b : Nat} {z : Int32} {L : k9_L} {st : List k9_v} {I : k9_I} {J : k9_J} {x y0 : Int32} (hst : Nat.ble st.length 4 = true) (hC : k9_C S d K) (hok : k9_okP (k9_y K) ix) (hc : k9_cod (k9_y K) ix = (6, 2, a, b, z))  (kk : k9_G (ix + 1) L (k9_i (if x < y0 then y0 else x) :: st) I J K) : k9_G ix L (k9_i y0 :: k9_i x :: st) I J K := by
  obtain ⟨p, l, e, R, s, m, args, below, meth, c, cells, slots, QF, y, dC, dI, dT, adr, A⟩ := K
  obtain ⟨hx, hb, hml, hown, hts, hns, hK, hST, hA, hR, hScr⟩ := hC
  obtain ⟨hd, hf, hs⟩ := k9_use hok hc
  dsimp only [k9_y] at hc hd hf hs
  intro H locs ls hP hD hS hL
  have hn := hf rfl
  change decode (k9_by y) (k9_pc y ix) = .ok (.invokestatic (k9_raw y ix).2.2.1, 3) at hd
  change k9_pc y (ix + 1) = k9_pc y ix + 3 at hn
  have kk := kk H locs ls hP hD hS hL
  rw [hn] at kk
  simp only [k9_sid] at hs
  obtain ⟨r1, r2, r3, r4⟩ := hR
  have hc9 := k9_cat_le adr st
  have hst := Nat.le_of_ble_eq_true hst
  exact va_mmax hx hb (by rw [hml, hL.1.1]) hown (hts _ (k9_hw_mem hs)) (hts _ k9_math_max.1) (hts _ k9_math_max.2.1) (hts _ k9_math_max.2.2) (by omega) (by omega) r3 r4 hd kk

theorem k9_x_6_3 {K : k9_K} {S : k9_S} {d ix a b : Nat} {z : Int32} {L : k9_L} {st : List k9_v} {I : k9_I} {J : k9_J} {x y0 : Int32} (hst : Nat.ble st.length 4 = true) (hC : k9_C S d K) (hok : k9_okP (k9_y K) ix) (hc : k9_cod (k9_y K) ix = (6, 3, a, b, z))  (kk : k9_G (ix + 1) L (k9_i (if y0 < x then y0 else x) :: st) I J K) : k9_G ix L (k9_i y0 :: k9_i x :: st) I J K := by
  obtain ⟨p, l, e, R, s, m, args, below, meth, c, cells, slots, QF, y, dC, dI, dT, adr, A⟩ := K
  obtain ⟨hx, hb, hml, hown, hts, hns, hK, hST, hA, hR, hScr⟩ := hC
  obtain ⟨hd, hf, hs⟩ := k9_use hok hc
  dsimp only [k9_y] at hc hd hf hs
  intro H locs ls hP hD hS hL
  have hn := hf rfl
  change decode (k9_by y) (k9_pc y ix) = .ok (.invokestatic (k9_raw y ix).2.2.1, 3) at hd
  change k9_pc y (ix + 1) = k9_pc y ix + 3 at hn
  have kk := kk H locs ls hP hD hS hL
  rw [hn] at kk
  simp only [k9_sid] at hs
  obtain ⟨r1, r2, r3, r4⟩ := hR
  have hc9 := k9_cat_le adr st
  have hst := Nat.le_of_ble_eq_true hst
  exact va_mmin hx hb (by rw [hml, hL.1.1]) hown (hts _ (k9_hw_mem hs)) (hts _ k9_math_min.1) (hts _ k9_math_min.2.1) (hts _ k9_math_min.2.2) (by omega) (by omega) r3 r4 hd kk

theorem k9_x_6_4 {K : k9_K} {S : k9_S} {d ix a b : Nat} {z : Int32} {L : k9_L} {st : List k9_v} {I : k9_I} {J : k9_J} {x : Int32} (hst : Nat.ble st.length 4 = true) (hC : k9_C S d K) (hok : k9_okP (k9_y K) ix) (hc : k9_cod (k9_y K) ix = (6, 4, a, b, z))  (kk : k9_G (ix + 1) L (k9_i (if 0 ≤ x then x else 0 - x) :: st) I J K) : k9_G ix L (k9_i x :: st) I J K := by
  obtain ⟨p, l, e, R, s, m, args, below, meth, c, cells, slots, QF, y, dC, dI, dT, adr, A⟩ := K
  obtain ⟨hx, hb, hml, hown, hts, hns, hK, hST, hA, hR, hScr⟩ := hC
  obtain ⟨hd, hf, hs⟩ := k9_use hok hc
  dsimp only [k9_y] at hc hd hf hs
  intro H locs ls hP hD hS hL
  have hn := hf rfl
  change decode (k9_by y) (k9_pc y ix) = .ok (.invokestatic (k9_raw y ix).2.2.1, 3) at hd
  change k9_pc y (ix + 1) = k9_pc y ix + 3 at hn
  have kk := kk H locs ls hP hD hS hL
  rw [hn] at kk
  simp only [k9_sid] at hs
  obtain ⟨r1, r2, r3, r4⟩ := hR
  have hc9 := k9_cat_le adr st
  have hst := Nat.le_of_ble_eq_true hst
  exact va_mabs hx hb (by rw [hml, hL.1.1]) hown (hts _ (k9_hw_mem hs)) (hts _ k9_math_abs.1) (hts _ k9_math_abs.2.1) (hts _ k9_math_abs.2.2) (by omega) (by omega) r3 r4 hd kk

/-- a method's contract -/
def k9_wsy (z : Nat) : List Cond := .code (k9_nm z) (k9_by z) (k9_ml z) (k9_rt z) :: k9_TB
def k9_rm (d : Nat) : Room := { frames := d + 1, cells := 0, slots := 0, locals := 50 * d + 50 }
def k9_B (dC : Nat → ClassId) (dI : Nat → Nat → Nat) (dT : Nat → ClassId) (adr : Nat → Nat → Nat) (sz : Nat) (I : k9_I) (J : k9_J) (U : State) : Prop :=
  U.heap.size = sz ∧ va_P (dC, dI) vwCl (k9_ws dT adr I J) U.heap ∧ va_K (dC, dI) vwCl (k9_tys dT) U ∧ va_D (fun _ => True) (k9_ws dT adr I J) ∧ (∀ w ∈ k9_NS, va_Nw w U) ∧ k9_ST adr (va_A (k9_ws dT adr I J) sz) U U.heap
def k9_Q (dC : Nat → ClassId) (dI : Nat → Nat → Nat) (dT : Nat → ClassId) (adr : Nat → Nat → Nat) (A : Nat → Prop) (r : Option k9_v) (I : k9_I) (J : k9_J) : Array Value → State → Outcome → State → Prop := fun _ st oc t =>
  (oc = .returned (r.map (k9_mv adr)) ∧ va_P (dC, dI) vwCl (k9_ws dT adr I J) t.heap) ∧ va_F A st t
def k9_M (l : Launch) (d z : Nat) (as : List k9_v) (I : k9_I) (J : k9_J) (r : Option k9_v) (I' : k9_I) (J' : k9_J) : Prop :=
  ∀ (dC : Nat → ClassId) (dI : Nat → Nat → Nat) (dT : Nat → ClassId) (adr : Nat → Nat → Nat) (sz : Nat), Met l (k9_nm z) (k9_wsy z) (k9_rm d) (va_Pc (as.map (k9_mv adr)) (k9_B dC dI dT adr sz I J)) (k9_Q dC dI dT adr (va_A (k9_ws dT adr I J) sz) r I' J') 0 0 (va_A (k9_ws dT adr I J) sz)
theorem k9_ws_adr {dT : Nat → ClassId} {adr : Nat → Nat → Nat} {I I' : k9_I} {J J' : k9_J} {i : Nat} {p : Nat × va_E} (h : (k9_ws dT adr I J)[i]? = some p) : ∃ e, (k9_ws dT adr I' J')[i]? = some (p.1, e) := by
  rw [k9_ws, List.getElem?_map] at h
  cases hq : k9_cells[i]? with
  | none => rw [hq] at h; cases h
  | some q =>
    rw [hq] at h
    cases h
    exact ⟨_, by rw [k9_ws, List.getElem?_map, hq]; rfl⟩
theorem k9_ws_D {A : Nat → Prop} {dT : Nat → ClassId} {adr : Nat → Nat → Nat} {I I' : k9_I} {J J' : k9_J} (h : va_D A (k9_ws dT adr I J)) : va_D A (k9_ws dT adr I' J') := by
  refine ⟨fun i j p q hi hj hpq => ?_, fun k q hk => ?_⟩
  · obtain ⟨e1, h1⟩ := k9_ws_adr (I' := I) (J' := J) hi
    obtain ⟨e2, h2⟩ := k9_ws_adr (I' := I) (J' := J) hj
    exact h.1 i j _ _ h1 h2 hpq
  · obtain ⟨e1, h1⟩ := k9_ws_adr (I' := I) (J' := J) hk
    exact (h.2 k (q.1, e1) h1 : A q.1)
theorem k9_NS_on : k9_NS.all Cond.onTables = true := by decide +kernel
theorem k9_B_blind {dC : Nat → ClassId} {dI : Nat → Nat → Nat} {dT : Nat → ClassId} {adr : Nat → Nat → Nat} {sz : Nat} {I : k9_I} {J : k9_J} {av : List Value} : FrameBlind (va_Pc av (k9_B dC dI dT adr sz I J)) := by
  intro a U g mk h
  obtain ⟨h1, h2, h3, h4, h5, h6, h7⟩ := h
  exact ⟨h1, h2, h3, va_K.moved (u := U) (U := U.calling g mk a) (Vm.Alike.refl U.vm) h4, h5, fun w hw => va_Nw.same (List.all_eq_true.mp k9_NS_on w hw) (u := U) (U := U.calling g mk a) rfl (h6 w hw), fun q hq => ⟨va_Z.moved (u := U) (U := U.calling g mk a) (Vm.Alike.refl U.vm) (h7 q hq).1, va_T.moved (u := U) (U := U.calling g mk a) (Vm.Alike.refl U.vm) (h7 q hq).2⟩⟩
theorem k9_good {w : Cond} (h : w ∈ k9_TB) : w ∈ k9_TB ∧ ((w.onTables && w.keeps) = true ∨ ∃ ty, w = .arrayClass ty) := ⟨h, good_of_word (List.all_eq_true.mp k9_TB_good w h)⟩
theorem k9_wsy_good {z : Nat} (h : Cond.code (k9_nm z) (k9_by z) (k9_ml z) (k9_rt z) ∈ k9_TB) : GoodIn k9_TB (k9_wsy z) := by
  intro w hw
  rcases List.mem_cons.mp hw with rfl | hw
  · exact k9_good h
  · exact k9_good hw
theorem k9_ps_map (adr : Nat → Nat → Nat) (r : Option k9_v) (st : List k9_v) : (r.map (k9_mv adr)).toList ++ st.map (k9_mv adr) = (k9_ps r st).map (k9_mv adr) := by
  cases r <;> rfl

theorem k9_x_6_0 {K : k9_K} {S : k9_S} {d ix a b : Nat} {z : Int32} {L : k9_L} {as st : List k9_v} {I : k9_I} {J : k9_J} {r : Option k9_v} {I1 : k9_I} {J1 : k9_J} (hM : ∀ l, k9_M l d a as I J r I1 J1) (hst4 : Nat.ble st.length 4 = true) (has : as.length = b) (hC : k9_C S (d + 1) K) (hok : k9_okP (k9_y K) ix) (hc : k9_cod (k9_y K) ix = (6, 0, a, b, z)) (kk : k9_G (ix + 1) L (k9_ps r st) I1 J1 K) : k9_G ix L (as.reverse ++ st) I J K := by
  obtain ⟨p, l, e, R, s, m, args, below, meth, c, cells, slots, QF, y, dC, dI, dT, adr, A⟩ := K
  obtain ⟨hx, hb, hml, hown, hts, hns, hK, hST, hA, hR, hScr⟩ := hC
  obtain ⟨hd, hf, hs⟩ := k9_use hok hc
  dsimp only [k9_y] at hc hd hf hs
  intro H locs ls hP hD hS hL
  have hn := hf rfl
  change decode (k9_by y) (k9_pc y ix) = .ok (.invokestatic (k9_raw y ix).2.2.1, 3) at hd
  change k9_pc y (ix + 1) = k9_pc y ix + 3 at hn
  simp only [k9_sid, Bool.and_eq_true, Bool.not_eq_true', decide_eq_true_eq] at hs
  obtain ⟨⟨⟨hlk, hst⟩, hds⟩, hNM⟩ := hs
  obtain ⟨⟨w1, w2, w3, w4, w5, w6⟩, wS, wI⟩ := k9_mok_all a (Nat.le_of_ble_eq_true hNM)
  obtain ⟨r1, r2, r3, r4⟩ := hR
  have hc9 := k9_cat_le adr st
  have hst4 := Nat.le_of_ble_eq_true hst4
  have hroom : (k9_rm d).frames + 1 ≤ R.frames ∧ 8 + (k9_ml a + 11) + (k9_rm d).locals ≤ R.locals := by
    refine ⟨?_, ?_⟩
    · show d + 1 + 1 ≤ R.frames
      omega
    · show 8 + (k9_ml a + 11) + (50 * d + 50) ≤ R.locals
      omega
  have hM := hM l dC dI dT adr H.size
  have hST' : k9_ST adr (va_A (k9_ws dT adr I J) H.size) s H := by
    have hfr : ∀ q, va_A (k9_ws dT adr I J) H.size q → A q := by
      intro q hq
      rcases hq with ⟨k, e, hq⟩ | hq
      · exact hD.2 k _ hq
      · exact hA q (Nat.le_trans hS.1 hq)
    intro q hq
    exact ⟨((hST q hq).1.kept (fun x h1 h2 => hS.2.1 x h1 h2)).narrow hfr, ((hST q hq).2.kept (fun x h1 h2 => hS.2.1 x h1 h2)).narrow hfr⟩
  have hB : ∀ U : State, U.heap = H → s.WarmedH U.vm → k9_B dC dI dT adr H.size I J U := by
    intro U hU hW
    refine ⟨by rw [hU], by rw [hU]; exact hP, va_K.moved hW.alike hK, hD.weaken (fun _ _ _ _ => trivial), fun w hw => k9_NS_warm hw hW (hns w hw), ?_⟩
    rw [hU]
    exact fun q hq => ⟨va_Z.moved hW.alike (hST' q hq).1, va_T.moved hW.alike (hST' q hq).2⟩
  have wst := wS hst
  have hr : va_Run p l e R s m args below meth c H locs cells slots 0 0 (F0 m (k9_pc y ix) ls ((as.reverse ++ st).map (k9_mv adr))) (st.map (k9_mv adr)) (k9_Q dC dI dT adr (va_A (k9_ws dT adr I J) H.size) r I1 J1 (as.map (k9_mv adr)).toArray) (va_A (k9_ws dT adr I J) H.size) := by
    simp only [k9_ml1] at hlk
    split at hlk
    · exact va_runS (As := as.map (k9_mv adr)) (Ts := k9_TB) (own := k9_ow y) ⟨hx, hb, hml, hown, hts⟩ hM (va_cwS b hts (fun w hw => by
        unfold va_wsS at hw
        rcases List.mem_append.mp hw with hw | hw
        · simp only [List.mem_cons, List.not_mem_nil, or_false] at hw
          rcases hw with rfl | rfl | rfl
          · exact k9_good (k9_hw_mem hlk)
          · exact k9_good wst
          · exact k9_good w2
        · exact k9_wsy_good w1 w hw) rfl rfl rfl ⟨w4, w5, hds⟩ hroom) ⟨k9_B_blind, fun U hU hW => ⟨rfl, hB U hU hW⟩⟩ rfl (by rw [List.length_map]; exact has) hL.1.1 (by rw [List.map_append, List.map_reverse]) (by show 2 * 0 + _ ≤ 8; omega) hd ⟨r3, r4⟩
    · exact va_runSN (As := as.map (k9_mv adr)) (Ts := k9_TB) (own := k9_ow y) ⟨hx, hb, hml, hown, hts⟩ hM ⟨va_cnB b hts (k9_wsy_good w1) rfl rfl rfl (hns _ (k9_hn_mem hlk)) (hts _ w2) ⟨w4, w5, hds⟩ hroom, hts _ wst, trivial⟩ ⟨k9_B_blind, fun U hU hW => ⟨rfl, hB U hU hW⟩⟩ rfl (by rw [List.length_map]; exact has) hL.1.1 (by rw [List.map_append, List.map_reverse]) (by show 2 * 0 + _ ≤ 8; omega) hd ⟨r3, r4⟩
  have fin : W p l e R s m args below meth c H locs cells slots QF (F0 m (k9_pc y ix) ls ((as.reverse ++ st).map (k9_mv adr))) := by
    intro T hT X
    obtain ⟨v, st₀, t, T', Lc, h0, X', hLc, e1, e2, ⟨⟨hv, hP1⟩, hz, hk⟩, stp⟩ := hr T hT X
    cases hv
    rw [h0] at hz hk
    have hfr : ∀ q, va_A (k9_ws dT adr I J) H.size q → A q := by
        intro q hq
        rcases hq with ⟨k, e, hq⟩ | hq
        · exact hD.2 k _ hq
        · exact hA q (Nat.le_trans hS.1 hq)
    have kk := kk T'.heap (locs ++ Lc) ls (by rw [e1]; exact hP1) (k9_ws_D hD) ⟨Nat.le_trans hS.1 (by rw [e1]; exact hz), fun q h1 h2 => by rw [e1, hk q (Nat.lt_of_lt_of_le h1 hS.1) (fun z => h2 (hfr q z))]; exact hS.2.1 q h1 h2, fun q hq => by
        rcases List.mem_append.mp hq with h | h
        · exact hS.2.2 q h
        · exact hfr _ (hLc q h)⟩ hL
    rw [hn, ← k9_ps_map] at kk
    obtain ⟨t2, a1, b1⟩ := kk T' rfl X'
    exact ⟨t2, stp t2 a1, b1⟩
  exact fin

theorem k9_x_6_1 {K : k9_K} {S : k9_S} {d ix a b i : Nat} {z : Int32} {L : k9_L} {as st : List k9_v} {I : k9_I} {J : k9_J} {r : Option k9_v} {I1 : k9_I} {J1 : k9_J} (hv : k9_vk (k9_r (k9_mk a) i)) (hM : ∀ l, k9_M l d a (k9_r (k9_mk a) i :: as) I J r I1 J1) (hst4 : Nat.ble st.length 4 = true) (has : as.length = b) (hC : k9_C S (d + 1) K) (hok : k9_okP (k9_y K) ix) (hc : k9_cod (k9_y K) ix = (6, 1, a, b, z)) (kk : k9_G (ix + 1) L (k9_ps r st) I1 J1 K) : k9_G ix L (as.reverse ++ k9_r (k9_mk a) i :: st) I J K := by
  obtain ⟨p, l, e, R, s, m, args, below, meth, c, cells, slots, QF, y, dC, dI, dT, adr, A⟩ := K
  obtain ⟨hx, hb, hml, hown, hts, hns, hK, hST, hA, hR, hScr⟩ := hC
  obtain ⟨hd, hf, hs⟩ := k9_use hok hc
  dsimp only [k9_y] at hc hd hf hs
  intro H locs ls hP hD hS hL
  have hn := hf rfl
  change decode (k9_by y) (k9_pc y ix) = .ok (.invokevirtual (k9_raw y ix).2.2.1, 3) at hd
  change k9_pc y (ix + 1) = k9_pc y ix + 3 at hn
  simp only [k9_sid, Bool.and_eq_true, Bool.not_eq_true', decide_eq_true_eq] at hs
  obtain ⟨⟨⟨hlk, hst⟩, hds⟩, hNM⟩ := hs
  obtain ⟨⟨w1, w2, w3, w4, w5, w6⟩, wS, wI⟩ := k9_mok_all a (Nat.le_of_ble_eq_true hNM)
  obtain ⟨r1, r2, r3, r4⟩ := hR
  have hc9 := k9_cat_le adr st
  have hst4 := Nat.le_of_ble_eq_true hst4
  have hroom : (k9_rm d).frames + 1 ≤ R.frames ∧ 8 + (k9_ml a + 11) + (k9_rm d).locals ≤ R.locals := by
    refine ⟨?_, ?_⟩
    · show d + 1 + 1 ≤ R.frames
      omega
    · show 8 + (k9_ml a + 11) + (50 * d + 50) ≤ R.locals
      omega
  have hM := hM l dC dI dT adr H.size
  have hST' : k9_ST adr (va_A (k9_ws dT adr I J) H.size) s H := by
    have hfr : ∀ q, va_A (k9_ws dT adr I J) H.size q → A q := by
      intro q hq
      rcases hq with ⟨k, e, hq⟩ | hq
      · exact hD.2 k _ hq
      · exact hA q (Nat.le_trans hS.1 hq)
    intro q hq
    exact ⟨((hST q hq).1.kept (fun x h1 h2 => hS.2.1 x h1 h2)).narrow hfr, ((hST q hq).2.kept (fun x h1 h2 => hS.2.1 x h1 h2)).narrow hfr⟩
  have hB : ∀ U : State, U.heap = H → s.WarmedH U.vm → k9_B dC dI dT adr H.size I J U := by
    intro U hU hW
    refine ⟨by rw [hU], by rw [hU]; exact hP, va_K.moved hW.alike hK, hD.weaken (fun _ _ _ _ => trivial), fun w hw => k9_NS_warm hw hW (hns w hw), ?_⟩
    rw [hU]
    exact fun q hq => ⟨va_Z.moved hW.alike (hST' q hq).1, va_T.moved hW.alike (hST' q hq).2⟩
  obtain ⟨wi, wse, wvc, wob, wk0, wk9⟩ := wI hst
  have hcl := k9_kd wob
  obtain ⟨q0, -, hw⟩ := k9_ws_at (dT := dT) (adr := adr) (I := I) (J := J) (k9_ob_ne hv wk0 wk9)
  rw [k9_fs_at wob] at hw
  have hrecv := va_recv hK hP hcl.1 hw
  rw [wvc] at hrecv
  have hmr : k9_mv adr (k9_r (k9_mk a) i) = .ref (adr (k9_mk a) i) := k9_mv_r wk0
  have hr : va_Run p l e R s m args below meth c H locs cells slots 0 0 (F0 m (k9_pc y ix) ls ((as.reverse ++ k9_r (k9_mk a) i :: st).map (k9_mv adr))) (st.map (k9_mv adr)) (k9_Q dC dI dT adr (va_A (k9_ws dT adr I J) H.size) r I1 J1 (.ref (adr (k9_mk a) i) :: as.map (k9_mv adr)).toArray) (va_A (k9_ws dT adr I J) H.size) := by
    rw [List.map_cons, hmr] at hM
    simp only [k9_ml1] at hlk
    split at hlk
    · exact va_runV (As := as.map (k9_mv adr)) (Ts := k9_TB) (own := k9_ow y) (C := (k9_nm a).cls) ⟨hx, hb, hml, hown, hts⟩ hM (cwV b hts (fun w hw => by
        unfold wsV at hw
        rcases List.mem_append.mp hw with hw | hw
        · simp only [List.mem_cons, List.not_mem_nil, or_false] at hw
          rcases hw with rfl | rfl | rfl | rfl
          · exact k9_good (k9_hw_mem hlk)
          · exact k9_good wi
          · exact k9_good wse
          · exact k9_good w2
        · exact k9_wsy_good w1 w hw) rfl rfl rfl ⟨rfl, w4, w5, hds⟩ hroom) ⟨k9_B_blind, hrecv, fun U hU hW => ⟨rfl, hB U hU hW⟩⟩ rfl (by rw [List.length_map]; exact has) hL.1.1 (by rw [List.map_append, List.map_reverse, List.map_cons, hmr]) (by show 2 * 0 + _ ≤ 8; omega) hd ⟨r3, r4⟩
    · exact va_runVN (As := as.map (k9_mv adr)) (Ts := k9_TB) (own := k9_ow y) (C := (k9_nm a).cls) ⟨hx, hb, hml, hown, hts⟩ hM ⟨va_cnB b hts (k9_wsy_good w1) rfl rfl rfl (hns _ (k9_hn_mem hlk)) (hts _ w2) ⟨w4, w5, hds⟩ hroom, hts _ wi, hts _ wse⟩ ⟨k9_B_blind, hrecv, fun U hU hW => ⟨rfl, hB U hU hW⟩⟩ rfl (by rw [List.length_map]; exact has) hL.1.1 (by rw [List.map_append, List.map_reverse, List.map_cons, hmr]) (by show 2 * 0 + _ ≤ 8; omega) hd ⟨r3, r4⟩
  have fin : W p l e R s m args below meth c H locs cells slots QF (F0 m (k9_pc y ix) ls ((as.reverse ++ k9_r (k9_mk a) i :: st).map (k9_mv adr))) := by
    intro T hT X
    obtain ⟨v, st₀, t, T', Lc, h0, X', hLc, e1, e2, ⟨⟨hv, hP1⟩, hz, hk⟩, stp⟩ := hr T hT X
    cases hv
    rw [h0] at hz hk
    have hfr : ∀ q, va_A (k9_ws dT adr I J) H.size q → A q := by
      intro q hq
      rcases hq with ⟨k, e, hq⟩ | hq
      · exact hD.2 k _ hq
      · exact hA q (Nat.le_trans hS.1 hq)
    have kk := kk T'.heap (locs ++ Lc) ls (by rw [e1]; exact hP1) (k9_ws_D hD) ⟨Nat.le_trans hS.1 (by rw [e1]; exact hz), fun q h1 h2 => by rw [e1, hk q (Nat.lt_of_lt_of_le h1 hS.1) (fun z => h2 (hfr q z))]; exact hS.2.1 q h1 h2, fun q hq => by
      rcases List.mem_append.mp hq with h | h
      · exact hS.2.2 q h
      · exact hfr _ (hLc q h)⟩ hL
    rw [hn, ← k9_ps_map] at kk
    obtain ⟨t2, a1, b1⟩ := kk T' rfl X'
    exact ⟨t2, stp t2 a1, b1⟩
  exact fin
