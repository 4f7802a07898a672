/-! THE MODEL RUNS, SO THE MACHINE DOES -/
def k9_vs (st : List k9_v) : Prop := ∀ v ∈ st, k9_vk v
def k9_vl (L : k9_L) : Prop := ∀ i v, k9_at L i = some v → k9_vk v
theorem k9_vs_c {v : k9_v} {st : List k9_v} (hv : k9_vk v) (h : k9_vs st) : k9_vs (v :: st) := by
  intro u hu
  rcases List.mem_cons.mp hu with rfl | hu
  · exact hv
  · exact h u hu
theorem k9_vs_t {v : k9_v} {st : List k9_v} (h : k9_vs (v :: st)) : k9_vs st := fun u hu => h u (List.mem_cons_of_mem _ hu)
theorem k9_vs_h {v : k9_v} {st : List k9_v} (h : k9_vs (v :: st)) : k9_vk v := h v List.mem_cons_self
theorem k9_vl_s {L : k9_L} {a : Nat} {v : k9_v} (ho : k9_so L a = true) (hv : k9_vk v) (h : k9_vl L) : k9_vl (k9_set L a (some v)) := by
  intro i u hu
  rw [k9_set_at L a _ i (k9_so_spec L a ho).1] at hu
  by_cases hi : i = a
  · rw [if_pos hi] at hu
    cases hu
    exact hv
  · rw [if_neg hi] at hu
    exact h i u hu
theorem k9_vl_n {L : k9_L} {a : Nat} (ha : a < L.length) (h : k9_vl L) : k9_vl (k9_set L a none) := by
  intro i u hu
  rw [k9_set_at L a _ i ha] at hu
  by_cases hi : i = a
  · rw [if_pos hi] at hu; cases hu
  · rw [if_neg hi] at hu
    exact h i u hu
theorem k9_vk_i (x : Int32) : k9_vk (k9_i x) := trivial
theorem k9_vk_l (x : Int64) : k9_vk (k9_l x) := trivial
theorem k9_if {α : Type} {g : Bool} {x : Option α} {r : α} (h : (if g = true then x else none) = some r) : g = true ∧ x = some r := by
  cases g
  · cases h
  · exact ⟨rfl, h⟩
theorem k9_pop_spec : ∀ (n : Nat) (st acc as st' : List k9_v), k9_pop n st acc = some (as, st') → ∃ bs, as = bs.reverse ++ acc ∧ st = bs ++ st' ∧ bs.length = n
  | 0, st, acc, as, st', h => by
    cases h
    exact ⟨[], rfl, rfl, rfl⟩
  | n + 1, [], acc, as, st', h => by cases h
  | n + 1, v :: st, acc, as, st', h => by
    obtain ⟨bs, h1, h2, h3⟩ := k9_pop_spec n st (v :: acc) as st' h
    exact ⟨v :: bs, by rw [h1]; simp, by rw [h2]; rfl, by rw [List.length_cons, h3]⟩
/-- what a return is -/
def k9_isr (y ix : Nat) (r : Option k9_v) : Prop := ∃ h a b x, k9_cod y ix = (6, h, a, b, x) ∧ ((h = 5 ∧ ∃ v, r = some (k9_i v)) ∨ (h = 6 ∧ ∃ v, r = some (k9_i v) ∧ (v = 0 ∨ v = 1)) ∨ (h = 7 ∧ ∃ v, r = some (k9_l v)) ∨ (h = 8 ∧ ∃ v, r = some (Sum.inr (Sum.inr v))) ∨ (h = 9 ∧ r = none))
def k9_E (r : Option k9_v) (I : k9_I) (J : k9_J) (K : k9_K) : Prop := ∀ ix L, k9_isr (k9_y K) ix r → k9_G ix L (k9_ps r []) I J K

/-! what the rows of the tables give -/
theorem k9_swk_map {α : Type} (f : Nat → α) (x : Int32) (b : Nat) : ∀ l : List (Int32 × Nat), k9_swk f x b l = f (k9_swk (fun t => t) x b l)
  | [] => rfl
  | c :: r => by
    by_cases h : x = c.1
    · simp [k9_swk, h]
    · simp only [k9_swk, if_neg h]
      exact k9_swk_map f x b r
theorem k9_okr_v {q : Nat × Nat} (h : k9_okr q = true) : k9_vk (Sum.inr (Sum.inr q)) := by
  simp only [k9_okr, Bool.or_eq_true, decide_eq_true_eq] at h
  rcases h with (h | h) | h
  · exact Or.inl (Nat.eq_of_beq_eq_true h)
  · exact Or.inr (Or.inl h)
  · exact Or.inr (Or.inr h)
theorem k9_fr_v {y ix a b i : Nat} {z : Int32} (hok : k9_okP y ix) (hc : k9_cod y ix = (4, 2, a, b, z)) (hv : k9_vk (k9_r a i)) : k9_vk (Sum.inr (Sum.inr (k9_fr a b i))) := by
  obtain ⟨-, -, hs⟩ := k9_use hok hc
  simp only [k9_sid, Bool.and_eq_true] at hs
  obtain ⟨hs, ht⟩ := hs
  obtain ⟨⟨h0, h9, ho, hb1⟩, -⟩ := k9_fl_spec hs
  have h1 := List.all_eq_true.mp k9_fr_ok (a, i) (k9_ob_ne hv h0 h9)
  have h2 := List.all_eq_true.mp h1 b (List.mem_range.mpr hb1)
  dsimp only at h2
  rw [ht] at h2
  exact k9_okr_v h2
theorem k9_ar_v {k i : Nat} {j : Int32} (hv : k9_vk (k9_r k i)) (he : Nat.beq (k9_et k) 3 = true) (hj : k9_in j (k9_len k) = true) : k9_vk (Sum.inr (Sum.inr (k9_ar k i j.toNatClampNeg))) := by
  have h1 := List.all_eq_true.mp k9_ar_ok (k, i) (k9_ob_ne hv (k9_et_ne he).1 (k9_et_9 he rfl))
  dsimp only at h1
  rw [he] at h1
  have hlt : j.toNatClampNeg < k9_len k := Nat.not_le.mp fun q => k9_in_spec hj (Or.inr q)
  exact k9_okr_v (List.all_eq_true.mp h1 _ (List.mem_range.mpr hlt))
theorem k9_t12 {y ix a b : Nat} {z : Int32} (hok : k9_okP y ix) (hc : k9_cod y ix = (4, 12, a, b, z)) : Nat.ble 9 (k9_et a) = true := by
  obtain ⟨-, -, hs⟩ := k9_use hok hc
  simp only [k9_sid, Bool.and_eq_true] at hs
  rw [Nat.eq_of_beq_eq_true hs.2]
  rfl
theorem k9_isL {y ix h a b : Nat} {z : Int32} (hok : k9_okP y ix) (hc : k9_cod y ix = (4, h, a, b, z)) (hh : h = 15 ∨ h = 16 := by first | exact Or.inl rfl | exact Or.inr rfl) : y = k9_law := by
  obtain ⟨-, -, hs⟩ := k9_use hok hc
  rcases hh with rfl | rfl
  · exact Nat.eq_of_beq_eq_true hs
  · exact Nat.eq_of_beq_eq_true hs
theorem k9_ca_NM0 {y ix a b : Nat} {z : Int32} (hok : k9_okP y ix) (hc : k9_cod y ix = (6, 0, a, b, z)) : a < k9_law := by
  obtain ⟨-, -, hs⟩ := k9_use hok hc
  simp only [k9_sid, Bool.and_eq_true] at hs
  exact Nat.le_of_ble_eq_true hs.2
theorem k9_ca_NM1 {y ix a b : Nat} {z : Int32} (hok : k9_okP y ix) (hc : k9_cod y ix = (6, 1, a, b, z)) : a < k9_law := by
  obtain ⟨-, -, hs⟩ := k9_use hok hc
  simp only [k9_sid, Bool.and_eq_true] at hs
  exact Nat.le_of_ble_eq_true hs.2
theorem k9_lay_v : ∀ {as : List k9_v}, k9_vs as → k9_vl (k9_lay as)
  | [], _ => fun i v h => by cases h
  | Sum.inl x :: r, h => by
    intro i v hv
    cases i with
    | zero => cases hv; trivial
    | succ i => exact k9_lay_v (k9_vs_t h) i v hv
  | Sum.inr (Sum.inl x) :: r, h => by
    intro i v hv
    cases i with
    | zero => cases hv; trivial
    | succ i =>
      cases i with
      | zero => cases hv
      | succ i => exact k9_lay_v (k9_vs_t h) i v hv
  | Sum.inr (Sum.inr x) :: r, h => by
    intro i v hv
    cases i with
    | zero => cases hv; exact k9_vs_h h
    | succ i => exact k9_lay_v (k9_vs_t h) i v hv
theorem k9_pad_at : ∀ (n : Nat) (L : k9_L) (i : Nat) (v : k9_v), k9_at (k9_pad n L) i = some v → k9_at L i = some v
  | 0, _, _, _, h => by cases h
  | n + 1, [], i, v, h => by
    cases i with
    | zero => cases h
    | succ i =>
      have h1 := k9_pad_at n [] i v h
      cases h1
  | n + 1, x :: r, i, v, h => by
    cases i with
    | zero => exact h
    | succ i => exact k9_pad_at n r i v h
theorem k9_pad_len : ∀ (n : Nat) (L : k9_L), (k9_pad n L).length = n
  | 0, _ => rfl
  | n + 1, [] => by rw [k9_pad, List.length_cons, k9_pad_len n []]
  | n + 1, x :: r => by rw [k9_pad, List.length_cons, k9_pad_len n r]
theorem k9_loc_v {z : Nat} {as : List k9_v} (h : k9_vs as) : k9_vl (k9_loc z as) := fun i v hv => k9_lay_v h i v (k9_pad_at _ _ i v hv)
theorem k9_ps_v {r : Option k9_v} {st : List k9_v} (hr : ∀ v, r = some v → k9_vk v) (h : k9_vs st) : k9_vs (k9_ps r st) := by
  cases r with
  | none => exact h
  | some v => exact k9_vs_c (hr v rfl) h
theorem k9_lay_args (adr : Nat → Nat → Nat) : ∀ (as : List k9_v) (n i : Nat) (v : k9_v), k9_at (k9_lay as) i = some v → (n + i, k9_mv adr v) ∈ lv_args n (as.map (k9_mv adr))
  | [], _, _, _, h => by cases h
  | Sum.inl x :: r, n, i, v, h => by
    rw [List.map_cons, lv_args, show (k9_mv adr (Sum.inl x)).category = 1 from rfl]
    cases i with
    | zero => cases h; exact List.mem_cons_self
    | succ i =>
      have h1 := k9_lay_args adr r (n + 1) i v h
      rw [show n + (i + 1) = n + 1 + i by omega]
      exact List.mem_cons_of_mem _ h1
  | Sum.inr (Sum.inl x) :: r, n, i, v, h => by
    rw [List.map_cons, lv_args, show (k9_mv adr (Sum.inr (Sum.inl x))).category = 2 from rfl]
    cases i with
    | zero => cases h; exact List.mem_cons_self
    | succ i =>
      cases i with
      | zero => cases h
      | succ i =>
        have h1 := k9_lay_args adr r (n + 2) i v h
        rw [show n + (i + 1 + 1) = n + 2 + i by omega]
        exact List.mem_cons_of_mem _ h1
  | Sum.inr (Sum.inr x) :: r, n, i, v, h => by
    have hc : (k9_mv adr (Sum.inr (Sum.inr x))).category = 1 := by rw [k9_mv_cat]; rfl
    rw [List.map_cons, lv_args, hc]
    cases i with
    | zero => cases h; exact List.mem_cons_self
    | succ i =>
      have h1 := k9_lay_args adr r (n + 1) i v h
      rw [show n + (i + 1) = n + 1 + i by omega]
      exact List.mem_cons_of_mem _ h1
theorem k9_lay_len (adr : Nat → Nat → Nat) : ∀ as : List k9_v, (lg_sl (as.map (k9_mv adr))).length = (k9_lay as).length
  | [] => rfl
  | Sum.inl x :: r => by
    have h := k9_lay_len adr r
    simp only [lg_sl] at h ⊢
    rw [List.map_cons, List.flatMap_cons, List.length_append, h, show (k9_mv adr (Sum.inl x)).category = 1 from rfl]
    simp only [k9_lay, List.length_cons]
    rw [if_neg (by decide)]
    simp only [List.length_cons, List.length_nil]
    omega
  | Sum.inr (Sum.inl x) :: r => by
    have h := k9_lay_len adr r
    simp only [lg_sl] at h ⊢
    rw [List.map_cons, List.flatMap_cons, List.length_append, h, show (k9_mv adr (Sum.inr (Sum.inl x))).category = 2 from rfl]
    simp only [k9_lay, List.length_cons]
    rw [if_pos (by trivial)]
    simp only [List.length_cons, List.length_nil]
    omega
  | Sum.inr (Sum.inr x) :: r => by
    have h := k9_lay_len adr r
    have hc : (k9_mv adr (Sum.inr (Sum.inr x))).category = 1 := by rw [k9_mv_cat]; rfl
    simp only [lg_sl] at h ⊢
    rw [List.map_cons, List.flatMap_cons, List.length_append, h, hc]
    simp only [k9_lay, List.length_cons]
    rw [if_neg (by decide)]
    simp only [List.length_cons, List.length_nil]
    omega
set_option maxHeartbeats 1000000 in
theorem k9_M_of {S : k9_S} {l : Launch} {d z : Nat} {as : List k9_v} {I : k9_I} {J : k9_J} {r : Option k9_v} {I1 : k9_I} {J1 : k9_J} (hz : z < k9_law) (hlen : Nat.ble (k9_lay as).length (k9_ml z) = true) (hva : k9_vs as) (hG : ∀ K, k9_y K = z → k9_C S d K → k9_E r I1 J1 K → k9_G 0 (k9_loc z as) [] I J K) : k9_M l d z as I J r I1 J1 := by
  obtain ⟨⟨w1, w2, w3, w4, w5, w6⟩, wS, wI⟩ := k9_mok_all z hz
  have hlen := Nat.le_of_ble_eq_true hlen
  intro dC dI dT adr sz
  refine Met.ofW (cc := k9_by z) (maxL := k9_ml z) (ret := k9_rt z) w3 rfl ?_
  intro p e s m args below meth c s₁ B hml hv
  obtain ⟨rfl, hsz, hP, hK, hD0, hns, hST⟩ := hv
  have hx := B.exec
  have hb := B.bytes
  have hr := B.returns
  have hts := atoms_spec (ws := k9_wsy z) B.pre
  have hts' : ∀ w ∈ k9_TB, w.before (as.map (k9_mv adr)).toArray s = true := fun w hw => hts w (List.mem_cons_of_mem _ hw)
  have hown : s.vm.findClass (k9_ow z) = some m.cls := findClass_of_methodNamed B.named
  have hlocks := B.notSynchronized
  subst hsz
  have hD := hD0.self (sz := s.heap.size)
  have hl := lv_entry (as.map (k9_mv adr)) (n := k9_ml z) (by rw [k9_lay_len]; exact hlen)
  rw [lg_entry_eq]
  generalize (lg_sl (as.map (k9_mv adr)) ++ List.replicate (k9_ml z - (lg_sl (as.map (k9_mv adr))).length) Slot.unset).toArray = ls at hl ⊢
  have hL : k9_Lh adr (k9_ml z) ls (k9_loc z as) := by
    refine ⟨⟨hl.1, hl.2.1, fun q hq => ?_⟩, k9_pad_len _ _, k9_loc_v hva⟩
    obtain ⟨i, v, hv, rfl⟩ := (k9_lv_mem 0 _).mp hq
    exact hl.2.2 _ (k9_lay_args adr as 0 i v (k9_pad_at _ _ i v hv))
  have hC : k9_C S d (p, l, e, (headSpec (k9_wsy z) (k9_rm d)).room, s, m, (as.map (k9_mv adr)).toArray, below, meth, c, 0, 0, MQ below (k9_Q dC dI dT adr (va_A (k9_ws dT adr I J) s.heap.size) r I1 J1) (as.map (k9_mv adr)).toArray s 0 0 (va_A (k9_ws dT adr I J) s.heap.size), z, dC, dI, dT, adr, va_A (k9_ws dT adr I J) s.heap.size) :=
    ⟨hx, hb, hml, hown, hts', hns, hK, hST, fun q h => Or.inr h, ⟨Nat.le_refl _, Nat.le_refl _, Nat.zero_le _, Nat.zero_le _⟩, fun h => absurd h (Nat.ne_of_lt hz)⟩
  have hpc0 : k9_pc z 0 = 0 := k9_pc0 z (Nat.lt_succ_of_lt hz)
  have key := hG _ rfl hC ?_ s.heap [] ls hP hD va_S.rf hL
  · rw [hpc0] at key
    exact key
  · rintro ix L ⟨h, a, b, x, hc, hcase⟩ H locs ls' hP' hD' hS' hL'
    have hok : k9_okP z ix := k9_all z ix (Nat.lt_succ_of_lt hz) (by rw [show k9_cod z ix = _ from hc]; intro q; cases q)
    have hc : k9_cod z ix = (6, h, a, b, x) := hc
    obtain ⟨hd, -, hs⟩ := k9_use hok hc
    rcases hcase with ⟨rfl, v, rfl⟩ | ⟨rfl, v, rfl, h01⟩ | ⟨rfl, v, rfl⟩ | ⟨rfl, v, rfl⟩ | ⟨rfl, rfl⟩
    · have hs : k9_rt z = some .int := of_decide_eq_true hs
      exact W.iret (v := v) hx hb (hr.trans hs) (fun t ht hW => ⟨⟨rfl, by rw [ht]; exact hP'⟩, hS'.F ht⟩) hS'.2.2 hd
    · have hs : k9_rt z = some .boolean := of_decide_eq_true hs
      exact W.zret (v := v) hx hb (hr.trans hs) (by rcases h01 with rfl | rfl <;> rfl) (fun t ht hW => ⟨⟨rfl, by rw [ht]; exact hP'⟩, hS'.F ht⟩) hS'.2.2 hd
    · have hs : k9_rt z = some .long := of_decide_eq_true hs
      exact W.lret (v := v) hx hb (hr.trans hs) (fun t ht hW => ⟨⟨rfl, by rw [ht]; exact hP'⟩, hS'.F ht⟩) hS'.2.2 hd
    · simp only [k9_sid] at hs
      split at hs
      · rename_i nm hrt
        obtain ⟨k, i⟩ := v
        have hvv : va_rf (k9_rf adr (k, i)) = .null ∨ ∃ a, va_rf (k9_rf adr (k, i)) = .ref a := by
          cases k with
          | zero => exact Or.inl rfl
          | succ k => exact Or.inr ⟨_, rfl⟩
        exact W.aret (v := va_rf (k9_rf adr (k, i))) hx hb (hr.trans hrt) (Or.inl ⟨_, rfl⟩) hvv (fun t ht hW => ⟨⟨rfl, by rw [ht]; exact hP'⟩, hS'.F ht⟩) hS'.2.2 hd
      · cases hs
    · have hs : k9_rt z = none := of_decide_eq_true hs
      exact W.vret hx hb (hr.trans hs) (fun t ht hW => ⟨⟨rfl, by rw [ht]; exact hP'⟩, hS'.F ht⟩) hS'.2.2 hd
