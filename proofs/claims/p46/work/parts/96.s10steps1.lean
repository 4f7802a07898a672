/-! ONE STEP: what the model does at an instruction, the machine does -/
abbrev k9_K : Type := Program × Launch × Env × Room × State × MethodId × Array Value × List Frame × Method × Code × Nat × Nat × (State → Prop) × Nat × (Nat → ClassId) × (Nat → Nat → Nat) × (Nat → ClassId) × (Nat → Nat → Nat) × (Nat → Prop)
def k9_y : k9_K → Nat
  | (_, _, _, _, _, _, _, _, _, _, _, _, _, y, _) => y
def k9_ST (adr : Nat → Nat → Nat) (A : Nat → Prop) (U : State) (H : Heap) : Prop := ∀ q ∈ k9_tabs, va_Z q.2.1 q.2.2.1 q.2.2.2 (.ref (adr q.1 0)) A U H ∧ va_T .int (adr q.1 0) (k9_len q.1) (fun j => .int (k9_tab q.1 j)) A U H
/-- what stands through a method's body -/
def k9_C (S : k9_S) (d : Nat) : k9_K → Prop
  | (p, _, _, R, s, m, args, _, _, c, cells, slots, _, y, dC, dI, dT, adr, A) =>
    p.tables.exec = Jvm.exec ∧ c.code = k9_by y ∧ c.maxLocals = k9_ml y ∧ s.vm.findClass (k9_ow y) = some m.cls ∧ (∀ w ∈ k9_TB, w.before args s = true) ∧ (∀ w ∈ k9_NS, va_Nw w s) ∧ va_K (dC, dI) vwCl (k9_tys dT) s ∧ k9_ST adr A s s.heap ∧ (∀ q, s.heap.size ≤ q → A q) ∧
    (d + 1 ≤ R.frames ∧ 50 * d + 50 ≤ R.locals ∧ cells ≤ R.cells ∧ slots ≤ R.slots) ∧ (y = k9_law → va_X (adr k9_kS 0) S.2 S.1 s s.heap ∧ adr k9_kS 0 < s.heap.size ∧ ¬ A (adr k9_kS 0))
/-- the machine, in any world that shows I and J, with the locals L and the stack st, goes well on from ix -/
def k9_G (ix : Nat) (L : k9_L) (st : List k9_v) (I : k9_I) (J : k9_J) : k9_K → Prop
  | (p, l, e, R, s, m, args, below, meth, c, cells, slots, QF, y, dC, dI, dT, adr, A) => ∀ (H : Heap) (locs : List Loc) (ls : Array Slot), va_P (dC, dI) vwCl (k9_ws dT adr I J) H → va_D A (k9_ws dT adr I J) → va_S A s.heap H locs → k9_Lh adr (k9_ml y) ls L → W p l e R s m args below meth c H locs cells slots QF (F0 m (k9_pc y ix) ls (st.map (k9_mv adr)))
theorem k9_use {y ix : Nat} {q : k9_N} (h : k9_okP y ix) (hc : k9_cod y ix = q) : decode (k9_by y) (k9_pc y ix) = .ok (k9_ins q (k9_raw y ix) (k9_pc y)) ∧ (k9_fal q = true → k9_pc y (ix + 1) = k9_pc y ix + (k9_ins q (k9_raw y ix) (k9_pc y)).2) ∧ k9_sid y q (k9_raw y ix) = true := by
  subst hc
  obtain ⟨h1, h2⟩ := h
  simp only [k9_ok1, Bool.and_eq_true, Bool.or_eq_true, Bool.not_eq_true'] at h2
  refine ⟨h1, fun hf => ?_, h2.2⟩
  rcases h2.1 with h3 | h3
  · rw [hf] at h3; cases h3
  · exact Nat.eq_of_beq_eq_true h3
theorem k9_off {w : k9_W} {tp : Nat → Nat} {a pc : Nat} (h : w.1 = pc) : (pc : Int) + k9_o w tp a = (tp a : Int) := by
  subst h
  unfold k9_o
  omega

theorem k9_hw_mem {w : k9_W} {c : Cond} (h : k9_hw w c = true) : c ∈ k9_TB := k9_TBn_in (k9d_wat_in (of_decide_eq_true h))
theorem k9_hn_mem {w : k9_W} {c : Cond} (h : k9_hn w c = true) : c ∈ k9_NS := List.mem_of_getElem? (of_decide_eq_true h)

theorem k9_x_0_1 {K : k9_K} {S : k9_S} {d ix a b : Nat} {z : Int32} {L : k9_L} {st : List k9_v} {I : k9_I} {J : k9_J}  (hC : k9_C S d K) (hok : k9_okP (k9_y K) ix) (hc : k9_cod (k9_y K) ix = (0, 1, a, b, z))  (kk : k9_G (ix + 1) L (k9_i z :: st) I J K) : k9_G ix L (st) I J K := by
  obtain ⟨p, l, e, R, s, m, args, below, meth, c, cells, slots, QF, y, dC, dI, dT, adr, A⟩ := K
  obtain ⟨hx, hb, hml, hown, hts, hns, hK, hST, hA, hR, hScr⟩ := hC
  obtain ⟨hd, hf, hs⟩ := k9_use hok hc
  dsimp only [k9_y] at hc hd hf hs
  intro H locs ls hP hD hS hL
  have hn := hf rfl
  have kk := kk H locs ls hP hD hS hL
  dsimp only [k9_ins, k9_sid] at hd hn hs
  cases hq : (k9_raw y ix).2.1 with
  | zero =>
    rw [hq] at hd hn hs
    try dsimp only at hd hn hs
    rw [hn] at kk
    exact lv_iconst hx hb hd (of_decide_eq_true hs) kk
  | succ n0 =>
    cases n0 with
    | zero =>
      rw [hq] at hd hn hs
      try dsimp only at hd hn hs
      rw [hn] at kk
      exact lv_bipush hx hb hd (of_decide_eq_true hs) kk
    | succ n1 =>
      cases n1 with
      | zero =>
        rw [hq] at hd hn hs
        try dsimp only at hd hn hs
        rw [hn] at kk
        exact lv_sipush hx hb hd (of_decide_eq_true hs) kk
      | succ n2 =>
        cases n2 with
        | zero =>
          rw [hq] at hd hn hs
          try dsimp only at hd hn hs
          rw [hn] at kk
          exact lv_ldc hx hb hown (hts _ (k9_hw_mem hs)) hd kk
        | succ n3 =>
          rw [hq] at hd hn hs
          try dsimp only at hd hn hs
          rw [hn] at kk
          exact lv_ldcw hx hb hown (hts _ (k9_hw_mem hs)) hd kk

theorem k9_x_0_2 {K : k9_K} {S : k9_S} {d ix a b : Nat} {z : Int32} {L : k9_L} {st : List k9_v} {I : k9_I} {J : k9_J}  (hC : k9_C S d K) (hok : k9_okP (k9_y K) ix) (hc : k9_cod (k9_y K) ix = (0, 2, a, b, z))  (kk : k9_G (ix + 1) L (k9_l (Int64.ofNat a) :: st) I J K) : k9_G ix L (st) I J K := by
  obtain ⟨p, l, e, R, s, m, args, below, meth, c, cells, slots, QF, y, dC, dI, dT, adr, A⟩ := K
  obtain ⟨hx, hb, hml, hown, hts, hns, hK, hST, hA, hR, hScr⟩ := hC
  obtain ⟨hd, hf, hs⟩ := k9_use hok hc
  dsimp only [k9_y] at hc hd hf hs
  intro H locs ls hP hD hS hL
  have hn := hf rfl
  have kk := kk H locs ls hP hD hS hL
  dsimp only [k9_ins, k9_sid] at hd hn hs
  cases hq : (k9_raw y ix).2.1 with
  | zero =>
    rw [hq] at hd hn hs
    try dsimp only at hd hn hs
    rw [hn] at kk
    exact lv_lconst hx hb hd (by have ha := Nat.le_of_ble_eq_true hs; rw [show ((Fin.ofNat 2 a : Fin 2) : Nat) = a from Nat.mod_eq_of_lt ha]) kk
  | succ n0 =>
    rw [hq] at hd hn hs
    try dsimp only at hd hn hs
    rw [hn] at kk
    exact lv_ldc2 hx hb hown (hts _ (k9_hw_mem hs)) hd kk

theorem k9_x_0_3 {K : k9_K} {S : k9_S} {d ix a b : Nat} {z : Int32} {L : k9_L} {st : List k9_v} {I : k9_I} {J : k9_J}  (hC : k9_C S d K) (hok : k9_okP (k9_y K) ix) (hc : k9_cod (k9_y K) ix = (0, 3, a, b, z))  (kk : k9_G (ix + 1) L (k9_r 0 0 :: st) I J K) : k9_G ix L (st) I J K := by
  obtain ⟨p, l, e, R, s, m, args, below, meth, c, cells, slots, QF, y, dC, dI, dT, adr, A⟩ := K
  obtain ⟨hx, hb, hml, hown, hts, hns, hK, hST, hA, hR, hScr⟩ := hC
  obtain ⟨hd, hf, hs⟩ := k9_use hok hc
  dsimp only [k9_y] at hc hd hf hs
  intro H locs ls hP hD hS hL
  have hn := hf rfl
  change decode (k9_by y) (k9_pc y ix) = .ok (.aconst_null, 1) at hd
  change k9_pc y (ix + 1) = k9_pc y ix + 1 at hn
  refine lv_null hx hb hd  ?_
  have := kk H locs ls hP hD hS hL
  rw [hn] at this
  exact this

theorem k9_x_0_4 {K : k9_K} {S : k9_S} {d ix a b : Nat} {z : Int32} {L : k9_L} {st : List k9_v} {I : k9_I} {J : k9_J} {v : Int32} (hv : k9_at L a = some (k9_i v)) (hC : k9_C S d K) (hok : k9_okP (k9_y K) ix) (hc : k9_cod (k9_y K) ix = (0, 4, a, b, z))  (kk : k9_G (ix + 1) L (k9_i v :: st) I J K) : k9_G ix L (st) I J K := by
  obtain ⟨p, l, e, R, s, m, args, below, meth, c, cells, slots, QF, y, dC, dI, dT, adr, A⟩ := K
  obtain ⟨hx, hb, hml, hown, hts, hns, hK, hST, hA, hR, hScr⟩ := hC
  obtain ⟨hd, hf, hs⟩ := k9_use hok hc
  dsimp only [k9_y] at hc hd hf hs
  intro H locs ls hP hD hS hL
  have hn := hf rfl
  have kk := kk H locs ls hP hD hS hL
  dsimp only [k9_ins, k9_sid] at hd hn hs
  cases hq : (k9_raw y ix).2.1 with
  | zero =>
    rw [hq] at hd hn hs
    try dsimp only at hd hn hs
    rw [hn] at kk
    exact lv_iload_n hx hb hd (Nat.mod_eq_of_lt (Nat.le_of_ble_eq_true hs)) (hL.at hv) kk
  | succ n0 =>
    rw [hq] at hd hn hs
    try dsimp only at hd hn hs
    rw [hn] at kk
    exact lv_iload hx hb hd (hL.at hv) kk

theorem k9_x_0_5 {K : k9_K} {S : k9_S} {d ix a b : Nat} {z : Int32} {L : k9_L} {st : List k9_v} {I : k9_I} {J : k9_J} {v : Int64} (hv : k9_at L a = some (k9_l v)) (hC : k9_C S d K) (hok : k9_okP (k9_y K) ix) (hc : k9_cod (k9_y K) ix = (0, 5, a, b, z))  (kk : k9_G (ix + 1) L (k9_l v :: st) I J K) : k9_G ix L (st) I J K := by
  obtain ⟨p, l, e, R, s, m, args, below, meth, c, cells, slots, QF, y, dC, dI, dT, adr, A⟩ := K
  obtain ⟨hx, hb, hml, hown, hts, hns, hK, hST, hA, hR, hScr⟩ := hC
  obtain ⟨hd, hf, hs⟩ := k9_use hok hc
  dsimp only [k9_y] at hc hd hf hs
  intro H locs ls hP hD hS hL
  have hn := hf rfl
  have kk := kk H locs ls hP hD hS hL
  dsimp only [k9_ins, k9_sid] at hd hn hs
  cases hq : (k9_raw y ix).2.1 with
  | zero =>
    rw [hq] at hd hn hs
    try dsimp only at hd hn hs
    rw [hn] at kk
    exact lv_lload_n hx hb hd (Nat.mod_eq_of_lt (Nat.le_of_ble_eq_true hs)) (hL.at hv) kk
  | succ n0 =>
    rw [hq] at hd hn hs
    try dsimp only at hd hn hs
    rw [hn] at kk
    exact lv_lload hx hb hd (hL.at hv) kk

theorem k9_x_0_6 {K : k9_K} {S : k9_S} {d ix a b : Nat} {z : Int32} {L : k9_L} {st : List k9_v} {I : k9_I} {J : k9_J} {v : Nat × Nat} (hv : k9_at L a = some (Sum.inr (Sum.inr v))) (hC : k9_C S d K) (hok : k9_okP (k9_y K) ix) (hc : k9_cod (k9_y K) ix = (0, 6, a, b, z)) (kk : k9_G (ix + 1) L (Sum.inr (Sum.inr v) :: st) I J K) : k9_G ix L st I J K := by
  obtain ⟨p, l, e, R, s, m, args, below, meth, c, cells, slots, QF, y, dC, dI, dT, adr, A⟩ := K
  obtain ⟨hx, hb, hml, hown, hts, hns, hK, hST, hA, hR, hScr⟩ := hC
  obtain ⟨hd, hf, hs⟩ := k9_use hok hc
  dsimp only [k9_y] at hc hd hf hs
  intro H locs ls hP hD hS hL
  have hn := hf rfl
  have kk := kk H locs ls hP hD hS hL
  have hl := hL.at hv
  dsimp only [k9_ins, k9_sid] at hd hn hs
  obtain ⟨k, i⟩ := v
  cases hq : (k9_raw y ix).2.1 with
  | zero =>
    rw [hq] at hd hn hs
    try dsimp only at hd hn hs
    rw [hn] at kk
    cases k with
    | zero => exact lv_aload_nN hx hb hd (Nat.mod_eq_of_lt (Nat.le_of_ble_eq_true hs)) hl kk
    | succ k => exact lv_aload_n hx hb hd (Nat.mod_eq_of_lt (Nat.le_of_ble_eq_true hs)) hl kk
  | succ n =>
    rw [hq] at hd hn hs
    try dsimp only at hd hn hs
    rw [hn] at kk
    cases k with
    | zero => exact lv_aloadN hx hb hd hl kk
    | succ k => exact lv_aload hx hb hd hl kk

theorem k9_lt_nL {adr : Nat → Nat → Nat} {nL : Nat} {ls : Array Slot} {L : k9_L} (h : k9_Lh adr nL ls L) {a : Nat} (ho : k9_so L a = true) : a < nL := by
  rw [← h.2.1]
  exact (k9_so_spec L a ho).1

theorem k9_x_0_7 {K : k9_K} {S : k9_S} {d ix a b : Nat} {z : Int32} {L : k9_L} {st : List k9_v} {I : k9_I} {J : k9_J} {v : Int32} (ho : k9_so L a = true) (hC : k9_C S d K) (hok : k9_okP (k9_y K) ix) (hc : k9_cod (k9_y K) ix = (0, 7, a, b, z)) (kk : k9_G (ix + 1) (k9_set L a (some (k9_i v))) st I J K) : k9_G ix L (k9_i v :: st) I J K := by
  obtain ⟨p, l, e, R, s, m, args, below, meth, c, cells, slots, QF, y, dC, dI, dT, adr, A⟩ := K
  obtain ⟨hx, hb, hml, hown, hts, hns, hK, hST, hA, hR, hScr⟩ := hC
  obtain ⟨hd, hf, hs⟩ := k9_use hok hc
  dsimp only [k9_y] at hc hd hf hs
  intro H locs ls hP hD hS hL
  have hn := hf rfl
  dsimp only [k9_ins, k9_sid] at hd hn hs
  cases hq : (k9_raw y ix).2.1 with
  | zero =>
    rw [hq] at hd hn hs
    try dsimp only at hd hn hs
    refine lv_istore_n hx hb hd (Nat.mod_eq_of_lt (Nat.le_of_ble_eq_true hs)) hL.1 (k9_lt_nL hL ho) rfl (fun ls' h' => ?_)
    have kk := kk H locs ls' hP hD hS (hL.put (v := k9_i v) ho trivial rfl h')
    rw [hn] at kk
    exact kk
  | succ n =>
    rw [hq] at hd hn hs
    try dsimp only at hd hn hs
    refine lv_istore hx hb hd hL.1 (k9_lt_nL hL ho) rfl (fun ls' h' => ?_)
    have kk := kk H locs ls' hP hD hS (hL.put (v := k9_i v) ho trivial rfl h')
    rw [hn] at kk
    exact kk
theorem k9_x_0_8 {K : k9_K} {S : k9_S} {d ix a b : Nat} {z : Int32} {L : k9_L} {st : List k9_v} {I : k9_I} {J : k9_J} {v : Int64} (ho : k9_so L a = true) (h1 : a + 1 < L.length) (hC : k9_C S d K) (hok : k9_okP (k9_y K) ix) (hc : k9_cod (k9_y K) ix = (0, 8, a, b, z)) (kk : k9_G (ix + 1) (k9_set (k9_set L a (some (k9_l v))) (a + 1) none) st I J K) : k9_G ix L (k9_l v :: st) I J K := by
  obtain ⟨p, l, e, R, s, m, args, below, meth, c, cells, slots, QF, y, dC, dI, dT, adr, A⟩ := K
  obtain ⟨hx, hb, hml, hown, hts, hns, hK, hST, hA, hR, hScr⟩ := hC
  obtain ⟨hd, hf, hs⟩ := k9_use hok hc
  dsimp only [k9_y] at hc hd hf hs
  intro H locs ls hP hD hS hL
  have hn := hf rfl
  dsimp only [k9_ins, k9_sid] at hd hn hs
  cases hq : (k9_raw y ix).2.1 with
  | zero =>
    rw [hq] at hd hn hs
    try dsimp only at hd hn hs
    refine lv_lstore_n hx hb hd (Nat.mod_eq_of_lt (Nat.le_of_ble_eq_true hs)) hL.1 (by rw [← hL.2.1]; exact h1) rfl (fun ls' h' => ?_)
    have kk := kk H locs ls' hP hD hS (hL.put2 ho h1 h')
    rw [hn] at kk
    exact kk
  | succ n =>
    rw [hq] at hd hn hs
    try dsimp only at hd hn hs
    refine lv_lstore hx hb hd hL.1 (by rw [← hL.2.1]; exact h1) rfl (fun ls' h' => ?_)
    have kk := kk H locs ls' hP hD hS (hL.put2 ho h1 h')
    rw [hn] at kk
    exact kk
theorem k9_x_0_9 {K : k9_K} {S : k9_S} {d ix a b : Nat} {z : Int32} {L : k9_L} {st : List k9_v} {I : k9_I} {J : k9_J} {v : Nat × Nat} (hv : k9_vk (Sum.inr (Sum.inr v))) (ho : k9_so L a = true) (hC : k9_C S d K) (hok : k9_okP (k9_y K) ix) (hc : k9_cod (k9_y K) ix = (0, 9, a, b, z)) (kk : k9_G (ix + 1) (k9_set L a (some (Sum.inr (Sum.inr v)))) st I J K) : k9_G ix L (Sum.inr (Sum.inr v) :: st) I J K := by
  obtain ⟨p, l, e, R, s, m, args, below, meth, c, cells, slots, QF, y, dC, dI, dT, adr, A⟩ := K
  obtain ⟨hx, hb, hml, hown, hts, hns, hK, hST, hA, hR, hScr⟩ := hC
  obtain ⟨hd, hf, hs⟩ := k9_use hok hc
  dsimp only [k9_y] at hc hd hf hs
  intro H locs ls hP hD hS hL
  have hn := hf rfl
  dsimp only [k9_ins, k9_sid] at hd hn hs
  obtain ⟨k, i⟩ := v
  have key : ∀ ls', lv_has ls' (k9_ml y) ((a, k9_mv adr (k9_r k i)) :: (k9_lv adr 0 L).filter (fun q => !(q.1 == a) && !(q.1 + 1 == a && q.2.category == 2))) → W p l e R s m args below meth c H locs cells slots QF (F0 m (k9_pc y (ix + 1)) ls' (st.map (k9_mv adr))) := fun ls' h' => kk H locs ls' hP hD hS (hL.put (v := k9_r k i) ho hv rfl h')
  rw [hn] at key
  cases hq : (k9_raw y ix).2.1 with
  | zero =>
    rw [hq] at hd hs key
    try dsimp only at hd hs key
    cases k with
    | zero => exact lv_astore_nN hx hb hd (Nat.mod_eq_of_lt (Nat.le_of_ble_eq_true hs)) hL.1 (k9_lt_nL hL ho) rfl key
    | succ k => exact lv_astore_n hx hb hd (Nat.mod_eq_of_lt (Nat.le_of_ble_eq_true hs)) hL.1 (k9_lt_nL hL ho) rfl key
  | succ n =>
    rw [hq] at hd hs key
    try dsimp only at hd hs key
    cases k with
    | zero => exact lv_astoreN hx hb hd hL.1 (k9_lt_nL hL ho) rfl key
    | succ k => exact lv_astore hx hb hd hL.1 (k9_lt_nL hL ho) rfl key
theorem k9_x_0_10 {K : k9_K} {S : k9_S} {d ix a b : Nat} {z : Int32} {L : k9_L} {st : List k9_v} {I : k9_I} {J : k9_J} {v : Int32} (hv : k9_at L a = some (k9_i v)) (ho : k9_so L a = true) (hC : k9_C S d K) (hok : k9_okP (k9_y K) ix) (hc : k9_cod (k9_y K) ix = (0, 10, a, b, z)) (kk : k9_G (ix + 1) (k9_set L a (some (k9_i (v + z)))) st I J K) : k9_G ix L st I J K := by
  obtain ⟨p, l, e, R, s, m, args, below, meth, c, cells, slots, QF, y, dC, dI, dT, adr, A⟩ := K
  obtain ⟨hx, hb, hml, hown, hts, hns, hK, hST, hA, hR, hScr⟩ := hC
  obtain ⟨hd, hf, hs⟩ := k9_use hok hc
  dsimp only [k9_y] at hc hd hf hs
  intro H locs ls hP hD hS hL
  have hn := hf rfl
  dsimp only [k9_ins, k9_sid] at hd hn hs
  obtain ⟨k, hk⟩ := List.getElem?_of_mem ((k9_lv_mem (adr := adr) 0 L).mpr ⟨a, k9_i v, hv, rfl⟩)
  rw [Nat.zero_add] at hk
  refine lv_iinc hx hb hd hL.1 (k := k) hk (by rw [of_decide_eq_true hs]) (k9_lt_nL hL ho) rfl (fun ls' h' => ?_)
  have kk := kk H locs ls' hP hD hS (hL.put (v := k9_i (v + z)) ho trivial rfl h')
  rw [hn] at kk
  exact kk

theorem k9_x_1_0 {K : k9_K} {S : k9_S} {d ix a b : Nat} {z : Int32} {L : k9_L} {st : List k9_v} {I : k9_I} {J : k9_J} {v : k9_v} (hv : k9_isl (some v) = false) (hC : k9_C S d K) (hok : k9_okP (k9_y K) ix) (hc : k9_cod (k9_y K) ix = (1, 0, a, b, z))  (kk : k9_G (ix + 1) L (v :: v :: st) I J K) : k9_G ix L (v :: st) I J K := by
  obtain ⟨p, l, e, R, s, m, args, below, meth, c, cells, slots, QF, y, dC, dI, dT, adr, A⟩ := K
  obtain ⟨hx, hb, hml, hown, hts, hns, hK, hST, hA, hR, hScr⟩ := hC
  obtain ⟨hd, hf, hs⟩ := k9_use hok hc
  dsimp only [k9_y] at hc hd hf hs
  intro H locs ls hP hD hS hL
  have hn := hf rfl
  change decode (k9_by y) (k9_pc y ix) = .ok (.dup, 1) at hd
  change k9_pc y (ix + 1) = k9_pc y ix + 1 at hn
  refine lv_dup hx hb hd (by rw [k9_mv_cat, hv]; rfl) ?_
  have := kk H locs ls hP hD hS hL
  rw [hn] at this
  exact this

theorem k9_x_1_1 {K : k9_K} {S : k9_S} {d ix a b : Nat} {z : Int32} {L : k9_L} {st : List k9_v} {I : k9_I} {J : k9_J} {v : k9_v} (hv : k9_isl (some v) = false) (hC : k9_C S d K) (hok : k9_okP (k9_y K) ix) (hc : k9_cod (k9_y K) ix = (1, 1, a, b, z))  (kk : k9_G (ix + 1) L (st) I J K) : k9_G ix L (v :: st) I J K := by
  obtain ⟨p, l, e, R, s, m, args, below, meth, c, cells, slots, QF, y, dC, dI, dT, adr, A⟩ := K
  obtain ⟨hx, hb, hml, hown, hts, hns, hK, hST, hA, hR, hScr⟩ := hC
  obtain ⟨hd, hf, hs⟩ := k9_use hok hc
  dsimp only [k9_y] at hc hd hf hs
  intro H locs ls hP hD hS hL
  have hn := hf rfl
  change decode (k9_by y) (k9_pc y ix) = .ok (.pop, 1) at hd
  change k9_pc y (ix + 1) = k9_pc y ix + 1 at hn
  refine lv_pop hx hb hd (by rw [k9_mv_cat, hv]; rfl) ?_
  have := kk H locs ls hP hD hS hL
  rw [hn] at this
  exact this

theorem k9_x_1_2 {K : k9_K} {S : k9_S} {d ix a b : Nat} {z : Int32} {L : k9_L} {st : List k9_v} {I : k9_I} {J : k9_J} {v u : k9_v} (hv : k9_isl (some v) = false) (hu : k9_isl (some u) = false) (hC : k9_C S d K) (hok : k9_okP (k9_y K) ix) (hc : k9_cod (k9_y K) ix = (1, 2, a, b, z))  (kk : k9_G (ix + 1) L (v :: u :: v :: st) I J K) : k9_G ix L (v :: u :: st) I J K := by
  obtain ⟨p, l, e, R, s, m, args, below, meth, c, cells, slots, QF, y, dC, dI, dT, adr, A⟩ := K
  obtain ⟨hx, hb, hml, hown, hts, hns, hK, hST, hA, hR, hScr⟩ := hC
  obtain ⟨hd, hf, hs⟩ := k9_use hok hc
  dsimp only [k9_y] at hc hd hf hs
  intro H locs ls hP hD hS hL
  have hn := hf rfl
  change decode (k9_by y) (k9_pc y ix) = .ok (.dup_x1, 1) at hd
  change k9_pc y (ix + 1) = k9_pc y ix + 1 at hn
  refine lv_dup_x1 hx hb hd (by rw [k9_mv_cat, hv]; rfl) (by rw [k9_mv_cat, hu]; rfl) ?_
  have := kk H locs ls hP hD hS hL
  rw [hn] at this
  exact this

theorem k9_x_1_3 {K : k9_K} {S : k9_S} {d ix a b : Nat} {z : Int32} {L : k9_L} {st : List k9_v} {I : k9_I} {J : k9_J} {v u : k9_v} (hv : k9_isl (some v) = false) (hu : k9_isl (some u) = false) (hC : k9_C S d K) (hok : k9_okP (k9_y K) ix) (hc : k9_cod (k9_y K) ix = (1, 3, a, b, z))  (kk : k9_G (ix + 1) L (v :: u :: v :: u :: st) I J K) : k9_G ix L (v :: u :: st) I J K := by
  obtain ⟨p, l, e, R, s, m, args, below, meth, c, cells, slots, QF, y, dC, dI, dT, adr, A⟩ := K
  obtain ⟨hx, hb, hml, hown, hts, hns, hK, hST, hA, hR, hScr⟩ := hC
  obtain ⟨hd, hf, hs⟩ := k9_use hok hc
  dsimp only [k9_y] at hc hd hf hs
  intro H locs ls hP hD hS hL
  have hn := hf rfl
  change decode (k9_by y) (k9_pc y ix) = .ok (.dup2, 1) at hd
  change k9_pc y (ix + 1) = k9_pc y ix + 1 at hn
  refine lv_dup2_11 hx hb hd (by rw [k9_mv_cat, hv]; rfl) (by rw [k9_mv_cat, hu]; rfl) ?_
  have := kk H locs ls hP hD hS hL
  rw [hn] at this
  exact this

theorem k9_x_1_4 {K : k9_K} {S : k9_S} {d ix a b : Nat} {z : Int32} {L : k9_L} {st : List k9_v} {I : k9_I} {J : k9_J} {v : Int64} (hC : k9_C S d K) (hok : k9_okP (k9_y K) ix) (hc : k9_cod (k9_y K) ix = (1, 4, a, b, z))  (kk : k9_G (ix + 1) L (k9_l v :: k9_l v :: st) I J K) : k9_G ix L (k9_l v :: st) I J K := by
  obtain ⟨p, l, e, R, s, m, args, below, meth, c, cells, slots, QF, y, dC, dI, dT, adr, A⟩ := K
  obtain ⟨hx, hb, hml, hown, hts, hns, hK, hST, hA, hR, hScr⟩ := hC
  obtain ⟨hd, hf, hs⟩ := k9_use hok hc
  dsimp only [k9_y] at hc hd hf hs
  intro H locs ls hP hD hS hL
  have hn := hf rfl
  change decode (k9_by y) (k9_pc y ix) = .ok (.dup2, 1) at hd
  change k9_pc y (ix + 1) = k9_pc y ix + 1 at hn
  refine lv_dup2_2 hx hb hd rfl ?_
  have := kk H locs ls hP hD hS hL
  rw [hn] at this
  exact this

theorem k9_x_1_5 {K : k9_K} {S : k9_S} {d ix a b : Nat} {z : Int32} {L : k9_L} {st : List k9_v} {I : k9_I} {J : k9_J} {v : Int64} (hC : k9_C S d K) (hok : k9_okP (k9_y K) ix) (hc : k9_cod (k9_y K) ix = (1, 5, a, b, z))  (kk : k9_G (ix + 1) L (st) I J K) : k9_G ix L (k9_l v :: st) I J K := by
  obtain ⟨p, l, e, R, s, m, args, below, meth, c, cells, slots, QF, y, dC, dI, dT, adr, A⟩ := K
  obtain ⟨hx, hb, hml, hown, hts, hns, hK, hST, hA, hR, hScr⟩ := hC
  obtain ⟨hd, hf, hs⟩ := k9_use hok hc
  dsimp only [k9_y] at hc hd hf hs
  intro H locs ls hP hD hS hL
  have hn := hf rfl
  change decode (k9_by y) (k9_pc y ix) = .ok (.pop2, 1) at hd
  change k9_pc y (ix + 1) = k9_pc y ix + 1 at hn
  refine lv_pop2_2 hx hb hd rfl ?_
  have := kk H locs ls hP hD hS hL
  rw [hn] at this
  exact this

theorem k9_x_1_6 {K : k9_K} {S : k9_S} {d ix a b : Nat} {z : Int32} {L : k9_L} {st : List k9_v} {I : k9_I} {J : k9_J} {v u t : k9_v} (hv : k9_isl (some v) = false) (hu : k9_isl (some u) = false) (ht : k9_isl (some t) = false) (hC : k9_C S d K) (hok : k9_okP (k9_y K) ix) (hc : k9_cod (k9_y K) ix = (1, 6, a, b, z))  (kk : k9_G (ix + 1) L (v :: u :: t :: v :: st) I J K) : k9_G ix L (v :: u :: t :: st) I J K := by
  obtain ⟨p, l, e, R, s, m, args, below, meth, c, cells, slots, QF, y, dC, dI, dT, adr, A⟩ := K
  obtain ⟨hx, hb, hml, hown, hts, hns, hK, hST, hA, hR, hScr⟩ := hC
  obtain ⟨hd, hf, hs⟩ := k9_use hok hc
  dsimp only [k9_y] at hc hd hf hs
  intro H locs ls hP hD hS hL
  have hn := hf rfl
  change decode (k9_by y) (k9_pc y ix) = .ok (.dup_x2, 1) at hd
  change k9_pc y (ix + 1) = k9_pc y ix + 1 at hn
  refine lv_dup_x2 hx hb hd (by rw [k9_mv_cat, hv]; rfl) (by rw [k9_mv_cat, hu]; rfl) (by rw [k9_mv_cat, ht]; rfl) ?_
  have := kk H locs ls hP hD hS hL
  rw [hn] at this
  exact this

theorem k9_x_2_0 {K : k9_K} {S : k9_S} {d ix a b : Nat} {z : Int32} {L : k9_L} {st : List k9_v} {I : k9_I} {J : k9_J} {x y0 : Int32}  (hC : k9_C S d K) (hok : k9_okP (k9_y K) ix) (hc : k9_cod (k9_y K) ix = (2, 0, a, b, z))  (kk : k9_G (ix + 1) L (k9_i (x + y0) :: st) I J K) : k9_G ix L (k9_i y0 :: k9_i x :: st) I J K := by
  obtain ⟨p, l, e, R, s, m, args, below, meth, c, cells, slots, QF, y, dC, dI, dT, adr, A⟩ := K
  obtain ⟨hx, hb, hml, hown, hts, hns, hK, hST, hA, hR, hScr⟩ := hC
  obtain ⟨hd, hf, hs⟩ := k9_use hok hc
  dsimp only [k9_y] at hc hd hf hs
  intro H locs ls hP hD hS hL
  have hn := hf rfl
  change decode (k9_by y) (k9_pc y ix) = .ok (.iadd, 1) at hd
  change k9_pc y (ix + 1) = k9_pc y ix + 1 at hn
  refine lv_iadd hx hb hd  ?_
  have := kk H locs ls hP hD hS hL
  rw [hn] at this
  exact this

theorem k9_x_2_1 {K : k9_K} {S : k9_S} {d ix a b : Nat} {z : Int32} {L : k9_L} {st : List k9_v} {I : k9_I} {J : k9_J} {x y0 : Int32}  (hC : k9_C S d K) (hok : k9_okP (k9_y K) ix) (hc : k9_cod (k9_y K) ix = (2, 1, a, b, z))  (kk : k9_G (ix + 1) L (k9_i (x - y0) :: st) I J K) : k9_G ix L (k9_i y0 :: k9_i x :: st) I J K := by
  obtain ⟨p, l, e, R, s, m, args, below, meth, c, cells, slots, QF, y, dC, dI, dT, adr, A⟩ := K
  obtain ⟨hx, hb, hml, hown, hts, hns, hK, hST, hA, hR, hScr⟩ := hC
  obtain ⟨hd, hf, hs⟩ := k9_use hok hc
  dsimp only [k9_y] at hc hd hf hs
  intro H locs ls hP hD hS hL
  have hn := hf rfl
  change decode (k9_by y) (k9_pc y ix) = .ok (.isub, 1) at hd
  change k9_pc y (ix + 1) = k9_pc y ix + 1 at hn
  refine lv_isub hx hb hd  ?_
  have := kk H locs ls hP hD hS hL
  rw [hn] at this
  exact this

theorem k9_x_2_2 {K : k9_K} {S : k9_S} {d ix a b : Nat} {z : Int32} {L : k9_L} {st : List k9_v} {I : k9_I} {J : k9_J} {x y0 : Int32}  (hC : k9_C S d K) (hok : k9_okP (k9_y K) ix) (hc : k9_cod (k9_y K) ix = (2, 2, a, b, z))  (kk : k9_G (ix + 1) L (k9_i (x * y0) :: st) I J K) : k9_G ix L (k9_i y0 :: k9_i x :: st) I J K := by
  obtain ⟨p, l, e, R, s, m, args, below, meth, c, cells, slots, QF, y, dC, dI, dT, adr, A⟩ := K
  obtain ⟨hx, hb, hml, hown, hts, hns, hK, hST, hA, hR, hScr⟩ := hC
  obtain ⟨hd, hf, hs⟩ := k9_use hok hc
  dsimp only [k9_y] at hc hd hf hs
  intro H locs ls hP hD hS hL
  have hn := hf rfl
  change decode (k9_by y) (k9_pc y ix) = .ok (.imul, 1) at hd
  change k9_pc y (ix + 1) = k9_pc y ix + 1 at hn
  refine lv_imul hx hb hd  ?_
  have := kk H locs ls hP hD hS hL
  rw [hn] at this
  exact this

theorem k9_x_2_3 {K : k9_K} {S : k9_S} {d ix a b : Nat} {z : Int32} {L : k9_L} {st : List k9_v} {I : k9_I} {J : k9_J} {x y0 : Int32} (hy : ¬ y0 = 0) (hC : k9_C S d K) (hok : k9_okP (k9_y K) ix) (hc : k9_cod (k9_y K) ix = (2, 3, a, b, z))  (kk : k9_G (ix + 1) L (k9_i (x / y0) :: st) I J K) : k9_G ix L (k9_i y0 :: k9_i x :: st) I J K := by
  obtain ⟨p, l, e, R, s, m, args, below, meth, c, cells, slots, QF, y, dC, dI, dT, adr, A⟩ := K
  obtain ⟨hx, hb, hml, hown, hts, hns, hK, hST, hA, hR, hScr⟩ := hC
  obtain ⟨hd, hf, hs⟩ := k9_use hok hc
  dsimp only [k9_y] at hc hd hf hs
  intro H locs ls hP hD hS hL
  have hn := hf rfl
  change decode (k9_by y) (k9_pc y ix) = .ok (.idiv, 1) at hd
  change k9_pc y (ix + 1) = k9_pc y ix + 1 at hn
  refine lv_idiv hx hb hd hy ?_
  have := kk H locs ls hP hD hS hL
  rw [hn] at this
  exact this

theorem k9_x_2_4 {K : k9_K} {S : k9_S} {d ix a b : Nat} {z : Int32} {L : k9_L} {st : List k9_v} {I : k9_I} {J : k9_J} {x y0 : Int32} (hy : ¬ y0 = 0) (hC : k9_C S d K) (hok : k9_okP (k9_y K) ix) (hc : k9_cod (k9_y K) ix = (2, 4, a, b, z))  (kk : k9_G (ix + 1) L (k9_i (x - x / y0 * y0) :: st) I J K) : k9_G ix L (k9_i y0 :: k9_i x :: st) I J K := by
  obtain ⟨p, l, e, R, s, m, args, below, meth, c, cells, slots, QF, y, dC, dI, dT, adr, A⟩ := K
  obtain ⟨hx, hb, hml, hown, hts, hns, hK, hST, hA, hR, hScr⟩ := hC
  obtain ⟨hd, hf, hs⟩ := k9_use hok hc
  dsimp only [k9_y] at hc hd hf hs
  intro H locs ls hP hD hS hL
  have hn := hf rfl
  change decode (k9_by y) (k9_pc y ix) = .ok (.irem, 1) at hd
  change k9_pc y (ix + 1) = k9_pc y ix + 1 at hn
  refine lv_irem hx hb hd hy ?_
  have := kk H locs ls hP hD hS hL
  rw [hn] at this
  exact this

theorem k9_x_2_5 {K : k9_K} {S : k9_S} {d ix a b : Nat} {z : Int32} {L : k9_L} {st : List k9_v} {I : k9_I} {J : k9_J} {x y0 : Int32}  (hC : k9_C S d K) (hok : k9_okP (k9_y K) ix) (hc : k9_cod (k9_y K) ix = (2, 5, a, b, z))  (kk : k9_G (ix + 1) L (k9_i (x &&& y0) :: st) I J K) : k9_G ix L (k9_i y0 :: k9_i x :: st) I J K := by
  obtain ⟨p, l, e, R, s, m, args, below, meth, c, cells, slots, QF, y, dC, dI, dT, adr, A⟩ := K
  obtain ⟨hx, hb, hml, hown, hts, hns, hK, hST, hA, hR, hScr⟩ := hC
  obtain ⟨hd, hf, hs⟩ := k9_use hok hc
  dsimp only [k9_y] at hc hd hf hs
  intro H locs ls hP hD hS hL
  have hn := hf rfl
  change decode (k9_by y) (k9_pc y ix) = .ok (.iand, 1) at hd
  change k9_pc y (ix + 1) = k9_pc y ix + 1 at hn
  refine lv_iand hx hb hd  ?_
  have := kk H locs ls hP hD hS hL
  rw [hn] at this
  exact this

theorem k9_x_2_6 {K : k9_K} {S : k9_S} {d ix a b : Nat} {z : Int32} {L : k9_L} {st : List k9_v} {I : k9_I} {J : k9_J} {x y0 : Int32}  (hC : k9_C S d K) (hok : k9_okP (k9_y K) ix) (hc : k9_cod (k9_y K) ix = (2, 6, a, b, z))  (kk : k9_G (ix + 1) L (k9_i (x ||| y0) :: st) I J K) : k9_G ix L (k9_i y0 :: k9_i x :: st) I J K := by
  obtain ⟨p, l, e, R, s, m, args, below, meth, c, cells, slots, QF, y, dC, dI, dT, adr, A⟩ := K
  obtain ⟨hx, hb, hml, hown, hts, hns, hK, hST, hA, hR, hScr⟩ := hC
  obtain ⟨hd, hf, hs⟩ := k9_use hok hc
  dsimp only [k9_y] at hc hd hf hs
  intro H locs ls hP hD hS hL
  have hn := hf rfl
  change decode (k9_by y) (k9_pc y ix) = .ok (.ior, 1) at hd
  change k9_pc y (ix + 1) = k9_pc y ix + 1 at hn
  refine lv_ior hx hb hd  ?_
  have := kk H locs ls hP hD hS hL
  rw [hn] at this
  exact this

theorem k9_x_2_7 {K : k9_K} {S : k9_S} {d ix a b : Nat} {z : Int32} {L : k9_L} {st : List k9_v} {I : k9_I} {J : k9_J} {x y0 : Int32}  (hC : k9_C S d K) (hok : k9_okP (k9_y K) ix) (hc : k9_cod (k9_y K) ix = (2, 7, a, b, z))  (kk : k9_G (ix + 1) L (k9_i (x ^^^ y0) :: st) I J K) : k9_G ix L (k9_i y0 :: k9_i x :: st) I J K := by
  obtain ⟨p, l, e, R, s, m, args, below, meth, c, cells, slots, QF, y, dC, dI, dT, adr, A⟩ := K
  obtain ⟨hx, hb, hml, hown, hts, hns, hK, hST, hA, hR, hScr⟩ := hC
  obtain ⟨hd, hf, hs⟩ := k9_use hok hc
  dsimp only [k9_y] at hc hd hf hs
  intro H locs ls hP hD hS hL
  have hn := hf rfl
  change decode (k9_by y) (k9_pc y ix) = .ok (.ixor, 1) at hd
  change k9_pc y (ix + 1) = k9_pc y ix + 1 at hn
  refine lv_ixor hx hb hd  ?_
  have := kk H locs ls hP hD hS hL
  rw [hn] at this
  exact this

theorem k9_x_2_8 {K : k9_K} {S : k9_S} {d ix a b : Nat} {z : Int32} {L : k9_L} {st : List k9_v} {I : k9_I} {J : k9_J} {x y0 : Int32}  (hC : k9_C S d K) (hok : k9_okP (k9_y K) ix) (hc : k9_cod (k9_y K) ix = (2, 8, a, b, z))  (kk : k9_G (ix + 1) L (k9_i (x <<< (y0 &&& 31)) :: st) I J K) : k9_G ix L (k9_i y0 :: k9_i x :: st) I J K := by
  obtain ⟨p, l, e, R, s, m, args, below, meth, c, cells, slots, QF, y, dC, dI, dT, adr, A⟩ := K
  obtain ⟨hx, hb, hml, hown, hts, hns, hK, hST, hA, hR, hScr⟩ := hC
  obtain ⟨hd, hf, hs⟩ := k9_use hok hc
  dsimp only [k9_y] at hc hd hf hs
  intro H locs ls hP hD hS hL
  have hn := hf rfl
  change decode (k9_by y) (k9_pc y ix) = .ok (.ishl, 1) at hd
  change k9_pc y (ix + 1) = k9_pc y ix + 1 at hn
  refine lv_ishl hx hb hd  ?_
  have := kk H locs ls hP hD hS hL
  rw [hn] at this
  exact this

theorem k9_x_2_9 {K : k9_K} {S : k9_S} {d ix a b : Nat} {z : Int32} {L : k9_L} {st : List k9_v} {I : k9_I} {J : k9_J} {x y0 : Int32}  (hC : k9_C S d K) (hok : k9_okP (k9_y K) ix) (hc : k9_cod (k9_y K) ix = (2, 9, a, b, z))  (kk : k9_G (ix + 1) L (k9_i (x >>> (y0 &&& 31)) :: st) I J K) : k9_G ix L (k9_i y0 :: k9_i x :: st) I J K := by
  obtain ⟨p, l, e, R, s, m, args, below, meth, c, cells, slots, QF, y, dC, dI, dT, adr, A⟩ := K
  obtain ⟨hx, hb, hml, hown, hts, hns, hK, hST, hA, hR, hScr⟩ := hC
  obtain ⟨hd, hf, hs⟩ := k9_use hok hc
  dsimp only [k9_y] at hc hd hf hs
  intro H locs ls hP hD hS hL
  have hn := hf rfl
  change decode (k9_by y) (k9_pc y ix) = .ok (.ishr, 1) at hd
  change k9_pc y (ix + 1) = k9_pc y ix + 1 at hn
  refine lv_ishr hx hb hd  ?_
  have := kk H locs ls hP hD hS hL
  rw [hn] at this
  exact this

theorem k9_x_2_10 {K : k9_K} {S : k9_S} {d ix a b : Nat} {z : Int32} {L : k9_L} {st : List k9_v} {I : k9_I} {J : k9_J} {x y0 : Int32}  (hC : k9_C S d K) (hok : k9_okP (k9_y K) ix) (hc : k9_cod (k9_y K) ix = (2, 10, a, b, z))  (kk : k9_G (ix + 1) L (k9_i ((x.toUInt32 >>> (y0.toUInt32 &&& Int32.toUInt32 31)).toInt32) :: st) I J K) : k9_G ix L (k9_i y0 :: k9_i x :: st) I J K := by
  obtain ⟨p, l, e, R, s, m, args, below, meth, c, cells, slots, QF, y, dC, dI, dT, adr, A⟩ := K
  obtain ⟨hx, hb, hml, hown, hts, hns, hK, hST, hA, hR, hScr⟩ := hC
  obtain ⟨hd, hf, hs⟩ := k9_use hok hc
  dsimp only [k9_y] at hc hd hf hs
  intro H locs ls hP hD hS hL
  have hn := hf rfl
  change decode (k9_by y) (k9_pc y ix) = .ok (.iushr, 1) at hd
  change k9_pc y (ix + 1) = k9_pc y ix + 1 at hn
  refine lv_iushr hx hb hd rfl ?_
  have := kk H locs ls hP hD hS hL
  rw [hn] at this
  exact this

theorem k9_x_3_0 {K : k9_K} {S : k9_S} {d ix a b : Nat} {z : Int32} {L : k9_L} {st : List k9_v} {I : k9_I} {J : k9_J} {x : Int32} (hC : k9_C S d K) (hok : k9_okP (k9_y K) ix) (hc : k9_cod (k9_y K) ix = (3, 0, a, b, z))  (kk : k9_G (ix + 1) L (k9_i (-x) :: st) I J K) : k9_G ix L (k9_i x :: st) I J K := by
  obtain ⟨p, l, e, R, s, m, args, below, meth, c, cells, slots, QF, y, dC, dI, dT, adr, A⟩ := K
  obtain ⟨hx, hb, hml, hown, hts, hns, hK, hST, hA, hR, hScr⟩ := hC
  obtain ⟨hd, hf, hs⟩ := k9_use hok hc
  dsimp only [k9_y] at hc hd hf hs
  intro H locs ls hP hD hS hL
  have hn := hf rfl
  change decode (k9_by y) (k9_pc y ix) = .ok (.ineg, 1) at hd
  change k9_pc y (ix + 1) = k9_pc y ix + 1 at hn
  refine lv_ineg hx hb hd  ?_
  have := kk H locs ls hP hD hS hL
  rw [hn] at this
  exact this

theorem k9_x_3_1 {K : k9_K} {S : k9_S} {d ix a b : Nat} {z : Int32} {L : k9_L} {st : List k9_v} {I : k9_I} {J : k9_J} {x : Int32} (hC : k9_C S d K) (hok : k9_okP (k9_y K) ix) (hc : k9_cod (k9_y K) ix = (3, 1, a, b, z))  (kk : k9_G (ix + 1) L (k9_l x.toInt64 :: st) I J K) : k9_G ix L (k9_i x :: st) I J K := by
  obtain ⟨p, l, e, R, s, m, args, below, meth, c, cells, slots, QF, y, dC, dI, dT, adr, A⟩ := K
  obtain ⟨hx, hb, hml, hown, hts, hns, hK, hST, hA, hR, hScr⟩ := hC
  obtain ⟨hd, hf, hs⟩ := k9_use hok hc
  dsimp only [k9_y] at hc hd hf hs
  intro H locs ls hP hD hS hL
  have hn := hf rfl
  change decode (k9_by y) (k9_pc y ix) = .ok (.i2l, 1) at hd
  change k9_pc y (ix + 1) = k9_pc y ix + 1 at hn
  refine lv_i2l hx hb hd rfl ?_
  have := kk H locs ls hP hD hS hL
  rw [hn] at this
  exact this

theorem k9_x_3_2 {K : k9_K} {S : k9_S} {d ix a b : Nat} {z : Int32} {L : k9_L} {st : List k9_v} {I : k9_I} {J : k9_J} {x : Int64} (hC : k9_C S d K) (hok : k9_okP (k9_y K) ix) (hc : k9_cod (k9_y K) ix = (3, 2, a, b, z))  (kk : k9_G (ix + 1) L (k9_i x.toInt32 :: st) I J K) : k9_G ix L (k9_l x :: st) I J K := by
  obtain ⟨p, l, e, R, s, m, args, below, meth, c, cells, slots, QF, y, dC, dI, dT, adr, A⟩ := K
  obtain ⟨hx, hb, hml, hown, hts, hns, hK, hST, hA, hR, hScr⟩ := hC
  obtain ⟨hd, hf, hs⟩ := k9_use hok hc
  dsimp only [k9_y] at hc hd hf hs
  intro H locs ls hP hD hS hL
  have hn := hf rfl
  change decode (k9_by y) (k9_pc y ix) = .ok (.l2i, 1) at hd
  change k9_pc y (ix + 1) = k9_pc y ix + 1 at hn
  refine lv_l2i hx hb hd rfl ?_
  have := kk H locs ls hP hD hS hL
  rw [hn] at this
  exact this

theorem k9_x_3_3 {K : k9_K} {S : k9_S} {d ix a b : Nat} {z : Int32} {L : k9_L} {st : List k9_v} {I : k9_I} {J : k9_J} {x : Int32} (hC : k9_C S d K) (hok : k9_okP (k9_y K) ix) (hc : k9_cod (k9_y K) ix = (3, 3, a, b, z))  (kk : k9_G (ix + 1) L (k9_i x.toInt8.toInt32 :: st) I J K) : k9_G ix L (k9_i x :: st) I J K := by
  obtain ⟨p, l, e, R, s, m, args, below, meth, c, cells, slots, QF, y, dC, dI, dT, adr, A⟩ := K
  obtain ⟨hx, hb, hml, hown, hts, hns, hK, hST, hA, hR, hScr⟩ := hC
  obtain ⟨hd, hf, hs⟩ := k9_use hok hc
  dsimp only [k9_y] at hc hd hf hs
  intro H locs ls hP hD hS hL
  have hn := hf rfl
  change decode (k9_by y) (k9_pc y ix) = .ok (.i2b, 1) at hd
  change k9_pc y (ix + 1) = k9_pc y ix + 1 at hn
  refine lv_i2b hx hb hd rfl ?_
  have := kk H locs ls hP hD hS hL
  rw [hn] at this
  exact this

theorem k9_x_3_4 {K : k9_K} {S : k9_S} {d ix a b : Nat} {z : Int32} {L : k9_L} {st : List k9_v} {I : k9_I} {J : k9_J} {x : Int32} (hC : k9_C S d K) (hok : k9_okP (k9_y K) ix) (hc : k9_cod (k9_y K) ix = (3, 4, a, b, z))  (kk : k9_G (ix + 1) L (k9_i x.toInt16.toInt32 :: st) I J K) : k9_G ix L (k9_i x :: st) I J K := by
  obtain ⟨p, l, e, R, s, m, args, below, meth, c, cells, slots, QF, y, dC, dI, dT, adr, A⟩ := K
  obtain ⟨hx, hb, hml, hown, hts, hns, hK, hST, hA, hR, hScr⟩ := hC
  obtain ⟨hd, hf, hs⟩ := k9_use hok hc
  dsimp only [k9_y] at hc hd hf hs
  intro H locs ls hP hD hS hL
  have hn := hf rfl
  change decode (k9_by y) (k9_pc y ix) = .ok (.i2s, 1) at hd
  change k9_pc y (ix + 1) = k9_pc y ix + 1 at hn
  refine lv_i2s hx hb hd rfl ?_
  have := kk H locs ls hP hD hS hL
  rw [hn] at this
  exact this

theorem k9_x_3_5 {K : k9_K} {S : k9_S} {d ix a b : Nat} {z : Int32} {L : k9_L} {st : List k9_v} {I : k9_I} {J : k9_J} {x y0 : Int64} (hC : k9_C S d K) (hok : k9_okP (k9_y K) ix) (hc : k9_cod (k9_y K) ix = (3, 5, a, b, z))  (kk : k9_G (ix + 1) L (k9_i (lg_cmp x y0) :: st) I J K) : k9_G ix L (k9_l y0 :: k9_l x :: st) I J K := by
  obtain ⟨p, l, e, R, s, m, args, below, meth, c, cells, slots, QF, y, dC, dI, dT, adr, A⟩ := K
  obtain ⟨hx, hb, hml, hown, hts, hns, hK, hST, hA, hR, hScr⟩ := hC
  obtain ⟨hd, hf, hs⟩ := k9_use hok hc
  dsimp only [k9_y] at hc hd hf hs
  intro H locs ls hP hD hS hL
  have hn := hf rfl
  change decode (k9_by y) (k9_pc y ix) = .ok (.lcmp, 1) at hd
  change k9_pc y (ix + 1) = k9_pc y ix + 1 at hn
  refine W.lcmp hx hb hd  ?_
  have := kk H locs ls hP hD hS hL
  rw [hn] at this
  exact this

theorem k9_x_3_6 {K : k9_K} {S : k9_S} {d ix a b : Nat} {z : Int32} {L : k9_L} {st : List k9_v} {I : k9_I} {J : k9_J} {x y0 : Int64} (hC : k9_C S d K) (hok : k9_okP (k9_y K) ix) (hc : k9_cod (k9_y K) ix = (3, 6, a, b, z))  (kk : k9_G (ix + 1) L (k9_l (x ||| y0) :: st) I J K) : k9_G ix L (k9_l y0 :: k9_l x :: st) I J K := by
  obtain ⟨p, l, e, R, s, m, args, below, meth, c, cells, slots, QF, y, dC, dI, dT, adr, A⟩ := K
  obtain ⟨hx, hb, hml, hown, hts, hns, hK, hST, hA, hR, hScr⟩ := hC
  obtain ⟨hd, hf, hs⟩ := k9_use hok hc
  dsimp only [k9_y] at hc hd hf hs
  intro H locs ls hP hD hS hL
  have hn := hf rfl
  change decode (k9_by y) (k9_pc y ix) = .ok (.lor, 1) at hd
  change k9_pc y (ix + 1) = k9_pc y ix + 1 at hn
  refine lv_lor hx hb hd  ?_
  have := kk H locs ls hP hD hS hL
  rw [hn] at this
  exact this

theorem k9_x_3_7 {K : k9_K} {S : k9_S} {d ix a b : Nat} {z : Int32} {L : k9_L} {st : List k9_v} {I : k9_I} {J : k9_J} {x y0 : Int64} (hC : k9_C S d K) (hok : k9_okP (k9_y K) ix) (hc : k9_cod (k9_y K) ix = (3, 7, a, b, z))  (kk : k9_G (ix + 1) L (k9_l (x &&& y0) :: st) I J K) : k9_G ix L (k9_l y0 :: k9_l x :: st) I J K := by
  obtain ⟨p, l, e, R, s, m, args, below, meth, c, cells, slots, QF, y, dC, dI, dT, adr, A⟩ := K
  obtain ⟨hx, hb, hml, hown, hts, hns, hK, hST, hA, hR, hScr⟩ := hC
  obtain ⟨hd, hf, hs⟩ := k9_use hok hc
  dsimp only [k9_y] at hc hd hf hs
  intro H locs ls hP hD hS hL
  have hn := hf rfl
  change decode (k9_by y) (k9_pc y ix) = .ok (.land, 1) at hd
  change k9_pc y (ix + 1) = k9_pc y ix + 1 at hn
  refine lv_land hx hb hd  ?_
  have := kk H locs ls hP hD hS hL
  rw [hn] at this
  exact this

theorem k9_x_3_8 {K : k9_K} {S : k9_S} {d ix a b : Nat} {z : Int32} {L : k9_L} {st : List k9_v} {I : k9_I} {J : k9_J} {x : Int64} {y0 : Int32} (hC : k9_C S d K) (hok : k9_okP (k9_y K) ix) (hc : k9_cod (k9_y K) ix = (3, 8, a, b, z))  (kk : k9_G (ix + 1) L (k9_l (x <<< (y0.toInt64 &&& 63)) :: st) I J K) : k9_G ix L (k9_i y0 :: k9_l x :: st) I J K := by
  obtain ⟨p, l, e, R, s, m, args, below, meth, c, cells, slots, QF, y, dC, dI, dT, adr, A⟩ := K
  obtain ⟨hx, hb, hml, hown, hts, hns, hK, hST, hA, hR, hScr⟩ := hC
  obtain ⟨hd, hf, hs⟩ := k9_use hok hc
  dsimp only [k9_y] at hc hd hf hs
  intro H locs ls hP hD hS hL
  have hn := hf rfl
  change decode (k9_by y) (k9_pc y ix) = .ok (.lshl, 1) at hd
  change k9_pc y (ix + 1) = k9_pc y ix + 1 at hn
  refine lv_lshl hx hb hd rfl ?_
  have := kk H locs ls hP hD hS hL
  rw [hn] at this
  exact this

theorem k9_x_3_9 {K : k9_K} {S : k9_S} {d ix a b : Nat} {z : Int32} {L : k9_L} {st : List k9_v} {I : k9_I} {J : k9_J} {x y0 : Int64} (hC : k9_C S d K) (hok : k9_okP (k9_y K) ix) (hc : k9_cod (k9_y K) ix = (3, 9, a, b, z))  (kk : k9_G (ix + 1) L (k9_l (x + y0) :: st) I J K) : k9_G ix L (k9_l y0 :: k9_l x :: st) I J K := by
  obtain ⟨p, l, e, R, s, m, args, below, meth, c, cells, slots, QF, y, dC, dI, dT, adr, A⟩ := K
  obtain ⟨hx, hb, hml, hown, hts, hns, hK, hST, hA, hR, hScr⟩ := hC
  obtain ⟨hd, hf, hs⟩ := k9_use hok hc
  dsimp only [k9_y] at hc hd hf hs
  intro H locs ls hP hD hS hL
  have hn := hf rfl
  change decode (k9_by y) (k9_pc y ix) = .ok (.ladd, 1) at hd
  change k9_pc y (ix + 1) = k9_pc y ix + 1 at hn
  refine lv_ladd hx hb hd  ?_
  have := kk H locs ls hP hD hS hL
  rw [hn] at this
  exact this

theorem k9_x_3_10 {K : k9_K} {S : k9_S} {d ix a b : Nat} {z : Int32} {L : k9_L} {st : List k9_v} {I : k9_I} {J : k9_J} {x y0 : Int64} (hC : k9_C S d K) (hok : k9_okP (k9_y K) ix) (hc : k9_cod (k9_y K) ix = (3, 10, a, b, z))  (kk : k9_G (ix + 1) L (k9_l (x * y0) :: st) I J K) : k9_G ix L (k9_l y0 :: k9_l x :: st) I J K := by
  obtain ⟨p, l, e, R, s, m, args, below, meth, c, cells, slots, QF, y, dC, dI, dT, adr, A⟩ := K
  obtain ⟨hx, hb, hml, hown, hts, hns, hK, hST, hA, hR, hScr⟩ := hC
  obtain ⟨hd, hf, hs⟩ := k9_use hok hc
  dsimp only [k9_y] at hc hd hf hs
  intro H locs ls hP hD hS hL
  have hn := hf rfl
  change decode (k9_by y) (k9_pc y ix) = .ok (.lmul, 1) at hd
  change k9_pc y (ix + 1) = k9_pc y ix + 1 at hn
  refine lv_lmul hx hb hd  ?_
  have := kk H locs ls hP hD hS hL
  rw [hn] at this
  exact this
