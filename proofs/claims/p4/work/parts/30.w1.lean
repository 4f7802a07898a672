/-! WORK -/
def k9_Wk (I : k9_I) (i : Nat) (w : Nat → Nat → Nat) : Prop :=
  I 3 i 0 = nI (w 7 0) ∧ I 3 i 1 = nI (w 4 0) ∧ I 3 i 2 = nI (w 5 0) ∧ I 3 i 3 = nI (w 6 0) ∧
  ∀ p, p < w 7 0 → I 20 i p = nI (w 0 p) ∧ I 21 i p = nI (w 1 p) ∧ I 22 i p = nI (w 2 p) ∧ I 23 i p = nI (w 3 p)
def k9_wf (w : Nat → Nat → Nat) : Prop := w 7 0 ≤ 6 ∧ w 4 0 ≤ 4 ∧ w 5 0 ≤ 9 ∧ w 6 0 ≤ 1 ∧ ∀ p, p < w 7 0 → 1 ≤ w 0 p ∧ w 0 p ≤ 99 ∧ 1 ≤ w 1 p ∧ w 1 p ≤ 18 ∧ w 2 p ≤ 60 ∧ w 3 p ≤ 9
def p_tk (w : Nat → Nat → Nat) (p : Nat) : Nat := w 2 p + (w 0 p + w 1 p - 1) / w 1 p
def p_st (w : Nat → Nat → Nat) : Nat → Nat
  | 0 => 0
  | k + 1 => p_st w k + p_tk w k
def p_sm (r : Nat → Nat) : Nat → Nat
  | 0 => 0
  | k + 1 => p_sm r k + r k
def p_len (w : Nat → Nat → Nat) : Nat := p_st w (w 7 0)
theorem p_tk_le {w : Nat → Nat → Nat} (h : k9_wf w) {p : Nat} (hp : p < w 7 0) : 1 ≤ p_tk w p ∧ p_tk w p ≤ 159 := by
  obtain ⟨-, -, -, -, h⟩ := h
  obtain ⟨h1, h2, h3, h4, h5, h6⟩ := h p hp
  unfold p_tk
  have a : 1 ≤ (w 0 p + w 1 p - 1) / w 1 p := (Nat.one_le_div_iff h3).mpr (by omega)
  have b : (w 0 p + w 1 p - 1) / w 1 p ≤ w 0 p := by
    apply Nat.le_of_lt_succ
    apply Nat.div_lt_of_lt_mul
    have : w 0 p * 1 ≤ w 0 p * w 1 p := Nat.mul_le_mul_left _ h3
    have e : w 1 p * (w 0 p).succ = w 0 p * w 1 p + w 1 p := by rw [Nat.mul_succ, Nat.mul_comm]
    omega
  omega
theorem p_st_le {w : Nat → Nat → Nat} (h : k9_wf w) : ∀ k, k ≤ w 7 0 → p_st w k ≤ 159 * k
  | 0, _ => Nat.le_refl _
  | k + 1, hk => by
    have h1 := p_st_le h k (by omega)
    have h2 := (p_tk_le h (p := k) (by omega)).2
    unfold p_st
    omega
theorem p_st_b {w : Nat → Nat → Nat} (h : k9_wf w) {k : Nat} (hk : k ≤ w 7 0) : p_st w k ≤ 954 := by
  have h1 := p_st_le h k hk
  have h2 := h.1
  omega
theorem p_len_b {w : Nat → Nat → Nat} (h : k9_wf w) : p_len w ≤ 954 := p_st_b h (Nat.le_refl _)
theorem p_st_mono {w : Nat → Nat → Nat} {a b : Nat} (hab : a ≤ b) : p_st w a ≤ p_st w b := by
  induction hab with
  | refl => exact Nat.le_refl _
  | step _ ih => exact Nat.le_trans ih (Nat.le_add_right _ _)
theorem p_sm_le {r : Nat → Nat} {m n : Nat} (h : ∀ p, p < n → r p ≤ m) : ∀ k, k ≤ n → p_sm r k ≤ m * k
  | 0, _ => Nat.le_refl _
  | k + 1, hk => by
    have h1 := p_sm_le h k (by omega)
    have h2 := h k (by omega)
    have h3 : m * (k + 1) = m * k + m := Nat.mul_succ m k
    unfold p_sm
    omega
theorem p_sm0_b {w : Nat → Nat → Nat} (h : k9_wf w) {k : Nat} (hk : k ≤ w 7 0) : p_sm (w 0) k ≤ 594 := by
  have h1 := p_sm_le (r := w 0) (m := 99) (fun p hp => (h.2.2.2.2 p hp).2.1) k hk
  have h2 := h.1
  omega
theorem p_sm3_b {w : Nat → Nat → Nat} (h : k9_wf w) {k : Nat} (hk : k ≤ w 7 0) : p_sm (w 3) k ≤ 54 := by
  have h1 := p_sm_le (r := w 3) (m := 9) (fun p hp => (h.2.2.2.2 p hp).2.2.2.2.2) k hk
  have h2 := h.1
  omega
section KW
variable {S : k9_S} {d : Nat} {I : k9_I} {J : k9_J} {i0 i1 i2 : Nat} {w : Nat → Nat → Nat}
theorem k9s_3 {p n : Nat} (hn : I 3 i0 0 = nI n) (h6 : n ≤ 6) (hp : p < n) : k9_R S d 3 0 [some (k9_r 3 i0), some (k9_i (nI p))] [] I J = some (some (k9_i 0), I, J) := by
  refine k9o_of ?_
  simp (disch := omega) only [k9e_3_0, k9e_3_2, k9e_3_6, k9e_3_9, k9e_3_11, k9e_3_12, Nat.reduceEqDiff, Int.reduceEq, Int.reduceLT, Int.reduceLE, k9_ps_s, k9_ps_n, k9_ur, false_and, and_false, true_and, and_true, true_or, or_true, false_or, or_false, eq_self, ↓reduceIte, not_true_eq_false, not_false_eq_true, n_toInt, n_cl, nI_1, nI_add, n_a0, n_p2, n_p3, n_p4, n_x2, n_x3, n_x4, n_x60, n_x100, n_pm1, k9L_m2, k9L_m1, k9L_0, k9L_1, k9L_2, k9L_3, k9L_4, k9L_5, k9L_6, k9L_7, k9L_8, k9L_9, k9L_10, k9L_20, k9L_23, k9L_24, k9L_30, k9L_40, k9L_50, k9L_60, k9L_99, k9L_100, k9L_120, k9L_255, k9L_999, k9L_1000, k9_bs, k9_ba, hn]
  repeat (first | ((with_reducible refine k9q_T ?_ ?_); · omega) | ((with_reducible refine k9q_F ?_ ?_); · omega) | ((with_reducible refine k9q_Tb ?_ ?_); · omega) | ((with_reducible refine k9q_Fb ?_ ?_); · omega) | simp (disch := omega) only [k9e_3_0, k9e_3_2, k9e_3_6, k9e_3_9, k9e_3_11, k9e_3_12, Nat.reduceEqDiff, Int.reduceEq, Int.reduceLT, Int.reduceLE, k9_ps_s, k9_ps_n, k9_ur, false_and, and_false, true_and, and_true, true_or, or_true, false_or, or_false, eq_self, ↓reduceIte, not_true_eq_false, not_false_eq_true, n_toInt, n_cl, nI_1, nI_add, n_a0, n_p2, n_p3, n_p4, n_x2, n_x3, n_x4, n_x60, n_x100, n_pm1, k9L_m2, k9L_m1, k9L_0, k9L_1, k9L_2, k9L_3, k9L_4, k9L_5, k9L_6, k9L_7, k9L_8, k9L_9, k9L_10, k9L_20, k9L_23, k9L_24, k9L_30, k9L_40, k9L_50, k9L_60, k9L_99, k9L_100, k9L_120, k9L_255, k9L_999, k9L_1000, k9_bs, k9_ba, hn])
  exact k9o_ret rfl
theorem k9s_3x {x : Int32} {n : Nat} (hn : I 3 i0 0 = nI n) (h6 : n ≤ 6) (hp : ¬ (0 ≤ x.toInt ∧ x.toInt < n)) : k9_R S d 3 0 [some (k9_r 3 i0), some (k9_i x)] [] I J = some (some (k9_i 1), I, J) := by
  refine k9o_of ?_
  simp (disch := omega) only [k9e_3_0, k9e_3_2, k9e_3_6, k9e_3_9, k9e_3_11, k9e_3_12, Nat.reduceEqDiff, Int.reduceEq, Int.reduceLT, Int.reduceLE, k9_ps_s, k9_ps_n, k9_ur, false_and, and_false, true_and, and_true, true_or, or_true, false_or, or_false, eq_self, ↓reduceIte, not_true_eq_false, not_false_eq_true, n_toInt, n_cl, nI_1, nI_add, n_a0, n_p2, n_p3, n_p4, n_x2, n_x3, n_x4, n_x60, n_x100, n_pm1, k9L_m2, k9L_m1, k9L_0, k9L_1, k9L_2, k9L_3, k9L_4, k9L_5, k9L_6, k9L_7, k9L_8, k9L_9, k9L_10, k9L_20, k9L_23, k9L_24, k9L_30, k9L_40, k9L_50, k9L_60, k9L_99, k9L_100, k9L_120, k9L_255, k9L_999, k9L_1000, k9_bs, k9_ba, hn]
  refine k9o_if (fun h => ?_) (fun h => ?_)
  · exact k9o_ret rfl
  · repeat (first | ((with_reducible refine k9q_T ?_ ?_); · omega) | ((with_reducible refine k9q_F ?_ ?_); · omega) | ((with_reducible refine k9q_Tb ?_ ?_); · omega) | ((with_reducible refine k9q_Fb ?_ ?_); · omega))
    exact k9o_ret rfl
theorem k9s_9 {p : Nat} (hW : k9_Wk I i0 w) (hf : k9_wf w) (hp : p < w 7 0) : k9_R S (d + 1) 9 0 [some (k9_r 3 i0), some (k9_i (nI p))] [] I J = some (some (k9_i (nI (p_tk w p))), I, J) := by
  have h6 := hf.1
  obtain ⟨a0, a1, a2, a3⟩ := hW.2.2.2.2 p hp
  obtain ⟨b1, b2, b3, b4, b5, b6⟩ := hf.2.2.2.2 p hp
  refine k9o_of ?_
  simp (disch := omega) only [k9e_9_0, k9e_9_3, k9e_9_4, k9e_9_8, k9e_9_10, k9e_9_12, k9e_9_16, k9e_9_20, k9e_9_24, k9e_9_31, k9e_9_32, Nat.reduceEqDiff, Int.reduceEq, Int.reduceLT, Int.reduceLE, k9_ps_s, k9_ps_n, k9_ur, false_and, and_false, true_and, and_true, true_or, or_true, false_or, or_false, eq_self, ↓reduceIte, not_true_eq_false, not_false_eq_true, n_toInt, n_cl, nI_1, nI_add, n_a0, n_p2, n_p3, n_p4, n_x2, n_x3, n_x4, n_x60, n_x100, n_pm1, k9L_m2, k9L_m1, k9L_0, k9L_1, k9L_2, k9L_3, k9L_4, k9L_5, k9L_6, k9L_7, k9L_8, k9L_9, k9L_10, k9L_20, k9L_23, k9L_24, k9L_30, k9L_40, k9L_50, k9L_60, k9L_99, k9L_100, k9L_120, k9L_255, k9L_999, k9L_1000, k9_bs, k9_ba, hW.1, a0, a1, a2]
  repeat (first | ((with_reducible refine k9q_T ?_ ?_); · omega) | ((with_reducible refine k9q_F ?_ ?_); · omega) | ((with_reducible refine k9q_Tb ?_ ?_); · omega) | ((with_reducible refine k9q_Fb ?_ ?_); · omega) | (refine k9o_call (k9s_3 hW.1 hf.1 hp) ?_; simp (disch := omega) only [k9e_9_0, k9e_9_3, k9e_9_4, k9e_9_8, k9e_9_10, k9e_9_12, k9e_9_16, k9e_9_20, k9e_9_24, k9e_9_31, k9e_9_32, Nat.reduceEqDiff, Int.reduceEq, Int.reduceLT, Int.reduceLE, k9_ps_s, k9_ps_n, k9_ur, false_and, and_false, true_and, and_true, true_or, or_true, false_or, or_false, eq_self, ↓reduceIte, not_true_eq_false, not_false_eq_true, n_toInt, n_cl, nI_1, nI_add, n_a0, n_p2, n_p3, n_p4, n_x2, n_x3, n_x4, n_x60, n_x100, n_pm1, k9L_m2, k9L_m1, k9L_0, k9L_1, k9L_2, k9L_3, k9L_4, k9L_5, k9L_6, k9L_7, k9L_8, k9L_9, k9L_10, k9L_20, k9L_23, k9L_24, k9L_30, k9L_40, k9L_50, k9L_60, k9L_99, k9L_100, k9L_120, k9L_255, k9L_999, k9L_1000, k9_bs, k9_ba, hW.1, a0, a1, a2]) | simp (disch := omega) only [k9e_9_0, k9e_9_3, k9e_9_4, k9e_9_8, k9e_9_10, k9e_9_12, k9e_9_16, k9e_9_20, k9e_9_24, k9e_9_31, k9e_9_32, Nat.reduceEqDiff, Int.reduceEq, Int.reduceLT, Int.reduceLE, k9_ps_s, k9_ps_n, k9_ur, false_and, and_false, true_and, and_true, true_or, or_true, false_or, or_false, eq_self, ↓reduceIte, not_true_eq_false, not_false_eq_true, n_toInt, n_cl, nI_1, nI_add, n_a0, n_p2, n_p3, n_p4, n_x2, n_x3, n_x4, n_x60, n_x100, n_pm1, k9L_m2, k9L_m1, k9L_0, k9L_1, k9L_2, k9L_3, k9L_4, k9L_5, k9L_6, k9L_7, k9L_8, k9L_9, k9L_10, k9L_20, k9L_23, k9L_24, k9L_30, k9L_40, k9L_50, k9L_60, k9L_99, k9L_100, k9L_120, k9L_255, k9L_999, k9L_1000, k9_bs, k9_ba, hW.1, a0, a1, a2])
  rw [n_s1 (by omega), n_div (by omega) (by omega) (by omega), nI_add]
  exact k9o_ret rfl
theorem k9s_9x {p : Nat} (hW : k9_Wk I i0 w) (hf : k9_wf w) (hp : ¬ p < w 7 0) (hp2 : p < 100) : k9_R S (d + 1) 9 0 [some (k9_r 3 i0), some (k9_i (nI p))] [] I J = some (some (k9_i 0), I, J) := by
  refine k9o_of ?_
  simp (disch := omega) only [k9e_9_0, k9e_9_3, k9e_9_4, k9e_9_8, k9e_9_10, k9e_9_12, k9e_9_16, k9e_9_20, k9e_9_24, k9e_9_31, k9e_9_32, Nat.reduceEqDiff, Int.reduceEq, Int.reduceLT, Int.reduceLE, k9_ps_s, k9_ps_n, k9_ur, false_and, and_false, true_and, and_true, true_or, or_true, false_or, or_false, eq_self, ↓reduceIte, not_true_eq_false, not_false_eq_true, n_toInt, n_cl, nI_1, nI_add, n_a0, n_p2, n_p3, n_p4, n_x2, n_x3, n_x4, n_x60, n_x100, n_pm1, k9L_m2, k9L_m1, k9L_0, k9L_1, k9L_2, k9L_3, k9L_4, k9L_5, k9L_6, k9L_7, k9L_8, k9L_9, k9L_10, k9L_20, k9L_23, k9L_24, k9L_30, k9L_40, k9L_50, k9L_60, k9L_99, k9L_100, k9L_120, k9L_255, k9L_999, k9L_1000, k9_bs, k9_ba, hW.1]
  repeat (first | ((with_reducible refine k9q_T ?_ ?_); · omega) | ((with_reducible refine k9q_F ?_ ?_); · omega) | ((with_reducible refine k9q_Tb ?_ ?_); · omega) | ((with_reducible refine k9q_Fb ?_ ?_); · omega) | (refine k9o_call (k9s_3x hW.1 hf.1 (by rw [n_toInt (by omega)]; omega)) ?_; simp (disch := omega) only [k9e_9_0, k9e_9_3, k9e_9_4, k9e_9_8, k9e_9_10, k9e_9_12, k9e_9_16, k9e_9_20, k9e_9_24, k9e_9_31, k9e_9_32, Nat.reduceEqDiff, Int.reduceEq, Int.reduceLT, Int.reduceLE, k9_ps_s, k9_ps_n, k9_ur, false_and, and_false, true_and, and_true, true_or, or_true, false_or, or_false, eq_self, ↓reduceIte, not_true_eq_false, not_false_eq_true, n_toInt, n_cl, nI_1, nI_add, n_a0, n_p2, n_p3, n_p4, n_x2, n_x3, n_x4, n_x60, n_x100, n_pm1, k9L_m2, k9L_m1, k9L_0, k9L_1, k9L_2, k9L_3, k9L_4, k9L_5, k9L_6, k9L_7, k9L_8, k9L_9, k9L_10, k9L_20, k9L_23, k9L_24, k9L_30, k9L_40, k9L_50, k9L_60, k9L_99, k9L_100, k9L_120, k9L_255, k9L_999, k9L_1000, k9_bs, k9_ba, hW.1]) | simp (disch := omega) only [k9e_9_0, k9e_9_3, k9e_9_4, k9e_9_8, k9e_9_10, k9e_9_12, k9e_9_16, k9e_9_20, k9e_9_24, k9e_9_31, k9e_9_32, Nat.reduceEqDiff, Int.reduceEq, Int.reduceLT, Int.reduceLE, k9_ps_s, k9_ps_n, k9_ur, false_and, and_false, true_and, and_true, true_or, or_true, false_or, or_false, eq_self, ↓reduceIte, not_true_eq_false, not_false_eq_true, n_toInt, n_cl, nI_1, nI_add, n_a0, n_p2, n_p3, n_p4, n_x2, n_x3, n_x4, n_x60, n_x100, n_pm1, k9L_m2, k9L_m1, k9L_0, k9L_1, k9L_2, k9L_3, k9L_4, k9L_5, k9L_6, k9L_7, k9L_8, k9L_9, k9L_10, k9L_20, k9L_23, k9L_24, k9L_30, k9L_40, k9L_50, k9L_60, k9L_99, k9L_100, k9L_120, k9L_255, k9L_999, k9L_1000, k9_bs, k9_ba, hW.1])
  exact k9o_ret rfl
theorem k9s_10 (hW : k9_Wk I i0 w) (hf : k9_wf w) : k9_R S (d + 2) 10 0 [some (k9_r 3 i0), none, none] [] I J = some (some (k9_i (nI (p_len w))), I, J) := by
  have h6 := hf.1
  have key : ∀ k p, p + k = w 7 0 → k9_R S (d + 2) 10 4 [some (k9_r 3 i0), some (k9_i (nI (p_st w p))), some (k9_i (nI p))] [] I J = some (some (k9_i (nI (p_len w))), I, J) := by
    intro k
    induction k with
    | zero =>
      intro p hp
      obtain rfl : p = w 7 0 := by omega
      refine k9o_of (k9o_eq k9e_10_4 ?_)
      simp (disch := omega) only [k9e_10_0, k9e_10_8, k9e_10_12, k9e_10_16, Nat.reduceEqDiff, Int.reduceEq, Int.reduceLT, Int.reduceLE, k9_ps_s, k9_ps_n, k9_ur, false_and, and_false, true_and, and_true, true_or, or_true, false_or, or_false, eq_self, ↓reduceIte, not_true_eq_false, not_false_eq_true, n_toInt, n_cl, nI_1, nI_add, n_a0, n_p2, n_p3, n_p4, n_x2, n_x3, n_x4, n_x60, n_x100, n_pm1, k9L_m2, k9L_m1, k9L_0, k9L_1, k9L_2, k9L_3, k9L_4, k9L_5, k9L_6, k9L_7, k9L_8, k9L_9, k9L_10, k9L_20, k9L_23, k9L_24, k9L_30, k9L_40, k9L_50, k9L_60, k9L_99, k9L_100, k9L_120, k9L_255, k9L_999, k9L_1000, k9_bs, k9_ba, hW.1]
      repeat (first | ((with_reducible refine k9q_T ?_ ?_); · omega) | ((with_reducible refine k9q_F ?_ ?_); · omega) | ((with_reducible refine k9q_Tb ?_ ?_); · omega) | ((with_reducible refine k9q_Fb ?_ ?_); · omega) | simp (disch := omega) only [k9e_10_0, k9e_10_8, k9e_10_12, k9e_10_16, Nat.reduceEqDiff, Int.reduceEq, Int.reduceLT, Int.reduceLE, k9_ps_s, k9_ps_n, k9_ur, false_and, and_false, true_and, and_true, true_or, or_true, false_or, or_false, eq_self, ↓reduceIte, not_true_eq_false, not_false_eq_true, n_toInt, n_cl, nI_1, nI_add, n_a0, n_p2, n_p3, n_p4, n_x2, n_x3, n_x4, n_x60, n_x100, n_pm1, k9L_m2, k9L_m1, k9L_0, k9L_1, k9L_2, k9L_3, k9L_4, k9L_5, k9L_6, k9L_7, k9L_8, k9L_9, k9L_10, k9L_20, k9L_23, k9L_24, k9L_30, k9L_40, k9L_50, k9L_60, k9L_99, k9L_100, k9L_120, k9L_255, k9L_999, k9L_1000, k9_bs, k9_ba, hW.1])
      exact k9o_ret rfl
    | succ k ih =>
      intro p hp
      have hp1 : p < w 7 0 := by omega
      refine k9o_of (k9o_eq k9e_10_4 ?_)
      simp (disch := omega) only [k9e_10_0, k9e_10_8, k9e_10_12, k9e_10_16, Nat.reduceEqDiff, Int.reduceEq, Int.reduceLT, Int.reduceLE, k9_ps_s, k9_ps_n, k9_ur, false_and, and_false, true_and, and_true, true_or, or_true, false_or, or_false, eq_self, ↓reduceIte, not_true_eq_false, not_false_eq_true, n_toInt, n_cl, nI_1, nI_add, n_a0, n_p2, n_p3, n_p4, n_x2, n_x3, n_x4, n_x60, n_x100, n_pm1, k9L_m2, k9L_m1, k9L_0, k9L_1, k9L_2, k9L_3, k9L_4, k9L_5, k9L_6, k9L_7, k9L_8, k9L_9, k9L_10, k9L_20, k9L_23, k9L_24, k9L_30, k9L_40, k9L_50, k9L_60, k9L_99, k9L_100, k9L_120, k9L_255, k9L_999, k9L_1000, k9_bs, k9_ba, hW.1]
      repeat (first | ((with_reducible refine k9q_T ?_ ?_); · omega) | ((with_reducible refine k9q_F ?_ ?_); · omega) | ((with_reducible refine k9q_Tb ?_ ?_); · omega) | ((with_reducible refine k9q_Fb ?_ ?_); · omega) | (refine k9o_call (k9s_9 hW hf hp1) ?_; simp (disch := omega) only [k9e_10_0, k9e_10_8, k9e_10_12, k9e_10_16, Nat.reduceEqDiff, Int.reduceEq, Int.reduceLT, Int.reduceLE, k9_ps_s, k9_ps_n, k9_ur, false_and, and_false, true_and, and_true, true_or, or_true, false_or, or_false, eq_self, ↓reduceIte, not_true_eq_false, not_false_eq_true, n_toInt, n_cl, nI_1, nI_add, n_a0, n_p2, n_p3, n_p4, n_x2, n_x3, n_x4, n_x60, n_x100, n_pm1, k9L_m2, k9L_m1, k9L_0, k9L_1, k9L_2, k9L_3, k9L_4, k9L_5, k9L_6, k9L_7, k9L_8, k9L_9, k9L_10, k9L_20, k9L_23, k9L_24, k9L_30, k9L_40, k9L_50, k9L_60, k9L_99, k9L_100, k9L_120, k9L_255, k9L_999, k9L_1000, k9_bs, k9_ba, hW.1]) | simp (disch := omega) only [k9e_10_0, k9e_10_8, k9e_10_12, k9e_10_16, Nat.reduceEqDiff, Int.reduceEq, Int.reduceLT, Int.reduceLE, k9_ps_s, k9_ps_n, k9_ur, false_and, and_false, true_and, and_true, true_or, or_true, false_or, or_false, eq_self, ↓reduceIte, not_true_eq_false, not_false_eq_true, n_toInt, n_cl, nI_1, nI_add, n_a0, n_p2, n_p3, n_p4, n_x2, n_x3, n_x4, n_x60, n_x100, n_pm1, k9L_m2, k9L_m1, k9L_0, k9L_1, k9L_2, k9L_3, k9L_4, k9L_5, k9L_6, k9L_7, k9L_8, k9L_9, k9L_10, k9L_20, k9L_23, k9L_24, k9L_30, k9L_40, k9L_50, k9L_60, k9L_99, k9L_100, k9L_120, k9L_255, k9L_999, k9L_1000, k9_bs, k9_ba, hW.1])
      exact k9o_to (ih (p + 1) (by omega)) rfl
  rw [k9e_10_0]
  exact key (w 7 0) 0 (by omega)
theorem k9s_11 (hW : k9_Wk I i0 w) (hf : k9_wf w) : k9_R S d 11 0 [some (k9_r 3 i0), none, none] [] I J = some (some (k9_i (nI (p_sm (w 0) (w 7 0)))), I, J) := by
  have h6 := hf.1
  have key : ∀ k p, p + k = w 7 0 → k9_R S d 11 4 [some (k9_r 3 i0), some (k9_i (nI (p_sm (w 0) p))), some (k9_i (nI p))] [] I J = some (some (k9_i (nI (p_sm (w 0) (w 7 0)))), I, J) := by
    intro k
    induction k with
    | zero =>
      intro p hp
      obtain rfl : p = w 7 0 := by omega
      refine k9o_of (k9o_eq k9e_11_4 ?_)
      simp (disch := omega) only [k9e_11_0, k9e_11_8, k9e_11_11, k9e_11_16, k9e_11_20, Nat.reduceEqDiff, Int.reduceEq, Int.reduceLT, Int.reduceLE, k9_ps_s, k9_ps_n, k9_ur, false_and, and_false, true_and, and_true, true_or, or_true, false_or, or_false, eq_self, ↓reduceIte, not_true_eq_false, not_false_eq_true, n_toInt, n_cl, nI_1, nI_add, n_a0, n_p2, n_p3, n_p4, n_x2, n_x3, n_x4, n_x60, n_x100, n_pm1, k9L_m2, k9L_m1, k9L_0, k9L_1, k9L_2, k9L_3, k9L_4, k9L_5, k9L_6, k9L_7, k9L_8, k9L_9, k9L_10, k9L_20, k9L_23, k9L_24, k9L_30, k9L_40, k9L_50, k9L_60, k9L_99, k9L_100, k9L_120, k9L_255, k9L_999, k9L_1000, k9_bs, k9_ba, hW.1]
      repeat (first | ((with_reducible refine k9q_T ?_ ?_); · omega) | ((with_reducible refine k9q_F ?_ ?_); · omega) | ((with_reducible refine k9q_Tb ?_ ?_); · omega) | ((with_reducible refine k9q_Fb ?_ ?_); · omega) | simp (disch := omega) only [k9e_11_0, k9e_11_8, k9e_11_11, k9e_11_16, k9e_11_20, Nat.reduceEqDiff, Int.reduceEq, Int.reduceLT, Int.reduceLE, k9_ps_s, k9_ps_n, k9_ur, false_and, and_false, true_and, and_true, true_or, or_true, false_or, or_false, eq_self, ↓reduceIte, not_true_eq_false, not_false_eq_true, n_toInt, n_cl, nI_1, nI_add, n_a0, n_p2, n_p3, n_p4, n_x2, n_x3, n_x4, n_x60, n_x100, n_pm1, k9L_m2, k9L_m1, k9L_0, k9L_1, k9L_2, k9L_3, k9L_4, k9L_5, k9L_6, k9L_7, k9L_8, k9L_9, k9L_10, k9L_20, k9L_23, k9L_24, k9L_30, k9L_40, k9L_50, k9L_60, k9L_99, k9L_100, k9L_120, k9L_255, k9L_999, k9L_1000, k9_bs, k9_ba, hW.1])
      exact k9o_ret rfl
    | succ k ih =>
      intro p hp
      have hp1 : p < w 7 0 := by omega
      obtain ⟨a0, a1, a2, a3⟩ := hW.2.2.2.2 p hp1
      refine k9o_of (k9o_eq k9e_11_4 ?_)
      simp (disch := omega) only [k9e_11_0, k9e_11_8, k9e_11_11, k9e_11_16, k9e_11_20, Nat.reduceEqDiff, Int.reduceEq, Int.reduceLT, Int.reduceLE, k9_ps_s, k9_ps_n, k9_ur, false_and, and_false, true_and, and_true, true_or, or_true, false_or, or_false, eq_self, ↓reduceIte, not_true_eq_false, not_false_eq_true, n_toInt, n_cl, nI_1, nI_add, n_a0, n_p2, n_p3, n_p4, n_x2, n_x3, n_x4, n_x60, n_x100, n_pm1, k9L_m2, k9L_m1, k9L_0, k9L_1, k9L_2, k9L_3, k9L_4, k9L_5, k9L_6, k9L_7, k9L_8, k9L_9, k9L_10, k9L_20, k9L_23, k9L_24, k9L_30, k9L_40, k9L_50, k9L_60, k9L_99, k9L_100, k9L_120, k9L_255, k9L_999, k9L_1000, k9_bs, k9_ba, hW.1, a0]
      repeat (first | ((with_reducible refine k9q_T ?_ ?_); · omega) | ((with_reducible refine k9q_F ?_ ?_); · omega) | ((with_reducible refine k9q_Tb ?_ ?_); · omega) | ((with_reducible refine k9q_Fb ?_ ?_); · omega) | simp (disch := omega) only [k9e_11_0, k9e_11_8, k9e_11_11, k9e_11_16, k9e_11_20, Nat.reduceEqDiff, Int.reduceEq, Int.reduceLT, Int.reduceLE, k9_ps_s, k9_ps_n, k9_ur, false_and, and_false, true_and, and_true, true_or, or_true, false_or, or_false, eq_self, ↓reduceIte, not_true_eq_false, not_false_eq_true, n_toInt, n_cl, nI_1, nI_add, n_a0, n_p2, n_p3, n_p4, n_x2, n_x3, n_x4, n_x60, n_x100, n_pm1, k9L_m2, k9L_m1, k9L_0, k9L_1, k9L_2, k9L_3, k9L_4, k9L_5, k9L_6, k9L_7, k9L_8, k9L_9, k9L_10, k9L_20, k9L_23, k9L_24, k9L_30, k9L_40, k9L_50, k9L_60, k9L_99, k9L_100, k9L_120, k9L_255, k9L_999, k9L_1000, k9_bs, k9_ba, hW.1, a0])
      exact k9o_to (ih (p + 1) (by omega)) rfl
  rw [k9e_11_0]
  exact key (w 7 0) 0 (by omega)
theorem k9s_12 (hW : k9_Wk I i0 w) (hf : k9_wf w) : k9_R S d 12 0 [some (k9_r 3 i0), none, none] [] I J = some (some (k9_i (nI (p_sm (w 3) (w 7 0)))), I, J) := by
  have h6 := hf.1
  have key : ∀ k p, p + k = w 7 0 → k9_R S d 12 4 [some (k9_r 3 i0), some (k9_i (nI (p_sm (w 3) p))), some (k9_i (nI p))] [] I J = some (some (k9_i (nI (p_sm (w 3) (w 7 0)))), I, J) := by
    intro k
    induction k with
    | zero =>
      intro p hp
      obtain rfl : p = w 7 0 := by omega
      refine k9o_of (k9o_eq k9e_12_4 ?_)
      simp (disch := omega) only [k9e_12_0, k9e_12_8, k9e_12_11, k9e_12_16, k9e_12_20, Nat.reduceEqDiff, Int.reduceEq, Int.reduceLT, Int.reduceLE, k9_ps_s, k9_ps_n, k9_ur, false_and, and_false, true_and, and_true, true_or, or_true, false_or, or_false, eq_self, ↓reduceIte, not_true_eq_false, not_false_eq_true, n_toInt, n_cl, nI_1, nI_add, n_a0, n_p2, n_p3, n_p4, n_x2, n_x3, n_x4, n_x60, n_x100, n_pm1, k9L_m2, k9L_m1, k9L_0, k9L_1, k9L_2, k9L_3, k9L_4, k9L_5, k9L_6, k9L_7, k9L_8, k9L_9, k9L_10, k9L_20, k9L_23, k9L_24, k9L_30, k9L_40, k9L_50, k9L_60, k9L_99, k9L_100, k9L_120, k9L_255, k9L_999, k9L_1000, k9_bs, k9_ba, hW.1]
      repeat (first | ((with_reducible refine k9q_T ?_ ?_); · omega) | ((with_reducible refine k9q_F ?_ ?_); · omega) | ((with_reducible refine k9q_Tb ?_ ?_); · omega) | ((with_reducible refine k9q_Fb ?_ ?_); · omega) | simp (disch := omega) only [k9e_12_0, k9e_12_8, k9e_12_11, k9e_12_16, k9e_12_20, Nat.reduceEqDiff, Int.reduceEq, Int.reduceLT, Int.reduceLE, k9_ps_s, k9_ps_n, k9_ur, false_and, and_false, true_and, and_true, true_or, or_true, false_or, or_false, eq_self, ↓reduceIte, not_true_eq_false, not_false_eq_true, n_toInt, n_cl, nI_1, nI_add, n_a0, n_p2, n_p3, n_p4, n_x2, n_x3, n_x4, n_x60, n_x100, n_pm1, k9L_m2, k9L_m1, k9L_0, k9L_1, k9L_2, k9L_3, k9L_4, k9L_5, k9L_6, k9L_7, k9L_8, k9L_9, k9L_10, k9L_20, k9L_23, k9L_24, k9L_30, k9L_40, k9L_50, k9L_60, k9L_99, k9L_100, k9L_120, k9L_255, k9L_999, k9L_1000, k9_bs, k9_ba, hW.1])
      exact k9o_ret rfl
    | succ k ih =>
      intro p hp
      have hp1 : p < w 7 0 := by omega
      obtain ⟨a0, a1, a2, a3⟩ := hW.2.2.2.2 p hp1
      refine k9o_of (k9o_eq k9e_12_4 ?_)
      simp (disch := omega) only [k9e_12_0, k9e_12_8, k9e_12_11, k9e_12_16, k9e_12_20, Nat.reduceEqDiff, Int.reduceEq, Int.reduceLT, Int.reduceLE, k9_ps_s, k9_ps_n, k9_ur, false_and, and_false, true_and, and_true, true_or, or_true, false_or, or_false, eq_self, ↓reduceIte, not_true_eq_false, not_false_eq_true, n_toInt, n_cl, nI_1, nI_add, n_a0, n_p2, n_p3, n_p4, n_x2, n_x3, n_x4, n_x60, n_x100, n_pm1, k9L_m2, k9L_m1, k9L_0, k9L_1, k9L_2, k9L_3, k9L_4, k9L_5, k9L_6, k9L_7, k9L_8, k9L_9, k9L_10, k9L_20, k9L_23, k9L_24, k9L_30, k9L_40, k9L_50, k9L_60, k9L_99, k9L_100, k9L_120, k9L_255, k9L_999, k9L_1000, k9_bs, k9_ba, hW.1, a3]
      repeat (first | ((with_reducible refine k9q_T ?_ ?_); · omega) | ((with_reducible refine k9q_F ?_ ?_); · omega) | ((with_reducible refine k9q_Tb ?_ ?_); · omega) | ((with_reducible refine k9q_Fb ?_ ?_); · omega) | simp (disch := omega) only [k9e_12_0, k9e_12_8, k9e_12_11, k9e_12_16, k9e_12_20, Nat.reduceEqDiff, Int.reduceEq, Int.reduceLT, Int.reduceLE, k9_ps_s, k9_ps_n, k9_ur, false_and, and_false, true_and, and_true, true_or, or_true, false_or, or_false, eq_self, ↓reduceIte, not_true_eq_false, not_false_eq_true, n_toInt, n_cl, nI_1, nI_add, n_a0, n_p2, n_p3, n_p4, n_x2, n_x3, n_x4, n_x60, n_x100, n_pm1, k9L_m2, k9L_m1, k9L_0, k9L_1, k9L_2, k9L_3, k9L_4, k9L_5, k9L_6, k9L_7, k9L_8, k9L_9, k9L_10, k9L_20, k9L_23, k9L_24, k9L_30, k9L_40, k9L_50, k9L_60, k9L_99, k9L_100, k9L_120, k9L_255, k9L_999, k9L_1000, k9_bs, k9_ba, hW.1, a3])
      exact k9o_to (ih (p + 1) (by omega)) rfl
  rw [k9e_12_0]
  exact key (w 7 0) 0 (by omega)
/-- bytes of a piece by one of its own seconds -/
def p_pt (w : Nat → Nat → Nat) (p u : Nat) : Nat := if p < w 7 0 then min (w 0 p) (w 1 p * (u - w 2 p)) else 0
theorem k9s_13 {p u : Nat} (hW : k9_Wk I i0 w) (hf : k9_wf w) (hp : p ≤ w 7 0) (hu : u ≤ 1000) : k9_R S (d + 1) 13 0 [some (k9_r 3 i0), some (k9_i (nI p)), some (k9_i (nI u))] [] I J = some (some (k9_i (nI (p_pt w p u))), I, J) := by
  have h6 := hf.1
  refine k9o_of ?_
  unfold p_pt
  by_cases h : p < w 7 0
  · obtain ⟨a0, a1, a2, a3⟩ := hW.2.2.2.2 p h
    obtain ⟨b1, b2, b3, b4, b5, b6⟩ := hf.2.2.2.2 p h
    rw [if_pos h]
    by_cases hs : u ≤ w 2 p
    · simp (disch := omega) only [k9e_13_0, k9e_13_3, k9e_13_4, k9e_13_9, k9e_13_10, k9e_13_12, k9e_13_16, k9e_13_20, k9e_13_25, Nat.reduceEqDiff, Int.reduceEq, Int.reduceLT, Int.reduceLE, k9_ps_s, k9_ps_n, k9_ur, false_and, and_false, true_and, and_true, true_or, or_true, false_or, or_false, eq_self, ↓reduceIte, not_true_eq_false, not_false_eq_true, n_toInt, n_cl, nI_1, nI_add, n_a0, n_p2, n_p3, n_p4, n_x2, n_x3, n_x4, n_x60, n_x100, n_pm1, k9L_m2, k9L_m1, k9L_0, k9L_1, k9L_2, k9L_3, k9L_4, k9L_5, k9L_6, k9L_7, k9L_8, k9L_9, k9L_10, k9L_20, k9L_23, k9L_24, k9L_30, k9L_40, k9L_50, k9L_60, k9L_99, k9L_100, k9L_120, k9L_255, k9L_999, k9L_1000, k9_bs, k9_ba, hW.1, a0, a1, a2]
      repeat (first | ((with_reducible refine k9q_T ?_ ?_); · omega) | ((with_reducible refine k9q_F ?_ ?_); · omega) | ((with_reducible refine k9q_Tb ?_ ?_); · omega) | ((with_reducible refine k9q_Fb ?_ ?_); · omega) | (refine k9o_call (k9s_3 hW.1 hf.1 h) ?_; simp (disch := omega) only [k9e_13_0, k9e_13_3, k9e_13_4, k9e_13_9, k9e_13_10, k9e_13_12, k9e_13_16, k9e_13_20, k9e_13_25, Nat.reduceEqDiff, Int.reduceEq, Int.reduceLT, Int.reduceLE, k9_ps_s, k9_ps_n, k9_ur, false_and, and_false, true_and, and_true, true_or, or_true, false_or, or_false, eq_self, ↓reduceIte, not_true_eq_false, not_false_eq_true, n_toInt, n_cl, nI_1, nI_add, n_a0, n_p2, n_p3, n_p4, n_x2, n_x3, n_x4, n_x60, n_x100, n_pm1, k9L_m2, k9L_m1, k9L_0, k9L_1, k9L_2, k9L_3, k9L_4, k9L_5, k9L_6, k9L_7, k9L_8, k9L_9, k9L_10, k9L_20, k9L_23, k9L_24, k9L_30, k9L_40, k9L_50, k9L_60, k9L_99, k9L_100, k9L_120, k9L_255, k9L_999, k9L_1000, k9_bs, k9_ba, hW.1, a0, a1, a2]) | simp (disch := omega) only [k9e_13_0, k9e_13_3, k9e_13_4, k9e_13_9, k9e_13_10, k9e_13_12, k9e_13_16, k9e_13_20, k9e_13_25, Nat.reduceEqDiff, Int.reduceEq, Int.reduceLT, Int.reduceLE, k9_ps_s, k9_ps_n, k9_ur, false_and, and_false, true_and, and_true, true_or, or_true, false_or, or_false, eq_self, ↓reduceIte, not_true_eq_false, not_false_eq_true, n_toInt, n_cl, nI_1, nI_add, n_a0, n_p2, n_p3, n_p4, n_x2, n_x3, n_x4, n_x60, n_x100, n_pm1, k9L_m2, k9L_m1, k9L_0, k9L_1, k9L_2, k9L_3, k9L_4, k9L_5, k9L_6, k9L_7, k9L_8, k9L_9, k9L_10, k9L_20, k9L_23, k9L_24, k9L_30, k9L_40, k9L_50, k9L_60, k9L_99, k9L_100, k9L_120, k9L_255, k9L_999, k9L_1000, k9_bs, k9_ba, hW.1, a0, a1, a2])
      rw [Nat.sub_eq_zero_of_le hs, Nat.mul_zero, Nat.min_zero]
      exact k9o_ret rfl
    · simp (disch := omega) only [k9e_13_0, k9e_13_3, k9e_13_4, k9e_13_9, k9e_13_10, k9e_13_12, k9e_13_16, k9e_13_20, k9e_13_25, Nat.reduceEqDiff, Int.reduceEq, Int.reduceLT, Int.reduceLE, k9_ps_s, k9_ps_n, k9_ur, false_and, and_false, true_and, and_true, true_or, or_true, false_or, or_false, eq_self, ↓reduceIte, not_true_eq_false, not_false_eq_true, n_toInt, n_cl, nI_1, nI_add, n_a0, n_p2, n_p3, n_p4, n_x2, n_x3, n_x4, n_x60, n_x100, n_pm1, k9L_m2, k9L_m1, k9L_0, k9L_1, k9L_2, k9L_3, k9L_4, k9L_5, k9L_6, k9L_7, k9L_8, k9L_9, k9L_10, k9L_20, k9L_23, k9L_24, k9L_30, k9L_40, k9L_50, k9L_60, k9L_99, k9L_100, k9L_120, k9L_255, k9L_999, k9L_1000, k9_bs, k9_ba, hW.1, a0, a1, a2]
      repeat (first | ((with_reducible refine k9q_T ?_ ?_); · omega) | ((with_reducible refine k9q_F ?_ ?_); · omega) | ((with_reducible refine k9q_Tb ?_ ?_); · omega) | ((with_reducible refine k9q_Fb ?_ ?_); · omega) | (refine k9o_call (k9s_3 hW.1 hf.1 h) ?_; simp (disch := omega) only [k9e_13_0, k9e_13_3, k9e_13_4, k9e_13_9, k9e_13_10, k9e_13_12, k9e_13_16, k9e_13_20, k9e_13_25, Nat.reduceEqDiff, Int.reduceEq, Int.reduceLT, Int.reduceLE, k9_ps_s, k9_ps_n, k9_ur, false_and, and_false, true_and, and_true, true_or, or_true, false_or, or_false, eq_self, ↓reduceIte, not_true_eq_false, not_false_eq_true, n_toInt, n_cl, nI_1, nI_add, n_a0, n_p2, n_p3, n_p4, n_x2, n_x3, n_x4, n_x60, n_x100, n_pm1, k9L_m2, k9L_m1, k9L_0, k9L_1, k9L_2, k9L_3, k9L_4, k9L_5, k9L_6, k9L_7, k9L_8, k9L_9, k9L_10, k9L_20, k9L_23, k9L_24, k9L_30, k9L_40, k9L_50, k9L_60, k9L_99, k9L_100, k9L_120, k9L_255, k9L_999, k9L_1000, k9_bs, k9_ba, hW.1, a0, a1, a2]) | simp (disch := omega) only [k9e_13_0, k9e_13_3, k9e_13_4, k9e_13_9, k9e_13_10, k9e_13_12, k9e_13_16, k9e_13_20, k9e_13_25, Nat.reduceEqDiff, Int.reduceEq, Int.reduceLT, Int.reduceLE, k9_ps_s, k9_ps_n, k9_ur, false_and, and_false, true_and, and_true, true_or, or_true, false_or, or_false, eq_self, ↓reduceIte, not_true_eq_false, not_false_eq_true, n_toInt, n_cl, nI_1, nI_add, n_a0, n_p2, n_p3, n_p4, n_x2, n_x3, n_x4, n_x60, n_x100, n_pm1, k9L_m2, k9L_m1, k9L_0, k9L_1, k9L_2, k9L_3, k9L_4, k9L_5, k9L_6, k9L_7, k9L_8, k9L_9, k9L_10, k9L_20, k9L_23, k9L_24, k9L_30, k9L_40, k9L_50, k9L_60, k9L_99, k9L_100, k9L_120, k9L_255, k9L_999, k9L_1000, k9_bs, k9_ba, hW.1, a0, a1, a2])
      have m : w 1 p * (u - w 2 p) ≤ 18 * 1000 := Nat.mul_le_mul b4 (by omega)
      rw [n_sub (by omega), n_mul]
      refine k9o_ret ?_
      by_cases hm : w 1 p * (u - w 2 p) < w 0 p
      · rw [if_pos (nI_lt hm (by omega)), Nat.min_eq_right (by omega)]
      · rw [if_neg (nI_nlt (by omega) (by omega)), Nat.min_eq_left (by omega)]
  · simp (disch := omega) only [k9e_13_0, k9e_13_3, k9e_13_4, k9e_13_9, k9e_13_10, k9e_13_12, k9e_13_16, k9e_13_20, k9e_13_25, Nat.reduceEqDiff, Int.reduceEq, Int.reduceLT, Int.reduceLE, k9_ps_s, k9_ps_n, k9_ur, false_and, and_false, true_and, and_true, true_or, or_true, false_or, or_false, eq_self, ↓reduceIte, not_true_eq_false, not_false_eq_true, n_toInt, n_cl, nI_1, nI_add, n_a0, n_p2, n_p3, n_p4, n_x2, n_x3, n_x4, n_x60, n_x100, n_pm1, k9L_m2, k9L_m1, k9L_0, k9L_1, k9L_2, k9L_3, k9L_4, k9L_5, k9L_6, k9L_7, k9L_8, k9L_9, k9L_10, k9L_20, k9L_23, k9L_24, k9L_30, k9L_40, k9L_50, k9L_60, k9L_99, k9L_100, k9L_120, k9L_255, k9L_999, k9L_1000, k9_bs, k9_ba, hW.1]
    repeat (first | ((with_reducible refine k9q_T ?_ ?_); · omega) | ((with_reducible refine k9q_F ?_ ?_); · omega) | ((with_reducible refine k9q_Tb ?_ ?_); · omega) | ((with_reducible refine k9q_Fb ?_ ?_); · omega) | (refine k9o_call (k9s_3x hW.1 hf.1 (by rw [n_toInt (by omega)]; omega)) ?_; simp (disch := omega) only [k9e_13_0, k9e_13_3, k9e_13_4, k9e_13_9, k9e_13_10, k9e_13_12, k9e_13_16, k9e_13_20, k9e_13_25, Nat.reduceEqDiff, Int.reduceEq, Int.reduceLT, Int.reduceLE, k9_ps_s, k9_ps_n, k9_ur, false_and, and_false, true_and, and_true, true_or, or_true, false_or, or_false, eq_self, ↓reduceIte, not_true_eq_false, not_false_eq_true, n_toInt, n_cl, nI_1, nI_add, n_a0, n_p2, n_p3, n_p4, n_x2, n_x3, n_x4, n_x60, n_x100, n_pm1, k9L_m2, k9L_m1, k9L_0, k9L_1, k9L_2, k9L_3, k9L_4, k9L_5, k9L_6, k9L_7, k9L_8, k9L_9, k9L_10, k9L_20, k9L_23, k9L_24, k9L_30, k9L_40, k9L_50, k9L_60, k9L_99, k9L_100, k9L_120, k9L_255, k9L_999, k9L_1000, k9_bs, k9_ba, hW.1]) | simp (disch := omega) only [k9e_13_0, k9e_13_3, k9e_13_4, k9e_13_9, k9e_13_10, k9e_13_12, k9e_13_16, k9e_13_20, k9e_13_25, Nat.reduceEqDiff, Int.reduceEq, Int.reduceLT, Int.reduceLE, k9_ps_s, k9_ps_n, k9_ur, false_and, and_false, true_and, and_true, true_or, or_true, false_or, or_false, eq_self, ↓reduceIte, not_true_eq_false, not_false_eq_true, n_toInt, n_cl, nI_1, nI_add, n_a0, n_p2, n_p3, n_p4, n_x2, n_x3, n_x4, n_x60, n_x100, n_pm1, k9L_m2, k9L_m1, k9L_0, k9L_1, k9L_2, k9L_3, k9L_4, k9L_5, k9L_6, k9L_7, k9L_8, k9L_9, k9L_10, k9L_20, k9L_23, k9L_24, k9L_30, k9L_40, k9L_50, k9L_60, k9L_99, k9L_100, k9L_120, k9L_255, k9L_999, k9L_1000, k9_bs, k9_ba, hW.1])
    rw [if_neg h]
    exact k9o_ret rfl
end KW
