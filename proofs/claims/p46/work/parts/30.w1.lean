/-! WORK -/
def k9_Wk (I : k9_I) (i : Nat) (w : Nat → Nat → Nat) : Prop :=
  I 3 i 0 = nI (w 7 0) ∧ I 3 i 1 = nI (w 4 0) ∧ I 3 i 2 = nI (w 5 0) ∧ I 3 i 3 = nI (w 6 0) ∧
  ∀ p, p < w 7 0 → I 20 i p = nI (w 0 p) ∧ I 21 i p = nI (w 1 p) ∧ I 22 i p = nI (w 2 p) ∧ I 23 i p = nI (w 3 p)
def k9_wf (w : Nat → Nat → Nat) : Prop := w 7 0 ≤ 6 ∧ w 4 0 ≤ 4 ∧ w 5 0 ≤ 9 ∧ w 6 0 ≤ 1 ∧ ∀ p, p < w 7 0 → 1 ≤ w 0 p ∧ w 0 p ≤ 99 ∧ 1 ≤ w 1 p ∧ w 1 p ≤ 18 ∧ w 2 p ≤ 60 ∧ w 3 p ≤ 9
def p_tk (w : Nat → Nat → Nat) (p : Nat) : Nat := w 2 p + (w 0 p + w 1 p - 1) / w 1 p
def p_st (w : Nat → Nat → Nat) : Nat → Nat
  | 0 => 0
  | k + 1 => p_st w k + p_tk w k
def p_sm (r : Nat → Nat) : Nat → Nat
  | 0 => 0
  | k + 1 => p_sm r k + r k
def p_len (w : Nat → Nat → Nat) : Nat := p_st w (w 7 0)
theorem p_tk_le {w : Nat → Nat → Nat} (h : k9_wf w) {p : Nat} (hp : p < w 7 0) : 1 ≤ p_tk w p ∧ p_tk w p ≤ 159 := by
  obtain ⟨-, -, -, -, h⟩ := h
  obtain ⟨h1, h2, h3, h4, h5, h6⟩ := h p hp
  unfold p_tk
  have a : 1 ≤ (w 0 p + w 1 p - 1) / w 1 p := (Nat.one_le_div_iff h3).mpr (by omega)
  have b : (w 0 p + w 1 p - 1) / w 1 p ≤ w 0 p := by
    apply Nat.le_of_lt_succ
    apply Nat.div_lt_of_lt_mul
    have : w 0 p * 1 ≤ w 0 p * w 1 p := Nat.mul_le_mul_left _ h3
    have e : w 1 p * (w 0 p).succ = w 0 p * w 1 p + w 1 p := by rw [Nat.mul_succ, Nat.mul_comm]
    omega
  omega
theorem p_st_le {w : Nat → Nat → Nat} (h : k9_wf w) : ∀ k, k ≤ w 7 0 → p_st w k ≤ 159 * k
  | 0, _ => Nat.le_refl _
  | k + 1, hk => by
    have h1 := p_st_le h k (by omega)
    have h2 := (p_tk_le h (p := k) (by omega)).2
    unfold p_st
    omega
theorem p_st_b {w : Nat → Nat → Nat} (h : k9_wf w) {k : Nat} (hk : k ≤ w 7 0) : p_st w k ≤ 954 := by
  have h1 := p_st_le h k hk
  have h2 := h.1
  omega
theorem p_len_b {w : Nat → Nat → Nat} (h : k9_wf w) : p_len w ≤ 954 := p_st_b h (Nat.le_refl _)
theorem p_st_mono {w : Nat → Nat → Nat} {a b : Nat} (hab : a ≤ b) : p_st w a ≤ p_st w b := by
  induction hab with
  | refl => exact Nat.le_refl _
  | step _ ih => exact Nat.le_trans ih (Nat.le_add_right _ _)
theorem p_sm_le {r : Nat → Nat} {m n : Nat} (h : ∀ p, p < n → r p ≤ m) : ∀ k, k ≤ n → p_sm r k ≤ m * k
  | 0, _ => Nat.le_refl _
  | k + 1, hk => by
    have h1 := p_sm_le h k (by omega)
    have h2 := h k (by omega)
    have h3 : m * (k + 1) = m * k + m := Nat.mul_succ m k
    unfold p_sm
    omega
theorem p_sm0_b {w : Nat → Nat → Nat} (h : k9_wf w) {k : Nat} (hk : k ≤ w 7 0) : p_sm (w 0) k ≤ 594 := by
  have h1 := p_sm_le (r := w 0) (m := 99) (fun p hp => (h.2.2.2.2 p hp).2.1) k hk
  have h2 := h.1
  omega
theorem p_sm3_b {w : Nat → Nat → Nat} (h : k9_wf w) {k : Nat} (hk : k ≤ w 7 0) : p_sm (w 3) k ≤ 54 := by
  have h1 := p_sm_le (r := w 3) (m := 9) (fun p hp => (h.2.2.2.2 p hp).2.2.2.2.2) k hk
  have h2 := h.1
  omega
section KW
variable {S : k9_S} {d : Nat} {I : k9_I} {J : k9_J} {i0 i1 i2 : Nat} {w : Nat → Nat → Nat}
theorem k9s_3 {p n : Nat} (hn : I 3 i0 0 = nI n) (h6 : n ≤ 6) (hp : p < n) : k9_R S d 3 0 [some (k9_r 3 i0), some (k9_i (nI p))] [] I J = some (some (k9_i 0), I, J) := by
  refine k9o_of ?_
  simp (disch := omega) only [k9e_3_0, k9e_3_2, k9e_3_6, k9e_3_9, k9e_3_11, k9e_3_12, Nat.reduceEqDiff, Int.reduceEq, Int.reduceLT, Int.reduceLE, k9_ps_s, k9_ps_n, k9_ur, false_and, and_false, true_and, and_true, true_or, or_true, false_or, or_false, eq_self, ↓reduceIte, not_true_eq_false, not_false_eq_true, n_toInt, n_cl, nI_1, nI_add, n_a0, n_p2, n_p3, n_p4, n_x2, n_x3, n_x4, n_x60, n_x100, n_pm1, k9L_m2, k9L_m1, k9L_0, k9L_1, k9L_2, k9L_3, k9L_4, k9L_5, k9L_6, k9L_7, k9L_8, k9L_9, k9L_10, k9L_20, k9L_23, k9L_24, k9L_30, k9L_40, k9L_50, k9L_60, k9L_99, k9L_100, k9L_120, k9L_255, k9L_999, k9L_1000, k9_bs, k9_ba, hn]
  repeat (first | ((with_reducible refine k9q_T ?_ ?_); · omega) | ((with_reducible refine k9q_F ?_ ?_); · omega) | ((with_reducible refine k9q_Tb ?_ ?_); · omega) | ((with_reducible refine k9q_Fb ?_ ?_); · omega) | simp (disch := omega) only [k9e_3_0, k9e_3_2, k9e_3_6, k9e_3_9, k9e_3_11, k9e_3_12, Nat.reduceEqDiff, Int.reduceEq, Int.reduceLT, Int.reduceLE, k9_ps_s, k9_ps_n, k9_ur, false_and, and_false, true_and, and_true, true_or, or_true, false_or, or_false, eq_self, ↓reduceIte, not_true_eq_false, not_false_eq_true, n_toInt, n_cl, nI_1, nI_add, n_a0, n_p2, n_p3, n_p4, n_x2, n_x3, n_x4, n_x60, n_x100, n_pm1, k9L_m2, k9L_m1, k9L_0, k9L_1, k9L_2, k9L_3, k9L_4, k9L_5, k9L_6, k9L_7, k9L_8, k9L_9, k9L_10, k9L_20, k9L_23, k9L_24, k9L_30, k9L_40, k9L_50, k9L_60, k9L_99, k9L_100, k9L_120, k9L_255, k9L_999, k9L_1000, k9_bs, k9_ba, hn])
  exact k9o_ret rfl
theorem k9s_3x {x : Int32} {n : Nat} (hn : I 3 i0 0 = nI n) (h6 : n ≤ 6) (hp : ¬ (0 ≤ x.toInt ∧ x.toInt < n)) : k9_R S d 3 0 [some (k9_r 3 i0), some (k9_i x)] [] I J = some (some (k9_i 1), I, J) := by
  refine k9o_of ?_
  simp (disch := omega) only [k9e_3_0, k9e_3_2, k9e_3_6, k9e_3_9, k9e_3_11, k9e_3_12, Nat.reduceEqDiff, Int.reduceEq, Int.reduceLT, Int.reduceLE, k9_ps_s, k9_ps_n, k9_ur, false_and, and_false, true_and, and_true, true_or, or_true, false_or, or_false, eq_self, ↓reduceIte, not_true_eq_false, not_false_eq_true, n_toInt, n_cl, nI_1, nI_add, n_a0, n_p2, n_p3, n_p4, n_x2, n_x3, n_x4, n_x60, n_x100, n_pm1, k9L_m2, k9L_m1, k9L_0, k9L_1, k9L_2, k9L_3, k9L_4, k9L_5, k9L_6, k9L_7, k9L_8, k9L_9, k9L_10, k9L_20, k9L_23, k9L_24, k9L_30, k9L_40, k9L_50, k9L_60, k9L_99, k9L_100, k9L_120, k9L_255, k9L_999, k9L_1000, k9_bs, k9_ba, hn]
  refine k9o_if (fun h => ?_) (fun h => ?_)
  · exact k9o_ret rfl
  · repeat (first | ((with_reducible refine k9q_T ?_ ?_); · omega) | ((with_reducible refine k9q_F ?_ ?_); · omega) | ((with_reducible refine k9q_Tb ?_ ?_); · omega) | ((with_reducible refine k9q_Fb ?_ ?_); · omega))
    exact k9o_ret rfl
theorem k9s_9 {p : Nat} (hW : k9_Wk I i0 w) (hf : k9_wf w) (hp : p < w 7 0) : k9_R S (d + 1) 9 0 [some (k9_r 3 i0), some (k9_i (nI p))] [] I J = some (some (k9_i (nI (p_tk w p))), I, J) := by
  have h6 := hf.1
  obtain ⟨a0, a1, a2, a3⟩ := hW.2.2.2.2 p hp
  obtain ⟨b1, b2, b3, b4, b5, b6⟩ := hf.2.2.2.2 p hp
  refine k9o_of ?_
  simp (disch := omega) only [k9e_9_0, k9e_9_3, k9e_9_4, k9e_9_8, k9e_9_10, k9e_9_12, k9e_9_16, k9e_9_20, k9e_9_24, k9e_9_31, k9e_9_32, Nat.reduceEqDiff, Int.reduceEq, Int.reduceLT, Int.reduceLE, k9_ps_s, k9_ps_n, k9_ur, false_and, and_false, true_and, and_true, true_or, or_true, false_or, or_false, eq_self, ↓reduceIte, not_true_eq_false, not_false_eq_true, n_toInt, n_cl, nI_1, nI_add, n_a0, n_p2, n_p3, n_p4, n_x2, n_x3, n_x4, n_x60, n_x100, n_pm1, k9L_m2, k9L_m1, k9L_0, k9L_1, k9L_2, k9L_3, k9L_4, k9L_5, k9L_6, k9L_7, k9L_8, k9L_9, k9L_10, k9L_20, k9L_23, k9L_24, k9L_30, k9L_40, k9L_50, k9L_60, k9L_99, k9L_100, k9L_120, k9L_255, k9L_999, k9L_1000, k9_bs, k9_ba, hW.1, a0, a1, a2]
  repeat (first | ((with_reducible refine k9q_T ?_ ?_); · omega) | ((with_reducible refine k9q_F ?_ ?_); · omega) | ((with_reducible refine k9q_Tb ?_ ?_); · omega) | ((with_reducible refine k9q_Fb ?_ ?_); · omega) | (refine k9o_call (k9s_3 hW.1 hf.1 hp) ?_; simp (disch := omega) only [k9e_9_0, k9e_9_3, k9e_9_4, k9e_9_8, k9e_9_10, k9e_9_12, k9e_9_16, k9e_9_20, k9e_9_24, k9e_9_31, k9e_9_32, Nat.reduceEqDiff, Int.reduceEq, Int.reduceLT, Int.reduceLE, k9_ps_s, k9_ps_n, k9_ur, false_and, and_false, true_and, and_true, true_or, or_true, false_or, or_false, eq_self, ↓reduceIte, not_true_eq_false, not_false_eq_true, n_toInt, n_cl, nI_1, nI_add, n_a0, n_p2, n_p3, n_p4, n_x2, n_x3, n_x4, n_x60, n_x100, n_pm1, k9L_m2, k9L_m1, k9L_0, k9L_1, k9L_2, k9L_3, k9L_4, k9L_5, k9L_6, k9L_7, k9L_8, k9L_9, k9L_10, k9L_20, k9L_23, k9L_24, k9L_30, k9L_40, k9L_50, k9L_60, k9L_99, k9L_100, k9L_120, k9L_255, k9L_999, k9L_1000, k9_bs, k9_ba, hW.1, a0, a1, a2]) | simp (disch := omega) only [k9e_9_0, k9e_9_3, k9e_9_4, k9e_9_8, k9e_9_10, k9e_9_12, k9e_9_16, k9e_9_20, k9e_9_24, k9e_9_31, k9e_9_32, Nat.reduceEqDiff, Int.reduceEq, Int.reduceLT, Int.reduceLE, k9_ps_s, k9_ps_n, k9_ur, false_and, and_false, true_and, and_true, true_or, or_true, false_or, or_false, eq_self, ↓reduceIte, not_true_eq_false, not_false_eq_true, n_toInt, n_cl, nI_1, nI_add, n_a0, n_p2, n_p3, n_p4, n_x2, n_x3, n_x4, n_x60, n_x100, n_pm1, k9L_m2, k9L_m1, k9L_0, k9L_1, k9L_2, k9L_3, k9L_4, k9L_5, k9L_6, k9L_7, k9L_8, k9L_9, k9L_10, k9L_20, k9L_23, k9L_24, k9L_30, k9L_40, k9L_50, k9L_60, k9L_99, k9L_100, k9L_120, k9L_255, k9L_999, k9L_1000, k9_bs, k9_ba, hW.1, a0, a1, a2])
  rw [n_s1 (by omega), n_div (by omega) (by omega) (by omega), nI_add]
  exact k9o_ret rfl
theorem k9s_9x {p : Nat} (hW : k9_Wk I i0 w) (hf : k9_wf w) (hp : ¬ p < w 7 0) (hp2 : p < 100) : k9_R S (d + 1) 9 0 [some (k9_r 3 i0), some (k9_i (nI p))] [] I J = some (some (k9_i 0), I, J) := by
  refine k9o_of ?_
  simp (disch := omega) only [k9e_9_0, k9e_9_3, k9e_9_4, k9e_9_8, k9e_9_10, k9e_9_12, k9e_9_16, k9e_9_20, k9e_9_24, k9e_9_31, k9e_9_32, Nat.reduceEqDiff, Int.reduceEq, Int.reduceLT, Int.reduceLE, k9_ps_s, k9_ps_n, k9_ur, false_and, and_false, true_and, and_true, true_or, or_true, false_or, or_false, eq_self, ↓reduceIte, not_true_eq_false, not_false_eq_true, n_toInt, n_cl, nI_1, nI_add, n_a0, n_p2, n_p3, n_p4, n_x2, n_x3, n_x4, n_x60, n_x100, n_pm1, k9L_m2, k9L_m1, k9L_0, k9L_1, k9L_2, k9L_3, k9L_4, k9L_5, k9L_6, k9L_7, k9L_8, k9L_9, k9L_10, k9L_20, k9L_23, k9L_24, k9L_30, k9L_40, k9L_50, k9L_60, k9L_99, k9L_100, k9L_120, k9L_255, k9L_999, k9L_1000, k9_bs, k9_ba, hW.1]
  repeat (first | ((with_reducible refine k9q_T ?_ ?_); · omega) | ((with_reducible refine k9q_F ?_ ?_); · omega) | ((with_reducible refine k9q_Tb ?_ ?_); · omega) | ((with_reducible refine k9q_Fb ?_ ?_); · omega) | (refine k9o_call (k9s_3x hW.1 hf.1 (by rw [n_toInt (by omega)]; omega)) ?_; simp (disch := omega) only [k9e_9_0, k9e_9_3, k9e_9_4, k9e_9_8, k9e_9_10, k9e_9_12, k9e_9_16, k9e_9_20, k9e_9_24, k9e_9_31, k9e_9_32, Nat.reduceEqDiff, Int.reduceEq, Int.reduceLT, Int.reduceLE, k9_ps_s, k9_ps_n, k9_ur, false_and, and_false, true_and, and_true, true_or, or_true, false_or, or_false, eq_self, ↓reduceIte, not_true_eq_false, not_false_eq_true, n_toInt, n_cl, nI_1, nI_add, n_a0, n_p2, n_p3, n_p4, n_x2, n_x3, n_x4, n_x60, n_x100, n_pm1, k9L_m2, k9L_m1, k9L_0, k9L_1, k9L_2, k9L_3, k9L_4, k9L_5, k9L_6, k9L_7, k9L_8, k9L_9, k9L_10, k9L_20, k9L_23, k9L_24, k9L_30, k9L_40, k9L_50, k9L_60, k9L_99, k9L_100, k9L_120, k9L_255, k9L_999, k9L_1000, k9_bs, k9_ba, hW.1]) | simp (disch := omega) only [k9e_9_0, k9e_9_3, k9e_9_4, k9e_9_8, k9e_9_10, k9e_9_12, k9e_9_16, k9e_9_20, k9e_9_24, k9e_9_31, k9e_9_32, Nat.reduceEqDiff, Int.reduceEq, Int.reduceLT, Int.reduceLE, k9_ps_s, k9_ps_n, k9_ur, false_and, and_false, true_and, and_true, true_or, or_true, false_or, or_false, eq_self, ↓reduceIte, not_true_eq_false, not_false_eq_true, n_toInt, n_cl, nI_1, nI_add, n_a0, n_p2, n_p3, n_p4, n_x2, n_x3, n_x4, n_x60, n_x100, n_pm1, k9L_m2, k9L_m1, k9L_0, k9L_1, k9L_2, k9L_3, k9L_4, k9L_5, k9L_6, k9L_7, k9L_8, k9L_9, k9L_10, k9L_20, k9L_23, k9L_24, k9L_30, k9L_40, k9L_50, k9L_60, k9L_99, k9L_100, k9L_120, k9L_255, k9L_999, k9L_1000, k9_bs, k9_ba, hW.1])
  exact k9o_ret rfl
theorem k9s_10 (hW : k9_Wk I i0 w) (hf : k9_wf w) : k9_R S (d + 2) 10 0 [some (k9_r 3 i0), none, none] [] I J = some (some (k9_i (nI (p_len w))), I, J) := by
  have h6 := hf.1
  have key : ∀ k p, p + k = w 7 0 → k9_R S (d + 2) 10 4 [some (k9_r 3 i0), some (k9_i (nI (p_st w p))), some (k9_i (nI p))] [] I J = some (some (k9_i (nI (p_len w))), I, J) := by
    intro k
    induction k with
    | zero =>
      intro p hp
      obtain rfl : p = w 7 0 := by omega
      refine k9o_of (k9o_eq k9e_10_4 ?_)
      simp (disch := omega) only [k9e_10_0, k9e_10_8, k9e_10_12, k9e_10_16, Nat.reduceEqDiff, Int.reduceEq, Int.reduceLT, Int.reduceLE, k9_ps_s, k9_ps_n, k9_ur, false_and, and_false, true_and, and_true, true_or, or_true, false_or, or_false, eq_self, ↓reduceIte, not_true_eq_false, not_false_eq_true, n_toInt, n_cl, nI_1, nI_add, n_a0, n_p2, n_p3, n_p4, n_x2, n_x3, n_x4, n_x60, n_x100, n_pm1, k9L_m2, k9L_m1, k9L_0, k9L_1, k9L_2, k9L_3, k9L_4, k9L_5, k9L_6, k9L_7, k9L_8, k9L_9, k9L_10, k9L_20, k9L_23, k9L_24, k9L_30, k9L_40, k9L_50, k9L_60, k9L_99, k9L_100, k9L_120, k9L_255, k9L_999, k9L_1000, k9_bs, k9_ba, hW.1]
      repeat (first | ((with_reducible refine k9q_T ?_ ?_); · omega) | ((with_reducible refine k9q_F ?_ ?_); · omega) | ((with_reducible refine k9q_Tb ?_ ?_); · omega) | ((with_reducible refine k9q_Fb ?_ ?_); · omega) | simp (disch := omega) only [k9e_10_0, k9e_10_8, k9e_10_12, k9e_10_16, Nat.reduceEqDiff, Int.reduceEq, Int.reduceLT, Int.reduceLE, k9_ps_s, k9_ps_n, k9_ur, false_and, and_false, true_and, and_true, true_or, or_true, false_or, or_false, eq_self, ↓reduceIte, not_true_eq_false, not_false_eq_true, n_toInt, n_cl, nI_1, nI_add, n_a0, n_p2, n_p3, n_p4, n_x2, n_x3, n_x4, n_x60, n_x100, n_pm1, k9L_m2, k9L_m1, k9L_0, k9L_1, k9L_2, k9L_3, k9L_4, k9L_5, k9L_6, k9L_7, k9L_8, k9L_9, k9L_10, k9L_20, k9L_23, k9L_24, k9L_30, k9L_40, k9L_50, k9L_60, k9L_99, k9L_100, k9L_120, k9L_255, k9L_999, k9L_1000, k9_bs, k9_ba, hW.1])
      exact k9o_ret rfl
    | succ k ih =>
      intro p hp
      have hp1 : p < w 7 0 := by omega
      refine k9o_of (k9o_eq k9e_10_4 ?_)
      simp (disch := omega) only [k9e_10_0, k9e_10_8, k9e_10_12, k9e_10_16, Nat.reduceEqDiff, Int.reduceEq, Int.reduceLT, Int.reduceLE, k9_ps_s, k9_ps_n, k9_ur, false_and, and_false, true_and, and_true, true_or, or_true, false_or, or_false, eq_self, ↓reduceIte, not_true_eq_false, not_false_eq_true, n_toInt, n_cl, nI_1, nI_add, n_a0, n_p2, n_p3, n_p4, n_x2, n_x3, n_x4, n_x60, n_x100, n_pm1, k9L_m2, k9L_m1, k9L_0, k9L_1, k9L_2, k9L_3, k9L_4, k9L_5, k9L_6, k9L_7, k9L_8, k9L_9, k9L_10, k9L_20, k9L_23, k9L_24, k9L_30, k9L_40, k9L_50, k9L_60, k9L_99, k9L_100, k9L_120, k9L_255, k9L_999, k9L_1000, k9_bs, k9_ba, hW.1]
      repeat (first | ((with_reducible refine k9q_T ?_ ?_); · omega) | ((with_reducible refine k9q_F ?_ ?_); · omega) | ((with_reducible refine k9q_Tb ?_ ?_); · omega) | ((with_reducible refine k9q_Fb ?_ ?_); · omega) | (refine k9o_call (k9s_9 hW hf hp1) ?_; simp (disch := omega) only [k9e_10_0, k9e_10_8, k9e_10_12, k9e_10_16, Nat.reduceEqDiff, Int.reduceEq, Int.reduceLT, Int.reduceLE, k9_ps_s, k9_ps_n, k9_ur, false_and, and_false, true_and, and_true, true_or, or_true, false_or, or_false, eq_self, ↓reduceIte, not_true_eq_false, not_false_eq_true, n_toInt, n_cl, nI_1, nI_add, n_a0, n_p2, n_p3, n_p4, n_x2, n_x3, n_x4, n_x60, n_x100, n_pm1, k9L_m2, k9L_m1, k9L_0, k9L_1, k9L_2, k9L_3, k9L_4, k9L_5, k9L_6, k9L_7, k9L_8, k9L_9, k9L_10, k9L_20, k9L_23, k9L_24, k9L_30, k9L_40, k9L_50, k9L_60, k9L_99, k9L_100, k9L_120, k9L_255, k9L_999, k9L_1000, k9_bs, k9_ba, hW.1]) | simp (disch := omega) only [k9e_10_0, k9e_10_8, k9e_10_12, k9e_10_16, Nat.reduceEqDiff, Int.reduceEq, Int.reduceLT, Int.reduceLE, k9_ps_s, k9_ps_n, k9_ur, false_and, and_false, true_and, and_true, true_or, or_true, false_or, or_false, eq_self, ↓reduceIte, not_true_eq_false, not_false_eq_true, n_toInt, n_cl, nI_1, nI_add, n_a0, n_p2, n_p3, n_p4, n_x2, n_x3, n_x4, n_x60, n_x100, n_pm1, k9L_m2, k9L_m1, k9L_0, k9L_1, k9L_2, k9L_3, k9L_4, k9L_5, k9L_6, k9L_7, k9L_8, k9L_9, k9L_10, k9L_20, k9L_23, k9L_24, k9L_30, k9L_40, k9L_50, k9L_60, k9L_99, k9L_100, k9L_120, k9L_255, k9L_999, k9L_1000, k9_bs, k9_ba, hW.1])
      exact k9o_to (ih (p + 1) (by omega)) rfl
  rw [k9e_10_0]
  exact key (w 7 0) 0 (by omega)
theorem k9s_11 (hW : k9_Wk I i0 w) (hf : k9_wf w) : k9_R S d 11 0 [some (k9_r 3 i0), none, none] [] I J = some (some (k9_i (nI (p_sm (w 0) (w 7 0)))), I, J) := by
  have h6 := hf.1
  have key : ∀ k p, p + k = w 7 0 → k9_R S d 11 4 [some (k9_r 3 i0), some (k9_i (nI (p_sm (w 0) p))), some (k9_i (nI p))] [] I J = some (some (k9_i (nI (p_sm (w 0) (w 7 0)))), I, J) := by
    intro k
    induction k with
    | zero =>
      intro p hp
      obtain rfl : p = w 7 0 := by omega
      refine k9o_of (k9o_eq k9e_11_4 ?_)
      simp (disch := omega) only [k9e_11_0, k9e_11_8, k9e_11_11, k9e_11_16, k9e_11_20, Nat.reduceEqDiff, Int.reduceEq, Int.reduceLT, Int.reduceLE, k9_ps_s, k9_ps_n, k9_ur, false_and, and_false, true_and, and_true, true_or, or_true, false_or, or_false, eq_self, ↓reduceIte, not_true_eq_false, not_false_eq_true, n_toInt, n_cl, nI_1, nI_add, n_a0, n_p2, n_p3, n_p4, n_x2, n_x3, n_x4, n_x60, n_x100, n_pm1, k9L_m2, k9L_m1, k9L_0, k9L_1, k9L_2, k9L_3, k9L_4, k9L_5, k9L_6, k9L_7, k9L_8, k9L_9, k9L_10, k9L_20, k9L_23, k9L_24, k9L_30, k9L_40, k9L_50, k9L_60, k9L_99, k9L_100, k9L_120, k9L_255, k9L_999, k9L_1000, k9_bs, k9_ba, hW.1]
      repeat (first | ((with_reducible refine k9q_T ?_ ?_); · omega) | ((with_reducible refine k9q_F ?_ ?_); · omega) | ((with_reducible refine k9q_Tb ?_ ?_); · omega) | ((with_reducible refine k9q_Fb ?_ ?_); · omega) | simp (disch := omega) only [k9e_11_0, k9e_11_8, k9e_11_11, k9e_11_16, k9e_11_20, Nat.reduceEqDiff, Int.reduceEq, Int.reduceLT, Int.reduceLE, k9_ps_s, k9_ps_n, k9_ur, false_and, and_false, true_and, and_true, true_or, or_true, false_or, or_false, eq_self, ↓reduceIte, not_true_eq_false, not_false_eq_true, n_toInt, n_cl, nI_1, nI_add, n_a0, n_p2, n_p3, n_p4, n_x2, n_x3, n_x4, n_x60, n_x100, n_pm1, k9L_m2, k9L_m1, k9L_0, k9L_1, k9L_2, k9L_3, k9L_4, k9L_5, k9L_6, k9L_7, k9L_8, k9L_9, k9L_10, k9L_20, k9L_23, k9L_24, k9L_30, k9L_40, k9L_50, k9L_60, k9L_99, k9L_100, k9L_120, k9L_255, k9L_999, k9L_1000, k9_bs, k9_ba, hW.1])
      exact k9o_ret rfl
    | succ k ih =>
      intro p hp
      have hp1 : p < w 7 0 := by omega
      obtain ⟨a0, a1, a2, a3⟩ := hW.2.2.2.2 p hp1
      refine k9o_of (k9o_eq k9e_11_4 ?_)
      simp (disch := omega) only [k9e_11_0, k9e_11_8, k9e_11_11, k9e_11_16, k9e_11_20, Nat.reduceEqDiff, Int.reduceEq, Int.reduceLT, Int.reduceLE, k9_ps_s, k9_ps_n, k9_ur, false_and, and_false, true_and, and_true, true_or, or_true, false_or, or_false, eq_self, ↓reduceIte, not_true_eq_false, not_false_eq_true, n_toInt, n_cl, nI_1, nI_add, n_a0, n_p2, n_p3, n_p4, n_x2, n_x3, n_x4, n_x60, n_x100, n_pm1, k9L_m2, k9L_m1, k9L_0, k9L_1, k9L_2, k9L_3, k9L_4, k9L_5, k9L_6, k9L_7, k9L_8, k9L_9, k9L_10, k9L_20, k9L_23, k9L_24, k9L_30, k9L_40, k9L_50, k9L_60, k9L_99, k9L_100, k9L_120, k9L_255, k9L_999, k9L_1000, k9_bs, k9_ba, hW.1, a0]
      repeat (first | ((with_reducible refine k9q_T ?_ ?_); · omega) | ((with_reducible refine k9q_F ?_ ?_); · omega) | ((with_reducible refine k9q_Tb ?_ ?_); · omega) | ((with_reducible refine k9q_Fb ?_ ?_); · omega) | simp (disch := omega) only [k9e_11_0, k9e_11_8, k9e_11_11, k9e_11_16, k9e_11_20, Nat.reduceEqDiff, Int.reduceEq, Int.reduceLT, Int.reduceLE, k9_ps_s, k9_ps_n, k9_ur, false_and, and_false, true_and, and_true, true_or, or_true, false_or, or_false, eq_self, ↓reduceIte, not_true_eq_false, not_false_eq_true, n_toInt, n_cl, nI_1, nI_add, n_a0, n_p2, n_p3, n_p4, n_x2, n_x3, n_x4, n_x60, n_x100, n_pm1, k9L_m2, k9L_m1, k9L_0, k9L_1, k9L_2, k9L_3, k9L_4, k9L_5, k9L_6, k9L_7, k9L_8, k9L_9, k9L_10, k9L_20, k9L_23, k9L_24, k9L_30, k9L_40, k9L_50, k9L_60, k9L_99, k9L_100, k9L_120, k9L_255, k9L_999, k9L_1000, k9_bs, k9_ba, hW.1, a0])
      exact k9o_to (ih (p + 1) (by omega)) rfl
  rw [k9e_11_0]
  exact key (w 7 0) 0 (by omega)
theorem k9s_12 (hW : k9_Wk I i0 w) (hf : k9_wf w) : k9_R S d 12 0 [some (k9_r 3 i0), none, none] [] I J = some (some (k9_i (nI (p_sm (w 3) (w 7 0)))), I, J) := by
  have h6 := hf.1
  have key : ∀ k p, p + k = w 7 0 → k9_R S d 12 4 [some (k9_r 3 i0), some (k9_i (nI (p_sm (w 3) p))), some (k9_i (nI p))] [] I J = some (some (k9_i (nI (p_sm (w 3) (w 7 0)))), I, J) := by
    intro k
    induction k with
    | zero =>
      intro p hp
      obtain rfl : p = w 7 0 := by omega
      refine k9o_of (k9o_eq k9e_12_4 ?_)
      simp (disch := omega) only [k9e_12_0, k9e_12_8, k9e_12_11, k9e_12_16, k9e_12_20, Nat.reduceEqDiff, Int.reduceEq, Int.reduceLT, Int.reduceLE, k9_ps_s, k9_ps_n, k9_ur, false_and, and_false, true_and, and_true, true_or, or_true, false_or, or_false, eq_self, ↓reduceIte, not_true_eq_false, not_false_eq_true, n_toInt, n_cl, nI_1, nI_add, n_a0, n_p2, n_p3, n_p4, n_x2, n_x3, n_x4, n_x60, n_x100, n_pm1, k9L_m2, k9L_m1, k9L_0, k9L_1, k9L_2, k9L_3, k9L_4, k9L_5, k9L_6, k9L_7, k9L_8, k9L_9, k9L_10, k9L_20, k9L_23, k9L_24, k9L_30, k9L_40, k9L_50, k9L_60, k9L_99, k9L_100, k9L_120, k9L_255, k9L_999, k9L_1000, k9_bs, k9_ba, hW.1]
      repeat (first | ((with_reducible refine k9q_T ?_ ?_); · omega) | ((with_reducible refine k9q_F ?_ ?_); · omega) | ((with_reducible refine k9q_Tb ?_ ?_); · omega) | ((with_reducible refine k9q_Fb ?_ ?_); · omega) | simp (disch := omega) only [k9e_12_0, k9e_12_8, k9e_12_11, k9e_12_16, k9e_12_20, Nat.reduceEqDiff, Int.reduceEq, Int.reduceLT, Int.reduceLE, k9_ps_s, k9_ps_n, k9_ur, false_and, and_false, true_and, and_true, true_or, or_true, false_or, or_false, eq_self, ↓reduceIte, not_true_eq_false, not_false_eq_true, n_toInt, n_cl, nI_1, nI_add, n_a0, n_p2, n_p3, n_p4, n_x2, n_x3, n_x4, n_x60, n_x100, n_pm1, k9L_m2, k9L_m1, k9L_0, k9L_1, k9L_2, k9L_3, k9L_4, k9L_5, k9L_6, k9L_7, k9L_8, k9L_9, k9L_10, k9L_20, k9L_23, k9L_24, k9L_30, k9L_40, k9L_50, k9L_60, k9L_99, k9L_100, k9L_120, k9L_255, k9L_999, k9L_1000, k9_bs, k9_ba, hW.1])
      exact k9o_ret rfl
    | succ k ih =>
      intro p hp
      have hp1 : p < w 7 0 := by omega
      obtain ⟨a0, a1, a2, a3⟩ := hW.2.2.2.2 p hp1
      refine k9o_of (k9o_eq k9e_12_4 ?_)
      simp (disch := omega) only [k9e_12_0, k9e_12_8, k9e_12_11, k9e_12_16, k9e_12_20, Nat.reduceEqDiff, Int.reduceEq, Int.reduceLT, Int.reduceLE, k9_ps_s, k9_ps_n, k9_ur, false_and, and_false, true_and, and_true, true_or, or_true, false_or, or_false, eq_self, ↓reduceIte, not_true_eq_false, not_false_eq_true, n_toInt, n_cl, nI_1, nI_add, n_a0, n_p2, n_p3, n_p4, n_x2, n_x3, n_x4, n_x60, n_x100, n_pm1, k9L_m2, k9L_m1, k9L_0, k9L_1, k9L_2, k9L_3, k9L_4, k9L_5, k9L_6, k9L_7, k9L_8, k9L_9, k9L_10, k9L_20, k9L_23, k9L_24, k9L_30, k9L_40, k9L_50, k9L_60, k9L_99, k9L_100, k9L_120, k9L_255, k9L_999, k9L_1000, k9_bs, k9_ba, hW.1, a3]
      repeat (first | ((with_reducible refine k9q_T ?_ ?_); · omega) | ((with_reducible refine k9q_F ?_ ?_); · omega) | ((with_reducible refine k9q_Tb ?_ ?_); · omega) | ((with_reducible refine k9q_Fb ?_ ?_); · omega) | simp (disch := omega) only [k9e_12_0, k9e_12_8, k9e_12_11, k9e_12_16, k9e_12_20, Nat.reduceEqDiff, Int.reduceEq, Int.reduceLT, Int.reduceLE, k9_ps_s, k9_ps_n, k9_ur, false_and, and_false, true_and, and_true, true_or, or_true, false_or, or_false, eq_self, ↓reduceIte, not_true_eq_false, not_false_eq_true, n_toInt, n_cl, nI_1, nI_add, n_a0, n_p2, n_p3, n_p4, n_x2, n_x3, n_x4, n_x60, n_x100, n_pm1, k9L_m2, k9L_m1, k9L_0, k9L_1, k9L_2, k9L_3, k9L_4, k9L_5, k9L_6, k9L_7, k9L_8, k9L_9, k9L_10, k9L_20, k9L_23, k9L_24, k9L_30, k9L_40, k9L_50, k9L_60, k9L_99, k9L_100, k9L_120, k9L_255, k9L_999, k9L_1000, k9_bs, k9_ba, hW.1, a3])
      exact k9o_to (ih (p + 1) (by omega)) rfl
  rw [k9e_12_0]
  exact key (w 7 0) 0 (by omega)
/-- bytes of a piece by one of its own seconds -/
def p_pt (w : Nat → Nat → Nat) (p u : Nat) : Nat := if p < w 7 0 then min (w 0 p) (w 1 p * (u - w 2 p)) else 0
theorem k9s_13 {p u : Nat} (hW : k9_Wk I i0 w) (hf : k9_wf w) (hp : p ≤ w 7 0) (hu : u ≤ 1000) : k9_R S (d + 1) 13 0 [some (k9_r 3 i0), some (k9_i (nI p)), some (k9_i (nI u))] [] I J = some (some (k9_i (nI (p_pt w p u))), I, J) := by
  have h6 := hf.1
  refine k9o_of ?_
  unfold p_pt
  by_cases h : p < w 7 0
  · obtain ⟨a0, a1, a2, a3⟩ := hW.2.2.2.2 p h
    obtain ⟨b1, b2, b3, b4, b5, b6⟩ := hf.2.2.2.2 p h
    rw [if_pos h]
    by_cases hs : u ≤ w 2 p
    · simp (disch := omega) only [k9e_13_0, k9e_13_3, k9e_13_4, k9e_13_9, k9e_13_10, k9e_13_12, k9e_13_16, k9e_13_20, k9e_13_25, Nat.reduceEqDiff, Int.reduceEq, Int.reduceLT, Int.reduceLE, k9_ps_s, k9_ps_n, k9_ur, false_and, and_false, true_and, and_true, true_or, or_true, false_or, or_false, eq_self, ↓reduceIte, not_true_eq_false, not_false_eq_true, n_toInt, n_cl, nI_1, nI_add, n_a0, n_p2, n_p3, n_p4, n_x2, n_x3, n_x4, n_x60, n_x100, n_pm1, k9L_m2, k9L_m1, k9L_0, k9L_1, k9L_2, k9L_3, k9L_4, k9L_5, k9L_6, k9L_7, k9L_8, k9L_9, k9L_10, k9L_20, k9L_23, k9L_24, k9L_30, k9L_40, k9L_50, k9L_60, k9L_99, k9L_100, k9L_120, k9L_255, k9L_999, k9L_1000, k9_bs, k9_ba, hW.1, a0, a1, a2]
      repeat (first | ((with_reducible refine k9q_T ?_ ?_); · omega) | ((with_reducible refine k9q_F ?_ ?_); · omega) | ((with_reducible refine k9q_Tb ?_ ?_); · omega) | ((with_reducible refine k9q_Fb ?_ ?_); · omega) | (refine k9o_call (k9s_3 hW.1 hf.1 h) ?_; simp (disch := omega) only [k9e_13_0, k9e_13_3, k9e_13_4, k9e_13_9, k9e_13_10, k9e_13_12, k9e_13_16, k9e_13_20, k9e_13_25, Nat.reduceEqDiff, Int.reduceEq, Int.reduceLT, Int.reduceLE, k9_ps_s, k9_ps_n, k9_ur, false_and, and_false, true_and, and_true, true_or, or_true, false_or, or_false, eq_self, ↓reduceIte, not_true_eq_false, not_false_eq_true, n_toInt, n_cl, nI_1, nI_add, n_a0, n_p2, n_p3, n_p4, n_x2, n_x3, n_x4, n_x60, n_x100, n_pm1, k9L_m2, k9L_m1, k9L_0, k9L_1, k9L_2, k9L_3, k9L_4, k9L_5, k9L_6, k9L_7, k9L_8, k9L_9, k9L_10, k9L_20, k9L_23, k9L_24, k9L_30, k9L_40, k9L_50, k9L_60, k9L_99, k9L_100, k9L_120, k9L_255, k9L_999, k9L_1000, k9_bs, k9_ba, hW.1, a0, a1, a2]) | simp (disch := omega) only [k9e_13_0, k9e_13_3, k9e_13_4, k9e_13_9, k9e_13_10, k9e_13_12, k9e_13_16, k9e_13_20, k9e_13_25, Nat.reduceEqDiff, Int.reduceEq, Int.reduceLT, Int.reduceLE, k9_ps_s, k9_ps_n, k9_ur, false_and, and_false, true_and, and_true, true_or, or_true, false_or, or_false, eq_self, ↓reduceIte, not_true_eq_false, not_false_eq_true, n_toInt, n_cl, nI_1, nI_add, n_a0, n_p2, n_p3, n_p4, n_x2, n_x3, n_x4, n_x60, n_x100, n_pm1, k9L_m2, k9L_m1, k9L_0, k9L_1, k9L_2, k9L_3, k9L_4, k9L_5, k9L_6, k9L_7, k9L_8, k9L_9, k9L_10, k9L_20, k9L_23, k9L_24, k9L_30, k9L_40, k9L_50, k9L_60, k9L_99, k9L_100, k9L_120, k9L_255, k9L_999, k9L_1000, k9_bs, k9_ba, hW.1, a0, a1, a2])
      rw [Nat.sub_eq_zero_of_le hs, Nat.mul_zero, Nat.min_zero]
      exact k9o_ret rfl
    · simp (disch := omega) only [k9e_13_0, k9e_13_3, k9e_13_4, k9e_13_9, k9e_13_10, k9e_13_12, k9e_13_16, k9e_13_20, k9e_13_25, Nat.reduceEqDiff, Int.reduceEq, Int.reduceLT, Int.reduceLE, k9_ps_s, k9_ps_n, k9_ur, false_and, and_false, true_and, and_true, true_or, or_true, false_or, or_false, eq_self, ↓reduceIte, not_true_eq_false, not_false_eq_true, n_toInt, n_cl, nI_1, nI_add, n_a0, n_p2, n_p3, n_p4, n_x2, n_x3, n_x4, n_x60, n_x100, n_pm1, k9L_m2, k9L_m1, k9L_0, k9L_1, k9L_2, k9L_3, k9L_4, k9L_5, k9L_6, k9L_7, k9L_8, k9L_9, k9L_10, k9L_20, k9L_23, k9L_24, k9L_30, k9L_40, k9L_50, k9L_60, k9L_99, k9L_100, k9L_120, k9L_255, k9L_999, k9L_1000, k9_bs, k9_ba, hW.1, a0, a1, a2]
      repeat (first | ((with_reducible refine k9q_T ?_ ?_); · omega) | ((with_reducible refine k9q_F ?_ ?_); · omega) | ((with_reducible refine k9q_Tb ?_ ?_); · omega) | ((with_reducible refine k9q_Fb ?_ ?_); · omega) | (refine k9o_call (k9s_3 hW.1 hf.1 h) ?_; simp (disch := omega) only [k9e_13_0, k9e_13_3, k9e_13_4, k9e_13_9, k9e_13_10, k9e_13_12, k9e_13_16, k9e_13_20, k9e_13_25, Nat.reduceEqDiff, Int.reduceEq, Int.reduceLT, Int.reduceLE, k9_ps_s, k9_ps_n, k9_ur, false_and, and_false, true_and, and_true, true_or, or_true, false_or, or_false, eq_self, ↓reduceIte, not_true_eq_false, not_false_eq_true, n_toInt, n_cl, nI_1, nI_add, n_a0, n_p2, n_p3, n_p4, n_x2, n_x3, n_x4, n_x60, n_x100, n_pm1, k9L_m2, k9L_m1, k9L_0, k9L_1, k9L_2, k9L_3, k9L_4, k9L_5, k9L_6, k9L_7, k9L_8, k9L_9, k9L_10, k9L_20, k9L_23, k9L_24, k9L_30, k9L_40, k9L_50, k9L_60, k9L_99, k9L_100, k9L_120, k9L_255, k9L_999, k9L_1000, k9_bs, k9_ba, hW.1, a0, a1, a2]) | simp (disch := omega) only [k9e_13_0, k9e_13_3, k9e_13_4, k9e_13_9, k9e_13_10, k9e_13_12, k9e_13_16, k9e_13_20, k9e_13_25, Nat.reduceEqDiff, Int.reduceEq, Int.reduceLT, Int.reduceLE, k9_ps_s, k9_ps_n, k9_ur, false_and, and_false, true_and, and_true, true_or, or_true, false_or, or_false, eq_self, ↓reduceIte, not_true_eq_false, not_false_eq_true, n_toInt, n_cl, nI_1, nI_add, n_a0, n_p2, n_p3, n_p4, n_x2, n_x3, n_x4, n_x60, n_x100, n_pm1, k9L_m2, k9L_m1, k9L_0, k9L_1, k9L_2, k9L_3, k9L_4, k9L_5, k9L_6, k9L_7, k9L_8, k9L_9, k9L_10, k9L_20, k9L_23, k9L_24, k9L_30, k9L_40, k9L_50, k9L_60, k9L_99, k9L_100, k9L_120, k9L_255, k9L_999, k9L_1000, k9_bs, k9_ba, hW.1, a0, a1, a2])
      have m : w 1 p * (u - w 2 p) ≤ 18 * 1000 := Nat.mul_le_mul b4 (by omega)
      rw [n_sub (by omega), n_mul]
      refine k9o_ret ?_
      by_cases hm : w 1 p * (u - w 2 p) < w 0 p
      · rw [if_pos (nI_lt hm (by omega)), Nat.min_eq_right (by omega)]
      · rw [if_neg (nI_nlt (by omega) (by omega)), Nat.min_eq_left (by omega)]
  · simp (disch := omega) only [k9e_13_0, k9e_13_3, k9e_13_4, k9e_13_9, k9e_13_10, k9e_13_12, k9e_13_16, k9e_13_20, k9e_13_25, Nat.reduceEqDiff, Int.reduceEq, Int.reduceLT, Int.reduceLE, k9_ps_s, k9_ps_n, k9_ur, false_and, and_false, true_and, and_true, true_or, or_true, false_or, or_false, eq_self, ↓reduceIte, not_true_eq_false, not_false_eq_true, n_toInt, n_cl, nI_1, nI_add, n_a0, n_p2, n_p3, n_p4, n_x2, n_x3, n_x4, n_x60, n_x100, n_pm1, k9L_m2, k9L_m1, k9L_0, k9L_1, k9L_2, k9L_3, k9L_4, k9L_5, k9L_6, k9L_7, k9L_8, k9L_9, k9L_10, k9L_20, k9L_23, k9L_24, k9L_30, k9L_40, k9L_50, k9L_60, k9L_99, k9L_100, k9L_120, k9L_255, k9L_999, k9L_1000, k9_bs, k9_ba, hW.1]
    repeat (first | ((with_reducible refine k9q_T ?_ ?_); · omega) | ((with_reducible refine k9q_F ?_ ?_); · omega) | ((with_reducible refine k9q_Tb ?_ ?_); · omega) | ((with_reducible refine k9q_Fb ?_ ?_); · omega) | (refine k9o_call (k9s_3x hW.1 hf.1 (by rw [n_toInt (by omega)]; omega)) ?_; simp (disch := omega) only [k9e_13_0, k9e_13_3, k9e_13_4, k9e_13_9, k9e_13_10, k9e_13_12, k9e_13_16, k9e_13_20, k9e_13_25, Nat.reduceEqDiff, Int.reduceEq, Int.reduceLT, Int.reduceLE, k9_ps_s, k9_ps_n, k9_ur, false_and, and_false, true_and, and_true, true_or, or_true, false_or, or_false, eq_self, ↓reduceIte, not_true_eq_false, not_false_eq_true, n_toInt, n_cl, nI_1, nI_add, n_a0, n_p2, n_p3, n_p4, n_x2, n_x3, n_x4, n_x60, n_x100, n_pm1, k9L_m2, k9L_m1, k9L_0, k9L_1, k9L_2, k9L_3, k9L_4, k9L_5, k9L_6, k9L_7, k9L_8, k9L_9, k9L_10, k9L_20, k9L_23, k9L_24, k9L_30, k9L_40, k9L_50, k9L_60, k9L_99, k9L_100, k9L_120, k9L_255, k9L_999, k9L_1000, k9_bs, k9_ba, hW.1]) | simp (disch := omega) only [k9e_13_0, k9e_13_3, k9e_13_4, k9e_13_9, k9e_13_10, k9e_13_12, k9e_13_16, k9e_13_20, k9e_13_25, Nat.reduceEqDiff, Int.reduceEq, Int.reduceLT, Int.reduceLE, k9_ps_s, k9_ps_n, k9_ur, false_and, and_false, true_and, and_true, true_or, or_true, false_or, or_false, eq_self, ↓reduceIte, not_true_eq_false, not_false_eq_true, n_toInt, n_cl, nI_1, nI_add, n_a0, n_p2, n_p3, n_p4, n_x2, n_x3, n_x4, n_x60, n_x100, n_pm1, k9L_m2, k9L_m1, k9L_0, k9L_1, k9L_2, k9L_3, k9L_4, k9L_5, k9L_6, k9L_7, k9L_8, k9L_9, k9L_10, k9L_20, k9L_23, k9L_24, k9L_30, k9L_40, k9L_50, k9L_60, k9L_99, k9L_100, k9L_120, k9L_255, k9L_999, k9L_1000, k9_bs, k9_ba, hW.1])
    rw [if_neg h]
    exact k9o_ret rfl
end KW

/-! WORK: what changes it -/
section KW2
variable {S : k9_S} {d : Nat} {I : k9_I} {J : k9_J} {i0 i1 i2 : Nat} {w : Nat → Nat → Nat}
def p_lo (q : Nat) : Nat := if q < 2 then 1 else 0
def p_hi (q : Nat) : Nat := if q = 0 then 99 else if q = 2 then 60 else if q = 4 then 4 else if q = 6 then 1 else 9
theorem k9s_1 {q : Nat} (hq : q < 7) : k9_R S d 1 0 [some (k9_i (nI q))] [] I J = some (some (k9_i (nI (p_lo q))), I, J) := by
  refine k9o_of ?_
  simp (disch := omega) only [k9e_1_0, k9e_1_2, k9e_1_6, k9e_1_9, k9e_1_10, k9e_1_11, Nat.reduceEqDiff, Int.reduceEq, Int.reduceLT, Int.reduceLE, k9_ps_s, k9_ps_n, k9_ur, false_and, and_false, true_and, and_true, true_or, or_true, false_or, or_false, eq_self, ↓reduceIte, not_true_eq_false, not_false_eq_true, n_toInt, n_cl, nI_1, nI_add, n_a0, n_p2, n_p3, n_p4, n_x2, n_x3, n_x4, n_x60, n_x100, n_pm1, k9L_m2, k9L_m1, k9L_0, k9L_1, k9L_2, k9L_3, k9L_4, k9L_5, k9L_6, k9L_7, k9L_8, k9L_9, k9L_10, k9L_20, k9L_23, k9L_24, k9L_30, k9L_40, k9L_50, k9L_60, k9L_99, k9L_100, k9L_120, k9L_255, k9L_999, k9L_1000, k9_bs, k9_ba]
  repeat (first | ((with_reducible refine k9q_T ?_ ?_); · omega) | ((with_reducible refine k9q_F ?_ ?_); · omega) | ((with_reducible refine k9q_Tb ?_ ?_); · omega) | ((with_reducible refine k9q_Fb ?_ ?_); · omega) | simp (disch := omega) only [k9e_1_0, k9e_1_2, k9e_1_6, k9e_1_9, k9e_1_10, k9e_1_11, Nat.reduceEqDiff, Int.reduceEq, Int.reduceLT, Int.reduceLE, k9_ps_s, k9_ps_n, k9_ur, false_and, and_false, true_and, and_true, true_or, or_true, false_or, or_false, eq_self, ↓reduceIte, not_true_eq_false, not_false_eq_true, n_toInt, n_cl, nI_1, nI_add, n_a0, n_p2, n_p3, n_p4, n_x2, n_x3, n_x4, n_x60, n_x100, n_pm1, k9L_m2, k9L_m1, k9L_0, k9L_1, k9L_2, k9L_3, k9L_4, k9L_5, k9L_6, k9L_7, k9L_8, k9L_9, k9L_10, k9L_20, k9L_23, k9L_24, k9L_30, k9L_40, k9L_50, k9L_60, k9L_99, k9L_100, k9L_120, k9L_255, k9L_999, k9L_1000, k9_bs, k9_ba])
  have h : q = 0 ∨ q = 1 ∨ q = 2 ∨ q = 3 ∨ q = 4 ∨ q = 5 ∨ q = 6 := by omega
  rcases h with rfl | rfl | rfl | rfl | rfl | rfl | rfl
  all_goals exact k9o_ret rfl
theorem k9s_2 {q : Nat} (hq : q < 7) : k9_R S d 2 0 [some (k9_i (nI q))] [] I J = some (some (k9_i (nI (p_hi q))), I, J) := by
  refine k9o_of ?_
  simp (disch := omega) only [k9e_2_0, k9e_2_2, k9e_2_6, k9e_2_9, k9e_2_10, k9e_2_11, Nat.reduceEqDiff, Int.reduceEq, Int.reduceLT, Int.reduceLE, k9_ps_s, k9_ps_n, k9_ur, false_and, and_false, true_and, and_true, true_or, or_true, false_or, or_false, eq_self, ↓reduceIte, not_true_eq_false, not_false_eq_true, n_toInt, n_cl, nI_1, nI_add, n_a0, n_p2, n_p3, n_p4, n_x2, n_x3, n_x4, n_x60, n_x100, n_pm1, k9L_m2, k9L_m1, k9L_0, k9L_1, k9L_2, k9L_3, k9L_4, k9L_5, k9L_6, k9L_7, k9L_8, k9L_9, k9L_10, k9L_20, k9L_23, k9L_24, k9L_30, k9L_40, k9L_50, k9L_60, k9L_99, k9L_100, k9L_120, k9L_255, k9L_999, k9L_1000, k9_bs, k9_ba]
  repeat (first | ((with_reducible refine k9q_T ?_ ?_); · omega) | ((with_reducible refine k9q_F ?_ ?_); · omega) | ((with_reducible refine k9q_Tb ?_ ?_); · omega) | ((with_reducible refine k9q_Fb ?_ ?_); · omega) | simp (disch := omega) only [k9e_2_0, k9e_2_2, k9e_2_6, k9e_2_9, k9e_2_10, k9e_2_11, Nat.reduceEqDiff, Int.reduceEq, Int.reduceLT, Int.reduceLE, k9_ps_s, k9_ps_n, k9_ur, false_and, and_false, true_and, and_true, true_or, or_true, false_or, or_false, eq_self, ↓reduceIte, not_true_eq_false, not_false_eq_true, n_toInt, n_cl, nI_1, nI_add, n_a0, n_p2, n_p3, n_p4, n_x2, n_x3, n_x4, n_x60, n_x100, n_pm1, k9L_m2, k9L_m1, k9L_0, k9L_1, k9L_2, k9L_3, k9L_4, k9L_5, k9L_6, k9L_7, k9L_8, k9L_9, k9L_10, k9L_20, k9L_23, k9L_24, k9L_30, k9L_40, k9L_50, k9L_60, k9L_99, k9L_100, k9L_120, k9L_255, k9L_999, k9L_1000, k9_bs, k9_ba])
  have h : q = 0 ∨ q = 1 ∨ q = 2 ∨ q = 3 ∨ q = 4 ∨ q = 5 ∨ q = 6 := by omega
  rcases h with rfl | rfl | rfl | rfl | rfl | rfl | rfl
  all_goals exact k9o_ret rfl
theorem p_lo_b (q : Nat) : p_lo q ≤ 1 := by
  unfold p_lo
  split <;> omega
theorem p_hi_b (q : Nat) : p_hi q ≤ 99 ∧ 1 ≤ p_hi q := by
  unfold p_hi
  repeat' split
  all_goals omega
theorem k9s_0 {q : Nat} {x : Int32} (hq : q < 7) (h : p_lo q ≤ x.toInt ∧ x.toInt ≤ p_hi q) : k9_R S (d + 1) 0 0 [some (k9_i (nI q)), some (k9_i x)] [] I J = some (some (k9_i 1), I, J) := by
  have b1 := p_lo_b q
  have b2 := p_hi_b q
  refine k9o_of ?_
  simp (disch := omega) only [k9e_0_0, k9e_0_3, k9e_0_4, k9e_0_7, k9e_0_8, k9e_0_10, k9e_0_11, Nat.reduceEqDiff, Int.reduceEq, Int.reduceLT, Int.reduceLE, k9_ps_s, k9_ps_n, k9_ur, false_and, and_false, true_and, and_true, true_or, or_true, false_or, or_false, eq_self, ↓reduceIte, not_true_eq_false, not_false_eq_true, n_toInt, n_cl, nI_1, nI_add, n_a0, n_p2, n_p3, n_p4, n_x2, n_x3, n_x4, n_x60, n_x100, n_pm1, k9L_m2, k9L_m1, k9L_0, k9L_1, k9L_2, k9L_3, k9L_4, k9L_5, k9L_6, k9L_7, k9L_8, k9L_9, k9L_10, k9L_20, k9L_23, k9L_24, k9L_30, k9L_40, k9L_50, k9L_60, k9L_99, k9L_100, k9L_120, k9L_255, k9L_999, k9L_1000, k9_bs, k9_ba]
  repeat (first | ((with_reducible refine k9q_T ?_ ?_); · omega) | ((with_reducible refine k9q_F ?_ ?_); · omega) | ((with_reducible refine k9q_Tb ?_ ?_); · omega) | ((with_reducible refine k9q_Fb ?_ ?_); · omega) | (refine k9o_call (k9s_1 hq) ?_; simp (disch := omega) only [k9e_0_0, k9e_0_3, k9e_0_4, k9e_0_7, k9e_0_8, k9e_0_10, k9e_0_11, Nat.reduceEqDiff, Int.reduceEq, Int.reduceLT, Int.reduceLE, k9_ps_s, k9_ps_n, k9_ur, false_and, and_false, true_and, and_true, true_or, or_true, false_or, or_false, eq_self, ↓reduceIte, not_true_eq_false, not_false_eq_true, n_toInt, n_cl, nI_1, nI_add, n_a0, n_p2, n_p3, n_p4, n_x2, n_x3, n_x4, n_x60, n_x100, n_pm1, k9L_m2, k9L_m1, k9L_0, k9L_1, k9L_2, k9L_3, k9L_4, k9L_5, k9L_6, k9L_7, k9L_8, k9L_9, k9L_10, k9L_20, k9L_23, k9L_24, k9L_30, k9L_40, k9L_50, k9L_60, k9L_99, k9L_100, k9L_120, k9L_255, k9L_999, k9L_1000, k9_bs, k9_ba]) | (refine k9o_call (k9s_2 hq) ?_; simp (disch := omega) only [k9e_0_0, k9e_0_3, k9e_0_4, k9e_0_7, k9e_0_8, k9e_0_10, k9e_0_11, Nat.reduceEqDiff, Int.reduceEq, Int.reduceLT, Int.reduceLE, k9_ps_s, k9_ps_n, k9_ur, false_and, and_false, true_and, and_true, true_or, or_true, false_or, or_false, eq_self, ↓reduceIte, not_true_eq_false, not_false_eq_true, n_toInt, n_cl, nI_1, nI_add, n_a0, n_p2, n_p3, n_p4, n_x2, n_x3, n_x4, n_x60, n_x100, n_pm1, k9L_m2, k9L_m1, k9L_0, k9L_1, k9L_2, k9L_3, k9L_4, k9L_5, k9L_6, k9L_7, k9L_8, k9L_9, k9L_10, k9L_20, k9L_23, k9L_24, k9L_30, k9L_40, k9L_50, k9L_60, k9L_99, k9L_100, k9L_120, k9L_255, k9L_999, k9L_1000, k9_bs, k9_ba]) | simp (disch := omega) only [k9e_0_0, k9e_0_3, k9e_0_4, k9e_0_7, k9e_0_8, k9e_0_10, k9e_0_11, Nat.reduceEqDiff, Int.reduceEq, Int.reduceLT, Int.reduceLE, k9_ps_s, k9_ps_n, k9_ur, false_and, and_false, true_and, and_true, true_or, or_true, false_or, or_false, eq_self, ↓reduceIte, not_true_eq_false, not_false_eq_true, n_toInt, n_cl, nI_1, nI_add, n_a0, n_p2, n_p3, n_p4, n_x2, n_x3, n_x4, n_x60, n_x100, n_pm1, k9L_m2, k9L_m1, k9L_0, k9L_1, k9L_2, k9L_3, k9L_4, k9L_5, k9L_6, k9L_7, k9L_8, k9L_9, k9L_10, k9L_20, k9L_23, k9L_24, k9L_30, k9L_40, k9L_50, k9L_60, k9L_99, k9L_100, k9L_120, k9L_255, k9L_999, k9L_1000, k9_bs, k9_ba])
  exact k9o_ret rfl
theorem k9s_0x {q : Nat} {x : Int32} (hq : q < 7) (h : ¬ (p_lo q ≤ x.toInt ∧ x.toInt ≤ p_hi q)) : k9_R S (d + 1) 0 0 [some (k9_i (nI q)), some (k9_i x)] [] I J = some (some (k9_i 0), I, J) := by
  have b1 := p_lo_b q
  have b2 := p_hi_b q
  refine k9o_of ?_
  simp (disch := omega) only [k9e_0_0, k9e_0_3, k9e_0_4, k9e_0_7, k9e_0_8, k9e_0_10, k9e_0_11, Nat.reduceEqDiff, Int.reduceEq, Int.reduceLT, Int.reduceLE, k9_ps_s, k9_ps_n, k9_ur, false_and, and_false, true_and, and_true, true_or, or_true, false_or, or_false, eq_self, ↓reduceIte, not_true_eq_false, not_false_eq_true, n_toInt, n_cl, nI_1, nI_add, n_a0, n_p2, n_p3, n_p4, n_x2, n_x3, n_x4, n_x60, n_x100, n_pm1, k9L_m2, k9L_m1, k9L_0, k9L_1, k9L_2, k9L_3, k9L_4, k9L_5, k9L_6, k9L_7, k9L_8, k9L_9, k9L_10, k9L_20, k9L_23, k9L_24, k9L_30, k9L_40, k9L_50, k9L_60, k9L_99, k9L_100, k9L_120, k9L_255, k9L_999, k9L_1000, k9_bs, k9_ba]
  repeat (first | ((with_reducible refine k9q_T ?_ ?_); · omega) | ((with_reducible refine k9q_F ?_ ?_); · omega) | ((with_reducible refine k9q_Tb ?_ ?_); · omega) | ((with_reducible refine k9q_Fb ?_ ?_); · omega) | (refine k9o_call (k9s_1 hq) ?_; simp (disch := omega) only [k9e_0_0, k9e_0_3, k9e_0_4, k9e_0_7, k9e_0_8, k9e_0_10, k9e_0_11, Nat.reduceEqDiff, Int.reduceEq, Int.reduceLT, Int.reduceLE, k9_ps_s, k9_ps_n, k9_ur, false_and, and_false, true_and, and_true, true_or, or_true, false_or, or_false, eq_self, ↓reduceIte, not_true_eq_false, not_false_eq_true, n_toInt, n_cl, nI_1, nI_add, n_a0, n_p2, n_p3, n_p4, n_x2, n_x3, n_x4, n_x60, n_x100, n_pm1, k9L_m2, k9L_m1, k9L_0, k9L_1, k9L_2, k9L_3, k9L_4, k9L_5, k9L_6, k9L_7, k9L_8, k9L_9, k9L_10, k9L_20, k9L_23, k9L_24, k9L_30, k9L_40, k9L_50, k9L_60, k9L_99, k9L_100, k9L_120, k9L_255, k9L_999, k9L_1000, k9_bs, k9_ba]) | simp (disch := omega) only [k9e_0_0, k9e_0_3, k9e_0_4, k9e_0_7, k9e_0_8, k9e_0_10, k9e_0_11, Nat.reduceEqDiff, Int.reduceEq, Int.reduceLT, Int.reduceLE, k9_ps_s, k9_ps_n, k9_ur, false_and, and_false, true_and, and_true, true_or, or_true, false_or, or_false, eq_self, ↓reduceIte, not_true_eq_false, not_false_eq_true, n_toInt, n_cl, nI_1, nI_add, n_a0, n_p2, n_p3, n_p4, n_x2, n_x3, n_x4, n_x60, n_x100, n_pm1, k9L_m2, k9L_m1, k9L_0, k9L_1, k9L_2, k9L_3, k9L_4, k9L_5, k9L_6, k9L_7, k9L_8, k9L_9, k9L_10, k9L_20, k9L_23, k9L_24, k9L_30, k9L_40, k9L_50, k9L_60, k9L_99, k9L_100, k9L_120, k9L_255, k9L_999, k9L_1000, k9_bs, k9_ba])
  refine k9o_if (fun h1 => ?_) (fun h1 => ?_)
  · repeat (first | ((with_reducible refine k9q_T ?_ ?_); · omega) | ((with_reducible refine k9q_F ?_ ?_); · omega) | ((with_reducible refine k9q_Tb ?_ ?_); · omega) | ((with_reducible refine k9q_Fb ?_ ?_); · omega))
    exact k9o_ret rfl
  · repeat (first | ((with_reducible refine k9q_T ?_ ?_); · omega) | ((with_reducible refine k9q_F ?_ ?_); · omega) | ((with_reducible refine k9q_Tb ?_ ?_); · omega) | ((with_reducible refine k9q_Fb ?_ ?_); · omega) | (refine k9o_call (k9s_2 hq) ?_; simp (disch := omega) only [k9e_0_0, k9e_0_3, k9e_0_4, k9e_0_7, k9e_0_8, k9e_0_10, k9e_0_11, Nat.reduceEqDiff, Int.reduceEq, Int.reduceLT, Int.reduceLE, k9_ps_s, k9_ps_n, k9_ur, false_and, and_false, true_and, and_true, true_or, or_true, false_or, or_false, eq_self, ↓reduceIte, not_true_eq_false, not_false_eq_true, n_toInt, n_cl, nI_1, nI_add, n_a0, n_p2, n_p3, n_p4, n_x2, n_x3, n_x4, n_x60, n_x100, n_pm1, k9L_m2, k9L_m1, k9L_0, k9L_1, k9L_2, k9L_3, k9L_4, k9L_5, k9L_6, k9L_7, k9L_8, k9L_9, k9L_10, k9L_20, k9L_23, k9L_24, k9L_30, k9L_40, k9L_50, k9L_60, k9L_99, k9L_100, k9L_120, k9L_255, k9L_999, k9L_1000, k9_bs, k9_ba]) | simp (disch := omega) only [k9e_0_0, k9e_0_3, k9e_0_4, k9e_0_7, k9e_0_8, k9e_0_10, k9e_0_11, Nat.reduceEqDiff, Int.reduceEq, Int.reduceLT, Int.reduceLE, k9_ps_s, k9_ps_n, k9_ur, false_and, and_false, true_and, and_true, true_or, or_true, false_or, or_false, eq_self, ↓reduceIte, not_true_eq_false, not_false_eq_true, n_toInt, n_cl, nI_1, nI_add, n_a0, n_p2, n_p3, n_p4, n_x2, n_x3, n_x4, n_x60, n_x100, n_pm1, k9L_m2, k9L_m1, k9L_0, k9L_1, k9L_2, k9L_3, k9L_4, k9L_5, k9L_6, k9L_7, k9L_8, k9L_9, k9L_10, k9L_20, k9L_23, k9L_24, k9L_30, k9L_40, k9L_50, k9L_60, k9L_99, k9L_100, k9L_120, k9L_255, k9L_999, k9L_1000, k9_bs, k9_ba])
    exact k9o_ret rfl
/-- such a number is there -/
def p_has (w : Nat → Nat → Nat) (p q : Nat) : Prop := (q < 4 ∧ p < w 7 0) ∨ (4 ≤ q ∧ q ≤ 6 ∧ p = 0)
theorem p_has_b {p q : Nat} (hf : k9_wf w) (h : p_has w p q) : p < 6 ∧ q < 7 := by
  have h6 := hf.1
  rcases h with h | h <;> omega
theorem k9s_4 {p q : Nat} (hn : I 3 i0 0 = nI (w 7 0)) (hf : k9_wf w) (h : p_has w p q) : k9_R S (d + 1) 4 0 [some (k9_r 3 i0), some (k9_i (nI p)), some (k9_i (nI q))] [] I J = some (some (k9_i 1), I, J) := by
  have h6 := hf.1
  have hb := p_has_b hf h
  refine k9o_of ?_
  rcases h with h | h
  · simp (disch := omega) only [k9e_4_0, k9e_4_2, k9e_4_5, k9e_4_7, k9e_4_10, k9e_4_13, k9e_4_14, k9e_4_16, k9e_4_18, k9e_4_20, k9e_4_22, k9e_4_23, Nat.reduceEqDiff, Int.reduceEq, Int.reduceLT, Int.reduceLE, k9_ps_s, k9_ps_n, k9_ur, false_and, and_false, true_and, and_true, true_or, or_true, false_or, or_false, eq_self, ↓reduceIte, not_true_eq_false, not_false_eq_true, n_toInt, n_cl, nI_1, nI_add, n_a0, n_p2, n_p3, n_p4, n_x2, n_x3, n_x4, n_x60, n_x100, n_pm1, k9L_m2, k9L_m1, k9L_0, k9L_1, k9L_2, k9L_3, k9L_4, k9L_5, k9L_6, k9L_7, k9L_8, k9L_9, k9L_10, k9L_20, k9L_23, k9L_24, k9L_30, k9L_40, k9L_50, k9L_60, k9L_99, k9L_100, k9L_120, k9L_255, k9L_999, k9L_1000, k9_bs, k9_ba, hn]
    repeat (first | ((with_reducible refine k9q_T ?_ ?_); · omega) | ((with_reducible refine k9q_F ?_ ?_); · omega) | ((with_reducible refine k9q_Tb ?_ ?_); · omega) | ((with_reducible refine k9q_Fb ?_ ?_); · omega) | (refine k9o_call (k9s_3 hn hf.1 h.2) ?_; simp (disch := omega) only [k9e_4_0, k9e_4_2, k9e_4_5, k9e_4_7, k9e_4_10, k9e_4_13, k9e_4_14, k9e_4_16, k9e_4_18, k9e_4_20, k9e_4_22, k9e_4_23, Nat.reduceEqDiff, Int.reduceEq, Int.reduceLT, Int.reduceLE, k9_ps_s, k9_ps_n, k9_ur, false_and, and_false, true_and, and_true, true_or, or_true, false_or, or_false, eq_self, ↓reduceIte, not_true_eq_false, not_false_eq_true, n_toInt, n_cl, nI_1, nI_add, n_a0, n_p2, n_p3, n_p4, n_x2, n_x3, n_x4, n_x60, n_x100, n_pm1, k9L_m2, k9L_m1, k9L_0, k9L_1, k9L_2, k9L_3, k9L_4, k9L_5, k9L_6, k9L_7, k9L_8, k9L_9, k9L_10, k9L_20, k9L_23, k9L_24, k9L_30, k9L_40, k9L_50, k9L_60, k9L_99, k9L_100, k9L_120, k9L_255, k9L_999, k9L_1000, k9_bs, k9_ba, hn]) | simp (disch := omega) only [k9e_4_0, k9e_4_2, k9e_4_5, k9e_4_7, k9e_4_10, k9e_4_13, k9e_4_14, k9e_4_16, k9e_4_18, k9e_4_20, k9e_4_22, k9e_4_23, Nat.reduceEqDiff, Int.reduceEq, Int.reduceLT, Int.reduceLE, k9_ps_s, k9_ps_n, k9_ur, false_and, and_false, true_and, and_true, true_or, or_true, false_or, or_false, eq_self, ↓reduceIte, not_true_eq_false, not_false_eq_true, n_toInt, n_cl, nI_1, nI_add, n_a0, n_p2, n_p3, n_p4, n_x2, n_x3, n_x4, n_x60, n_x100, n_pm1, k9L_m2, k9L_m1, k9L_0, k9L_1, k9L_2, k9L_3, k9L_4, k9L_5, k9L_6, k9L_7, k9L_8, k9L_9, k9L_10, k9L_20, k9L_23, k9L_24, k9L_30, k9L_40, k9L_50, k9L_60, k9L_99, k9L_100, k9L_120, k9L_255, k9L_999, k9L_1000, k9_bs, k9_ba, hn])
    exact k9o_ret rfl
  · simp (disch := omega) only [k9e_4_0, k9e_4_2, k9e_4_5, k9e_4_7, k9e_4_10, k9e_4_13, k9e_4_14, k9e_4_16, k9e_4_18, k9e_4_20, k9e_4_22, k9e_4_23, Nat.reduceEqDiff, Int.reduceEq, Int.reduceLT, Int.reduceLE, k9_ps_s, k9_ps_n, k9_ur, false_and, and_false, true_and, and_true, true_or, or_true, false_or, or_false, eq_self, ↓reduceIte, not_true_eq_false, not_false_eq_true, n_toInt, n_cl, nI_1, nI_add, n_a0, n_p2, n_p3, n_p4, n_x2, n_x3, n_x4, n_x60, n_x100, n_pm1, k9L_m2, k9L_m1, k9L_0, k9L_1, k9L_2, k9L_3, k9L_4, k9L_5, k9L_6, k9L_7, k9L_8, k9L_9, k9L_10, k9L_20, k9L_23, k9L_24, k9L_30, k9L_40, k9L_50, k9L_60, k9L_99, k9L_100, k9L_120, k9L_255, k9L_999, k9L_1000, k9_bs, k9_ba, hn]
    repeat (first | ((with_reducible refine k9q_T ?_ ?_); · omega) | ((with_reducible refine k9q_F ?_ ?_); · omega) | ((with_reducible refine k9q_Tb ?_ ?_); · omega) | ((with_reducible refine k9q_Fb ?_ ?_); · omega) | simp (disch := omega) only [k9e_4_0, k9e_4_2, k9e_4_5, k9e_4_7, k9e_4_10, k9e_4_13, k9e_4_14, k9e_4_16, k9e_4_18, k9e_4_20, k9e_4_22, k9e_4_23, Nat.reduceEqDiff, Int.reduceEq, Int.reduceLT, Int.reduceLE, k9_ps_s, k9_ps_n, k9_ur, false_and, and_false, true_and, and_true, true_or, or_true, false_or, or_false, eq_self, ↓reduceIte, not_true_eq_false, not_false_eq_true, n_toInt, n_cl, nI_1, nI_add, n_a0, n_p2, n_p3, n_p4, n_x2, n_x3, n_x4, n_x60, n_x100, n_pm1, k9L_m2, k9L_m1, k9L_0, k9L_1, k9L_2, k9L_3, k9L_4, k9L_5, k9L_6, k9L_7, k9L_8, k9L_9, k9L_10, k9L_20, k9L_23, k9L_24, k9L_30, k9L_40, k9L_50, k9L_60, k9L_99, k9L_100, k9L_120, k9L_255, k9L_999, k9L_1000, k9_bs, k9_ba, hn])
    exact k9o_ret rfl
theorem k9s_4x {x y : Int32} (hn : I 3 i0 0 = nI (w 7 0)) (hf : k9_wf w) (h : ¬ ((0 ≤ y.toInt ∧ y.toInt < 4 ∧ 0 ≤ x.toInt ∧ x.toInt < w 7 0) ∨ (4 ≤ y.toInt ∧ y.toInt ≤ 6 ∧ x.toInt = 0))) : k9_R S (d + 1) 4 0 [some (k9_r 3 i0), some (k9_i x), some (k9_i y)] [] I J = some (some (k9_i 0), I, J) := by
  have h6 := hf.1
  refine k9o_of ?_
  by_cases h1 : 0 ≤ y.toInt ∧ y.toInt ≤ 6
  · by_cases h2 : y.toInt < 4
    · simp (disch := omega) only [k9e_4_0, k9e_4_2, k9e_4_5, k9e_4_7, k9e_4_10, k9e_4_13, k9e_4_14, k9e_4_16, k9e_4_18, k9e_4_20, k9e_4_22, k9e_4_23, Nat.reduceEqDiff, Int.reduceEq, Int.reduceLT, Int.reduceLE, k9_ps_s, k9_ps_n, k9_ur, false_and, and_false, true_and, and_true, true_or, or_true, false_or, or_false, eq_self, ↓reduceIte, not_true_eq_false, not_false_eq_true, n_toInt, n_cl, nI_1, nI_add, n_a0, n_p2, n_p3, n_p4, n_x2, n_x3, n_x4, n_x60, n_x100, n_pm1, k9L_m2, k9L_m1, k9L_0, k9L_1, k9L_2, k9L_3, k9L_4, k9L_5, k9L_6, k9L_7, k9L_8, k9L_9, k9L_10, k9L_20, k9L_23, k9L_24, k9L_30, k9L_40, k9L_50, k9L_60, k9L_99, k9L_100, k9L_120, k9L_255, k9L_999, k9L_1000, k9_bs, k9_ba, hn]
      repeat (first | ((with_reducible refine k9q_T ?_ ?_); · omega) | ((with_reducible refine k9q_F ?_ ?_); · omega) | ((with_reducible refine k9q_Tb ?_ ?_); · omega) | ((with_reducible refine k9q_Fb ?_ ?_); · omega) | (refine k9o_call (k9s_3x hn hf.1 (by omega)) ?_; simp (disch := omega) only [k9e_4_0, k9e_4_2, k9e_4_5, k9e_4_7, k9e_4_10, k9e_4_13, k9e_4_14, k9e_4_16, k9e_4_18, k9e_4_20, k9e_4_22, k9e_4_23, Nat.reduceEqDiff, Int.reduceEq, Int.reduceLT, Int.reduceLE, k9_ps_s, k9_ps_n, k9_ur, false_and, and_false, true_and, and_true, true_or, or_true, false_or, or_false, eq_self, ↓reduceIte, not_true_eq_false, not_false_eq_true, n_toInt, n_cl, nI_1, nI_add, n_a0, n_p2, n_p3, n_p4, n_x2, n_x3, n_x4, n_x60, n_x100, n_pm1, k9L_m2, k9L_m1, k9L_0, k9L_1, k9L_2, k9L_3, k9L_4, k9L_5, k9L_6, k9L_7, k9L_8, k9L_9, k9L_10, k9L_20, k9L_23, k9L_24, k9L_30, k9L_40, k9L_50, k9L_60, k9L_99, k9L_100, k9L_120, k9L_255, k9L_999, k9L_1000, k9_bs, k9_ba, hn]) | simp (disch := omega) only [k9e_4_0, k9e_4_2, k9e_4_5, k9e_4_7, k9e_4_10, k9e_4_13, k9e_4_14, k9e_4_16, k9e_4_18, k9e_4_20, k9e_4_22, k9e_4_23, Nat.reduceEqDiff, Int.reduceEq, Int.reduceLT, Int.reduceLE, k9_ps_s, k9_ps_n, k9_ur, false_and, and_false, true_and, and_true, true_or, or_true, false_or, or_false, eq_self, ↓reduceIte, not_true_eq_false, not_false_eq_true, n_toInt, n_cl, nI_1, nI_add, n_a0, n_p2, n_p3, n_p4, n_x2, n_x3, n_x4, n_x60, n_x100, n_pm1, k9L_m2, k9L_m1, k9L_0, k9L_1, k9L_2, k9L_3, k9L_4, k9L_5, k9L_6, k9L_7, k9L_8, k9L_9, k9L_10, k9L_20, k9L_23, k9L_24, k9L_30, k9L_40, k9L_50, k9L_60, k9L_99, k9L_100, k9L_120, k9L_255, k9L_999, k9L_1000, k9_bs, k9_ba, hn])
      exact k9o_ret rfl
    · simp (disch := omega) only [k9e_4_0, k9e_4_2, k9e_4_5, k9e_4_7, k9e_4_10, k9e_4_13, k9e_4_14, k9e_4_16, k9e_4_18, k9e_4_20, k9e_4_22, k9e_4_23, Nat.reduceEqDiff, Int.reduceEq, Int.reduceLT, Int.reduceLE, k9_ps_s, k9_ps_n, k9_ur, false_and, and_false, true_and, and_true, true_or, or_true, false_or, or_false, eq_self, ↓reduceIte, not_true_eq_false, not_false_eq_true, n_toInt, n_cl, nI_1, nI_add, n_a0, n_p2, n_p3, n_p4, n_x2, n_x3, n_x4, n_x60, n_x100, n_pm1, k9L_m2, k9L_m1, k9L_0, k9L_1, k9L_2, k9L_3, k9L_4, k9L_5, k9L_6, k9L_7, k9L_8, k9L_9, k9L_10, k9L_20, k9L_23, k9L_24, k9L_30, k9L_40, k9L_50, k9L_60, k9L_99, k9L_100, k9L_120, k9L_255, k9L_999, k9L_1000, k9_bs, k9_ba, hn]
      repeat (first | ((with_reducible refine k9q_T ?_ ?_); · omega) | ((with_reducible refine k9q_F ?_ ?_); · omega) | ((with_reducible refine k9q_Tb ?_ ?_); · omega) | ((with_reducible refine k9q_Fb ?_ ?_); · omega) | simp (disch := omega) only [k9e_4_0, k9e_4_2, k9e_4_5, k9e_4_7, k9e_4_10, k9e_4_13, k9e_4_14, k9e_4_16, k9e_4_18, k9e_4_20, k9e_4_22, k9e_4_23, Nat.reduceEqDiff, Int.reduceEq, Int.reduceLT, Int.reduceLE, k9_ps_s, k9_ps_n, k9_ur, false_and, and_false, true_and, and_true, true_or, or_true, false_or, or_false, eq_self, ↓reduceIte, not_true_eq_false, not_false_eq_true, n_toInt, n_cl, nI_1, nI_add, n_a0, n_p2, n_p3, n_p4, n_x2, n_x3, n_x4, n_x60, n_x100, n_pm1, k9L_m2, k9L_m1, k9L_0, k9L_1, k9L_2, k9L_3, k9L_4, k9L_5, k9L_6, k9L_7, k9L_8, k9L_9, k9L_10, k9L_20, k9L_23, k9L_24, k9L_30, k9L_40, k9L_50, k9L_60, k9L_99, k9L_100, k9L_120, k9L_255, k9L_999, k9L_1000, k9_bs, k9_ba, hn])
      exact k9o_ret rfl
  · simp (disch := omega) only [k9e_4_0, k9e_4_2, k9e_4_5, k9e_4_7, k9e_4_10, k9e_4_13, k9e_4_14, k9e_4_16, k9e_4_18, k9e_4_20, k9e_4_22, k9e_4_23, Nat.reduceEqDiff, Int.reduceEq, Int.reduceLT, Int.reduceLE, k9_ps_s, k9_ps_n, k9_ur, false_and, and_false, true_and, and_true, true_or, or_true, false_or, or_false, eq_self, ↓reduceIte, not_true_eq_false, not_false_eq_true, n_toInt, n_cl, nI_1, nI_add, n_a0, n_p2, n_p3, n_p4, n_x2, n_x3, n_x4, n_x60, n_x100, n_pm1, k9L_m2, k9L_m1, k9L_0, k9L_1, k9L_2, k9L_3, k9L_4, k9L_5, k9L_6, k9L_7, k9L_8, k9L_9, k9L_10, k9L_20, k9L_23, k9L_24, k9L_30, k9L_40, k9L_50, k9L_60, k9L_99, k9L_100, k9L_120, k9L_255, k9L_999, k9L_1000, k9_bs, k9_ba, hn]
    refine k9o_if (fun h3 => ?_) (fun h3 => ?_)
    · repeat (first | ((with_reducible refine k9q_T ?_ ?_); · omega) | ((with_reducible refine k9q_F ?_ ?_); · omega) | ((with_reducible refine k9q_Tb ?_ ?_); · omega) | ((with_reducible refine k9q_Fb ?_ ?_); · omega))
      exact k9o_ret rfl
    · repeat (first | ((with_reducible refine k9q_T ?_ ?_); · omega) | ((with_reducible refine k9q_F ?_ ?_); · omega) | ((with_reducible refine k9q_Tb ?_ ?_); · omega) | ((with_reducible refine k9q_Fb ?_ ?_); · omega))
      exact k9o_ret rfl
theorem k9s_5 {p q : Nat} (hW : k9_Wk I i0 w) (hf : k9_wf w) (h : p_has w p q) : k9_R S (d + 1) 5 0 [some (k9_r 3 i0), some (k9_i (nI p)), some (k9_i (nI q))] [] I J = some (some (k9_i (nI (w q p))), I, J) := by
  have h6 := hf.1
  have hb := p_has_b hf h
  refine k9o_of ?_
  rcases h with h | h
  · obtain ⟨a0, a1, a2, a3⟩ := hW.2.2.2.2 p h.2
    have hq : q = 0 ∨ q = 1 ∨ q = 2 ∨ q = 3 := by omega
    rcases hq with rfl | rfl | rfl | rfl
    all_goals simp (disch := omega) only [k9e_5_0, k9e_5_2, k9e_5_5, k9e_5_6, k9e_5_8, k9e_5_12, k9e_5_13, k9e_5_16, k9e_5_17, k9e_5_19, k9e_5_23, k9e_5_24, k9e_5_27, k9e_5_28, k9e_5_30, k9e_5_34, k9e_5_35, k9e_5_38, k9e_5_39, k9e_5_41, k9e_5_45, k9e_5_46, k9e_5_49, k9e_5_52, Nat.reduceEqDiff, Int.reduceEq, Int.reduceLT, Int.reduceLE, k9_ps_s, k9_ps_n, k9_ur, false_and, and_false, true_and, and_true, true_or, or_true, false_or, or_false, eq_self, ↓reduceIte, not_true_eq_false, not_false_eq_true, n_toInt, n_cl, nI_1, nI_add, n_a0, n_p2, n_p3, n_p4, n_x2, n_x3, n_x4, n_x60, n_x100, n_pm1, k9L_m2, k9L_m1, k9L_0, k9L_1, k9L_2, k9L_3, k9L_4, k9L_5, k9L_6, k9L_7, k9L_8, k9L_9, k9L_10, k9L_20, k9L_23, k9L_24, k9L_30, k9L_40, k9L_50, k9L_60, k9L_99, k9L_100, k9L_120, k9L_255, k9L_999, k9L_1000, k9_bs, k9_ba, hW.1, a0, a1, a2, a3]
    all_goals repeat (first | ((with_reducible refine k9q_T ?_ ?_); · omega) | ((with_reducible refine k9q_F ?_ ?_); · omega) | ((with_reducible refine k9q_Tb ?_ ?_); · omega) | ((with_reducible refine k9q_Fb ?_ ?_); · omega) | (refine k9o_call (k9s_3 hW.1 hf.1 h.2) ?_; simp (disch := omega) only [k9e_5_0, k9e_5_2, k9e_5_5, k9e_5_6, k9e_5_8, k9e_5_12, k9e_5_13, k9e_5_16, k9e_5_17, k9e_5_19, k9e_5_23, k9e_5_24, k9e_5_27, k9e_5_28, k9e_5_30, k9e_5_34, k9e_5_35, k9e_5_38, k9e_5_39, k9e_5_41, k9e_5_45, k9e_5_46, k9e_5_49, k9e_5_52, Nat.reduceEqDiff, Int.reduceEq, Int.reduceLT, Int.reduceLE, k9_ps_s, k9_ps_n, k9_ur, false_and, and_false, true_and, and_true, true_or, or_true, false_or, or_false, eq_self, ↓reduceIte, not_true_eq_false, not_false_eq_true, n_toInt, n_cl, nI_1, nI_add, n_a0, n_p2, n_p3, n_p4, n_x2, n_x3, n_x4, n_x60, n_x100, n_pm1, k9L_m2, k9L_m1, k9L_0, k9L_1, k9L_2, k9L_3, k9L_4, k9L_5, k9L_6, k9L_7, k9L_8, k9L_9, k9L_10, k9L_20, k9L_23, k9L_24, k9L_30, k9L_40, k9L_50, k9L_60, k9L_99, k9L_100, k9L_120, k9L_255, k9L_999, k9L_1000, k9_bs, k9_ba, hW.1, a0, a1, a2, a3]) | simp (disch := omega) only [k9e_5_0, k9e_5_2, k9e_5_5, k9e_5_6, k9e_5_8, k9e_5_12, k9e_5_13, k9e_5_16, k9e_5_17, k9e_5_19, k9e_5_23, k9e_5_24, k9e_5_27, k9e_5_28, k9e_5_30, k9e_5_34, k9e_5_35, k9e_5_38, k9e_5_39, k9e_5_41, k9e_5_45, k9e_5_46, k9e_5_49, k9e_5_52, Nat.reduceEqDiff, Int.reduceEq, Int.reduceLT, Int.reduceLE, k9_ps_s, k9_ps_n, k9_ur, false_and, and_false, true_and, and_true, true_or, or_true, false_or, or_false, eq_self, ↓reduceIte, not_true_eq_false, not_false_eq_true, n_toInt, n_cl, nI_1, nI_add, n_a0, n_p2, n_p3, n_p4, n_x2, n_x3, n_x4, n_x60, n_x100, n_pm1, k9L_m2, k9L_m1, k9L_0, k9L_1, k9L_2, k9L_3, k9L_4, k9L_5, k9L_6, k9L_7, k9L_8, k9L_9, k9L_10, k9L_20, k9L_23, k9L_24, k9L_30, k9L_40, k9L_50, k9L_60, k9L_99, k9L_100, k9L_120, k9L_255, k9L_999, k9L_1000, k9_bs, k9_ba, hW.1, a0, a1, a2, a3])
    all_goals exact k9o_ret rfl
  · obtain ⟨h1, h2, rfl⟩ := h
    have hq : q = 4 ∨ q = 5 ∨ q = 6 := by omega
    rcases hq with rfl | rfl | rfl
    all_goals simp (disch := omega) only [k9e_5_0, k9e_5_2, k9e_5_5, k9e_5_6, k9e_5_8, k9e_5_12, k9e_5_13, k9e_5_16, k9e_5_17, k9e_5_19, k9e_5_23, k9e_5_24, k9e_5_27, k9e_5_28, k9e_5_30, k9e_5_34, k9e_5_35, k9e_5_38, k9e_5_39, k9e_5_41, k9e_5_45, k9e_5_46, k9e_5_49, k9e_5_52, Nat.reduceEqDiff, Int.reduceEq, Int.reduceLT, Int.reduceLE, k9_ps_s, k9_ps_n, k9_ur, false_and, and_false, true_and, and_true, true_or, or_true, false_or, or_false, eq_self, ↓reduceIte, not_true_eq_false, not_false_eq_true, n_toInt, n_cl, nI_1, nI_add, n_a0, n_p2, n_p3, n_p4, n_x2, n_x3, n_x4, n_x60, n_x100, n_pm1, k9L_m2, k9L_m1, k9L_0, k9L_1, k9L_2, k9L_3, k9L_4, k9L_5, k9L_6, k9L_7, k9L_8, k9L_9, k9L_10, k9L_20, k9L_23, k9L_24, k9L_30, k9L_40, k9L_50, k9L_60, k9L_99, k9L_100, k9L_120, k9L_255, k9L_999, k9L_1000, k9_bs, k9_ba, hW.1, hW.2.1, hW.2.2.1, hW.2.2.2.1]
    all_goals repeat (first | ((with_reducible refine k9q_T ?_ ?_); · omega) | ((with_reducible refine k9q_F ?_ ?_); · omega) | ((with_reducible refine k9q_Tb ?_ ?_); · omega) | ((with_reducible refine k9q_Fb ?_ ?_); · omega) | simp (disch := omega) only [k9e_5_0, k9e_5_2, k9e_5_5, k9e_5_6, k9e_5_8, k9e_5_12, k9e_5_13, k9e_5_16, k9e_5_17, k9e_5_19, k9e_5_23, k9e_5_24, k9e_5_27, k9e_5_28, k9e_5_30, k9e_5_34, k9e_5_35, k9e_5_38, k9e_5_39, k9e_5_41, k9e_5_45, k9e_5_46, k9e_5_49, k9e_5_52, Nat.reduceEqDiff, Int.reduceEq, Int.reduceLT, Int.reduceLE, k9_ps_s, k9_ps_n, k9_ur, false_and, and_false, true_and, and_true, true_or, or_true, false_or, or_false, eq_self, ↓reduceIte, not_true_eq_false, not_false_eq_true, n_toInt, n_cl, nI_1, nI_add, n_a0, n_p2, n_p3, n_p4, n_x2, n_x3, n_x4, n_x60, n_x100, n_pm1, k9L_m2, k9L_m1, k9L_0, k9L_1, k9L_2, k9L_3, k9L_4, k9L_5, k9L_6, k9L_7, k9L_8, k9L_9, k9L_10, k9L_20, k9L_23, k9L_24, k9L_30, k9L_40, k9L_50, k9L_60, k9L_99, k9L_100, k9L_120, k9L_255, k9L_999, k9L_1000, k9_bs, k9_ba, hW.1, hW.2.1, hW.2.2.1, hW.2.2.2.1])
    all_goals exact k9o_ret rfl
/-- the place of a number -/
def p_sk (q : Nat) : Nat := if q < 4 then 20 + q else 3
def p_sp (q p : Nat) : Nat := if q < 4 then p else q - 3
theorem k9s_6 {p q : Nat} {x : Int32} (hn : I 3 i0 0 = nI (w 7 0)) (hf : k9_wf w) (h : p_has w p q) : k9_R S (d + 2) 6 0 [some (k9_r 3 i0), some (k9_i (nI p)), some (k9_i (nI q)), some (k9_i x)] [] I J = some (none, k9_u I (p_sk q) i0 (p_sp q p) x, J) := by
  have h6 := hf.1
  have hb := p_has_b hf h
  refine k9o_of ?_
  rcases h with h | h
  · have hq : q = 0 ∨ q = 1 ∨ q = 2 ∨ q = 3 := by omega
    have h7 : k9_R S (d + 1) 7 0 [some (k9_r 3 i0), some (k9_i (nI p)), some (k9_i (nI q)), some (k9_i x)] [] I J = some (none, k9_u I (p_sk q) i0 (p_sp q p) x, J) := by
      refine k9o_of ?_
      rcases hq with rfl | rfl | rfl | rfl
      all_goals simp (disch := omega) only [k9e_7_0, k9e_7_3, k9e_7_4, k9e_7_5, k9e_7_7, k9e_7_12, k9e_7_13, k9e_7_16, k9e_7_21, k9e_7_22, k9e_7_25, k9e_7_30, k9e_7_31, k9e_7_34, k9e_7_39, Nat.reduceEqDiff, Int.reduceEq, Int.reduceLT, Int.reduceLE, k9_ps_s, k9_ps_n, k9_ur, false_and, and_false, true_and, and_true, true_or, or_true, false_or, or_false, eq_self, ↓reduceIte, not_true_eq_false, not_false_eq_true, n_toInt, n_cl, nI_1, nI_add, n_a0, n_p2, n_p3, n_p4, n_x2, n_x3, n_x4, n_x60, n_x100, n_pm1, k9L_m2, k9L_m1, k9L_0, k9L_1, k9L_2, k9L_3, k9L_4, k9L_5, k9L_6, k9L_7, k9L_8, k9L_9, k9L_10, k9L_20, k9L_23, k9L_24, k9L_30, k9L_40, k9L_50, k9L_60, k9L_99, k9L_100, k9L_120, k9L_255, k9L_999, k9L_1000, k9_bs, k9_ba, hn]
      all_goals repeat (first | ((with_reducible refine k9q_T ?_ ?_); · omega) | ((with_reducible refine k9q_F ?_ ?_); · omega) | ((with_reducible refine k9q_Tb ?_ ?_); · omega) | ((with_reducible refine k9q_Fb ?_ ?_); · omega) | (refine k9o_call (k9s_3 hn hf.1 h.2) ?_; simp (disch := omega) only [k9e_7_0, k9e_7_3, k9e_7_4, k9e_7_5, k9e_7_7, k9e_7_12, k9e_7_13, k9e_7_16, k9e_7_21, k9e_7_22, k9e_7_25, k9e_7_30, k9e_7_31, k9e_7_34, k9e_7_39, Nat.reduceEqDiff, Int.reduceEq, Int.reduceLT, Int.reduceLE, k9_ps_s, k9_ps_n, k9_ur, false_and, and_false, true_and, and_true, true_or, or_true, false_or, or_false, eq_self, ↓reduceIte, not_true_eq_false, not_false_eq_true, n_toInt, n_cl, nI_1, nI_add, n_a0, n_p2, n_p3, n_p4, n_x2, n_x3, n_x4, n_x60, n_x100, n_pm1, k9L_m2, k9L_m1, k9L_0, k9L_1, k9L_2, k9L_3, k9L_4, k9L_5, k9L_6, k9L_7, k9L_8, k9L_9, k9L_10, k9L_20, k9L_23, k9L_24, k9L_30, k9L_40, k9L_50, k9L_60, k9L_99, k9L_100, k9L_120, k9L_255, k9L_999, k9L_1000, k9_bs, k9_ba, hn]) | simp (disch := omega) only [k9e_7_0, k9e_7_3, k9e_7_4, k9e_7_5, k9e_7_7, k9e_7_12, k9e_7_13, k9e_7_16, k9e_7_21, k9e_7_22, k9e_7_25, k9e_7_30, k9e_7_31, k9e_7_34, k9e_7_39, Nat.reduceEqDiff, Int.reduceEq, Int.reduceLT, Int.reduceLE, k9_ps_s, k9_ps_n, k9_ur, false_and, and_false, true_and, and_true, true_or, or_true, false_or, or_false, eq_self, ↓reduceIte, not_true_eq_false, not_false_eq_true, n_toInt, n_cl, nI_1, nI_add, n_a0, n_p2, n_p3, n_p4, n_x2, n_x3, n_x4, n_x60, n_x100, n_pm1, k9L_m2, k9L_m1, k9L_0, k9L_1, k9L_2, k9L_3, k9L_4, k9L_5, k9L_6, k9L_7, k9L_8, k9L_9, k9L_10, k9L_20, k9L_23, k9L_24, k9L_30, k9L_40, k9L_50, k9L_60, k9L_99, k9L_100, k9L_120, k9L_255, k9L_999, k9L_1000, k9_bs, k9_ba, hn])
      all_goals exact k9o_ret rfl
    simp (disch := omega) only [k9e_6_0, k9e_6_3, k9e_6_7, k9e_6_10, k9e_6_14, k9e_6_17, k9e_6_21, k9e_6_26, Nat.reduceEqDiff, Int.reduceEq, Int.reduceLT, Int.reduceLE, k9_ps_s, k9_ps_n, k9_ur, false_and, and_false, true_and, and_true, true_or, or_true, false_or, or_false, eq_self, ↓reduceIte, not_true_eq_false, not_false_eq_true, n_toInt, n_cl, nI_1, nI_add, n_a0, n_p2, n_p3, n_p4, n_x2, n_x3, n_x4, n_x60, n_x100, n_pm1, k9L_m2, k9L_m1, k9L_0, k9L_1, k9L_2, k9L_3, k9L_4, k9L_5, k9L_6, k9L_7, k9L_8, k9L_9, k9L_10, k9L_20, k9L_23, k9L_24, k9L_30, k9L_40, k9L_50, k9L_60, k9L_99, k9L_100, k9L_120, k9L_255, k9L_999, k9L_1000, k9_bs, k9_ba, hn]
    repeat (first | ((with_reducible refine k9q_T ?_ ?_); · omega) | ((with_reducible refine k9q_F ?_ ?_); · omega) | ((with_reducible refine k9q_Tb ?_ ?_); · omega) | ((with_reducible refine k9q_Fb ?_ ?_); · omega) | (refine k9o_call (h7) ?_; simp (disch := omega) only [k9e_6_0, k9e_6_3, k9e_6_7, k9e_6_10, k9e_6_14, k9e_6_17, k9e_6_21, k9e_6_26, Nat.reduceEqDiff, Int.reduceEq, Int.reduceLT, Int.reduceLE, k9_ps_s, k9_ps_n, k9_ur, false_and, and_false, true_and, and_true, true_or, or_true, false_or, or_false, eq_self, ↓reduceIte, not_true_eq_false, not_false_eq_true, n_toInt, n_cl, nI_1, nI_add, n_a0, n_p2, n_p3, n_p4, n_x2, n_x3, n_x4, n_x60, n_x100, n_pm1, k9L_m2, k9L_m1, k9L_0, k9L_1, k9L_2, k9L_3, k9L_4, k9L_5, k9L_6, k9L_7, k9L_8, k9L_9, k9L_10, k9L_20, k9L_23, k9L_24, k9L_30, k9L_40, k9L_50, k9L_60, k9L_99, k9L_100, k9L_120, k9L_255, k9L_999, k9L_1000, k9_bs, k9_ba, hn]) | simp (disch := omega) only [k9e_6_0, k9e_6_3, k9e_6_7, k9e_6_10, k9e_6_14, k9e_6_17, k9e_6_21, k9e_6_26, Nat.reduceEqDiff, Int.reduceEq, Int.reduceLT, Int.reduceLE, k9_ps_s, k9_ps_n, k9_ur, false_and, and_false, true_and, and_true, true_or, or_true, false_or, or_false, eq_self, ↓reduceIte, not_true_eq_false, not_false_eq_true, n_toInt, n_cl, nI_1, nI_add, n_a0, n_p2, n_p3, n_p4, n_x2, n_x3, n_x4, n_x60, n_x100, n_pm1, k9L_m2, k9L_m1, k9L_0, k9L_1, k9L_2, k9L_3, k9L_4, k9L_5, k9L_6, k9L_7, k9L_8, k9L_9, k9L_10, k9L_20, k9L_23, k9L_24, k9L_30, k9L_40, k9L_50, k9L_60, k9L_99, k9L_100, k9L_120, k9L_255, k9L_999, k9L_1000, k9_bs, k9_ba, hn])
    exact k9o_ret rfl
  · obtain ⟨h1, h2, rfl⟩ := h
    have hq : q = 4 ∨ q = 5 ∨ q = 6 := by omega
    rcases hq with rfl | rfl | rfl
    all_goals simp (disch := omega) only [k9e_6_0, k9e_6_3, k9e_6_7, k9e_6_10, k9e_6_14, k9e_6_17, k9e_6_21, k9e_6_26, Nat.reduceEqDiff, Int.reduceEq, Int.reduceLT, Int.reduceLE, k9_ps_s, k9_ps_n, k9_ur, false_and, and_false, true_and, and_true, true_or, or_true, false_or, or_false, eq_self, ↓reduceIte, not_true_eq_false, not_false_eq_true, n_toInt, n_cl, nI_1, nI_add, n_a0, n_p2, n_p3, n_p4, n_x2, n_x3, n_x4, n_x60, n_x100, n_pm1, k9L_m2, k9L_m1, k9L_0, k9L_1, k9L_2, k9L_3, k9L_4, k9L_5, k9L_6, k9L_7, k9L_8, k9L_9, k9L_10, k9L_20, k9L_23, k9L_24, k9L_30, k9L_40, k9L_50, k9L_60, k9L_99, k9L_100, k9L_120, k9L_255, k9L_999, k9L_1000, k9_bs, k9_ba, hn]
    all_goals repeat (first | ((with_reducible refine k9q_T ?_ ?_); · omega) | ((with_reducible refine k9q_F ?_ ?_); · omega) | ((with_reducible refine k9q_Tb ?_ ?_); · omega) | ((with_reducible refine k9q_Fb ?_ ?_); · omega) | simp (disch := omega) only [k9e_6_0, k9e_6_3, k9e_6_7, k9e_6_10, k9e_6_14, k9e_6_17, k9e_6_21, k9e_6_26, Nat.reduceEqDiff, Int.reduceEq, Int.reduceLT, Int.reduceLE, k9_ps_s, k9_ps_n, k9_ur, false_and, and_false, true_and, and_true, true_or, or_true, false_or, or_false, eq_self, ↓reduceIte, not_true_eq_false, not_false_eq_true, n_toInt, n_cl, nI_1, nI_add, n_a0, n_p2, n_p3, n_p4, n_x2, n_x3, n_x4, n_x60, n_x100, n_pm1, k9L_m2, k9L_m1, k9L_0, k9L_1, k9L_2, k9L_3, k9L_4, k9L_5, k9L_6, k9L_7, k9L_8, k9L_9, k9L_10, k9L_20, k9L_23, k9L_24, k9L_30, k9L_40, k9L_50, k9L_60, k9L_99, k9L_100, k9L_120, k9L_255, k9L_999, k9L_1000, k9_bs, k9_ba, hn])
    all_goals exact k9o_ret rfl
def p_up (w : Nat → Nat → Nat) (q p v : Nat) : Nat → Nat → Nat := fun q' p' => if q' = q ∧ p' = p then v else w q' p'
theorem k9_Wk_up {p q v : Nat} (hW : k9_Wk I i0 w) (h : p_has w p q) : k9_Wk (k9_u I (p_sk q) i0 (p_sp q p) (nI v)) i0 (p_up w q p v) := by
  obtain ⟨w0, w1, w2, w3, w4⟩ := hW
  rcases h with h | h
  · have hq : q = 0 ∨ q = 1 ∨ q = 2 ∨ q = 3 := by omega
    rcases hq with rfl | rfl | rfl | rfl
    all_goals
      refine ⟨w0, w1, w2, w3, fun p' hp' => ?_⟩
      obtain ⟨a0, a1, a2, a3⟩ := w4 p' hp'
      simp only [k9_ur, p_sk, p_sp, p_up]
      by_cases e : p' = p <;> simp [e, a0, a1, a2, a3] <;> (try subst e) <;> simp [a0, a1, a2, a3]
  · obtain ⟨h1, h2, rfl⟩ := h
    have hq : q = 4 ∨ q = 5 ∨ q = 6 := by omega
    rcases hq with rfl | rfl | rfl
    all_goals
      refine ⟨?_, ?_, ?_, ?_, fun p' hp' => ?_⟩
      all_goals simp [k9_ur, p_sk, p_sp, p_up, w0, w1, w2, w3]
      try exact w4 p' hp'
def p_add (w : Nat → Nat → Nat) (b v s : Nat) : Nat → Nat → Nat := fun q p => if q = 7 then w 7 0 + 1 else if q < 4 ∧ p = w 7 0 then (if q = 0 then b else if q = 1 then v else if q = 2 then s else 1) else w q p
def c_add (I : k9_I) (i n : Nat) (b v s : Nat) : k9_I := k9_u (k9_u (k9_u (k9_u (k9_u I 20 i n (nI b)) 21 i n (nI v)) 22 i n (nI s)) 23 i n 1) 3 i 0 (nI (n + 1))
theorem k9s_8 {n b v s : Nat} (hn : I 3 i0 0 = nI n) (h6 : n < 6) : k9_R S d 8 0 [some (k9_r 3 i0), some (k9_i (nI b)), some (k9_i (nI v)), some (k9_i (nI s))] [] I J = some (none, c_add I i0 n b v s, J) := by
  refine k9o_of ?_
  refine k9o_eq k9e_8_0 ?_
  try simp (disch := omega) only [Nat.reduceEqDiff, Int.reduceEq, Int.reduceLT, Int.reduceLE, k9_ps_s, k9_ps_n, k9_ur, false_and, and_false, true_and, and_true, true_or, or_true, false_or, or_false, eq_self, ↓reduceIte, not_true_eq_false, not_false_eq_true, n_toInt, n_cl, nI_1, nI_add, n_a0, n_p2, n_p3, n_p4, n_x2, n_x3, n_x4, n_x60, n_x100, n_pm1, k9L_m2, k9L_m1, k9L_0, k9L_1, k9L_2, k9L_3, k9L_4, k9L_5, k9L_6, k9L_7, k9L_8, k9L_9, k9L_10, k9L_20, k9L_23, k9L_24, k9L_30, k9L_40, k9L_50, k9L_60, k9L_99, k9L_100, k9L_120, k9L_255, k9L_999, k9L_1000, k9_bs, k9_ba, hn]
  repeat (first | ((with_reducible refine k9q_T ?_ ?_); · omega) | ((with_reducible refine k9q_F ?_ ?_); · omega) | ((with_reducible refine k9q_Tb ?_ ?_); · omega) | ((with_reducible refine k9q_Fb ?_ ?_); · omega))
  refine k9o_eq k9e_8_3 ?_
  try simp (disch := omega) only [Nat.reduceEqDiff, Int.reduceEq, Int.reduceLT, Int.reduceLE, k9_ps_s, k9_ps_n, k9_ur, false_and, and_false, true_and, and_true, true_or, or_true, false_or, or_false, eq_self, ↓reduceIte, not_true_eq_false, not_false_eq_true, n_toInt, n_cl, nI_1, nI_add, n_a0, n_p2, n_p3, n_p4, n_x2, n_x3, n_x4, n_x60, n_x100, n_pm1, k9L_m2, k9L_m1, k9L_0, k9L_1, k9L_2, k9L_3, k9L_4, k9L_5, k9L_6, k9L_7, k9L_8, k9L_9, k9L_10, k9L_20, k9L_23, k9L_24, k9L_30, k9L_40, k9L_50, k9L_60, k9L_99, k9L_100, k9L_120, k9L_255, k9L_999, k9L_1000, k9_bs, k9_ba, hn]
  repeat (first | ((with_reducible refine k9q_T ?_ ?_); · omega) | ((with_reducible refine k9q_F ?_ ?_); · omega) | ((with_reducible refine k9q_Tb ?_ ?_); · omega) | ((with_reducible refine k9q_Fb ?_ ?_); · omega))
  refine k9o_eq k9e_8_8 ?_
  try simp (disch := omega) only [Nat.reduceEqDiff, Int.reduceEq, Int.reduceLT, Int.reduceLE, k9_ps_s, k9_ps_n, k9_ur, false_and, and_false, true_and, and_true, true_or, or_true, false_or, or_false, eq_self, ↓reduceIte, not_true_eq_false, not_false_eq_true, n_toInt, n_cl, nI_1, nI_add, n_a0, n_p2, n_p3, n_p4, n_x2, n_x3, n_x4, n_x60, n_x100, n_pm1, k9L_m2, k9L_m1, k9L_0, k9L_1, k9L_2, k9L_3, k9L_4, k9L_5, k9L_6, k9L_7, k9L_8, k9L_9, k9L_10, k9L_20, k9L_23, k9L_24, k9L_30, k9L_40, k9L_50, k9L_60, k9L_99, k9L_100, k9L_120, k9L_255, k9L_999, k9L_1000, k9_bs, k9_ba, hn]
  repeat (first | ((with_reducible refine k9q_T ?_ ?_); · omega) | ((with_reducible refine k9q_F ?_ ?_); · omega) | ((with_reducible refine k9q_Tb ?_ ?_); · omega) | ((with_reducible refine k9q_Fb ?_ ?_); · omega))
  refine k9o_eq k9e_8_14 ?_
  try simp (disch := omega) only [Nat.reduceEqDiff, Int.reduceEq, Int.reduceLT, Int.reduceLE, k9_ps_s, k9_ps_n, k9_ur, false_and, and_false, true_and, and_true, true_or, or_true, false_or, or_false, eq_self, ↓reduceIte, not_true_eq_false, not_false_eq_true, n_toInt, n_cl, nI_1, nI_add, n_a0, n_p2, n_p3, n_p4, n_x2, n_x3, n_x4, n_x60, n_x100, n_pm1, k9L_m2, k9L_m1, k9L_0, k9L_1, k9L_2, k9L_3, k9L_4, k9L_5, k9L_6, k9L_7, k9L_8, k9L_9, k9L_10, k9L_20, k9L_23, k9L_24, k9L_30, k9L_40, k9L_50, k9L_60, k9L_99, k9L_100, k9L_120, k9L_255, k9L_999, k9L_1000, k9_bs, k9_ba, hn]
  repeat (first | ((with_reducible refine k9q_T ?_ ?_); · omega) | ((with_reducible refine k9q_F ?_ ?_); · omega) | ((with_reducible refine k9q_Tb ?_ ?_); · omega) | ((with_reducible refine k9q_Fb ?_ ?_); · omega))
  refine k9o_eq k9e_8_20 ?_
  try simp (disch := omega) only [Nat.reduceEqDiff, Int.reduceEq, Int.reduceLT, Int.reduceLE, k9_ps_s, k9_ps_n, k9_ur, false_and, and_false, true_and, and_true, true_or, or_true, false_or, or_false, eq_self, ↓reduceIte, not_true_eq_false, not_false_eq_true, n_toInt, n_cl, nI_1, nI_add, n_a0, n_p2, n_p3, n_p4, n_x2, n_x3, n_x4, n_x60, n_x100, n_pm1, k9L_m2, k9L_m1, k9L_0, k9L_1, k9L_2, k9L_3, k9L_4, k9L_5, k9L_6, k9L_7, k9L_8, k9L_9, k9L_10, k9L_20, k9L_23, k9L_24, k9L_30, k9L_40, k9L_50, k9L_60, k9L_99, k9L_100, k9L_120, k9L_255, k9L_999, k9L_1000, k9_bs, k9_ba, hn]
  repeat (first | ((with_reducible refine k9q_T ?_ ?_); · omega) | ((with_reducible refine k9q_F ?_ ?_); · omega) | ((with_reducible refine k9q_Tb ?_ ?_); · omega) | ((with_reducible refine k9q_Fb ?_ ?_); · omega))
  refine k9o_eq k9e_8_26 ?_
  try simp (disch := omega) only [Nat.reduceEqDiff, Int.reduceEq, Int.reduceLT, Int.reduceLE, k9_ps_s, k9_ps_n, k9_ur, false_and, and_false, true_and, and_true, true_or, or_true, false_or, or_false, eq_self, ↓reduceIte, not_true_eq_false, not_false_eq_true, n_toInt, n_cl, nI_1, nI_add, n_a0, n_p2, n_p3, n_p4, n_x2, n_x3, n_x4, n_x60, n_x100, n_pm1, k9L_m2, k9L_m1, k9L_0, k9L_1, k9L_2, k9L_3, k9L_4, k9L_5, k9L_6, k9L_7, k9L_8, k9L_9, k9L_10, k9L_20, k9L_23, k9L_24, k9L_30, k9L_40, k9L_50, k9L_60, k9L_99, k9L_100, k9L_120, k9L_255, k9L_999, k9L_1000, k9_bs, k9_ba, hn]
  repeat (first | ((with_reducible refine k9q_T ?_ ?_); · omega) | ((with_reducible refine k9q_F ?_ ?_); · omega) | ((with_reducible refine k9q_Tb ?_ ?_); · omega) | ((with_reducible refine k9q_Fb ?_ ?_); · omega))
  refine k9o_eq k9e_8_32 ?_
  try simp (disch := omega) only [Nat.reduceEqDiff, Int.reduceEq, Int.reduceLT, Int.reduceLE, k9_ps_s, k9_ps_n, k9_ur, false_and, and_false, true_and, and_true, true_or, or_true, false_or, or_false, eq_self, ↓reduceIte, not_true_eq_false, not_false_eq_true, n_toInt, n_cl, nI_1, nI_add, n_a0, n_p2, n_p3, n_p4, n_x2, n_x3, n_x4, n_x60, n_x100, n_pm1, k9L_m2, k9L_m1, k9L_0, k9L_1, k9L_2, k9L_3, k9L_4, k9L_5, k9L_6, k9L_7, k9L_8, k9L_9, k9L_10, k9L_20, k9L_23, k9L_24, k9L_30, k9L_40, k9L_50, k9L_60, k9L_99, k9L_100, k9L_120, k9L_255, k9L_999, k9L_1000, k9_bs, k9_ba, hn]
  repeat (first | ((with_reducible refine k9q_T ?_ ?_); · omega) | ((with_reducible refine k9q_F ?_ ?_); · omega) | ((with_reducible refine k9q_Tb ?_ ?_); · omega) | ((with_reducible refine k9q_Fb ?_ ?_); · omega))
  exact k9o_ret rfl
theorem k9_Wk_add {b v s : Nat} (hW : k9_Wk I i0 w) : k9_Wk (c_add I i0 (w 7 0) b v s) i0 (p_add w b v s) := by
  obtain ⟨w0, w1, w2, w3, w4⟩ := hW
  refine ⟨?_, ?_, ?_, ?_, fun p' hp' => ?_⟩
  all_goals simp only [k9_ur, c_add, p_add]
  · simp
  · simp [w1]
  · simp [w2]
  · simp [w3]
  · by_cases e : p' = w 7 0
    · simp [e]
      rfl
    · have hp : p' < w 7 0 := by
        have : p' < w 7 0 + 1 := hp'
        omega
      simpa [e] using w4 p' hp
/-- one piece is copied -/
def c_cp (I : k9_I) (i p : Nat) (b v s f : Int32) : k9_I := k9_u (k9_u (k9_u (k9_u I 20 i p b) 21 i p v) 22 i p s) 23 i p f
def k9_Fw (i0 : Nat) (k i _ : Nat) : Bool := (Nat.beq k 3 || Nat.beq k 20 || Nat.beq k 21 || Nat.beq k 22 || Nat.beq k 23) && Nat.beq i i0
theorem k9s_18 {p j n : Nat} (hne : i0 ≠ i1) (hn : I 3 i0 0 = nI n) (h6 : n ≤ 6) (hp : p < n) (hW : k9_Wk I i1 w) (hf : k9_wf w) (hj : j < w 7 0) : k9_R S (d + 1) 18 0 [some (k9_r 3 i0), some (k9_i (nI p)), some (k9_r 3 i1), some (k9_i (nI j))] [] I J = some (none, c_cp I i0 p (nI (w 0 j)) (nI (w 1 j)) (nI (w 2 j)) (nI (w 3 j)), J) := by
  have h61 := hf.1
  obtain ⟨a0, a1, a2, a3⟩ := hW.2.2.2.2 j hj
  refine k9o_of ?_
  simp (disch := omega) only [k9e_18_0, k9e_18_3, k9e_18_4, k9e_18_7, k9e_18_8, k9e_18_9, k9e_18_16, k9e_18_17, k9e_18_24, k9e_18_25, k9e_18_32, k9e_18_33, k9e_18_40, k9e_18_41, Nat.reduceEqDiff, Int.reduceEq, Int.reduceLT, Int.reduceLE, k9_ps_s, k9_ps_n, k9_ur, false_and, and_false, true_and, and_true, true_or, or_true, false_or, or_false, eq_self, ↓reduceIte, not_true_eq_false, not_false_eq_true, n_toInt, n_cl, nI_1, nI_add, n_a0, n_p2, n_p3, n_p4, n_x2, n_x3, n_x4, n_x60, n_x100, n_pm1, k9L_m2, k9L_m1, k9L_0, k9L_1, k9L_2, k9L_3, k9L_4, k9L_5, k9L_6, k9L_7, k9L_8, k9L_9, k9L_10, k9L_20, k9L_23, k9L_24, k9L_30, k9L_40, k9L_50, k9L_60, k9L_99, k9L_100, k9L_120, k9L_255, k9L_999, k9L_1000, k9_bs, k9_ba, a0, a1, a2, a3]
  repeat (first | ((with_reducible refine k9q_T ?_ ?_); · omega) | ((with_reducible refine k9q_F ?_ ?_); · omega) | ((with_reducible refine k9q_Tb ?_ ?_); · omega) | ((with_reducible refine k9q_Fb ?_ ?_); · omega) | (refine k9o_call (k9s_3 hn h6 hp) ?_; simp (disch := omega) only [k9e_18_0, k9e_18_3, k9e_18_4, k9e_18_7, k9e_18_8, k9e_18_9, k9e_18_16, k9e_18_17, k9e_18_24, k9e_18_25, k9e_18_32, k9e_18_33, k9e_18_40, k9e_18_41, Nat.reduceEqDiff, Int.reduceEq, Int.reduceLT, Int.reduceLE, k9_ps_s, k9_ps_n, k9_ur, false_and, and_false, true_and, and_true, true_or, or_true, false_or, or_false, eq_self, ↓reduceIte, not_true_eq_false, not_false_eq_true, n_toInt, n_cl, nI_1, nI_add, n_a0, n_p2, n_p3, n_p4, n_x2, n_x3, n_x4, n_x60, n_x100, n_pm1, k9L_m2, k9L_m1, k9L_0, k9L_1, k9L_2, k9L_3, k9L_4, k9L_5, k9L_6, k9L_7, k9L_8, k9L_9, k9L_10, k9L_20, k9L_23, k9L_24, k9L_30, k9L_40, k9L_50, k9L_60, k9L_99, k9L_100, k9L_120, k9L_255, k9L_999, k9L_1000, k9_bs, k9_ba, a0, a1, a2, a3]) | (refine k9o_call (k9s_3 hW.1 h61 hj) ?_; simp (disch := omega) only [k9e_18_0, k9e_18_3, k9e_18_4, k9e_18_7, k9e_18_8, k9e_18_9, k9e_18_16, k9e_18_17, k9e_18_24, k9e_18_25, k9e_18_32, k9e_18_33, k9e_18_40, k9e_18_41, Nat.reduceEqDiff, Int.reduceEq, Int.reduceLT, Int.reduceLE, k9_ps_s, k9_ps_n, k9_ur, false_and, and_false, true_and, and_true, true_or, or_true, false_or, or_false, eq_self, ↓reduceIte, not_true_eq_false, not_false_eq_true, n_toInt, n_cl, nI_1, nI_add, n_a0, n_p2, n_p3, n_p4, n_x2, n_x3, n_x4, n_x60, n_x100, n_pm1, k9L_m2, k9L_m1, k9L_0, k9L_1, k9L_2, k9L_3, k9L_4, k9L_5, k9L_6, k9L_7, k9L_8, k9L_9, k9L_10, k9L_20, k9L_23, k9L_24, k9L_30, k9L_40, k9L_50, k9L_60, k9L_99, k9L_100, k9L_120, k9L_255, k9L_999, k9L_1000, k9_bs, k9_ba, a0, a1, a2, a3]) | simp (disch := omega) only [k9e_18_0, k9e_18_3, k9e_18_4, k9e_18_7, k9e_18_8, k9e_18_9, k9e_18_16, k9e_18_17, k9e_18_24, k9e_18_25, k9e_18_32, k9e_18_33, k9e_18_40, k9e_18_41, Nat.reduceEqDiff, Int.reduceEq, Int.reduceLT, Int.reduceLE, k9_ps_s, k9_ps_n, k9_ur, false_and, and_false, true_and, and_true, true_or, or_true, false_or, or_false, eq_self, ↓reduceIte, not_true_eq_false, not_false_eq_true, n_toInt, n_cl, nI_1, nI_add, n_a0, n_p2, n_p3, n_p4, n_x2, n_x3, n_x4, n_x60, n_x100, n_pm1, k9L_m2, k9L_m1, k9L_0, k9L_1, k9L_2, k9L_3, k9L_4, k9L_5, k9L_6, k9L_7, k9L_8, k9L_9, k9L_10, k9L_20, k9L_23, k9L_24, k9L_30, k9L_40, k9L_50, k9L_60, k9L_99, k9L_100, k9L_120, k9L_255, k9L_999, k9L_1000, k9_bs, k9_ba, a0, a1, a2, a3])
  exact k9o_ret rfl
theorem k9s_17 : k9_R S d 17 0 [some (k9_r 3 i0), some (k9_r 3 i1)] [] I J = some (none, k9_u (k9_u (k9_u (k9_u I 3 i0 0 (I 3 i1 0)) 3 i0 1 (I 3 i1 1)) 3 i0 2 (I 3 i1 2)) 3 i0 3 (I 3 i1 3), J) := by
  refine k9o_of ?_
  simp (disch := omega) only [k9e_17_0, Nat.reduceEqDiff, Int.reduceEq, Int.reduceLT, Int.reduceLE, k9_ps_s, k9_ps_n, k9_ur, false_and, and_false, true_and, and_true, true_or, or_true, false_or, or_false, eq_self, ↓reduceIte, not_true_eq_false, not_false_eq_true, n_toInt, n_cl, nI_1, nI_add, n_a0, n_p2, n_p3, n_p4, n_x2, n_x3, n_x4, n_x60, n_x100, n_pm1, k9L_m2, k9L_m1, k9L_0, k9L_1, k9L_2, k9L_3, k9L_4, k9L_5, k9L_6, k9L_7, k9L_8, k9L_9, k9L_10, k9L_20, k9L_23, k9L_24, k9L_30, k9L_40, k9L_50, k9L_60, k9L_99, k9L_100, k9L_120, k9L_255, k9L_999, k9L_1000, k9_bs, k9_ba]
  refine k9o_ret ?_
  by_cases h : i1 = i0
  · subst h
    simp
  · simp [h]
theorem k9_beq_self (n : Nat) : Nat.beq n n = true := Nat.beq_refl n
theorem k9_Wk_fx {F : Nat → Nat → Nat → Bool} {I' : k9_I} (h : k9_fx F I I') (e : ∀ p, F 3 i0 p = false ∧ F 20 i0 p = false ∧ F 21 i0 p = false ∧ F 22 i0 p = false ∧ F 23 i0 p = false) (hW : k9_Wk I i0 w) : k9_Wk I' i0 w := by
  obtain ⟨w0, w1, w2, w3, w4⟩ := hW
  refine ⟨(h _ _ _ (e 0).1).trans w0, (h _ _ _ (e 1).1).trans w1, (h _ _ _ (e 2).1).trans w2, (h _ _ _ (e 3).1).trans w3, fun p hp => ?_⟩
  obtain ⟨a0, a1, a2, a3⟩ := w4 p hp
  exact ⟨(h _ _ _ (e p).2.1).trans a0, (h _ _ _ (e p).2.2.1).trans a1, (h _ _ _ (e p).2.2.2.1).trans a2, (h _ _ _ (e p).2.2.2.2).trans a3⟩
end KW2

/-! WORK: copies, draws, the largest -/
section KW3
variable {S : k9_S} {d : Nat} {I : k9_I} {J : k9_J} {i0 i1 i2 : Nat} {w : Nat → Nat → Nat}
def k9_Or (I : k9_I) (i n : Nat) (o : Nat → Nat) : Prop := I 7 i 1 = nI n ∧ n ≤ 6 ∧ ∀ k, k < n → I 30 i k = nI (o k)
theorem k9s_25 {n k : Nat} {o : Nat → Nat} (hO : k9_Or I i0 n o) (hk : k < 100) : k9_R S d 25 0 [some (k9_r 7 i0), some (k9_i (nI k))] [] I J = some (some (k9_i (nI (if k < n then o k else 0))), I, J) := by
  obtain ⟨h1, h2, h3⟩ := hO
  refine k9o_of ?_
  by_cases h : k < n
  · rw [if_pos h]
    simp (disch := omega) only [k9e_25_0, k9e_25_2, k9e_25_6, k9e_25_9, k9e_25_13, k9e_25_14, k9e_25_15, Nat.reduceEqDiff, Int.reduceEq, Int.reduceLT, Int.reduceLE, k9_ps_s, k9_ps_n, k9_ur, false_and, and_false, true_and, and_true, true_or, or_true, false_or, or_false, eq_self, ↓reduceIte, not_true_eq_false, not_false_eq_true, n_toInt, n_cl, nI_1, nI_add, n_a0, n_p2, n_p3, n_p4, n_x2, n_x3, n_x4, n_x60, n_x100, n_pm1, k9L_m2, k9L_m1, k9L_0, k9L_1, k9L_2, k9L_3, k9L_4, k9L_5, k9L_6, k9L_7, k9L_8, k9L_9, k9L_10, k9L_20, k9L_23, k9L_24, k9L_30, k9L_40, k9L_50, k9L_60, k9L_99, k9L_100, k9L_120, k9L_255, k9L_999, k9L_1000, k9_bs, k9_ba, h1, h3 k h]
    repeat (first | ((with_reducible refine k9q_T ?_ ?_); · omega) | ((with_reducible refine k9q_F ?_ ?_); · omega) | ((with_reducible refine k9q_Tb ?_ ?_); · omega) | ((with_reducible refine k9q_Fb ?_ ?_); · omega) | simp (disch := omega) only [k9e_25_0, k9e_25_2, k9e_25_6, k9e_25_9, k9e_25_13, k9e_25_14, k9e_25_15, Nat.reduceEqDiff, Int.reduceEq, Int.reduceLT, Int.reduceLE, k9_ps_s, k9_ps_n, k9_ur, false_and, and_false, true_and, and_true, true_or, or_true, false_or, or_false, eq_self, ↓reduceIte, not_true_eq_false, not_false_eq_true, n_toInt, n_cl, nI_1, nI_add, n_a0, n_p2, n_p3, n_p4, n_x2, n_x3, n_x4, n_x60, n_x100, n_pm1, k9L_m2, k9L_m1, k9L_0, k9L_1, k9L_2, k9L_3, k9L_4, k9L_5, k9L_6, k9L_7, k9L_8, k9L_9, k9L_10, k9L_20, k9L_23, k9L_24, k9L_30, k9L_40, k9L_50, k9L_60, k9L_99, k9L_100, k9L_120, k9L_255, k9L_999, k9L_1000, k9_bs, k9_ba, h1, h3 k h])
    exact k9o_ret rfl
  · rw [if_neg h]
    simp (disch := omega) only [k9e_25_0, k9e_25_2, k9e_25_6, k9e_25_9, k9e_25_13, k9e_25_14, k9e_25_15, Nat.reduceEqDiff, Int.reduceEq, Int.reduceLT, Int.reduceLE, k9_ps_s, k9_ps_n, k9_ur, false_and, and_false, true_and, and_true, true_or, or_true, false_or, or_false, eq_self, ↓reduceIte, not_true_eq_false, not_false_eq_true, n_toInt, n_cl, nI_1, nI_add, n_a0, n_p2, n_p3, n_p4, n_x2, n_x3, n_x4, n_x60, n_x100, n_pm1, k9L_m2, k9L_m1, k9L_0, k9L_1, k9L_2, k9L_3, k9L_4, k9L_5, k9L_6, k9L_7, k9L_8, k9L_9, k9L_10, k9L_20, k9L_23, k9L_24, k9L_30, k9L_40, k9L_50, k9L_60, k9L_99, k9L_100, k9L_120, k9L_255, k9L_999, k9L_1000, k9_bs, k9_ba, h1]
    repeat (first | ((with_reducible refine k9q_T ?_ ?_); · omega) | ((with_reducible refine k9q_F ?_ ?_); · omega) | ((with_reducible refine k9q_Tb ?_ ?_); · omega) | ((with_reducible refine k9q_Fb ?_ ?_); · omega) | simp (disch := omega) only [k9e_25_0, k9e_25_2, k9e_25_6, k9e_25_9, k9e_25_13, k9e_25_14, k9e_25_15, Nat.reduceEqDiff, Int.reduceEq, Int.reduceLT, Int.reduceLE, k9_ps_s, k9_ps_n, k9_ur, false_and, and_false, true_and, and_true, true_or, or_true, false_or, or_false, eq_self, ↓reduceIte, not_true_eq_false, not_false_eq_true, n_toInt, n_cl, nI_1, nI_add, n_a0, n_p2, n_p3, n_p4, n_x2, n_x3, n_x4, n_x60, n_x100, n_pm1, k9L_m2, k9L_m1, k9L_0, k9L_1, k9L_2, k9L_3, k9L_4, k9L_5, k9L_6, k9L_7, k9L_8, k9L_9, k9L_10, k9L_20, k9L_23, k9L_24, k9L_30, k9L_40, k9L_50, k9L_60, k9L_99, k9L_100, k9L_120, k9L_255, k9L_999, k9L_1000, k9_bs, k9_ba, h1])
    exact k9o_ret rfl
/-- the settings, and the first p pieces -/
def k9_Cp (I0 I : k9_I) (i : Nat) (w : Nat → Nat → Nat) (p : Nat) : Prop :=
  (I 3 i 0 = nI (w 7 0) ∧ I 3 i 1 = nI (w 4 0) ∧ I 3 i 2 = nI (w 5 0) ∧ I 3 i 3 = nI (w 6 0) ∧
  ∀ p', p' < p → I 20 i p' = nI (w 0 p') ∧ I 21 i p' = nI (w 1 p') ∧ I 22 i p' = nI (w 2 p') ∧ I 23 i p' = nI (w 3 p')) ∧ k9_fx (k9_Fw i) I0 I
theorem k9_Fw_t (k : Nat) (h : (Nat.beq k 3 || Nat.beq k 20 || Nat.beq k 21 || Nat.beq k 22 || Nat.beq k 23) = true) (p : Nat) : k9_Fw i0 k i0 p = true := by
  unfold k9_Fw
  rw [h, k9_beq_self]
  rfl
theorem k9_Fw_f {k i p : Nat} (h : i ≠ i0) : k9_Fw i0 k i p = false := by
  unfold k9_Fw
  cases h2 : Nat.beq i i0 with
  | false => rw [Bool.and_false]
  | true => exact absurd (Nat.eq_of_beq_eq_true h2) h
theorem k9_Cp_s {I0 : k9_I} {p : Nat} (h : k9_Cp I0 I i0 w p) : k9_Cp I0 (c_cp I i0 p (nI (w 0 p)) (nI (w 1 p)) (nI (w 2 p)) (nI (w 3 p))) i0 w (p + 1) := by
  obtain ⟨⟨w0, w1, w2, w3, w4⟩, hfx⟩ := h
  refine ⟨⟨?_, ?_, ?_, ?_, fun p' hp' => ?_⟩, ?_⟩
  · simpa [c_cp, k9_ur] using w0
  · simpa [c_cp, k9_ur] using w1
  · simpa [c_cp, k9_ur] using w2
  · simpa [c_cp, k9_ur] using w3
  · by_cases e : p' = p
    · simp [c_cp, k9_ur, e]
    · simpa [c_cp, k9_ur, e] using w4 p' (by omega)
  · exact k9_fx_u (k9_fx_u (k9_fx_u (k9_fx_u hfx (k9_Fw_t _ rfl _)) (k9_Fw_t _ rfl _)) (k9_Fw_t _ rfl _)) (k9_Fw_t _ rfl _)
theorem k9_Wk_Fw {I' : k9_I} (h : k9_fx (k9_Fw i0) I I') (hne : i0 ≠ i1) (hW : k9_Wk I i1 w) : k9_Wk I' i1 w :=
  k9_Wk_fx h (fun p => ⟨k9_Fw_f (Ne.symm hne), k9_Fw_f (Ne.symm hne), k9_Fw_f (Ne.symm hne), k9_Fw_f (Ne.symm hne), k9_Fw_f (Ne.symm hne)⟩) hW
theorem k9s_15 (hne : i0 ≠ i1) (hW : k9_Wk I i1 w) (hf : k9_wf w) : ∃ I', k9_R S (d + 2) 15 0 [some (k9_r 3 i0), some (k9_r 3 i1), none] [] I J = some (none, I', J) ∧ k9_Wk I' i0 w ∧ k9_fx (k9_Fw i0) I I' := by
  have h6 := hf.1
  have key : ∀ k p I1, p + k = w 7 0 → k9_Cp I I1 i0 w p → ∃ I', k9_R S (d + 2) 15 5 [some (k9_r 3 i0), some (k9_r 3 i1), some (k9_i (nI p))] [] I1 J = some (none, I', J) ∧ k9_Cp I I' i0 w (w 7 0) := by
    intro k
    induction k with
    | zero =>
      intro p I1 hp hC
      obtain rfl : p = w 7 0 := by omega
      refine ⟨I1, k9o_of (k9o_eq k9e_15_5 ?_), hC⟩
      simp (disch := omega) only [k9e_15_0, k9e_15_3, k9e_15_9, k9e_15_14, k9e_15_16, Nat.reduceEqDiff, Int.reduceEq, Int.reduceLT, Int.reduceLE, k9_ps_s, k9_ps_n, k9_ur, false_and, and_false, true_and, and_true, true_or, or_true, false_or, or_false, eq_self, ↓reduceIte, not_true_eq_false, not_false_eq_true, n_toInt, n_cl, nI_1, nI_add, n_a0, n_p2, n_p3, n_p4, n_x2, n_x3, n_x4, n_x60, n_x100, n_pm1, k9L_m2, k9L_m1, k9L_0, k9L_1, k9L_2, k9L_3, k9L_4, k9L_5, k9L_6, k9L_7, k9L_8, k9L_9, k9L_10, k9L_20, k9L_23, k9L_24, k9L_30, k9L_40, k9L_50, k9L_60, k9L_99, k9L_100, k9L_120, k9L_255, k9L_999, k9L_1000, k9_bs, k9_ba, hC.1.1]
      repeat (first | ((with_reducible refine k9q_T ?_ ?_); · omega) | ((with_reducible refine k9q_F ?_ ?_); · omega) | ((with_reducible refine k9q_Tb ?_ ?_); · omega) | ((with_reducible refine k9q_Fb ?_ ?_); · omega) | simp (disch := omega) only [k9e_15_0, k9e_15_3, k9e_15_9, k9e_15_14, k9e_15_16, Nat.reduceEqDiff, Int.reduceEq, Int.reduceLT, Int.reduceLE, k9_ps_s, k9_ps_n, k9_ur, false_and, and_false, true_and, and_true, true_or, or_true, false_or, or_false, eq_self, ↓reduceIte, not_true_eq_false, not_false_eq_true, n_toInt, n_cl, nI_1, nI_add, n_a0, n_p2, n_p3, n_p4, n_x2, n_x3, n_x4, n_x60, n_x100, n_pm1, k9L_m2, k9L_m1, k9L_0, k9L_1, k9L_2, k9L_3, k9L_4, k9L_5, k9L_6, k9L_7, k9L_8, k9L_9, k9L_10, k9L_20, k9L_23, k9L_24, k9L_30, k9L_40, k9L_50, k9L_60, k9L_99, k9L_100, k9L_120, k9L_255, k9L_999, k9L_1000, k9_bs, k9_ba, hC.1.1])
      exact k9o_ret rfl
    | succ k ih =>
      intro p I1 hp hC
      have hW1 := k9_Wk_Fw hC.2 hne hW
      obtain ⟨I', e, h⟩ := ih (p + 1) _ (by omega) (k9_Cp_s hC)
      refine ⟨I', k9o_of (k9o_eq k9e_15_5 ?_), h⟩
      simp (disch := omega) only [k9e_15_0, k9e_15_3, k9e_15_9, k9e_15_14, k9e_15_16, Nat.reduceEqDiff, Int.reduceEq, Int.reduceLT, Int.reduceLE, k9_ps_s, k9_ps_n, k9_ur, false_and, and_false, true_and, and_true, true_or, or_true, false_or, or_false, eq_self, ↓reduceIte, not_true_eq_false, not_false_eq_true, n_toInt, n_cl, nI_1, nI_add, n_a0, n_p2, n_p3, n_p4, n_x2, n_x3, n_x4, n_x60, n_x100, n_pm1, k9L_m2, k9L_m1, k9L_0, k9L_1, k9L_2, k9L_3, k9L_4, k9L_5, k9L_6, k9L_7, k9L_8, k9L_9, k9L_10, k9L_20, k9L_23, k9L_24, k9L_30, k9L_40, k9L_50, k9L_60, k9L_99, k9L_100, k9L_120, k9L_255, k9L_999, k9L_1000, k9_bs, k9_ba, hC.1.1]
      repeat (first | ((with_reducible refine k9q_T ?_ ?_); · omega) | ((with_reducible refine k9q_F ?_ ?_); · omega) | ((with_reducible refine k9q_Tb ?_ ?_); · omega) | ((with_reducible refine k9q_Fb ?_ ?_); · omega) | (refine k9o_call (k9s_18 hne hC.1.1 h6 (by omega : p < w 7 0) hW1 hf (by omega : p < w 7 0)) ?_; simp (disch := omega) only [k9e_15_0, k9e_15_3, k9e_15_9, k9e_15_14, k9e_15_16, Nat.reduceEqDiff, Int.reduceEq, Int.reduceLT, Int.reduceLE, k9_ps_s, k9_ps_n, k9_ur, false_and, and_false, true_and, and_true, true_or, or_true, false_or, or_false, eq_self, ↓reduceIte, not_true_eq_false, not_false_eq_true, n_toInt, n_cl, nI_1, nI_add, n_a0, n_p2, n_p3, n_p4, n_x2, n_x3, n_x4, n_x60, n_x100, n_pm1, k9L_m2, k9L_m1, k9L_0, k9L_1, k9L_2, k9L_3, k9L_4, k9L_5, k9L_6, k9L_7, k9L_8, k9L_9, k9L_10, k9L_20, k9L_23, k9L_24, k9L_30, k9L_40, k9L_50, k9L_60, k9L_99, k9L_100, k9L_120, k9L_255, k9L_999, k9L_1000, k9_bs, k9_ba, hC.1.1]) | simp (disch := omega) only [k9e_15_0, k9e_15_3, k9e_15_9, k9e_15_14, k9e_15_16, Nat.reduceEqDiff, Int.reduceEq, Int.reduceLT, Int.reduceLE, k9_ps_s, k9_ps_n, k9_ur, false_and, and_false, true_and, and_true, true_or, or_true, false_or, or_false, eq_self, ↓reduceIte, not_true_eq_false, not_false_eq_true, n_toInt, n_cl, nI_1, nI_add, n_a0, n_p2, n_p3, n_p4, n_x2, n_x3, n_x4, n_x60, n_x100, n_pm1, k9L_m2, k9L_m1, k9L_0, k9L_1, k9L_2, k9L_3, k9L_4, k9L_5, k9L_6, k9L_7, k9L_8, k9L_9, k9L_10, k9L_20, k9L_23, k9L_24, k9L_30, k9L_40, k9L_50, k9L_60, k9L_99, k9L_100, k9L_120, k9L_255, k9L_999, k9L_1000, k9_bs, k9_ba, hC.1.1])
      exact k9o_to e rfl
  obtain ⟨I', e, h⟩ := key (w 7 0) 0 (k9_u (k9_u (k9_u (k9_u I 3 i0 0 (I 3 i1 0)) 3 i0 1 (I 3 i1 1)) 3 i0 2 (I 3 i1 2)) 3 i0 3 (I 3 i1 3)) (by omega) ⟨⟨by simp [k9_ur, hW.1], by simp [k9_ur, hW.2.1], by simp [k9_ur, hW.2.2.1], by simp [k9_ur, hW.2.2.2.1], fun p' hp' => by omega⟩, k9_fx_u (k9_fx_u (k9_fx_u (k9_fx_u (k9_fx_rf _ _) (k9_Fw_t _ rfl _)) (k9_Fw_t _ rfl _)) (k9_Fw_t _ rfl _)) (k9_Fw_t _ rfl _)⟩
  refine ⟨I', k9o_of ?_, h.1, h.2⟩
  simp (disch := omega) only [k9e_15_0, k9e_15_3, k9e_15_9, k9e_15_14, k9e_15_16, Nat.reduceEqDiff, Int.reduceEq, Int.reduceLT, Int.reduceLE, k9_ps_s, k9_ps_n, k9_ur, false_and, and_false, true_and, and_true, true_or, or_true, false_or, or_false, eq_self, ↓reduceIte, not_true_eq_false, not_false_eq_true, n_toInt, n_cl, nI_1, nI_add, n_a0, n_p2, n_p3, n_p4, n_x2, n_x3, n_x4, n_x60, n_x100, n_pm1, k9L_m2, k9L_m1, k9L_0, k9L_1, k9L_2, k9L_3, k9L_4, k9L_5, k9L_6, k9L_7, k9L_8, k9L_9, k9L_10, k9L_20, k9L_23, k9L_24, k9L_30, k9L_40, k9L_50, k9L_60, k9L_99, k9L_100, k9L_120, k9L_255, k9L_999, k9L_1000, k9_bs, k9_ba]
  repeat (first | ((with_reducible refine k9q_T ?_ ?_); · omega) | ((with_reducible refine k9q_F ?_ ?_); · omega) | ((with_reducible refine k9q_Tb ?_ ?_); · omega) | ((with_reducible refine k9q_Fb ?_ ?_); · omega) | (refine k9o_call (k9s_17) ?_; simp (disch := omega) only [k9e_15_0, k9e_15_3, k9e_15_9, k9e_15_14, k9e_15_16, Nat.reduceEqDiff, Int.reduceEq, Int.reduceLT, Int.reduceLE, k9_ps_s, k9_ps_n, k9_ur, false_and, and_false, true_and, and_true, true_or, or_true, false_or, or_false, eq_self, ↓reduceIte, not_true_eq_false, not_false_eq_true, n_toInt, n_cl, nI_1, nI_add, n_a0, n_p2, n_p3, n_p4, n_x2, n_x3, n_x4, n_x60, n_x100, n_pm1, k9L_m2, k9L_m1, k9L_0, k9L_1, k9L_2, k9L_3, k9L_4, k9L_5, k9L_6, k9L_7, k9L_8, k9L_9, k9L_10, k9L_20, k9L_23, k9L_24, k9L_30, k9L_40, k9L_50, k9L_60, k9L_99, k9L_100, k9L_120, k9L_255, k9L_999, k9L_1000, k9_bs, k9_ba]) | simp (disch := omega) only [k9e_15_0, k9e_15_3, k9e_15_9, k9e_15_14, k9e_15_16, Nat.reduceEqDiff, Int.reduceEq, Int.reduceLT, Int.reduceLE, k9_ps_s, k9_ps_n, k9_ur, false_and, and_false, true_and, and_true, true_or, or_true, false_or, or_false, eq_self, ↓reduceIte, not_true_eq_false, not_false_eq_true, n_toInt, n_cl, nI_1, nI_add, n_a0, n_p2, n_p3, n_p4, n_x2, n_x3, n_x4, n_x60, n_x100, n_pm1, k9L_m2, k9L_m1, k9L_0, k9L_1, k9L_2, k9L_3, k9L_4, k9L_5, k9L_6, k9L_7, k9L_8, k9L_9, k9L_10, k9L_20, k9L_23, k9L_24, k9L_30, k9L_40, k9L_50, k9L_60, k9L_99, k9L_100, k9L_120, k9L_255, k9L_999, k9L_1000, k9_bs, k9_ba])
  exact k9o_to e rfl
/-- the pieces in an order -/
def p_cm (w : Nat → Nat → Nat) (o : Nat → Nat) : Nat → Nat → Nat := fun q p => if q < 4 then w q (o p) else w q p
theorem k9_wf_cm {o : Nat → Nat} (hf : k9_wf w) (ho : ∀ k, k < w 7 0 → o k < w 7 0) : k9_wf (p_cm w o) := by
  obtain ⟨h1, h2, h3, h4, h5⟩ := hf
  exact ⟨h1, h2, h3, h4, fun p hp => h5 (o p) (ho p hp)⟩
theorem k9s_16 {n : Nat} {o : Nat → Nat} (hne : i0 ≠ i1) (hW : k9_Wk I i1 w) (hf : k9_wf w) (hO : k9_Or I i2 n o) (ho : ∀ k, k < w 7 0 → (if k < n then o k else 0) < w 7 0) : ∃ I', k9_R S (d + 2) 16 0 [some (k9_r 3 i0), some (k9_r 3 i1), some (k9_r 7 i2), none] [] I J = some (none, I', J) ∧ k9_Wk I' i0 (p_cm w (fun k => if k < n then o k else 0)) ∧ k9_fx (k9_Fw i0) I I' := by
  have h6 := hf.1
  have key : ∀ k p I1, p + k = w 7 0 → k9_Cp I I1 i0 (p_cm w (fun k => if k < n then o k else 0)) p → ∃ I', k9_R S (d + 2) 16 5 [some (k9_r 3 i0), some (k9_r 3 i1), some (k9_r 7 i2), some (k9_i (nI p))] [] I1 J = some (none, I', J) ∧ k9_Cp I I' i0 (p_cm w (fun k => if k < n then o k else 0)) (w 7 0) := by
    intro k
    induction k with
    | zero =>
      intro p I1 hp hC
      obtain rfl : p = w 7 0 := by omega
      have hc : I1 3 i0 0 = nI (w 7 0) := hC.1.1
      refine ⟨I1, k9o_of (k9o_eq k9e_16_5 ?_), hC⟩
      simp (disch := omega) only [k9e_16_0, k9e_16_3, k9e_16_9, k9e_16_15, k9e_16_16, k9e_16_18, Nat.reduceEqDiff, Int.reduceEq, Int.reduceLT, Int.reduceLE, k9_ps_s, k9_ps_n, k9_ur, false_and, and_false, true_and, and_true, true_or, or_true, false_or, or_false, eq_self, ↓reduceIte, not_true_eq_false, not_false_eq_true, n_toInt, n_cl, nI_1, nI_add, n_a0, n_p2, n_p3, n_p4, n_x2, n_x3, n_x4, n_x60, n_x100, n_pm1, k9L_m2, k9L_m1, k9L_0, k9L_1, k9L_2, k9L_3, k9L_4, k9L_5, k9L_6, k9L_7, k9L_8, k9L_9, k9L_10, k9L_20, k9L_23, k9L_24, k9L_30, k9L_40, k9L_50, k9L_60, k9L_99, k9L_100, k9L_120, k9L_255, k9L_999, k9L_1000, k9_bs, k9_ba, hc]
      repeat (first | ((with_reducible refine k9q_T ?_ ?_); · omega) | ((with_reducible refine k9q_F ?_ ?_); · omega) | ((with_reducible refine k9q_Tb ?_ ?_); · omega) | ((with_reducible refine k9q_Fb ?_ ?_); · omega) | simp (disch := omega) only [k9e_16_0, k9e_16_3, k9e_16_9, k9e_16_15, k9e_16_16, k9e_16_18, Nat.reduceEqDiff, Int.reduceEq, Int.reduceLT, Int.reduceLE, k9_ps_s, k9_ps_n, k9_ur, false_and, and_false, true_and, and_true, true_or, or_true, false_or, or_false, eq_self, ↓reduceIte, not_true_eq_false, not_false_eq_true, n_toInt, n_cl, nI_1, nI_add, n_a0, n_p2, n_p3, n_p4, n_x2, n_x3, n_x4, n_x60, n_x100, n_pm1, k9L_m2, k9L_m1, k9L_0, k9L_1, k9L_2, k9L_3, k9L_4, k9L_5, k9L_6, k9L_7, k9L_8, k9L_9, k9L_10, k9L_20, k9L_23, k9L_24, k9L_30, k9L_40, k9L_50, k9L_60, k9L_99, k9L_100, k9L_120, k9L_255, k9L_999, k9L_1000, k9_bs, k9_ba, hc])
      exact k9o_ret rfl
    | succ k ih =>
      intro p I1 hp hC
      have hW1 := k9_Wk_Fw hC.2 hne hW
      have hc : I1 3 i0 0 = nI (w 7 0) := hC.1.1
      have hO1 : k9_Or I1 i2 n o := ⟨(hC.2 7 i2 1 rfl).trans hO.1, hO.2.1, fun k hk => (hC.2 30 i2 k rfl).trans (hO.2.2 k hk)⟩
      obtain ⟨I', e, h⟩ := ih (p + 1) _ (by omega) (k9_Cp_s hC)
      refine ⟨I', k9o_of (k9o_eq k9e_16_5 ?_), h⟩
      simp (disch := omega) only [k9e_16_0, k9e_16_3, k9e_16_9, k9e_16_15, k9e_16_16, k9e_16_18, Nat.reduceEqDiff, Int.reduceEq, Int.reduceLT, Int.reduceLE, k9_ps_s, k9_ps_n, k9_ur, false_and, and_false, true_and, and_true, true_or, or_true, false_or, or_false, eq_self, ↓reduceIte, not_true_eq_false, not_false_eq_true, n_toInt, n_cl, nI_1, nI_add, n_a0, n_p2, n_p3, n_p4, n_x2, n_x3, n_x4, n_x60, n_x100, n_pm1, k9L_m2, k9L_m1, k9L_0, k9L_1, k9L_2, k9L_3, k9L_4, k9L_5, k9L_6, k9L_7, k9L_8, k9L_9, k9L_10, k9L_20, k9L_23, k9L_24, k9L_30, k9L_40, k9L_50, k9L_60, k9L_99, k9L_100, k9L_120, k9L_255, k9L_999, k9L_1000, k9_bs, k9_ba, hc]
      repeat (first | ((with_reducible refine k9q_T ?_ ?_); · omega) | ((with_reducible refine k9q_F ?_ ?_); · omega) | ((with_reducible refine k9q_Tb ?_ ?_); · omega) | ((with_reducible refine k9q_Fb ?_ ?_); · omega) | (refine k9o_call (k9s_25 hO1 (by omega : p < 100)) ?_; simp (disch := omega) only [k9e_16_0, k9e_16_3, k9e_16_9, k9e_16_15, k9e_16_16, k9e_16_18, Nat.reduceEqDiff, Int.reduceEq, Int.reduceLT, Int.reduceLE, k9_ps_s, k9_ps_n, k9_ur, false_and, and_false, true_and, and_true, true_or, or_true, false_or, or_false, eq_self, ↓reduceIte, not_true_eq_false, not_false_eq_true, n_toInt, n_cl, nI_1, nI_add, n_a0, n_p2, n_p3, n_p4, n_x2, n_x3, n_x4, n_x60, n_x100, n_pm1, k9L_m2, k9L_m1, k9L_0, k9L_1, k9L_2, k9L_3, k9L_4, k9L_5, k9L_6, k9L_7, k9L_8, k9L_9, k9L_10, k9L_20, k9L_23, k9L_24, k9L_30, k9L_40, k9L_50, k9L_60, k9L_99, k9L_100, k9L_120, k9L_255, k9L_999, k9L_1000, k9_bs, k9_ba, hc]) | (refine k9o_call (k9s_18 hne hc h6 (by omega : p < w 7 0) hW1 hf (ho p (by omega))) ?_; simp (disch := omega) only [k9e_16_0, k9e_16_3, k9e_16_9, k9e_16_15, k9e_16_16, k9e_16_18, Nat.reduceEqDiff, Int.reduceEq, Int.reduceLT, Int.reduceLE, k9_ps_s, k9_ps_n, k9_ur, false_and, and_false, true_and, and_true, true_or, or_true, false_or, or_false, eq_self, ↓reduceIte, not_true_eq_false, not_false_eq_true, n_toInt, n_cl, nI_1, nI_add, n_a0, n_p2, n_p3, n_p4, n_x2, n_x3, n_x4, n_x60, n_x100, n_pm1, k9L_m2, k9L_m1, k9L_0, k9L_1, k9L_2, k9L_3, k9L_4, k9L_5, k9L_6, k9L_7, k9L_8, k9L_9, k9L_10, k9L_20, k9L_23, k9L_24, k9L_30, k9L_40, k9L_50, k9L_60, k9L_99, k9L_100, k9L_120, k9L_255, k9L_999, k9L_1000, k9_bs, k9_ba, hc]) | simp (disch := omega) only [k9e_16_0, k9e_16_3, k9e_16_9, k9e_16_15, k9e_16_16, k9e_16_18, Nat.reduceEqDiff, Int.reduceEq, Int.reduceLT, Int.reduceLE, k9_ps_s, k9_ps_n, k9_ur, false_and, and_false, true_and, and_true, true_or, or_true, false_or, or_false, eq_self, ↓reduceIte, not_true_eq_false, not_false_eq_true, n_toInt, n_cl, nI_1, nI_add, n_a0, n_p2, n_p3, n_p4, n_x2, n_x3, n_x4, n_x60, n_x100, n_pm1, k9L_m2, k9L_m1, k9L_0, k9L_1, k9L_2, k9L_3, k9L_4, k9L_5, k9L_6, k9L_7, k9L_8, k9L_9, k9L_10, k9L_20, k9L_23, k9L_24, k9L_30, k9L_40, k9L_50, k9L_60, k9L_99, k9L_100, k9L_120, k9L_255, k9L_999, k9L_1000, k9_bs, k9_ba, hc])
      exact k9o_to e rfl
  obtain ⟨I', e, h⟩ := key (w 7 0) 0 (k9_u (k9_u (k9_u (k9_u I 3 i0 0 (I 3 i1 0)) 3 i0 1 (I 3 i1 1)) 3 i0 2 (I 3 i1 2)) 3 i0 3 (I 3 i1 3)) (by omega) ⟨⟨by simp [k9_ur, hW.1, p_cm], by simp [k9_ur, hW.2.1, p_cm], by simp [k9_ur, hW.2.2.1, p_cm], by simp [k9_ur, hW.2.2.2.1, p_cm], fun p' hp' => by omega⟩, k9_fx_u (k9_fx_u (k9_fx_u (k9_fx_u (k9_fx_rf _ _) (k9_Fw_t _ rfl _)) (k9_Fw_t _ rfl _)) (k9_Fw_t _ rfl _)) (k9_Fw_t _ rfl _)⟩
  refine ⟨I', k9o_of ?_, h.1, h.2⟩
  simp (disch := omega) only [k9e_16_0, k9e_16_3, k9e_16_9, k9e_16_15, k9e_16_16, k9e_16_18, Nat.reduceEqDiff, Int.reduceEq, Int.reduceLT, Int.reduceLE, k9_ps_s, k9_ps_n, k9_ur, false_and, and_false, true_and, and_true, true_or, or_true, false_or, or_false, eq_self, ↓reduceIte, not_true_eq_false, not_false_eq_true, n_toInt, n_cl, nI_1, nI_add, n_a0, n_p2, n_p3, n_p4, n_x2, n_x3, n_x4, n_x60, n_x100, n_pm1, k9L_m2, k9L_m1, k9L_0, k9L_1, k9L_2, k9L_3, k9L_4, k9L_5, k9L_6, k9L_7, k9L_8, k9L_9, k9L_10, k9L_20, k9L_23, k9L_24, k9L_30, k9L_40, k9L_50, k9L_60, k9L_99, k9L_100, k9L_120, k9L_255, k9L_999, k9L_1000, k9_bs, k9_ba]
  repeat (first | ((with_reducible refine k9q_T ?_ ?_); · omega) | ((with_reducible refine k9q_F ?_ ?_); · omega) | ((with_reducible refine k9q_Tb ?_ ?_); · omega) | ((with_reducible refine k9q_Fb ?_ ?_); · omega) | (refine k9o_call (k9s_17) ?_; simp (disch := omega) only [k9e_16_0, k9e_16_3, k9e_16_9, k9e_16_15, k9e_16_16, k9e_16_18, Nat.reduceEqDiff, Int.reduceEq, Int.reduceLT, Int.reduceLE, k9_ps_s, k9_ps_n, k9_ur, false_and, and_false, true_and, and_true, true_or, or_true, false_or, or_false, eq_self, ↓reduceIte, not_true_eq_false, not_false_eq_true, n_toInt, n_cl, nI_1, nI_add, n_a0, n_p2, n_p3, n_p4, n_x2, n_x3, n_x4, n_x60, n_x100, n_pm1, k9L_m2, k9L_m1, k9L_0, k9L_1, k9L_2, k9L_3, k9L_4, k9L_5, k9L_6, k9L_7, k9L_8, k9L_9, k9L_10, k9L_20, k9L_23, k9L_24, k9L_30, k9L_40, k9L_50, k9L_60, k9L_99, k9L_100, k9L_120, k9L_255, k9L_999, k9L_1000, k9_bs, k9_ba]) | simp (disch := omega) only [k9e_16_0, k9e_16_3, k9e_16_9, k9e_16_15, k9e_16_16, k9e_16_18, Nat.reduceEqDiff, Int.reduceEq, Int.reduceLT, Int.reduceLE, k9_ps_s, k9_ps_n, k9_ur, false_and, and_false, true_and, and_true, true_or, or_true, false_or, or_false, eq_self, ↓reduceIte, not_true_eq_false, not_false_eq_true, n_toInt, n_cl, nI_1, nI_add, n_a0, n_p2, n_p3, n_p4, n_x2, n_x3, n_x4, n_x60, n_x100, n_pm1, k9L_m2, k9L_m1, k9L_0, k9L_1, k9L_2, k9L_3, k9L_4, k9L_5, k9L_6, k9L_7, k9L_8, k9L_9, k9L_10, k9L_20, k9L_23, k9L_24, k9L_30, k9L_40, k9L_50, k9L_60, k9L_99, k9L_100, k9L_120, k9L_255, k9L_999, k9L_1000, k9_bs, k9_ba])
  exact k9o_to e rfl
/-- the piece of most bytes -/
def p_lg (r : Nat → Nat) : Nat → Nat
  | 0 => 0
  | k + 1 => if k = 0 then 0 else if r (p_lg r k) < r k then k else p_lg r k
theorem p_lg_le (r : Nat → Nat) : ∀ k, p_lg r k < k + 1 ∧ (1 ≤ k → p_lg r k < k)
  | 0 => ⟨by simp [p_lg], by omega⟩
  | k + 1 => by
    have h := p_lg_le r k
    unfold p_lg
    repeat' split
    all_goals omega
theorem k9s_14 (hW : k9_Wk I i0 w) (hf : k9_wf w) (h1 : 1 ≤ w 7 0) : k9_R S d 14 0 [some (k9_r 3 i0), none, none] [] I J = some (some (k9_i (nI (p_lg (w 0) (w 7 0)))), I, J) := by
  have h6 := hf.1
  have key : ∀ k p, 1 ≤ p → p + k = w 7 0 → k9_R S d 14 4 [some (k9_r 3 i0), some (k9_i (nI (p_lg (w 0) p))), some (k9_i (nI p))] [] I J = some (some (k9_i (nI (p_lg (w 0) (w 7 0)))), I, J) := by
    intro k
    induction k with
    | zero =>
      intro p _ hp
      obtain rfl : p = w 7 0 := by omega
      refine k9o_of (k9o_eq k9e_14_4 ?_)
      simp (disch := omega) only [k9e_14_0, k9e_14_8, k9e_14_11, k9e_14_15, k9e_14_19, k9e_14_20, k9e_14_22, k9e_14_24, Nat.reduceEqDiff, Int.reduceEq, Int.reduceLT, Int.reduceLE, k9_ps_s, k9_ps_n, k9_ur, false_and, and_false, true_and, and_true, true_or, or_true, false_or, or_false, eq_self, ↓reduceIte, not_true_eq_false, not_false_eq_true, n_toInt, n_cl, nI_1, nI_add, n_a0, n_p2, n_p3, n_p4, n_x2, n_x3, n_x4, n_x60, n_x100, n_pm1, k9L_m2, k9L_m1, k9L_0, k9L_1, k9L_2, k9L_3, k9L_4, k9L_5, k9L_6, k9L_7, k9L_8, k9L_9, k9L_10, k9L_20, k9L_23, k9L_24, k9L_30, k9L_40, k9L_50, k9L_60, k9L_99, k9L_100, k9L_120, k9L_255, k9L_999, k9L_1000, k9_bs, k9_ba, hW.1]
      repeat (first | ((with_reducible refine k9q_T ?_ ?_); · omega) | ((with_reducible refine k9q_F ?_ ?_); · omega) | ((with_reducible refine k9q_Tb ?_ ?_); · omega) | ((with_reducible refine k9q_Fb ?_ ?_); · omega) | simp (disch := omega) only [k9e_14_0, k9e_14_8, k9e_14_11, k9e_14_15, k9e_14_19, k9e_14_20, k9e_14_22, k9e_14_24, Nat.reduceEqDiff, Int.reduceEq, Int.reduceLT, Int.reduceLE, k9_ps_s, k9_ps_n, k9_ur, false_and, and_false, true_and, and_true, true_or, or_true, false_or, or_false, eq_self, ↓reduceIte, not_true_eq_false, not_false_eq_true, n_toInt, n_cl, nI_1, nI_add, n_a0, n_p2, n_p3, n_p4, n_x2, n_x3, n_x4, n_x60, n_x100, n_pm1, k9L_m2, k9L_m1, k9L_0, k9L_1, k9L_2, k9L_3, k9L_4, k9L_5, k9L_6, k9L_7, k9L_8, k9L_9, k9L_10, k9L_20, k9L_23, k9L_24, k9L_30, k9L_40, k9L_50, k9L_60, k9L_99, k9L_100, k9L_120, k9L_255, k9L_999, k9L_1000, k9_bs, k9_ba, hW.1])
      exact k9o_ret rfl
    | succ k ih =>
      intro p hp1 hp
      have hl := (p_lg_le (w 0) p).2 hp1
      have a0 := (hW.2.2.2.2 p (by omega)).1
      have a1 := (hW.2.2.2.2 (p_lg (w 0) p) (by omega)).1
      have b0 := (hf.2.2.2.2 p (by omega)).2.1
      have b1 := (hf.2.2.2.2 (p_lg (w 0) p) (by omega)).2.1
      have e := ih (p + 1) (by omega) (by omega)
      refine k9o_of (k9o_eq k9e_14_4 ?_)
      simp (disch := omega) only [k9e_14_0, k9e_14_8, k9e_14_11, k9e_14_15, k9e_14_19, k9e_14_20, k9e_14_22, k9e_14_24, Nat.reduceEqDiff, Int.reduceEq, Int.reduceLT, Int.reduceLE, k9_ps_s, k9_ps_n, k9_ur, false_and, and_false, true_and, and_true, true_or, or_true, false_or, or_false, eq_self, ↓reduceIte, not_true_eq_false, not_false_eq_true, n_toInt, n_cl, nI_1, nI_add, n_a0, n_p2, n_p3, n_p4, n_x2, n_x3, n_x4, n_x60, n_x100, n_pm1, k9L_m2, k9L_m1, k9L_0, k9L_1, k9L_2, k9L_3, k9L_4, k9L_5, k9L_6, k9L_7, k9L_8, k9L_9, k9L_10, k9L_20, k9L_23, k9L_24, k9L_30, k9L_40, k9L_50, k9L_60, k9L_99, k9L_100, k9L_120, k9L_255, k9L_999, k9L_1000, k9_bs, k9_ba, hW.1, a0, a1]
      repeat (first | ((with_reducible refine k9q_T ?_ ?_); · omega) | ((with_reducible refine k9q_F ?_ ?_); · omega) | ((with_reducible refine k9q_Tb ?_ ?_); · omega) | ((with_reducible refine k9q_Fb ?_ ?_); · omega) | simp (disch := omega) only [k9e_14_0, k9e_14_8, k9e_14_11, k9e_14_15, k9e_14_19, k9e_14_20, k9e_14_22, k9e_14_24, Nat.reduceEqDiff, Int.reduceEq, Int.reduceLT, Int.reduceLE, k9_ps_s, k9_ps_n, k9_ur, false_and, and_false, true_and, and_true, true_or, or_true, false_or, or_false, eq_self, ↓reduceIte, not_true_eq_false, not_false_eq_true, n_toInt, n_cl, nI_1, nI_add, n_a0, n_p2, n_p3, n_p4, n_x2, n_x3, n_x4, n_x60, n_x100, n_pm1, k9L_m2, k9L_m1, k9L_0, k9L_1, k9L_2, k9L_3, k9L_4, k9L_5, k9L_6, k9L_7, k9L_8, k9L_9, k9L_10, k9L_20, k9L_23, k9L_24, k9L_30, k9L_40, k9L_50, k9L_60, k9L_99, k9L_100, k9L_120, k9L_255, k9L_999, k9L_1000, k9_bs, k9_ba, hW.1, a0, a1])
      by_cases hc : w 0 (p_lg (w 0) p) < w 0 p
      · rw [show p_lg (w 0) (p + 1) = p by simp only [p_lg]; rw [if_neg (by omega), if_pos hc]] at e
        repeat (first | ((with_reducible refine k9q_T ?_ ?_); · omega) | ((with_reducible refine k9q_F ?_ ?_); · omega) | ((with_reducible refine k9q_Tb ?_ ?_); · omega) | ((with_reducible refine k9q_Fb ?_ ?_); · omega))
        exact k9o_to e rfl
      · rw [show p_lg (w 0) (p + 1) = p_lg (w 0) p by rw [p_lg.eq_2, if_neg (by omega), if_neg hc]] at e
        repeat (first | ((with_reducible refine k9q_T ?_ ?_); · omega) | ((with_reducible refine k9q_F ?_ ?_); · omega) | ((with_reducible refine k9q_Tb ?_ ?_); · omega) | ((with_reducible refine k9q_Fb ?_ ?_); · omega))
        exact k9o_to e rfl
  rw [k9e_14_0]
  exact key (w 7 0 - 1) 1 (by omega) (by omega)
/-- draws -/
def p_z (z : Int32) : Nat → Int32
  | 0 => z
  | k + 1 => p_z z k * 1103515245 + 12345
def p_hw (z : Int32) : Int32 := (z.toUInt32 >>> ((8 : Int32).toUInt32 &&& Int32.toUInt32 31)).toInt32 - (z.toUInt32 >>> ((8 : Int32).toUInt32 &&& Int32.toUInt32 31)).toInt32 / 4 * 4
def p_dv (h : Int32) (v : Nat) : Nat := if h.toInt = 0 then max 1 (v / 2) else if h.toInt = 3 then v * 2 else v
def p_dw (w : Nat → Nat → Nat) (z : Int32) (m : Nat) : Nat → Nat → Nat := fun q p => if q = 1 ∧ p < m then p_dv (p_hw (p_z z (p + 1))) (w 1 p) else w q p
theorem n_max {a b : Nat} (ha : a < 2147483648) (hb : b < 2147483648) : (if nI a < nI b then nI b else nI a) = nI (max a b) := by
  by_cases h : a < b
  · rw [if_pos (nI_lt h hb), Nat.max_eq_right (by omega)]
  · rw [if_neg (nI_nlt (by omega) ha), Nat.max_eq_left (by omega)]
theorem n_min {a b : Nat} (ha : a < 2147483648) (hb : b < 2147483648) : (if nI b < nI a then nI b else nI a) = nI (min a b) := by
  by_cases h : b < a
  · rw [if_pos (nI_lt h ha), Nat.min_eq_right (by omega)]
  · rw [if_neg (nI_nlt (by omega) hb), Nat.min_eq_left (by omega)]
theorem p_dw_s {z : Int32} {p : Nat} {v : Nat} (h : v = p_dv (p_hw (p_z z (p + 1))) (w 1 p)) (hW : k9_Wk I i0 (p_dw w z p)) : k9_Wk (k9_u I 21 i0 p (nI v)) i0 (p_dw w z (p + 1)) := by
  obtain ⟨w0, w1, w2, w3, w4⟩ := hW
  refine ⟨w0, w1, w2, w3, fun p' hp' => ?_⟩
  obtain ⟨a0, a1, a2, a3⟩ := w4 p' hp'
  refine ⟨a0, ?_, a2, a3⟩
  simp only [p_dw, true_and] at a1 ⊢
  by_cases e : p' = p
  · subst e
    simp [k9_ur, h]
  · rw [k9_ur, if_neg (fun h => e h.2.2), a1]
    by_cases h2 : p' < p
    · rw [if_pos h2, if_pos (by omega)]
    · rw [if_neg h2, if_neg (by omega)]
theorem p_dw_k {z : Int32} {p : Nat} (h : w 1 p = p_dv (p_hw (p_z z (p + 1))) (w 1 p)) (hW : k9_Wk I i0 (p_dw w z p)) : k9_Wk I i0 (p_dw w z (p + 1)) := by
  obtain ⟨w0, w1, w2, w3, w4⟩ := hW
  refine ⟨w0, w1, w2, w3, fun p' hp' => ?_⟩
  obtain ⟨a0, a1, a2, a3⟩ := w4 p' hp'
  refine ⟨a0, ?_, a2, a3⟩
  simp only [p_dw, true_and] at a1 ⊢
  by_cases e : p' = p
  · subst e
    rw [a1, if_neg (by omega), if_pos (by omega)]
    exact congrArg nI h
  · rw [a1]
    by_cases h2 : p' < p
    · rw [if_pos h2, if_pos (by omega)]
    · rw [if_neg h2, if_neg (by omega)]
theorem k9s_19 {z : Int32} (hW : k9_Wk I i0 w) (hf : k9_wf w) (hv : ∀ p, p < w 7 0 → w 1 p ≤ 9) : ∃ I', k9_R S d 19 0 [some (k9_r 3 i0), some (k9_i z), none, none, none] [] I J = some (some (k9_i (p_z z (w 7 0))), I', J) ∧ k9_Wk I' i0 (p_dw w z (w 7 0)) ∧ k9_fx (k9_Fw i0) I I' := by
  have h6 := hf.1
  have key : ∀ k p I1, p + k = w 7 0 → k9_Wk I1 i0 (p_dw w z p) → k9_fx (k9_Fw i0) I I1 → ∃ I', k9_R S d 19 4 [some (k9_r 3 i0), some (k9_i z), some (k9_i (p_z z p)), some (k9_i (nI p)), none] [] I1 J = some (some (k9_i (p_z z (w 7 0))), I', J) ∧ k9_Wk I' i0 (p_dw w z (w 7 0)) ∧ k9_fx (k9_Fw i0) I I' := by
    intro k
    induction k with
    | zero =>
      intro p I1 hp hC hx
      obtain rfl : p = w 7 0 := by omega
      have hc : I1 3 i0 0 = nI (w 7 0) := hC.1
      refine ⟨I1, k9o_of (k9o_eq k9e_19_4 ?_), hC, hx⟩
      simp (disch := omega) only [k9e_19_0, k9e_19_8, k9e_19_11, k9e_19_20, k9e_19_22, k9e_19_25, k9e_19_33, k9e_19_35, k9e_19_37, k9e_19_38, k9e_19_41, k9e_19_46, k9e_19_49, k9e_19_51, Nat.reduceEqDiff, Int.reduceEq, Int.reduceLT, Int.reduceLE, k9_ps_s, k9_ps_n, k9_ur, false_and, and_false, true_and, and_true, true_or, or_true, false_or, or_false, eq_self, ↓reduceIte, not_true_eq_false, not_false_eq_true, n_toInt, n_cl, nI_1, nI_add, n_a0, n_p2, n_p3, n_p4, n_x2, n_x3, n_x4, n_x60, n_x100, n_pm1, k9L_m2, k9L_m1, k9L_0, k9L_1, k9L_2, k9L_3, k9L_4, k9L_5, k9L_6, k9L_7, k9L_8, k9L_9, k9L_10, k9L_20, k9L_23, k9L_24, k9L_30, k9L_40, k9L_50, k9L_60, k9L_99, k9L_100, k9L_120, k9L_255, k9L_999, k9L_1000, k9_bs, k9_ba, hc]
      repeat (first | ((with_reducible refine k9q_T ?_ ?_); · omega) | ((with_reducible refine k9q_F ?_ ?_); · omega) | ((with_reducible refine k9q_Tb ?_ ?_); · omega) | ((with_reducible refine k9q_Fb ?_ ?_); · omega) | simp (disch := omega) only [k9e_19_0, k9e_19_8, k9e_19_11, k9e_19_20, k9e_19_22, k9e_19_25, k9e_19_33, k9e_19_35, k9e_19_37, k9e_19_38, k9e_19_41, k9e_19_46, k9e_19_49, k9e_19_51, Nat.reduceEqDiff, Int.reduceEq, Int.reduceLT, Int.reduceLE, k9_ps_s, k9_ps_n, k9_ur, false_and, and_false, true_and, and_true, true_or, or_true, false_or, or_false, eq_self, ↓reduceIte, not_true_eq_false, not_false_eq_true, n_toInt, n_cl, nI_1, nI_add, n_a0, n_p2, n_p3, n_p4, n_x2, n_x3, n_x4, n_x60, n_x100, n_pm1, k9L_m2, k9L_m1, k9L_0, k9L_1, k9L_2, k9L_3, k9L_4, k9L_5, k9L_6, k9L_7, k9L_8, k9L_9, k9L_10, k9L_20, k9L_23, k9L_24, k9L_30, k9L_40, k9L_50, k9L_60, k9L_99, k9L_100, k9L_120, k9L_255, k9L_999, k9L_1000, k9_bs, k9_ba, hc])
      exact k9o_ret rfl
    | succ k ih =>
      intro p I1 hp hC hx
      have hp6 : p < w 7 0 := by omega
      have hc : I1 3 i0 0 = nI (w 7 0) := hC.1
      have b1 := hv p hp6
      have b0 := (hf.2.2.2.2 p hp6).2.2.1
      have a1 : I1 21 i0 p = nI (w 1 p) := by
        have h := (hC.2.2.2.2 p hp6).2.1
        simpa [p_dw] using h
      by_cases e0 : (p_hw (p_z z (p + 1))).toInt = 0
      · obtain ⟨I', e, h⟩ := ih (p + 1) (k9_u I1 21 i0 p (nI (max 1 (w 1 p / 2)))) (by omega) (p_dw_s (by simp [p_dv, e0]) hC) (k9_fx_u hx (k9_Fw_t _ rfl _))
        refine ⟨I', k9o_of (k9o_eq k9e_19_4 ?_), h⟩
        rw [p_hw, p_z] at e0
        simp (disch := omega) only [k9e_19_0, k9e_19_8, k9e_19_11, k9e_19_20, k9e_19_22, k9e_19_25, k9e_19_33, k9e_19_35, k9e_19_37, k9e_19_38, k9e_19_41, k9e_19_46, k9e_19_49, k9e_19_51, Nat.reduceEqDiff, Int.reduceEq, Int.reduceLT, Int.reduceLE, k9_ps_s, k9_ps_n, k9_ur, false_and, and_false, true_and, and_true, true_or, or_true, false_or, or_false, eq_self, ↓reduceIte, not_true_eq_false, not_false_eq_true, n_toInt, n_cl, nI_1, nI_add, n_a0, n_p2, n_p3, n_p4, n_x2, n_x3, n_x4, n_x60, n_x100, n_pm1, k9L_m2, k9L_m1, k9L_0, k9L_1, k9L_2, k9L_3, k9L_4, k9L_5, k9L_6, k9L_7, k9L_8, k9L_9, k9L_10, k9L_20, k9L_23, k9L_24, k9L_30, k9L_40, k9L_50, k9L_60, k9L_99, k9L_100, k9L_120, k9L_255, k9L_999, k9L_1000, k9_bs, k9_ba, hc, a1]
        repeat (first | ((with_reducible refine k9q_T ?_ ?_); · omega) | ((with_reducible refine k9q_F ?_ ?_); · omega) | ((with_reducible refine k9q_Tb ?_ ?_); · omega) | ((with_reducible refine k9q_Fb ?_ ?_); · omega) | simp (disch := omega) only [k9e_19_0, k9e_19_8, k9e_19_11, k9e_19_20, k9e_19_22, k9e_19_25, k9e_19_33, k9e_19_35, k9e_19_37, k9e_19_38, k9e_19_41, k9e_19_46, k9e_19_49, k9e_19_51, Nat.reduceEqDiff, Int.reduceEq, Int.reduceLT, Int.reduceLE, k9_ps_s, k9_ps_n, k9_ur, false_and, and_false, true_and, and_true, true_or, or_true, false_or, or_false, eq_self, ↓reduceIte, not_true_eq_false, not_false_eq_true, n_toInt, n_cl, nI_1, nI_add, n_a0, n_p2, n_p3, n_p4, n_x2, n_x3, n_x4, n_x60, n_x100, n_pm1, k9L_m2, k9L_m1, k9L_0, k9L_1, k9L_2, k9L_3, k9L_4, k9L_5, k9L_6, k9L_7, k9L_8, k9L_9, k9L_10, k9L_20, k9L_23, k9L_24, k9L_30, k9L_40, k9L_50, k9L_60, k9L_99, k9L_100, k9L_120, k9L_255, k9L_999, k9L_1000, k9_bs, k9_ba, hc, a1])
        rw [show (2 : Int32) = nI 2 from rfl, show (1 : Int32) = nI 1 from rfl, n_div (by omega) (by omega) (by omega), n_max (by omega) (by omega)]
        exact k9o_to e rfl
      · by_cases e3 : (p_hw (p_z z (p + 1))).toInt = 3
        · obtain ⟨I', e, h⟩ := ih (p + 1) (k9_u I1 21 i0 p (nI (w 1 p * 2))) (by omega) (p_dw_s (by simp [p_dv, e0, e3]) hC) (k9_fx_u hx (k9_Fw_t _ rfl _))
          refine ⟨I', k9o_of (k9o_eq k9e_19_4 ?_), h⟩
          rw [p_hw, p_z] at e0 e3
          simp (disch := omega) only [k9e_19_0, k9e_19_8, k9e_19_11, k9e_19_20, k9e_19_22, k9e_19_25, k9e_19_33, k9e_19_35, k9e_19_37, k9e_19_38, k9e_19_41, k9e_19_46, k9e_19_49, k9e_19_51, Nat.reduceEqDiff, Int.reduceEq, Int.reduceLT, Int.reduceLE, k9_ps_s, k9_ps_n, k9_ur, false_and, and_false, true_and, and_true, true_or, or_true, false_or, or_false, eq_self, ↓reduceIte, not_true_eq_false, not_false_eq_true, n_toInt, n_cl, nI_1, nI_add, n_a0, n_p2, n_p3, n_p4, n_x2, n_x3, n_x4, n_x60, n_x100, n_pm1, k9L_m2, k9L_m1, k9L_0, k9L_1, k9L_2, k9L_3, k9L_4, k9L_5, k9L_6, k9L_7, k9L_8, k9L_9, k9L_10, k9L_20, k9L_23, k9L_24, k9L_30, k9L_40, k9L_50, k9L_60, k9L_99, k9L_100, k9L_120, k9L_255, k9L_999, k9L_1000, k9_bs, k9_ba, hc, a1]
          repeat (first | ((with_reducible refine k9q_T ?_ ?_); · omega) | ((with_reducible refine k9q_F ?_ ?_); · omega) | ((with_reducible refine k9q_Tb ?_ ?_); · omega) | ((with_reducible refine k9q_Fb ?_ ?_); · omega) | simp (disch := omega) only [k9e_19_0, k9e_19_8, k9e_19_11, k9e_19_20, k9e_19_22, k9e_19_25, k9e_19_33, k9e_19_35, k9e_19_37, k9e_19_38, k9e_19_41, k9e_19_46, k9e_19_49, k9e_19_51, Nat.reduceEqDiff, Int.reduceEq, Int.reduceLT, Int.reduceLE, k9_ps_s, k9_ps_n, k9_ur, false_and, and_false, true_and, and_true, true_or, or_true, false_or, or_false, eq_self, ↓reduceIte, not_true_eq_false, not_false_eq_true, n_toInt, n_cl, nI_1, nI_add, n_a0, n_p2, n_p3, n_p4, n_x2, n_x3, n_x4, n_x60, n_x100, n_pm1, k9L_m2, k9L_m1, k9L_0, k9L_1, k9L_2, k9L_3, k9L_4, k9L_5, k9L_6, k9L_7, k9L_8, k9L_9, k9L_10, k9L_20, k9L_23, k9L_24, k9L_30, k9L_40, k9L_50, k9L_60, k9L_99, k9L_100, k9L_120, k9L_255, k9L_999, k9L_1000, k9_bs, k9_ba, hc, a1])
          rw [show (2 : Int32) = nI 2 from rfl, n_mul]
          exact k9o_to e rfl
        · obtain ⟨I', e, h⟩ := ih (p + 1) I1 (by omega) (p_dw_k (by simp [p_dv, e0, e3]) hC) hx
          refine ⟨I', k9o_of (k9o_eq k9e_19_4 ?_), h⟩
          rw [p_hw, p_z] at e0 e3
          simp (disch := omega) only [k9e_19_0, k9e_19_8, k9e_19_11, k9e_19_20, k9e_19_22, k9e_19_25, k9e_19_33, k9e_19_35, k9e_19_37, k9e_19_38, k9e_19_41, k9e_19_46, k9e_19_49, k9e_19_51, Nat.reduceEqDiff, Int.reduceEq, Int.reduceLT, Int.reduceLE, k9_ps_s, k9_ps_n, k9_ur, false_and, and_false, true_and, and_true, true_or, or_true, false_or, or_false, eq_self, ↓reduceIte, not_true_eq_false, not_false_eq_true, n_toInt, n_cl, nI_1, nI_add, n_a0, n_p2, n_p3, n_p4, n_x2, n_x3, n_x4, n_x60, n_x100, n_pm1, k9L_m2, k9L_m1, k9L_0, k9L_1, k9L_2, k9L_3, k9L_4, k9L_5, k9L_6, k9L_7, k9L_8, k9L_9, k9L_10, k9L_20, k9L_23, k9L_24, k9L_30, k9L_40, k9L_50, k9L_60, k9L_99, k9L_100, k9L_120, k9L_255, k9L_999, k9L_1000, k9_bs, k9_ba, hc, a1]
          repeat (first | ((with_reducible refine k9q_T ?_ ?_); · omega) | ((with_reducible refine k9q_F ?_ ?_); · omega) | ((with_reducible refine k9q_Tb ?_ ?_); · omega) | ((with_reducible refine k9q_Fb ?_ ?_); · omega) | simp (disch := omega) only [k9e_19_0, k9e_19_8, k9e_19_11, k9e_19_20, k9e_19_22, k9e_19_25, k9e_19_33, k9e_19_35, k9e_19_37, k9e_19_38, k9e_19_41, k9e_19_46, k9e_19_49, k9e_19_51, Nat.reduceEqDiff, Int.reduceEq, Int.reduceLT, Int.reduceLE, k9_ps_s, k9_ps_n, k9_ur, false_and, and_false, true_and, and_true, true_or, or_true, false_or, or_false, eq_self, ↓reduceIte, not_true_eq_false, not_false_eq_true, n_toInt, n_cl, nI_1, nI_add, n_a0, n_p2, n_p3, n_p4, n_x2, n_x3, n_x4, n_x60, n_x100, n_pm1, k9L_m2, k9L_m1, k9L_0, k9L_1, k9L_2, k9L_3, k9L_4, k9L_5, k9L_6, k9L_7, k9L_8, k9L_9, k9L_10, k9L_20, k9L_23, k9L_24, k9L_30, k9L_40, k9L_50, k9L_60, k9L_99, k9L_100, k9L_120, k9L_255, k9L_999, k9L_1000, k9_bs, k9_ba, hc, a1])
          exact k9o_to e rfl
  rw [k9e_19_0]
  refine key (w 7 0) 0 I (by omega) ?_ (k9_fx_rf _ _)
  obtain ⟨w0, w1, w2, w3, w4⟩ := hW
  exact ⟨w0, w1, w2, w3, fun p' hp' => by simpa [p_dw] using w4 p' hp'⟩
theorem k9_wf_dw {z : Int32} {m : Nat} (hf : k9_wf w) (hv : ∀ p, p < w 7 0 → w 1 p ≤ 9) : k9_wf (p_dw w z m) := by
  obtain ⟨h1, h2, h3, h4, h5⟩ := hf
  refine ⟨h1, h2, h3, h4, fun p hp => ?_⟩
  have hp : p < w 7 0 := hp
  have b := hv p hp
  obtain ⟨c1, c2, c3, c4, c5, c6⟩ := h5 p hp
  refine ⟨c1, c2, ?_, ?_, c5, c6⟩
  all_goals
    simp only [p_dw, true_and]
    split
    · unfold p_dv
      repeat' split
      all_goals omega
    · omega
end KW3

/-! WALK: where a work stands in a second -/
section KK
variable {S : k9_S} {d : Nat} {I : k9_I} {J : k9_J} {i0 i1 i2 : Nat} {w : Nat → Nat → Nat}
def p_dk (w : Nat → Nat → Nat) (t : Nat) : Nat → Nat
  | 0 => 0
  | k + 1 => if p_st w (k + 1) ≤ t then k + 1 else p_dk w t k
def p_dn (w : Nat → Nat → Nat) (t : Nat) : Nat := p_dk w t (w 7 0)
theorem p_dk_sp (w : Nat → Nat → Nat) (t : Nat) : ∀ k, p_dk w t k ≤ k ∧ p_st w (p_dk w t k) ≤ t ∧ (p_dk w t k < k → t < p_st w (p_dk w t k + 1))
  | 0 => ⟨Nat.le_refl _, Nat.zero_le _, fun h => absurd h (Nat.lt_irrefl _)⟩
  | k + 1 => by
    obtain ⟨h1, h2, h3⟩ := p_dk_sp w t k
    unfold p_dk
    by_cases h : p_st w (k + 1) ≤ t
    · rw [if_pos h]
      exact ⟨Nat.le_refl _, h, fun h => absurd h (Nat.lt_irrefl _)⟩
    · rw [if_neg h]
      refine ⟨Nat.le_succ_of_le h1, h2, fun _ => ?_⟩
      by_cases e : p_dk w t k < k
      · exact h3 e
      · rw [show p_dk w t k = k by omega]
        omega
theorem p_dn_sp (w : Nat → Nat → Nat) (t : Nat) : p_dn w t ≤ w 7 0 ∧ p_st w (p_dn w t) ≤ t ∧ (p_dn w t < w 7 0 → t < p_st w (p_dn w t + 1)) := p_dk_sp w t (w 7 0)
theorem p_dn_un {t D : Nat} (h1 : D ≤ w 7 0) (h2 : p_st w D ≤ t) (h3 : D < w 7 0 → t < p_st w (D + 1)) : D = p_dn w t := by
  obtain ⟨g1, g2, g3⟩ := p_dn_sp w t
  apply Nat.le_antisymm
  · apply Nat.le_of_not_lt
    intro h
    have := g3 (by omega)
    have := p_st_mono (w := w) (show p_dn w t + 1 ≤ D by omega)
    omega
  · apply Nat.le_of_not_lt
    intro h
    have := h3 (by omega)
    have := p_st_mono (w := w) (show D + 1 ≤ p_dn w t by omega)
    omega
theorem p_dn_mono {t t' : Nat} (h : t ≤ t') : p_dn w t ≤ p_dn w t' := by
  obtain ⟨g1, g2, g3⟩ := p_dn_sp w t
  obtain ⟨h1, h2, h3⟩ := p_dn_sp w t'
  apply Nat.le_of_not_lt
  intro hl
  have := h3 (by omega)
  have := p_st_mono (w := w) (show p_dn w t' + 1 ≤ p_dn w t by omega)
  omega
/-- bytes that have come -/
def p_co (w : Nat → Nat → Nat) (t : Nat) : Nat := p_sm (w 0) (p_dn w t) + p_pt w (p_dn w t) (t - p_st w (p_dn w t))
def p_ct (all part : Nat) : Nat := if all = 0 then 100 else part * 100 / all
/-- totals: bytes, files, seconds -/
def p_tt (w : Nat → Nat → Nat) : Nat → Nat := fun k => if k = 0 then p_sm (w 0) (w 7 0) else if k = 1 then p_sm (w 3) (w 7 0) else p_len w
def p_ce (w : Nat → Nat → Nat) (T : Nat → Nat) (t m : Nat) : Nat :=
  if m = 0 then p_ct (T 1) (p_sm (w 3) (p_dn w t)) else if m = 1 then p_ct (T 0) (p_co w t) else if m = 2 then p_ct (w 7 0) (p_dn w t) else p_ct (T 2) (min t (T 2))
theorem p_co_b (hf : k9_wf w) (t : Nat) : p_co w t ≤ 594 + 99 := by
  have h1 := (p_dn_sp w t).1
  have h2 := p_sm0_b hf h1
  have h3 : p_pt w (p_dn w t) (t - p_st w (p_dn w t)) ≤ 99 := by
    unfold p_pt
    split
    · rename_i h
      exact Nat.le_trans (Nat.min_le_left _ _) (hf.2.2.2.2 _ h).2.1
    · omega
  unfold p_co
  omega
/-- the walk stands behind D pieces -/
def k9_Wl (I : k9_I) (i : Nat) (w : Nat → Nat → Nat) (D : Nat) : Prop :=
  I 4 i 5 = nI (w 7 0) ∧ I 4 i 6 = nI D ∧ I 4 i 7 = nI (p_st w D) ∧ (D < w 7 0 → I 4 i 8 = nI (p_st w (D + 1))) ∧ I 4 i 9 = nI (p_sm (w 0) D) ∧ I 4 i 10 = nI (p_sm (w 3) D) ∧ I 4 i 11 = nI (p_tt w 0) ∧ I 4 i 12 = nI (p_tt w 1) ∧ I 4 i 13 = nI (p_tt w 2)
def k9_Wc (I : k9_I) (i : Nat) (w : Nat → Nat → Nat) (t : Nat) : Prop :=
  I 4 i 0 = nI (p_co w t) ∧ I 4 i 1 = nI (p_ce w (p_tt w) t 0) ∧ I 4 i 2 = nI (p_ce w (p_tt w) t 1) ∧ I 4 i 3 = nI (p_ce w (p_tt w) t 2) ∧ I 4 i 4 = nI (p_ce w (p_tt w) t 3)
def k9_Fk (i0 : Nat) (k i _ : Nat) : Bool := Nat.beq k 4 && Nat.beq i i0
theorem k9_Fk_t (p : Nat) : k9_Fk i0 4 i0 p = true := by
  unfold k9_Fk
  rw [k9_beq_self i0]
  rfl
theorem k9_Wk_u {k j p : Nat} {v : Int32} (hk : (Nat.beq k 3 || Nat.beq k 20 || Nat.beq k 21 || Nat.beq k 22 || Nat.beq k 23) = false) (hW : k9_Wk I i0 w) : k9_Wk (k9_u I k j p v) i0 w := by
  simp only [Bool.or_eq_false_iff] at hk
  obtain ⟨⟨⟨⟨h3, h20⟩, h21⟩, h22⟩, h23⟩ := hk
  have e : ∀ {a b : Nat}, Nat.beq a b = false → ¬ b = a := fun h z => by
    subst z
    rw [k9_beq_self] at h
    cases h
  obtain ⟨w0, w1, w2, w3, w4⟩ := hW
  refine ⟨?_, ?_, ?_, ?_, fun p' hp' => ?_⟩
  · rw [k9_ur, if_neg (fun z => e h3 z.1)]; exact w0
  · rw [k9_ur, if_neg (fun z => e h3 z.1)]; exact w1
  · rw [k9_ur, if_neg (fun z => e h3 z.1)]; exact w2
  · rw [k9_ur, if_neg (fun z => e h3 z.1)]; exact w3
  · rw [k9_ur, if_neg (fun z => e h20 z.1), k9_ur, if_neg (fun z => e h21 z.1), k9_ur, if_neg (fun z => e h22 z.1), k9_ur, if_neg (fun z => e h23 z.1)]
    exact w4 p' hp'
theorem k9s_24 {a b : Nat} (ha : a ≤ 10000) (hb : b ≤ 10000) : k9_R S d 24 0 [some (k9_i (nI a)), some (k9_i (nI b))] [] I J = some (some (k9_i (nI (p_ct b a))), I, J) := by
  refine k9o_of ?_
  unfold p_ct
  by_cases h : b = 0
  · subst h
    simp (disch := omega) only [k9e_24_0, k9e_24_3, k9e_24_5, k9e_24_10, Nat.reduceEqDiff, Int.reduceEq, Int.reduceLT, Int.reduceLE, k9_ps_s, k9_ps_n, k9_ur, false_and, and_false, true_and, and_true, true_or, or_true, false_or, or_false, eq_self, ↓reduceIte, not_true_eq_false, not_false_eq_true, n_toInt, n_cl, nI_1, nI_add, n_a0, n_p2, n_p3, n_p4, n_x2, n_x3, n_x4, n_x60, n_x100, n_pm1, k9L_m2, k9L_m1, k9L_0, k9L_1, k9L_2, k9L_3, k9L_4, k9L_5, k9L_6, k9L_7, k9L_8, k9L_9, k9L_10, k9L_20, k9L_23, k9L_24, k9L_30, k9L_40, k9L_50, k9L_60, k9L_99, k9L_100, k9L_120, k9L_255, k9L_999, k9L_1000, k9_bs, k9_ba]
    repeat (first | ((with_reducible refine k9q_T ?_ ?_); · omega) | ((with_reducible refine k9q_F ?_ ?_); · omega) | ((with_reducible refine k9q_Tb ?_ ?_); · omega) | ((with_reducible refine k9q_Fb ?_ ?_); · omega) | simp (disch := omega) only [k9e_24_0, k9e_24_3, k9e_24_5, k9e_24_10, Nat.reduceEqDiff, Int.reduceEq, Int.reduceLT, Int.reduceLE, k9_ps_s, k9_ps_n, k9_ur, false_and, and_false, true_and, and_true, true_or, or_true, false_or, or_false, eq_self, ↓reduceIte, not_true_eq_false, not_false_eq_true, n_toInt, n_cl, nI_1, nI_add, n_a0, n_p2, n_p3, n_p4, n_x2, n_x3, n_x4, n_x60, n_x100, n_pm1, k9L_m2, k9L_m1, k9L_0, k9L_1, k9L_2, k9L_3, k9L_4, k9L_5, k9L_6, k9L_7, k9L_8, k9L_9, k9L_10, k9L_20, k9L_23, k9L_24, k9L_30, k9L_40, k9L_50, k9L_60, k9L_99, k9L_100, k9L_120, k9L_255, k9L_999, k9L_1000, k9_bs, k9_ba])
    exact k9o_ret rfl
  · rw [if_neg h]
    simp (disch := omega) only [k9e_24_0, k9e_24_3, k9e_24_5, k9e_24_10, Nat.reduceEqDiff, Int.reduceEq, Int.reduceLT, Int.reduceLE, k9_ps_s, k9_ps_n, k9_ur, false_and, and_false, true_and, and_true, true_or, or_true, false_or, or_false, eq_self, ↓reduceIte, not_true_eq_false, not_false_eq_true, n_toInt, n_cl, nI_1, nI_add, n_a0, n_p2, n_p3, n_p4, n_x2, n_x3, n_x4, n_x60, n_x100, n_pm1, k9L_m2, k9L_m1, k9L_0, k9L_1, k9L_2, k9L_3, k9L_4, k9L_5, k9L_6, k9L_7, k9L_8, k9L_9, k9L_10, k9L_20, k9L_23, k9L_24, k9L_30, k9L_40, k9L_50, k9L_60, k9L_99, k9L_100, k9L_120, k9L_255, k9L_999, k9L_1000, k9_bs, k9_ba]
    repeat (first | ((with_reducible refine k9q_T ?_ ?_); · omega) | ((with_reducible refine k9q_F ?_ ?_); · omega) | ((with_reducible refine k9q_Tb ?_ ?_); · omega) | ((with_reducible refine k9q_Fb ?_ ?_); · omega) | simp (disch := omega) only [k9e_24_0, k9e_24_3, k9e_24_5, k9e_24_10, Nat.reduceEqDiff, Int.reduceEq, Int.reduceLT, Int.reduceLE, k9_ps_s, k9_ps_n, k9_ur, false_and, and_false, true_and, and_true, true_or, or_true, false_or, or_false, eq_self, ↓reduceIte, not_true_eq_false, not_false_eq_true, n_toInt, n_cl, nI_1, nI_add, n_a0, n_p2, n_p3, n_p4, n_x2, n_x3, n_x4, n_x60, n_x100, n_pm1, k9L_m2, k9L_m1, k9L_0, k9L_1, k9L_2, k9L_3, k9L_4, k9L_5, k9L_6, k9L_7, k9L_8, k9L_9, k9L_10, k9L_20, k9L_23, k9L_24, k9L_30, k9L_40, k9L_50, k9L_60, k9L_99, k9L_100, k9L_120, k9L_255, k9L_999, k9L_1000, k9_bs, k9_ba])
    rw [show (100 : Int32) = nI 100 from rfl, n_mul, n_div (by omega) (by omega) (by omega)]
    exact k9o_ret rfl
theorem k9s_23 {a b : Nat} (ha : a ≤ 10000) (hb : b ≤ 10000) : k9_R S (d + 1) 23 0 [some (k9_i (nI a)), some (k9_i (nI b))] [] I J = some (some (k9_i (nI (p_ct b (min a b)))), I, J) := by
  refine k9o_of ?_
  by_cases h : b ≤ a
  · simp (disch := omega) only [k9e_23_0, k9e_23_3, k9e_23_5, k9e_23_8, Nat.reduceEqDiff, Int.reduceEq, Int.reduceLT, Int.reduceLE, k9_ps_s, k9_ps_n, k9_ur, false_and, and_false, true_and, and_true, true_or, or_true, false_or, or_false, eq_self, ↓reduceIte, not_true_eq_false, not_false_eq_true, n_toInt, n_cl, nI_1, nI_add, n_a0, n_p2, n_p3, n_p4, n_x2, n_x3, n_x4, n_x60, n_x100, n_pm1, k9L_m2, k9L_m1, k9L_0, k9L_1, k9L_2, k9L_3, k9L_4, k9L_5, k9L_6, k9L_7, k9L_8, k9L_9, k9L_10, k9L_20, k9L_23, k9L_24, k9L_30, k9L_40, k9L_50, k9L_60, k9L_99, k9L_100, k9L_120, k9L_255, k9L_999, k9L_1000, k9_bs, k9_ba]
    repeat (first | ((with_reducible refine k9q_T ?_ ?_); · omega) | ((with_reducible refine k9q_F ?_ ?_); · omega) | ((with_reducible refine k9q_Tb ?_ ?_); · omega) | ((with_reducible refine k9q_Fb ?_ ?_); · omega) | simp (disch := omega) only [k9e_23_0, k9e_23_3, k9e_23_5, k9e_23_8, Nat.reduceEqDiff, Int.reduceEq, Int.reduceLT, Int.reduceLE, k9_ps_s, k9_ps_n, k9_ur, false_and, and_false, true_and, and_true, true_or, or_true, false_or, or_false, eq_self, ↓reduceIte, not_true_eq_false, not_false_eq_true, n_toInt, n_cl, nI_1, nI_add, n_a0, n_p2, n_p3, n_p4, n_x2, n_x3, n_x4, n_x60, n_x100, n_pm1, k9L_m2, k9L_m1, k9L_0, k9L_1, k9L_2, k9L_3, k9L_4, k9L_5, k9L_6, k9L_7, k9L_8, k9L_9, k9L_10, k9L_20, k9L_23, k9L_24, k9L_30, k9L_40, k9L_50, k9L_60, k9L_99, k9L_100, k9L_120, k9L_255, k9L_999, k9L_1000, k9_bs, k9_ba])
    rw [Nat.min_eq_right h, p_ct]
    by_cases h0 : b = 0
    · rw [if_pos h0]
      exact k9o_ret rfl
    · rw [if_neg h0, Nat.mul_div_cancel_left _ (by omega)]
      exact k9o_ret rfl
  · simp (disch := omega) only [k9e_23_0, k9e_23_3, k9e_23_5, k9e_23_8, Nat.reduceEqDiff, Int.reduceEq, Int.reduceLT, Int.reduceLE, k9_ps_s, k9_ps_n, k9_ur, false_and, and_false, true_and, and_true, true_or, or_true, false_or, or_false, eq_self, ↓reduceIte, not_true_eq_false, not_false_eq_true, n_toInt, n_cl, nI_1, nI_add, n_a0, n_p2, n_p3, n_p4, n_x2, n_x3, n_x4, n_x60, n_x100, n_pm1, k9L_m2, k9L_m1, k9L_0, k9L_1, k9L_2, k9L_3, k9L_4, k9L_5, k9L_6, k9L_7, k9L_8, k9L_9, k9L_10, k9L_20, k9L_23, k9L_24, k9L_30, k9L_40, k9L_50, k9L_60, k9L_99, k9L_100, k9L_120, k9L_255, k9L_999, k9L_1000, k9_bs, k9_ba]
    repeat (first | ((with_reducible refine k9q_T ?_ ?_); · omega) | ((with_reducible refine k9q_F ?_ ?_); · omega) | ((with_reducible refine k9q_Tb ?_ ?_); · omega) | ((with_reducible refine k9q_Fb ?_ ?_); · omega) | (refine k9o_call (k9s_24 ha hb) ?_; simp (disch := omega) only [k9e_23_0, k9e_23_3, k9e_23_5, k9e_23_8, Nat.reduceEqDiff, Int.reduceEq, Int.reduceLT, Int.reduceLE, k9_ps_s, k9_ps_n, k9_ur, false_and, and_false, true_and, and_true, true_or, or_true, false_or, or_false, eq_self, ↓reduceIte, not_true_eq_false, not_false_eq_true, n_toInt, n_cl, nI_1, nI_add, n_a0, n_p2, n_p3, n_p4, n_x2, n_x3, n_x4, n_x60, n_x100, n_pm1, k9L_m2, k9L_m1, k9L_0, k9L_1, k9L_2, k9L_3, k9L_4, k9L_5, k9L_6, k9L_7, k9L_8, k9L_9, k9L_10, k9L_20, k9L_23, k9L_24, k9L_30, k9L_40, k9L_50, k9L_60, k9L_99, k9L_100, k9L_120, k9L_255, k9L_999, k9L_1000, k9_bs, k9_ba]) | simp (disch := omega) only [k9e_23_0, k9e_23_3, k9e_23_5, k9e_23_8, Nat.reduceEqDiff, Int.reduceEq, Int.reduceLT, Int.reduceLE, k9_ps_s, k9_ps_n, k9_ur, false_and, and_false, true_and, and_true, true_or, or_true, false_or, or_false, eq_self, ↓reduceIte, not_true_eq_false, not_false_eq_true, n_toInt, n_cl, nI_1, nI_add, n_a0, n_p2, n_p3, n_p4, n_x2, n_x3, n_x4, n_x60, n_x100, n_pm1, k9L_m2, k9L_m1, k9L_0, k9L_1, k9L_2, k9L_3, k9L_4, k9L_5, k9L_6, k9L_7, k9L_8, k9L_9, k9L_10, k9L_20, k9L_23, k9L_24, k9L_30, k9L_40, k9L_50, k9L_60, k9L_99, k9L_100, k9L_120, k9L_255, k9L_999, k9L_1000, k9_bs, k9_ba])
    rw [Nat.min_eq_left (by omega)]
    exact k9o_ret rfl
theorem k9s_22 {m t : Nat} (hm : m ≤ 3) (hC : k9_Wc I i0 w t) : k9_R S d 22 0 [some (k9_r 4 i0), some (k9_i (nI m))] [] I J = some (some (k9_i (nI (p_ce w (p_tt w) t m))), I, J) := by
  obtain ⟨h0, h1, h2, h3, h4⟩ := hC
  refine k9o_of ?_
  have h : m = 0 ∨ m = 1 ∨ m = 2 ∨ m = 3 := by omega
  rcases h with rfl | rfl | rfl | rfl
  all_goals simp (disch := omega) only [k9e_22_0, k9e_22_2, k9e_22_5, k9e_22_8, k9e_22_11, Nat.reduceEqDiff, Int.reduceEq, Int.reduceLT, Int.reduceLE, k9_ps_s, k9_ps_n, k9_ur, false_and, and_false, true_and, and_true, true_or, or_true, false_or, or_false, eq_self, ↓reduceIte, not_true_eq_false, not_false_eq_true, n_toInt, n_cl, nI_1, nI_add, n_a0, n_p2, n_p3, n_p4, n_x2, n_x3, n_x4, n_x60, n_x100, n_pm1, k9L_m2, k9L_m1, k9L_0, k9L_1, k9L_2, k9L_3, k9L_4, k9L_5, k9L_6, k9L_7, k9L_8, k9L_9, k9L_10, k9L_20, k9L_23, k9L_24, k9L_30, k9L_40, k9L_50, k9L_60, k9L_99, k9L_100, k9L_120, k9L_255, k9L_999, k9L_1000, k9_bs, k9_ba, h1, h2, h3, h4]
  all_goals repeat (first | ((with_reducible refine k9q_T ?_ ?_); · omega) | ((with_reducible refine k9q_F ?_ ?_); · omega) | ((with_reducible refine k9q_Tb ?_ ?_); · omega) | ((with_reducible refine k9q_Fb ?_ ?_); · omega) | simp (disch := omega) only [k9e_22_0, k9e_22_2, k9e_22_5, k9e_22_8, k9e_22_11, Nat.reduceEqDiff, Int.reduceEq, Int.reduceLT, Int.reduceLE, k9_ps_s, k9_ps_n, k9_ur, false_and, and_false, true_and, and_true, true_or, or_true, false_or, or_false, eq_self, ↓reduceIte, not_true_eq_false, not_false_eq_true, n_toInt, n_cl, nI_1, nI_add, n_a0, n_p2, n_p3, n_p4, n_x2, n_x3, n_x4, n_x60, n_x100, n_pm1, k9L_m2, k9L_m1, k9L_0, k9L_1, k9L_2, k9L_3, k9L_4, k9L_5, k9L_6, k9L_7, k9L_8, k9L_9, k9L_10, k9L_20, k9L_23, k9L_24, k9L_30, k9L_40, k9L_50, k9L_60, k9L_99, k9L_100, k9L_120, k9L_255, k9L_999, k9L_1000, k9_bs, k9_ba, h1, h2, h3, h4])
  all_goals exact k9o_ret rfl
theorem k9s_20 (hW : k9_Wk I i1 w) (hf : k9_wf w) : ∃ I', k9_R S (d + 3) 20 0 [some (k9_r 4 i0), some (k9_r 3 i1)] [] I J = some (none, I', J) ∧ k9_Wl I' i0 w 0 ∧ k9_fx (k9_Fk i0) I I' := by
  refine ⟨k9_u (k9_u (k9_u (k9_u (k9_u (k9_u (k9_u (k9_u (k9_u I 4 i0 5 (nI (w 7 0))) 4 i0 6 0) 4 i0 7 0) 4 i0 8 (nI (if 0 < w 7 0 then p_tk w 0 else 0))) 4 i0 9 0) 4 i0 10 0) 4 i0 11 (nI (p_tt w 0))) 4 i0 12 (nI (p_tt w 1))) 4 i0 13 (nI (p_tt w 2)), k9o_of ?_, ?_, ?_⟩
  · by_cases h : 0 < w 7 0
    · simp (disch := omega) only [k9e_20_0, k9e_20_14, k9e_20_24, k9e_20_28, k9e_20_32, Nat.reduceEqDiff, Int.reduceEq, Int.reduceLT, Int.reduceLE, k9_ps_s, k9_ps_n, k9_ur, false_and, and_false, true_and, and_true, true_or, or_true, false_or, or_false, eq_self, ↓reduceIte, not_true_eq_false, not_false_eq_true, n_toInt, n_cl, nI_1, nI_add, n_a0, n_p2, n_p3, n_p4, n_x2, n_x3, n_x4, n_x60, n_x100, n_pm1, k9L_m2, k9L_m1, k9L_0, k9L_1, k9L_2, k9L_3, k9L_4, k9L_5, k9L_6, k9L_7, k9L_8, k9L_9, k9L_10, k9L_20, k9L_23, k9L_24, k9L_30, k9L_40, k9L_50, k9L_60, k9L_99, k9L_100, k9L_120, k9L_255, k9L_999, k9L_1000, k9_bs, k9_ba, hW.1]
      repeat (first | ((with_reducible refine k9q_T ?_ ?_); · omega) | ((with_reducible refine k9q_F ?_ ?_); · omega) | ((with_reducible refine k9q_Tb ?_ ?_); · omega) | ((with_reducible refine k9q_Fb ?_ ?_); · omega) | (refine k9o_call (k9s_9 (p := 0) (by repeat (first | exact hW | apply k9_Wk_u rfl)) hf h) ?_; simp (disch := omega) only [k9e_20_0, k9e_20_14, k9e_20_24, k9e_20_28, k9e_20_32, Nat.reduceEqDiff, Int.reduceEq, Int.reduceLT, Int.reduceLE, k9_ps_s, k9_ps_n, k9_ur, false_and, and_false, true_and, and_true, true_or, or_true, false_or, or_false, eq_self, ↓reduceIte, not_true_eq_false, not_false_eq_true, n_toInt, n_cl, nI_1, nI_add, n_a0, n_p2, n_p3, n_p4, n_x2, n_x3, n_x4, n_x60, n_x100, n_pm1, k9L_m2, k9L_m1, k9L_0, k9L_1, k9L_2, k9L_3, k9L_4, k9L_5, k9L_6, k9L_7, k9L_8, k9L_9, k9L_10, k9L_20, k9L_23, k9L_24, k9L_30, k9L_40, k9L_50, k9L_60, k9L_99, k9L_100, k9L_120, k9L_255, k9L_999, k9L_1000, k9_bs, k9_ba, hW.1]) | (refine k9o_call (k9s_11 (by repeat (first | exact hW | apply k9_Wk_u rfl)) hf) ?_; simp (disch := omega) only [k9e_20_0, k9e_20_14, k9e_20_24, k9e_20_28, k9e_20_32, Nat.reduceEqDiff, Int.reduceEq, Int.reduceLT, Int.reduceLE, k9_ps_s, k9_ps_n, k9_ur, false_and, and_false, true_and, and_true, true_or, or_true, false_or, or_false, eq_self, ↓reduceIte, not_true_eq_false, not_false_eq_true, n_toInt, n_cl, nI_1, nI_add, n_a0, n_p2, n_p3, n_p4, n_x2, n_x3, n_x4, n_x60, n_x100, n_pm1, k9L_m2, k9L_m1, k9L_0, k9L_1, k9L_2, k9L_3, k9L_4, k9L_5, k9L_6, k9L_7, k9L_8, k9L_9, k9L_10, k9L_20, k9L_23, k9L_24, k9L_30, k9L_40, k9L_50, k9L_60, k9L_99, k9L_100, k9L_120, k9L_255, k9L_999, k9L_1000, k9_bs, k9_ba, hW.1]) | (refine k9o_call (k9s_12 (by repeat (first | exact hW | apply k9_Wk_u rfl)) hf) ?_; simp (disch := omega) only [k9e_20_0, k9e_20_14, k9e_20_24, k9e_20_28, k9e_20_32, Nat.reduceEqDiff, Int.reduceEq, Int.reduceLT, Int.reduceLE, k9_ps_s, k9_ps_n, k9_ur, false_and, and_false, true_and, and_true, true_or, or_true, false_or, or_false, eq_self, ↓reduceIte, not_true_eq_false, not_false_eq_true, n_toInt, n_cl, nI_1, nI_add, n_a0, n_p2, n_p3, n_p4, n_x2, n_x3, n_x4, n_x60, n_x100, n_pm1, k9L_m2, k9L_m1, k9L_0, k9L_1, k9L_2, k9L_3, k9L_4, k9L_5, k9L_6, k9L_7, k9L_8, k9L_9, k9L_10, k9L_20, k9L_23, k9L_24, k9L_30, k9L_40, k9L_50, k9L_60, k9L_99, k9L_100, k9L_120, k9L_255, k9L_999, k9L_1000, k9_bs, k9_ba, hW.1]) | (refine k9o_call (k9s_10 (by repeat (first | exact hW | apply k9_Wk_u rfl)) hf) ?_; simp (disch := omega) only [k9e_20_0, k9e_20_14, k9e_20_24, k9e_20_28, k9e_20_32, Nat.reduceEqDiff, Int.reduceEq, Int.reduceLT, Int.reduceLE, k9_ps_s, k9_ps_n, k9_ur, false_and, and_false, true_and, and_true, true_or, or_true, false_or, or_false, eq_self, ↓reduceIte, not_true_eq_false, not_false_eq_true, n_toInt, n_cl, nI_1, nI_add, n_a0, n_p2, n_p3, n_p4, n_x2, n_x3, n_x4, n_x60, n_x100, n_pm1, k9L_m2, k9L_m1, k9L_0, k9L_1, k9L_2, k9L_3, k9L_4, k9L_5, k9L_6, k9L_7, k9L_8, k9L_9, k9L_10, k9L_20, k9L_23, k9L_24, k9L_30, k9L_40, k9L_50, k9L_60, k9L_99, k9L_100, k9L_120, k9L_255, k9L_999, k9L_1000, k9_bs, k9_ba, hW.1]) | simp (disch := omega) only [k9e_20_0, k9e_20_14, k9e_20_24, k9e_20_28, k9e_20_32, Nat.reduceEqDiff, Int.reduceEq, Int.reduceLT, Int.reduceLE, k9_ps_s, k9_ps_n, k9_ur, false_and, and_false, true_and, and_true, true_or, or_true, false_or, or_false, eq_self, ↓reduceIte, not_true_eq_false, not_false_eq_true, n_toInt, n_cl, nI_1, nI_add, n_a0, n_p2, n_p3, n_p4, n_x2, n_x3, n_x4, n_x60, n_x100, n_pm1, k9L_m2, k9L_m1, k9L_0, k9L_1, k9L_2, k9L_3, k9L_4, k9L_5, k9L_6, k9L_7, k9L_8, k9L_9, k9L_10, k9L_20, k9L_23, k9L_24, k9L_30, k9L_40, k9L_50, k9L_60, k9L_99, k9L_100, k9L_120, k9L_255, k9L_999, k9L_1000, k9_bs, k9_ba, hW.1])
      rw [if_pos h]
      exact k9o_ret rfl
    · simp (disch := omega) only [k9e_20_0, k9e_20_14, k9e_20_24, k9e_20_28, k9e_20_32, Nat.reduceEqDiff, Int.reduceEq, Int.reduceLT, Int.reduceLE, k9_ps_s, k9_ps_n, k9_ur, false_and, and_false, true_and, and_true, true_or, or_true, false_or, or_false, eq_self, ↓reduceIte, not_true_eq_false, not_false_eq_true, n_toInt, n_cl, nI_1, nI_add, n_a0, n_p2, n_p3, n_p4, n_x2, n_x3, n_x4, n_x60, n_x100, n_pm1, k9L_m2, k9L_m1, k9L_0, k9L_1, k9L_2, k9L_3, k9L_4, k9L_5, k9L_6, k9L_7, k9L_8, k9L_9, k9L_10, k9L_20, k9L_23, k9L_24, k9L_30, k9L_40, k9L_50, k9L_60, k9L_99, k9L_100, k9L_120, k9L_255, k9L_999, k9L_1000, k9_bs, k9_ba, hW.1]
      repeat (first | ((with_reducible refine k9q_T ?_ ?_); · omega) | ((with_reducible refine k9q_F ?_ ?_); · omega) | ((with_reducible refine k9q_Tb ?_ ?_); · omega) | ((with_reducible refine k9q_Fb ?_ ?_); · omega) | (refine k9o_call (k9s_9x (p := 0) (by repeat (first | exact hW | apply k9_Wk_u rfl)) hf h (by omega)) ?_; simp (disch := omega) only [k9e_20_0, k9e_20_14, k9e_20_24, k9e_20_28, k9e_20_32, Nat.reduceEqDiff, Int.reduceEq, Int.reduceLT, Int.reduceLE, k9_ps_s, k9_ps_n, k9_ur, false_and, and_false, true_and, and_true, true_or, or_true, false_or, or_false, eq_self, ↓reduceIte, not_true_eq_false, not_false_eq_true, n_toInt, n_cl, nI_1, nI_add, n_a0, n_p2, n_p3, n_p4, n_x2, n_x3, n_x4, n_x60, n_x100, n_pm1, k9L_m2, k9L_m1, k9L_0, k9L_1, k9L_2, k9L_3, k9L_4, k9L_5, k9L_6, k9L_7, k9L_8, k9L_9, k9L_10, k9L_20, k9L_23, k9L_24, k9L_30, k9L_40, k9L_50, k9L_60, k9L_99, k9L_100, k9L_120, k9L_255, k9L_999, k9L_1000, k9_bs, k9_ba, hW.1]) | (refine k9o_call (k9s_11 (by repeat (first | exact hW | apply k9_Wk_u rfl)) hf) ?_; simp (disch := omega) only [k9e_20_0, k9e_20_14, k9e_20_24, k9e_20_28, k9e_20_32, Nat.reduceEqDiff, Int.reduceEq, Int.reduceLT, Int.reduceLE, k9_ps_s, k9_ps_n, k9_ur, false_and, and_false, true_and, and_true, true_or, or_true, false_or, or_false, eq_self, ↓reduceIte, not_true_eq_false, not_false_eq_true, n_toInt, n_cl, nI_1, nI_add, n_a0, n_p2, n_p3, n_p4, n_x2, n_x3, n_x4, n_x60, n_x100, n_pm1, k9L_m2, k9L_m1, k9L_0, k9L_1, k9L_2, k9L_3, k9L_4, k9L_5, k9L_6, k9L_7, k9L_8, k9L_9, k9L_10, k9L_20, k9L_23, k9L_24, k9L_30, k9L_40, k9L_50, k9L_60, k9L_99, k9L_100, k9L_120, k9L_255, k9L_999, k9L_1000, k9_bs, k9_ba, hW.1]) | (refine k9o_call (k9s_12 (by repeat (first | exact hW | apply k9_Wk_u rfl)) hf) ?_; simp (disch := omega) only [k9e_20_0, k9e_20_14, k9e_20_24, k9e_20_28, k9e_20_32, Nat.reduceEqDiff, Int.reduceEq, Int.reduceLT, Int.reduceLE, k9_ps_s, k9_ps_n, k9_ur, false_and, and_false, true_and, and_true, true_or, or_true, false_or, or_false, eq_self, ↓reduceIte, not_true_eq_false, not_false_eq_true, n_toInt, n_cl, nI_1, nI_add, n_a0, n_p2, n_p3, n_p4, n_x2, n_x3, n_x4, n_x60, n_x100, n_pm1, k9L_m2, k9L_m1, k9L_0, k9L_1, k9L_2, k9L_3, k9L_4, k9L_5, k9L_6, k9L_7, k9L_8, k9L_9, k9L_10, k9L_20, k9L_23, k9L_24, k9L_30, k9L_40, k9L_50, k9L_60, k9L_99, k9L_100, k9L_120, k9L_255, k9L_999, k9L_1000, k9_bs, k9_ba, hW.1]) | (refine k9o_call (k9s_10 (by repeat (first | exact hW | apply k9_Wk_u rfl)) hf) ?_; simp (disch := omega) only [k9e_20_0, k9e_20_14, k9e_20_24, k9e_20_28, k9e_20_32, Nat.reduceEqDiff, Int.reduceEq, Int.reduceLT, Int.reduceLE, k9_ps_s, k9_ps_n, k9_ur, false_and, and_false, true_and, and_true, true_or, or_true, false_or, or_false, eq_self, ↓reduceIte, not_true_eq_false, not_false_eq_true, n_toInt, n_cl, nI_1, nI_add, n_a0, n_p2, n_p3, n_p4, n_x2, n_x3, n_x4, n_x60, n_x100, n_pm1, k9L_m2, k9L_m1, k9L_0, k9L_1, k9L_2, k9L_3, k9L_4, k9L_5, k9L_6, k9L_7, k9L_8, k9L_9, k9L_10, k9L_20, k9L_23, k9L_24, k9L_30, k9L_40, k9L_50, k9L_60, k9L_99, k9L_100, k9L_120, k9L_255, k9L_999, k9L_1000, k9_bs, k9_ba, hW.1]) | simp (disch := omega) only [k9e_20_0, k9e_20_14, k9e_20_24, k9e_20_28, k9e_20_32, Nat.reduceEqDiff, Int.reduceEq, Int.reduceLT, Int.reduceLE, k9_ps_s, k9_ps_n, k9_ur, false_and, and_false, true_and, and_true, true_or, or_true, false_or, or_false, eq_self, ↓reduceIte, not_true_eq_false, not_false_eq_true, n_toInt, n_cl, nI_1, nI_add, n_a0, n_p2, n_p3, n_p4, n_x2, n_x3, n_x4, n_x60, n_x100, n_pm1, k9L_m2, k9L_m1, k9L_0, k9L_1, k9L_2, k9L_3, k9L_4, k9L_5, k9L_6, k9L_7, k9L_8, k9L_9, k9L_10, k9L_20, k9L_23, k9L_24, k9L_30, k9L_40, k9L_50, k9L_60, k9L_99, k9L_100, k9L_120, k9L_255, k9L_999, k9L_1000, k9_bs, k9_ba, hW.1])
      rw [if_neg h]
      exact k9o_ret rfl
  · unfold k9_Wl
    simp (disch := omega) only [k9_ur, Nat.reduceEqDiff, false_and, and_false, true_and, and_true, eq_self, ↓reduceIte]
    refine ⟨rfl, rfl, fun h => ?_, rfl, rfl⟩
    rw [if_pos h]
    simp [p_st]
  · exact k9_fx_u (k9_fx_u (k9_fx_u (k9_fx_u (k9_fx_u (k9_fx_u (k9_fx_u (k9_fx_u (k9_fx_u (k9_fx_rf _ _) (k9_Fk_t _)) (k9_Fk_t _)) (k9_Fk_t _)) (k9_Fk_t _)) (k9_Fk_t _)) (k9_Fk_t _)) (k9_Fk_t _)) (k9_Fk_t _)) (k9_Fk_t _)
end KK

/-! WALK.go, and what a bar shows -/
section KB
variable {S : k9_S} {d : Nat} {I : k9_I} {J : k9_J} {i0 i1 i2 : Nat} {w : Nat → Nat → Nat}
theorem p_tt_b (hf : k9_wf w) : p_tt w 0 ≤ 594 ∧ p_tt w 1 ≤ 54 ∧ p_tt w 2 ≤ 954 :=
  ⟨p_sm0_b hf (Nat.le_refl _), p_sm3_b hf (Nat.le_refl _), p_len_b hf⟩
theorem k9s_21 {t D : Nat} (hW : k9_Wk I i1 w) (hf : k9_wf w) (hl : k9_Wl I i0 w D) (hD : D ≤ p_dn w t) (ht : t ≤ 1000) : ∃ I', k9_R S (d + 2) 21 0 [some (k9_r 4 i0), some (k9_r 3 i1), some (k9_i (nI t))] [] I J = some (none, I', J) ∧ k9_Wl I' i0 w (p_dn w t) ∧ k9_Wc I' i0 w t ∧ k9_fx (k9_Fk i0) I I' := by
  obtain ⟨g1, g2, g3⟩ := p_dn_sp w t
  have h6 := hf.1
  have key : ∀ k D I1, D + k = p_dn w t → k9_Wk I1 i1 w → k9_Wl I1 i0 w D → k9_fx (k9_Fk i0) I I1 → k9_ok (k9_R S (d + 2) 21 0 [some (k9_r 4 i0), some (k9_r 3 i1), some (k9_i (nI t))] [] I1 J) (fun q => ∃ I', q = (none, I', J) ∧ k9_Wl I' i0 w (p_dn w t) ∧ k9_Wc I' i0 w t ∧ k9_fx (k9_Fk i0) I I') := by
    intro k
    induction k with
    | zero =>
      intro D I1 hk hW hl hx
      obtain rfl : D = p_dn w t := by omega
      obtain ⟨a5, a6, a7, a8, a9, a10, a11, a12, a13⟩ := hl
      have b1 := p_sm0_b hf g1
      have b3 := p_sm3_b hf g1
      have b5 := p_st_b hf g1
      obtain ⟨b6, b7, b8⟩ := p_tt_b hf
      have bc := p_co_b hf t
      unfold p_co at bc
      refine k9o_eq k9e_21_0 ?_
      by_cases h : p_dn w t < w 7 0
      · have a8 := a8 h
        have g3 := g3 h
        have b4 := p_st_b hf (show p_dn w t + 1 ≤ w 7 0 by omega)
        simp (disch := omega) only [k9e_21_5, k9e_21_9, k9e_21_17, k9e_21_27, k9e_21_42, k9e_21_51, k9e_21_62, k9e_21_70, k9e_21_77, k9e_21_84, k9e_21_90, Nat.reduceEqDiff, Int.reduceEq, Int.reduceLT, Int.reduceLE, k9_ps_s, k9_ps_n, k9_ur, false_and, and_false, true_and, and_true, true_or, or_true, false_or, or_false, eq_self, ↓reduceIte, not_true_eq_false, not_false_eq_true, n_toInt, n_cl, nI_1, nI_add, n_a0, n_p2, n_p3, n_p4, n_x2, n_x3, n_x4, n_x60, n_x100, n_pm1, k9L_m2, k9L_m1, k9L_0, k9L_1, k9L_2, k9L_3, k9L_4, k9L_5, k9L_6, k9L_7, k9L_8, k9L_9, k9L_10, k9L_20, k9L_23, k9L_24, k9L_30, k9L_40, k9L_50, k9L_60, k9L_99, k9L_100, k9L_120, k9L_255, k9L_999, k9L_1000, k9_bs, k9_ba, a5, a6, a7, a8, a9, a10, a11, a12, a13, n_sub]
        repeat (first | ((with_reducible refine k9q_T ?_ ?_); · omega) | ((with_reducible refine k9q_F ?_ ?_); · omega) | ((with_reducible refine k9q_Tb ?_ ?_); · omega) | ((with_reducible refine k9q_Fb ?_ ?_); · omega) | (refine k9o_call (k9s_13 (by repeat (first | exact hW | apply k9_Wk_u rfl)) hf g1 (by omega)) ?_; simp (disch := omega) only [k9e_21_5, k9e_21_9, k9e_21_17, k9e_21_27, k9e_21_42, k9e_21_51, k9e_21_62, k9e_21_70, k9e_21_77, k9e_21_84, k9e_21_90, Nat.reduceEqDiff, Int.reduceEq, Int.reduceLT, Int.reduceLE, k9_ps_s, k9_ps_n, k9_ur, false_and, and_false, true_and, and_true, true_or, or_true, false_or, or_false, eq_self, ↓reduceIte, not_true_eq_false, not_false_eq_true, n_toInt, n_cl, nI_1, nI_add, n_a0, n_p2, n_p3, n_p4, n_x2, n_x3, n_x4, n_x60, n_x100, n_pm1, k9L_m2, k9L_m1, k9L_0, k9L_1, k9L_2, k9L_3, k9L_4, k9L_5, k9L_6, k9L_7, k9L_8, k9L_9, k9L_10, k9L_20, k9L_23, k9L_24, k9L_30, k9L_40, k9L_50, k9L_60, k9L_99, k9L_100, k9L_120, k9L_255, k9L_999, k9L_1000, k9_bs, k9_ba, a5, a6, a7, a8, a9, a10, a11, a12, a13, n_sub]) | (refine k9o_call (k9s_24 (by omega) (by omega)) ?_; simp (disch := omega) only [k9e_21_5, k9e_21_9, k9e_21_17, k9e_21_27, k9e_21_42, k9e_21_51, k9e_21_62, k9e_21_70, k9e_21_77, k9e_21_84, k9e_21_90, Nat.reduceEqDiff, Int.reduceEq, Int.reduceLT, Int.reduceLE, k9_ps_s, k9_ps_n, k9_ur, false_and, and_false, true_and, and_true, true_or, or_true, false_or, or_false, eq_self, ↓reduceIte, not_true_eq_false, not_false_eq_true, n_toInt, n_cl, nI_1, nI_add, n_a0, n_p2, n_p3, n_p4, n_x2, n_x3, n_x4, n_x60, n_x100, n_pm1, k9L_m2, k9L_m1, k9L_0, k9L_1, k9L_2, k9L_3, k9L_4, k9L_5, k9L_6, k9L_7, k9L_8, k9L_9, k9L_10, k9L_20, k9L_23, k9L_24, k9L_30, k9L_40, k9L_50, k9L_60, k9L_99, k9L_100, k9L_120, k9L_255, k9L_999, k9L_1000, k9_bs, k9_ba, a5, a6, a7, a8, a9, a10, a11, a12, a13, n_sub]) | (refine k9o_call (k9s_23 (by omega) (by omega)) ?_; simp (disch := omega) only [k9e_21_5, k9e_21_9, k9e_21_17, k9e_21_27, k9e_21_42, k9e_21_51, k9e_21_62, k9e_21_70, k9e_21_77, k9e_21_84, k9e_21_90, Nat.reduceEqDiff, Int.reduceEq, Int.reduceLT, Int.reduceLE, k9_ps_s, k9_ps_n, k9_ur, false_and, and_false, true_and, and_true, true_or, or_true, false_or, or_false, eq_self, ↓reduceIte, not_true_eq_false, not_false_eq_true, n_toInt, n_cl, nI_1, nI_add, n_a0, n_p2, n_p3, n_p4, n_x2, n_x3, n_x4, n_x60, n_x100, n_pm1, k9L_m2, k9L_m1, k9L_0, k9L_1, k9L_2, k9L_3, k9L_4, k9L_5, k9L_6, k9L_7, k9L_8, k9L_9, k9L_10, k9L_20, k9L_23, k9L_24, k9L_30, k9L_40, k9L_50, k9L_60, k9L_99, k9L_100, k9L_120, k9L_255, k9L_999, k9L_1000, k9_bs, k9_ba, a5, a6, a7, a8, a9, a10, a11, a12, a13, n_sub]) | simp (disch := omega) only [k9e_21_5, k9e_21_9, k9e_21_17, k9e_21_27, k9e_21_42, k9e_21_51, k9e_21_62, k9e_21_70, k9e_21_77, k9e_21_84, k9e_21_90, Nat.reduceEqDiff, Int.reduceEq, Int.reduceLT, Int.reduceLE, k9_ps_s, k9_ps_n, k9_ur, false_and, and_false, true_and, and_true, true_or, or_true, false_or, or_false, eq_self, ↓reduceIte, not_true_eq_false, not_false_eq_true, n_toInt, n_cl, nI_1, nI_add, n_a0, n_p2, n_p3, n_p4, n_x2, n_x3, n_x4, n_x60, n_x100, n_pm1, k9L_m2, k9L_m1, k9L_0, k9L_1, k9L_2, k9L_3, k9L_4, k9L_5, k9L_6, k9L_7, k9L_8, k9L_9, k9L_10, k9L_20, k9L_23, k9L_24, k9L_30, k9L_40, k9L_50, k9L_60, k9L_99, k9L_100, k9L_120, k9L_255, k9L_999, k9L_1000, k9_bs, k9_ba, a5, a6, a7, a8, a9, a10, a11, a12, a13, n_sub])
        refine k9o_ret ⟨_, rfl, ?_, ?_, ?_⟩
        · unfold k9_Wl
          simp (disch := omega) only [k9_ur, Nat.reduceEqDiff, false_and, and_false, true_and, and_true, eq_self, ↓reduceIte, a5, a6, a7, a8, a9, a10, a11, a12, a13, implies_true]
        · unfold k9_Wc
          simp (disch := omega) only [k9_ur, Nat.reduceEqDiff, false_and, and_false, true_and, and_true, eq_self, ↓reduceIte]
          exact ⟨rfl, rfl, rfl, rfl, rfl⟩
        · exact k9_fx_u (k9_fx_u (k9_fx_u (k9_fx_u (k9_fx_u hx (k9_Fk_t _)) (k9_Fk_t _)) (k9_Fk_t _)) (k9_Fk_t _)) (k9_Fk_t _)
      · simp (disch := omega) only [k9e_21_5, k9e_21_9, k9e_21_17, k9e_21_27, k9e_21_42, k9e_21_51, k9e_21_62, k9e_21_70, k9e_21_77, k9e_21_84, k9e_21_90, Nat.reduceEqDiff, Int.reduceEq, Int.reduceLT, Int.reduceLE, k9_ps_s, k9_ps_n, k9_ur, false_and, and_false, true_and, and_true, true_or, or_true, false_or, or_false, eq_self, ↓reduceIte, not_true_eq_false, not_false_eq_true, n_toInt, n_cl, nI_1, nI_add, n_a0, n_p2, n_p3, n_p4, n_x2, n_x3, n_x4, n_x60, n_x100, n_pm1, k9L_m2, k9L_m1, k9L_0, k9L_1, k9L_2, k9L_3, k9L_4, k9L_5, k9L_6, k9L_7, k9L_8, k9L_9, k9L_10, k9L_20, k9L_23, k9L_24, k9L_30, k9L_40, k9L_50, k9L_60, k9L_99, k9L_100, k9L_120, k9L_255, k9L_999, k9L_1000, k9_bs, k9_ba, a5, a6, a7, a9, a10, a11, a12, a13, n_sub]
        repeat (first | ((with_reducible refine k9q_T ?_ ?_); · omega) | ((with_reducible refine k9q_F ?_ ?_); · omega) | ((with_reducible refine k9q_Tb ?_ ?_); · omega) | ((with_reducible refine k9q_Fb ?_ ?_); · omega) | (refine k9o_call (k9s_13 (by repeat (first | exact hW | apply k9_Wk_u rfl)) hf g1 (by omega)) ?_; simp (disch := omega) only [k9e_21_5, k9e_21_9, k9e_21_17, k9e_21_27, k9e_21_42, k9e_21_51, k9e_21_62, k9e_21_70, k9e_21_77, k9e_21_84, k9e_21_90, Nat.reduceEqDiff, Int.reduceEq, Int.reduceLT, Int.reduceLE, k9_ps_s, k9_ps_n, k9_ur, false_and, and_false, true_and, and_true, true_or, or_true, false_or, or_false, eq_self, ↓reduceIte, not_true_eq_false, not_false_eq_true, n_toInt, n_cl, nI_1, nI_add, n_a0, n_p2, n_p3, n_p4, n_x2, n_x3, n_x4, n_x60, n_x100, n_pm1, k9L_m2, k9L_m1, k9L_0, k9L_1, k9L_2, k9L_3, k9L_4, k9L_5, k9L_6, k9L_7, k9L_8, k9L_9, k9L_10, k9L_20, k9L_23, k9L_24, k9L_30, k9L_40, k9L_50, k9L_60, k9L_99, k9L_100, k9L_120, k9L_255, k9L_999, k9L_1000, k9_bs, k9_ba, a5, a6, a7, a9, a10, a11, a12, a13, n_sub]) | (refine k9o_call (k9s_24 (by omega) (by omega)) ?_; simp (disch := omega) only [k9e_21_5, k9e_21_9, k9e_21_17, k9e_21_27, k9e_21_42, k9e_21_51, k9e_21_62, k9e_21_70, k9e_21_77, k9e_21_84, k9e_21_90, Nat.reduceEqDiff, Int.reduceEq, Int.reduceLT, Int.reduceLE, k9_ps_s, k9_ps_n, k9_ur, false_and, and_false, true_and, and_true, true_or, or_true, false_or, or_false, eq_self, ↓reduceIte, not_true_eq_false, not_false_eq_true, n_toInt, n_cl, nI_1, nI_add, n_a0, n_p2, n_p3, n_p4, n_x2, n_x3, n_x4, n_x60, n_x100, n_pm1, k9L_m2, k9L_m1, k9L_0, k9L_1, k9L_2, k9L_3, k9L_4, k9L_5, k9L_6, k9L_7, k9L_8, k9L_9, k9L_10, k9L_20, k9L_23, k9L_24, k9L_30, k9L_40, k9L_50, k9L_60, k9L_99, k9L_100, k9L_120, k9L_255, k9L_999, k9L_1000, k9_bs, k9_ba, a5, a6, a7, a9, a10, a11, a12, a13, n_sub]) | (refine k9o_call (k9s_23 (by omega) (by omega)) ?_; simp (disch := omega) only [k9e_21_5, k9e_21_9, k9e_21_17, k9e_21_27, k9e_21_42, k9e_21_51, k9e_21_62, k9e_21_70, k9e_21_77, k9e_21_84, k9e_21_90, Nat.reduceEqDiff, Int.reduceEq, Int.reduceLT, Int.reduceLE, k9_ps_s, k9_ps_n, k9_ur, false_and, and_false, true_and, and_true, true_or, or_true, false_or, or_false, eq_self, ↓reduceIte, not_true_eq_false, not_false_eq_true, n_toInt, n_cl, nI_1, nI_add, n_a0, n_p2, n_p3, n_p4, n_x2, n_x3, n_x4, n_x60, n_x100, n_pm1, k9L_m2, k9L_m1, k9L_0, k9L_1, k9L_2, k9L_3, k9L_4, k9L_5, k9L_6, k9L_7, k9L_8, k9L_9, k9L_10, k9L_20, k9L_23, k9L_24, k9L_30, k9L_40, k9L_50, k9L_60, k9L_99, k9L_100, k9L_120, k9L_255, k9L_999, k9L_1000, k9_bs, k9_ba, a5, a6, a7, a9, a10, a11, a12, a13, n_sub]) | simp (disch := omega) only [k9e_21_5, k9e_21_9, k9e_21_17, k9e_21_27, k9e_21_42, k9e_21_51, k9e_21_62, k9e_21_70, k9e_21_77, k9e_21_84, k9e_21_90, Nat.reduceEqDiff, Int.reduceEq, Int.reduceLT, Int.reduceLE, k9_ps_s, k9_ps_n, k9_ur, false_and, and_false, true_and, and_true, true_or, or_true, false_or, or_false, eq_self, ↓reduceIte, not_true_eq_false, not_false_eq_true, n_toInt, n_cl, nI_1, nI_add, n_a0, n_p2, n_p3, n_p4, n_x2, n_x3, n_x4, n_x60, n_x100, n_pm1, k9L_m2, k9L_m1, k9L_0, k9L_1, k9L_2, k9L_3, k9L_4, k9L_5, k9L_6, k9L_7, k9L_8, k9L_9, k9L_10, k9L_20, k9L_23, k9L_24, k9L_30, k9L_40, k9L_50, k9L_60, k9L_99, k9L_100, k9L_120, k9L_255, k9L_999, k9L_1000, k9_bs, k9_ba, a5, a6, a7, a9, a10, a11, a12, a13, n_sub])
        refine k9o_ret ⟨_, rfl, ?_, ?_, ?_⟩
        · unfold k9_Wl
          simp (disch := omega) only [k9_ur, Nat.reduceEqDiff, false_and, and_false, true_and, and_true, eq_self, ↓reduceIte, a5, a6, a7, a9, a10, a11, a12, a13]
          exact fun z => absurd z h
        · unfold k9_Wc
          simp (disch := omega) only [k9_ur, Nat.reduceEqDiff, false_and, and_false, true_and, and_true, eq_self, ↓reduceIte]
          exact ⟨rfl, rfl, rfl, rfl, rfl⟩
        · exact k9_fx_u (k9_fx_u (k9_fx_u (k9_fx_u (k9_fx_u hx (k9_Fk_t _)) (k9_Fk_t _)) (k9_Fk_t _)) (k9_Fk_t _)) (k9_Fk_t _)
    | succ k ih =>
      intro D I1 hk hW hl hx
      have hDn : D < w 7 0 := by omega
      obtain ⟨a5, a6, a7, a8, a9, a10, a11, a12, a13⟩ := hl
      have a8 := a8 hDn
      have b4 := p_st_b hf (show D + 1 ≤ w 7 0 by omega)
      have b5 := p_st_mono (w := w) (show D + 1 ≤ p_dn w t by omega)
      have hh0 : p_has w D 0 := Or.inl ⟨by omega, hDn⟩
      have hh3 : p_has w D 3 := Or.inl ⟨by omega, hDn⟩
      refine k9o_eq k9e_21_0 ?_
      by_cases h : D + 1 < w 7 0
      · simp (disch := omega) only [k9e_21_5, k9e_21_9, k9e_21_17, k9e_21_27, k9e_21_42, k9e_21_51, k9e_21_62, k9e_21_70, k9e_21_77, k9e_21_84, k9e_21_90, Nat.reduceEqDiff, Int.reduceEq, Int.reduceLT, Int.reduceLE, k9_ps_s, k9_ps_n, k9_ur, false_and, and_false, true_and, and_true, true_or, or_true, false_or, or_false, eq_self, ↓reduceIte, not_true_eq_false, not_false_eq_true, n_toInt, n_cl, nI_1, nI_add, n_a0, n_p2, n_p3, n_p4, n_x2, n_x3, n_x4, n_x60, n_x100, n_pm1, k9L_m2, k9L_m1, k9L_0, k9L_1, k9L_2, k9L_3, k9L_4, k9L_5, k9L_6, k9L_7, k9L_8, k9L_9, k9L_10, k9L_20, k9L_23, k9L_24, k9L_30, k9L_40, k9L_50, k9L_60, k9L_99, k9L_100, k9L_120, k9L_255, k9L_999, k9L_1000, k9_bs, k9_ba, a5, a6, a7, a8, a9, a10, a11, a12, a13]
        repeat (first | ((with_reducible refine k9q_T ?_ ?_); · omega) | ((with_reducible refine k9q_F ?_ ?_); · omega) | ((with_reducible refine k9q_Tb ?_ ?_); · omega) | ((with_reducible refine k9q_Fb ?_ ?_); · omega) | (refine k9o_call (k9s_5 (q := 0) (by repeat (first | exact hW | apply k9_Wk_u rfl)) hf hh0) ?_; simp (disch := omega) only [k9e_21_5, k9e_21_9, k9e_21_17, k9e_21_27, k9e_21_42, k9e_21_51, k9e_21_62, k9e_21_70, k9e_21_77, k9e_21_84, k9e_21_90, Nat.reduceEqDiff, Int.reduceEq, Int.reduceLT, Int.reduceLE, k9_ps_s, k9_ps_n, k9_ur, false_and, and_false, true_and, and_true, true_or, or_true, false_or, or_false, eq_self, ↓reduceIte, not_true_eq_false, not_false_eq_true, n_toInt, n_cl, nI_1, nI_add, n_a0, n_p2, n_p3, n_p4, n_x2, n_x3, n_x4, n_x60, n_x100, n_pm1, k9L_m2, k9L_m1, k9L_0, k9L_1, k9L_2, k9L_3, k9L_4, k9L_5, k9L_6, k9L_7, k9L_8, k9L_9, k9L_10, k9L_20, k9L_23, k9L_24, k9L_30, k9L_40, k9L_50, k9L_60, k9L_99, k9L_100, k9L_120, k9L_255, k9L_999, k9L_1000, k9_bs, k9_ba, a5, a6, a7, a8, a9, a10, a11, a12, a13]) | (refine k9o_call (k9s_5 (q := 3) (by repeat (first | exact hW | apply k9_Wk_u rfl)) hf hh3) ?_; simp (disch := omega) only [k9e_21_5, k9e_21_9, k9e_21_17, k9e_21_27, k9e_21_42, k9e_21_51, k9e_21_62, k9e_21_70, k9e_21_77, k9e_21_84, k9e_21_90, Nat.reduceEqDiff, Int.reduceEq, Int.reduceLT, Int.reduceLE, k9_ps_s, k9_ps_n, k9_ur, false_and, and_false, true_and, and_true, true_or, or_true, false_or, or_false, eq_self, ↓reduceIte, not_true_eq_false, not_false_eq_true, n_toInt, n_cl, nI_1, nI_add, n_a0, n_p2, n_p3, n_p4, n_x2, n_x3, n_x4, n_x60, n_x100, n_pm1, k9L_m2, k9L_m1, k9L_0, k9L_1, k9L_2, k9L_3, k9L_4, k9L_5, k9L_6, k9L_7, k9L_8, k9L_9, k9L_10, k9L_20, k9L_23, k9L_24, k9L_30, k9L_40, k9L_50, k9L_60, k9L_99, k9L_100, k9L_120, k9L_255, k9L_999, k9L_1000, k9_bs, k9_ba, a5, a6, a7, a8, a9, a10, a11, a12, a13]) | (refine k9o_call (k9s_9 (by repeat (first | exact hW | apply k9_Wk_u rfl)) hf h) ?_; simp (disch := omega) only [k9e_21_5, k9e_21_9, k9e_21_17, k9e_21_27, k9e_21_42, k9e_21_51, k9e_21_62, k9e_21_70, k9e_21_77, k9e_21_84, k9e_21_90, Nat.reduceEqDiff, Int.reduceEq, Int.reduceLT, Int.reduceLE, k9_ps_s, k9_ps_n, k9_ur, false_and, and_false, true_and, and_true, true_or, or_true, false_or, or_false, eq_self, ↓reduceIte, not_true_eq_false, not_false_eq_true, n_toInt, n_cl, nI_1, nI_add, n_a0, n_p2, n_p3, n_p4, n_x2, n_x3, n_x4, n_x60, n_x100, n_pm1, k9L_m2, k9L_m1, k9L_0, k9L_1, k9L_2, k9L_3, k9L_4, k9L_5, k9L_6, k9L_7, k9L_8, k9L_9, k9L_10, k9L_20, k9L_23, k9L_24, k9L_30, k9L_40, k9L_50, k9L_60, k9L_99, k9L_100, k9L_120, k9L_255, k9L_999, k9L_1000, k9_bs, k9_ba, a5, a6, a7, a8, a9, a10, a11, a12, a13]) | simp (disch := omega) only [k9e_21_5, k9e_21_9, k9e_21_17, k9e_21_27, k9e_21_42, k9e_21_51, k9e_21_62, k9e_21_70, k9e_21_77, k9e_21_84, k9e_21_90, Nat.reduceEqDiff, Int.reduceEq, Int.reduceLT, Int.reduceLE, k9_ps_s, k9_ps_n, k9_ur, false_and, and_false, true_and, and_true, true_or, or_true, false_or, or_false, eq_self, ↓reduceIte, not_true_eq_false, not_false_eq_true, n_toInt, n_cl, nI_1, nI_add, n_a0, n_p2, n_p3, n_p4, n_x2, n_x3, n_x4, n_x60, n_x100, n_pm1, k9L_m2, k9L_m1, k9L_0, k9L_1, k9L_2, k9L_3, k9L_4, k9L_5, k9L_6, k9L_7, k9L_8, k9L_9, k9L_10, k9L_20, k9L_23, k9L_24, k9L_30, k9L_40, k9L_50, k9L_60, k9L_99, k9L_100, k9L_120, k9L_255, k9L_999, k9L_1000, k9_bs, k9_ba, a5, a6, a7, a8, a9, a10, a11, a12, a13])
        refine ih (D + 1) _ (by omega) (by repeat (first | exact hW | apply k9_Wk_u rfl)) ?_ ?_
        · unfold k9_Wl
          simp (disch := omega) only [k9_ur, Nat.reduceEqDiff, false_and, and_false, true_and, and_true, eq_self, ↓reduceIte, a5, a6, a7, a8, a9, a10, a11, a12, a13]
          exact ⟨fun _ => rfl, rfl, rfl⟩
        · exact k9_fx_u (k9_fx_u (k9_fx_u (k9_fx_u (k9_fx_u hx (k9_Fk_t _)) (k9_Fk_t _)) (k9_Fk_t _)) (k9_Fk_t _)) (k9_Fk_t _)
      · simp (disch := omega) only [k9e_21_5, k9e_21_9, k9e_21_17, k9e_21_27, k9e_21_42, k9e_21_51, k9e_21_62, k9e_21_70, k9e_21_77, k9e_21_84, k9e_21_90, Nat.reduceEqDiff, Int.reduceEq, Int.reduceLT, Int.reduceLE, k9_ps_s, k9_ps_n, k9_ur, false_and, and_false, true_and, and_true, true_or, or_true, false_or, or_false, eq_self, ↓reduceIte, not_true_eq_false, not_false_eq_true, n_toInt, n_cl, nI_1, nI_add, n_a0, n_p2, n_p3, n_p4, n_x2, n_x3, n_x4, n_x60, n_x100, n_pm1, k9L_m2, k9L_m1, k9L_0, k9L_1, k9L_2, k9L_3, k9L_4, k9L_5, k9L_6, k9L_7, k9L_8, k9L_9, k9L_10, k9L_20, k9L_23, k9L_24, k9L_30, k9L_40, k9L_50, k9L_60, k9L_99, k9L_100, k9L_120, k9L_255, k9L_999, k9L_1000, k9_bs, k9_ba, a5, a6, a7, a8, a9, a10, a11, a12, a13]
        repeat (first | ((with_reducible refine k9q_T ?_ ?_); · omega) | ((with_reducible refine k9q_F ?_ ?_); · omega) | ((with_reducible refine k9q_Tb ?_ ?_); · omega) | ((with_reducible refine k9q_Fb ?_ ?_); · omega) | (refine k9o_call (k9s_5 (q := 0) (by repeat (first | exact hW | apply k9_Wk_u rfl)) hf hh0) ?_; simp (disch := omega) only [k9e_21_5, k9e_21_9, k9e_21_17, k9e_21_27, k9e_21_42, k9e_21_51, k9e_21_62, k9e_21_70, k9e_21_77, k9e_21_84, k9e_21_90, Nat.reduceEqDiff, Int.reduceEq, Int.reduceLT, Int.reduceLE, k9_ps_s, k9_ps_n, k9_ur, false_and, and_false, true_and, and_true, true_or, or_true, false_or, or_false, eq_self, ↓reduceIte, not_true_eq_false, not_false_eq_true, n_toInt, n_cl, nI_1, nI_add, n_a0, n_p2, n_p3, n_p4, n_x2, n_x3, n_x4, n_x60, n_x100, n_pm1, k9L_m2, k9L_m1, k9L_0, k9L_1, k9L_2, k9L_3, k9L_4, k9L_5, k9L_6, k9L_7, k9L_8, k9L_9, k9L_10, k9L_20, k9L_23, k9L_24, k9L_30, k9L_40, k9L_50, k9L_60, k9L_99, k9L_100, k9L_120, k9L_255, k9L_999, k9L_1000, k9_bs, k9_ba, a5, a6, a7, a8, a9, a10, a11, a12, a13]) | (refine k9o_call (k9s_5 (q := 3) (by repeat (first | exact hW | apply k9_Wk_u rfl)) hf hh3) ?_; simp (disch := omega) only [k9e_21_5, k9e_21_9, k9e_21_17, k9e_21_27, k9e_21_42, k9e_21_51, k9e_21_62, k9e_21_70, k9e_21_77, k9e_21_84, k9e_21_90, Nat.reduceEqDiff, Int.reduceEq, Int.reduceLT, Int.reduceLE, k9_ps_s, k9_ps_n, k9_ur, false_and, and_false, true_and, and_true, true_or, or_true, false_or, or_false, eq_self, ↓reduceIte, not_true_eq_false, not_false_eq_true, n_toInt, n_cl, nI_1, nI_add, n_a0, n_p2, n_p3, n_p4, n_x2, n_x3, n_x4, n_x60, n_x100, n_pm1, k9L_m2, k9L_m1, k9L_0, k9L_1, k9L_2, k9L_3, k9L_4, k9L_5, k9L_6, k9L_7, k9L_8, k9L_9, k9L_10, k9L_20, k9L_23, k9L_24, k9L_30, k9L_40, k9L_50, k9L_60, k9L_99, k9L_100, k9L_120, k9L_255, k9L_999, k9L_1000, k9_bs, k9_ba, a5, a6, a7, a8, a9, a10, a11, a12, a13]) | (refine k9o_call (k9s_9x (by repeat (first | exact hW | apply k9_Wk_u rfl)) hf h (by omega)) ?_; simp (disch := omega) only [k9e_21_5, k9e_21_9, k9e_21_17, k9e_21_27, k9e_21_42, k9e_21_51, k9e_21_62, k9e_21_70, k9e_21_77, k9e_21_84, k9e_21_90, Nat.reduceEqDiff, Int.reduceEq, Int.reduceLT, Int.reduceLE, k9_ps_s, k9_ps_n, k9_ur, false_and, and_false, true_and, and_true, true_or, or_true, false_or, or_false, eq_self, ↓reduceIte, not_true_eq_false, not_false_eq_true, n_toInt, n_cl, nI_1, nI_add, n_a0, n_p2, n_p3, n_p4, n_x2, n_x3, n_x4, n_x60, n_x100, n_pm1, k9L_m2, k9L_m1, k9L_0, k9L_1, k9L_2, k9L_3, k9L_4, k9L_5, k9L_6, k9L_7, k9L_8, k9L_9, k9L_10, k9L_20, k9L_23, k9L_24, k9L_30, k9L_40, k9L_50, k9L_60, k9L_99, k9L_100, k9L_120, k9L_255, k9L_999, k9L_1000, k9_bs, k9_ba, a5, a6, a7, a8, a9, a10, a11, a12, a13]) | simp (disch := omega) only [k9e_21_5, k9e_21_9, k9e_21_17, k9e_21_27, k9e_21_42, k9e_21_51, k9e_21_62, k9e_21_70, k9e_21_77, k9e_21_84, k9e_21_90, Nat.reduceEqDiff, Int.reduceEq, Int.reduceLT, Int.reduceLE, k9_ps_s, k9_ps_n, k9_ur, false_and, and_false, true_and, and_true, true_or, or_true, false_or, or_false, eq_self, ↓reduceIte, not_true_eq_false, not_false_eq_true, n_toInt, n_cl, nI_1, nI_add, n_a0, n_p2, n_p3, n_p4, n_x2, n_x3, n_x4, n_x60, n_x100, n_pm1, k9L_m2, k9L_m1, k9L_0, k9L_1, k9L_2, k9L_3, k9L_4, k9L_5, k9L_6, k9L_7, k9L_8, k9L_9, k9L_10, k9L_20, k9L_23, k9L_24, k9L_30, k9L_40, k9L_50, k9L_60, k9L_99, k9L_100, k9L_120, k9L_255, k9L_999, k9L_1000, k9_bs, k9_ba, a5, a6, a7, a8, a9, a10, a11, a12, a13])
        refine ih (D + 1) _ (by omega) (by repeat (first | exact hW | apply k9_Wk_u rfl)) ?_ ?_
        · unfold k9_Wl
          simp (disch := omega) only [k9_ur, Nat.reduceEqDiff, false_and, and_false, true_and, and_true, eq_self, ↓reduceIte, a5, a6, a7, a8, a9, a10, a11, a12, a13]
          exact ⟨fun z => absurd z h, rfl, rfl⟩
        · exact k9_fx_u (k9_fx_u (k9_fx_u (k9_fx_u (k9_fx_u hx (k9_Fk_t _)) (k9_Fk_t _)) (k9_Fk_t _)) (k9_Fk_t _)) (k9_Fk_t _)
  obtain ⟨q, e, I', rfl, h⟩ := key (p_dn w t - D) D I (by omega) hW hl (k9_fx_rf _ _)
  exact ⟨I', e, h⟩
/-! what is shown -/
def p_cl (x : Int32) : Nat := if x.toInt < 0 then 0 else if 100 < x.toInt then 100 else x.toInt.toNat
def p_ne (w : Nat → Nat → Nat) (c a : Nat) : Nat := if w 6 0 = 1 ∧ c < a then a else c
def p_li (w : Nat → Nat → Nat) (c a : Nat) : Nat := if 0 < w 5 0 ∧ a + w 5 0 < p_ne w c a then a + w 5 0 else p_ne w c a
def p_env (w : Nat → Nat → Nat) (T : Nat → Nat) (t a : Nat) : Nat → Int32 := fun k => if k < 4 then nI (p_ce w T t k) else if k = 4 then nI a else nI (w 7 0)
def p_rw (w : Nat → Nat → Nat) (T : Nat → Nat) (V : (Nat → Int32) → Int32) (t a : Nat) : Int32 := if w 4 0 = 4 then V (p_env w T t a) else nI (p_ce w T t (w 4 0))
def p_sn (w : Nat → Nat → Nat) (T : Nat → Nat) (V : (Nat → Int32) → Int32) (t a : Nat) : Nat := p_li w (p_cl (p_rw w T V t a)) a
def p_sh (w : Nat → Nat → Nat) (T : Nat → Nat) (V : (Nat → Int32) → Int32) : Nat → Nat
  | 0 => p_sn w T V 0 0
  | t + 1 => p_sn w T V (t + 1) (p_sh w T V t)
theorem p_cl_b (x : Int32) : p_cl x ≤ 100 := by
  unfold p_cl
  repeat' split
  all_goals omega
theorem p_ne_b {c a : Nat} (hc : c ≤ 100) (ha : a ≤ 100) : p_ne w c a ≤ 100 := by
  unfold p_ne
  split <;> omega
theorem p_li_b {c a : Nat} (hc : c ≤ 100) (ha : a ≤ 100) : p_li w c a ≤ 100 := by
  have h := p_ne_b (w := w) hc ha
  unfold p_li
  split <;> omega
theorem p_sn_b {T : Nat → Nat} {V : (Nat → Int32) → Int32} {t a : Nat} (ha : a ≤ 100) : p_sn w T V t a ≤ 100 := p_li_b (p_cl_b _) ha
theorem p_sh_b {T : Nat → Nat} {V : (Nat → Int32) → Int32} : ∀ t, p_sh w T V t ≤ 100
  | 0 => p_sn_b (Nat.zero_le _)
  | t + 1 => p_sn_b (p_sh_b t)
theorem k9s_55 {x : Int32} {a : Nat} (hW : k9_Wk I i0 w) (hf : k9_wf w) (ha : a ≤ 100) : k9_R S d 55 0 [some (k9_r 2 i0), some (k9_i x), some (k9_i (nI a)), none] [] I J = some (some (k9_i (nI (p_li w (p_cl x) a))), I, J) := by
  have key : ∀ c : Nat, c ≤ 100 → k9_ok (k9_R S d 55 10 [some (k9_r 2 i0), some (k9_i x), some (k9_i (nI a)), none] [k9_i (nI c)] I J) (fun q => q = (some (k9_i (nI (p_li w c a))), I, J)) := by
    intro c hc
    have h5 := hf.2.2.1
    have h7 := hf.2.2.2.1
    have k2 : ∀ c' : Nat, c' ≤ 100 → c' = p_ne w c a → k9_ok (k9_R S d 55 21 [some (k9_r 2 i0), some (k9_i x), some (k9_i (nI a)), some (k9_i (nI c'))] [] I J) (fun q => q = (some (k9_i (nI (p_li w c a))), I, J)) := by
      intro c' hc' e
      unfold p_li
      rw [← e]
      by_cases h : 0 < w 5 0 ∧ a + w 5 0 < c'
      · rw [if_pos h]
        simp (disch := omega) only [k9e_55_0, k9e_55_2, k9e_55_4, k9e_55_7, k9e_55_9, k9e_55_10, k9e_55_16, k9e_55_19, k9e_55_21, k9e_55_25, k9e_55_32, k9e_55_38, Nat.reduceEqDiff, Int.reduceEq, Int.reduceLT, Int.reduceLE, k9_ps_s, k9_ps_n, k9_ur, false_and, and_false, true_and, and_true, true_or, or_true, false_or, or_false, eq_self, ↓reduceIte, not_true_eq_false, not_false_eq_true, n_toInt, n_cl, nI_1, nI_add, n_a0, n_p2, n_p3, n_p4, n_x2, n_x3, n_x4, n_x60, n_x100, n_pm1, k9L_m2, k9L_m1, k9L_0, k9L_1, k9L_2, k9L_3, k9L_4, k9L_5, k9L_6, k9L_7, k9L_8, k9L_9, k9L_10, k9L_20, k9L_23, k9L_24, k9L_30, k9L_40, k9L_50, k9L_60, k9L_99, k9L_100, k9L_120, k9L_255, k9L_999, k9L_1000, k9_bs, k9_ba, hW.2.2.1]
        repeat (first | ((with_reducible refine k9q_T ?_ ?_); · omega) | ((with_reducible refine k9q_F ?_ ?_); · omega) | ((with_reducible refine k9q_Tb ?_ ?_); · omega) | ((with_reducible refine k9q_Fb ?_ ?_); · omega) | simp (disch := omega) only [k9e_55_0, k9e_55_2, k9e_55_4, k9e_55_7, k9e_55_9, k9e_55_10, k9e_55_16, k9e_55_19, k9e_55_21, k9e_55_25, k9e_55_32, k9e_55_38, Nat.reduceEqDiff, Int.reduceEq, Int.reduceLT, Int.reduceLE, k9_ps_s, k9_ps_n, k9_ur, false_and, and_false, true_and, and_true, true_or, or_true, false_or, or_false, eq_self, ↓reduceIte, not_true_eq_false, not_false_eq_true, n_toInt, n_cl, nI_1, nI_add, n_a0, n_p2, n_p3, n_p4, n_x2, n_x3, n_x4, n_x60, n_x100, n_pm1, k9L_m2, k9L_m1, k9L_0, k9L_1, k9L_2, k9L_3, k9L_4, k9L_5, k9L_6, k9L_7, k9L_8, k9L_9, k9L_10, k9L_20, k9L_23, k9L_24, k9L_30, k9L_40, k9L_50, k9L_60, k9L_99, k9L_100, k9L_120, k9L_255, k9L_999, k9L_1000, k9_bs, k9_ba, hW.2.2.1])
        exact k9o_ret rfl
      · rw [if_neg h]
        by_cases h0 : 0 < w 5 0
        · simp (disch := omega) only [k9e_55_0, k9e_55_2, k9e_55_4, k9e_55_7, k9e_55_9, k9e_55_10, k9e_55_16, k9e_55_19, k9e_55_21, k9e_55_25, k9e_55_32, k9e_55_38, Nat.reduceEqDiff, Int.reduceEq, Int.reduceLT, Int.reduceLE, k9_ps_s, k9_ps_n, k9_ur, false_and, and_false, true_and, and_true, true_or, or_true, false_or, or_false, eq_self, ↓reduceIte, not_true_eq_false, not_false_eq_true, n_toInt, n_cl, nI_1, nI_add, n_a0, n_p2, n_p3, n_p4, n_x2, n_x3, n_x4, n_x60, n_x100, n_pm1, k9L_m2, k9L_m1, k9L_0, k9L_1, k9L_2, k9L_3, k9L_4, k9L_5, k9L_6, k9L_7, k9L_8, k9L_9, k9L_10, k9L_20, k9L_23, k9L_24, k9L_30, k9L_40, k9L_50, k9L_60, k9L_99, k9L_100, k9L_120, k9L_255, k9L_999, k9L_1000, k9_bs, k9_ba, hW.2.2.1]
          repeat (first | ((with_reducible refine k9q_T ?_ ?_); · omega) | ((with_reducible refine k9q_F ?_ ?_); · omega) | ((with_reducible refine k9q_Tb ?_ ?_); · omega) | ((with_reducible refine k9q_Fb ?_ ?_); · omega) | simp (disch := omega) only [k9e_55_0, k9e_55_2, k9e_55_4, k9e_55_7, k9e_55_9, k9e_55_10, k9e_55_16, k9e_55_19, k9e_55_21, k9e_55_25, k9e_55_32, k9e_55_38, Nat.reduceEqDiff, Int.reduceEq, Int.reduceLT, Int.reduceLE, k9_ps_s, k9_ps_n, k9_ur, false_and, and_false, true_and, and_true, true_or, or_true, false_or, or_false, eq_self, ↓reduceIte, not_true_eq_false, not_false_eq_true, n_toInt, n_cl, nI_1, nI_add, n_a0, n_p2, n_p3, n_p4, n_x2, n_x3, n_x4, n_x60, n_x100, n_pm1, k9L_m2, k9L_m1, k9L_0, k9L_1, k9L_2, k9L_3, k9L_4, k9L_5, k9L_6, k9L_7, k9L_8, k9L_9, k9L_10, k9L_20, k9L_23, k9L_24, k9L_30, k9L_40, k9L_50, k9L_60, k9L_99, k9L_100, k9L_120, k9L_255, k9L_999, k9L_1000, k9_bs, k9_ba, hW.2.2.1])
          exact k9o_ret rfl
        · simp (disch := omega) only [k9e_55_0, k9e_55_2, k9e_55_4, k9e_55_7, k9e_55_9, k9e_55_10, k9e_55_16, k9e_55_19, k9e_55_21, k9e_55_25, k9e_55_32, k9e_55_38, Nat.reduceEqDiff, Int.reduceEq, Int.reduceLT, Int.reduceLE, k9_ps_s, k9_ps_n, k9_ur, false_and, and_false, true_and, and_true, true_or, or_true, false_or, or_false, eq_self, ↓reduceIte, not_true_eq_false, not_false_eq_true, n_toInt, n_cl, nI_1, nI_add, n_a0, n_p2, n_p3, n_p4, n_x2, n_x3, n_x4, n_x60, n_x100, n_pm1, k9L_m2, k9L_m1, k9L_0, k9L_1, k9L_2, k9L_3, k9L_4, k9L_5, k9L_6, k9L_7, k9L_8, k9L_9, k9L_10, k9L_20, k9L_23, k9L_24, k9L_30, k9L_40, k9L_50, k9L_60, k9L_99, k9L_100, k9L_120, k9L_255, k9L_999, k9L_1000, k9_bs, k9_ba, hW.2.2.1]
          repeat (first | ((with_reducible refine k9q_T ?_ ?_); · omega) | ((with_reducible refine k9q_F ?_ ?_); · omega) | ((with_reducible refine k9q_Tb ?_ ?_); · omega) | ((with_reducible refine k9q_Fb ?_ ?_); · omega) | simp (disch := omega) only [k9e_55_0, k9e_55_2, k9e_55_4, k9e_55_7, k9e_55_9, k9e_55_10, k9e_55_16, k9e_55_19, k9e_55_21, k9e_55_25, k9e_55_32, k9e_55_38, Nat.reduceEqDiff, Int.reduceEq, Int.reduceLT, Int.reduceLE, k9_ps_s, k9_ps_n, k9_ur, false_and, and_false, true_and, and_true, true_or, or_true, false_or, or_false, eq_self, ↓reduceIte, not_true_eq_false, not_false_eq_true, n_toInt, n_cl, nI_1, nI_add, n_a0, n_p2, n_p3, n_p4, n_x2, n_x3, n_x4, n_x60, n_x100, n_pm1, k9L_m2, k9L_m1, k9L_0, k9L_1, k9L_2, k9L_3, k9L_4, k9L_5, k9L_6, k9L_7, k9L_8, k9L_9, k9L_10, k9L_20, k9L_23, k9L_24, k9L_30, k9L_40, k9L_50, k9L_60, k9L_99, k9L_100, k9L_120, k9L_255, k9L_999, k9L_1000, k9_bs, k9_ba, hW.2.2.1])
          exact k9o_ret rfl
    refine k9o_eq k9e_55_10 ?_
    by_cases h1 : w 6 0 = 1
    · by_cases h2 : c < a
      · refine k9o_T (by rw [hW.2.2.2.1, n_toInt (by omega)]; omega) ?_
        refine k9o_eq k9e_55_16 ?_
        refine k9o_F (by rw [n_toInt (by omega), n_toInt (by omega)]; omega) ?_
        refine k9o_eq k9e_55_19 ?_
        exact k2 a ha (by rw [p_ne, if_pos ⟨h1, h2⟩])
      · refine k9o_T (by rw [hW.2.2.2.1, n_toInt (by omega)]; omega) ?_
        refine k9o_eq k9e_55_16 ?_
        refine k9o_T (by rw [n_toInt (by omega), n_toInt (by omega)]; omega) ?_
        exact k2 c hc (by rw [p_ne, if_neg (fun z => h2 z.2)])
    · refine k9o_F (by rw [hW.2.2.2.1, n_toInt (by omega)]; omega) ?_
      exact k2 c hc (by rw [p_ne, if_neg (fun z => h1 z.1)])
  refine k9o_of (k9o_eq k9e_55_0 ?_)
  unfold p_cl
  by_cases h0 : x.toInt < 0
  · rw [if_pos h0]
    refine k9o_F (by omega) (k9o_eq k9e_55_2 ?_)
    exact key 0 (by omega)
  · rw [if_neg h0]
    refine k9o_T (by omega) (k9o_eq k9e_55_4 ?_)
    by_cases h1 : 100 < x.toInt
    · rw [if_pos h1]
      refine k9o_F (by omega) (k9o_eq k9e_55_7 ?_)
      exact key 100 (by omega)
    · rw [if_neg h1]
      refine k9o_T (by omega) (k9o_eq k9e_55_9 ?_)
      obtain ⟨n, rfl, hn, -⟩ := n_of (x := x) (by omega)
      rw [show (nI n).toInt.toNat = n by omega]
      exact key n (by omega)
end KB

/-! BAR.roll -/
section KR
variable {S : k9_S} {d : Nat} {I : k9_I} {J : k9_J} {i0 i1 i2 : Nat} {w : Nat → Nat → Nat} {V : (Nat → Int32) → Int32}
def k9_Fl (k _ p : Nat) : Bool := Nat.beq k 29 || (Nat.beq k 6 && Nat.beq p 5)
/-- the law's text has the values V -/
def k9_CL (I : k9_I) (V : (Nat → Int32) → Int32) : Prop :=
  (∀ (S : k9_S) (d : Nat) (J : k9_J) (I' : k9_I) (i : Nat) (a : Int32), I' 6 0 0 = I 6 0 0 → I' 6 0 1 = I 6 0 1 → I' 6 0 3 = I 6 0 3 → I' 28 0 = I 28 0 →
    ∃ I'', k9_R S (d + 3) 48 0 [some (k9_r 6 0), some (k9_r 4 i), some (k9_i a), none, none, none] [] I' J = some (some (k9_i (V (fun k => if k < 4 then I' 4 i (k + 1) else if k = 4 then a else I' 4 i 5))), I'', J) ∧ k9_fx k9_Fl I' I'') ∧
  (I 6 0 0 = 0 ∨ I 6 0 0 = 1) ∧
  (I 6 0 0 = 0 → ∀ e e' : Nat → Int32, (∀ k, k ≠ 4 → e k = e' k) → V e = V e')
theorem k9_CL_fx {I' : k9_I} (h : k9_CL I V) (e0 : I' 6 0 0 = I 6 0 0) (e1 : I' 6 0 1 = I 6 0 1) (e3 : I' 6 0 3 = I 6 0 3) (e28 : I' 28 0 = I 28 0) : k9_CL I' V := by
  obtain ⟨h1, h2, h3⟩ := h
  refine ⟨fun S d J I1 i a g0 g1 g3 g28 => h1 S d J I1 i a (g0.trans e0) (g1.trans e1) (g3.trans e3) (g28.trans e28), ?_, ?_⟩
  · rw [e0]; exact h2
  · rw [e0]; exact h3
def k9_Fb (i0 : Nat) (k i p : Nat) : Bool := ((Nat.beq k 4 || Nat.beq k 24 || Nat.beq k 25 || (Nat.beq k 2 && (Nat.beq p 4 || Nat.beq p 5))) && Nat.beq i i0) || k9_Fl k i p
/-- whether what is shown hangs on the second ahead -/
def p_lb (w : Nat → Nat → Nat) (l : Int32) : Prop := w 6 0 = 1 ∨ 0 < w 5 0 ∨ (w 4 0 = 4 ∧ l = 1)
theorem p_sn_nlb {l : Int32} {T : Nat → Nat} (hb : l = 0 ∨ l = 1) (h : ¬ p_lb w l) (hV : l = 0 → ∀ e e' : Nat → Int32, (∀ k, k ≠ 4 → e k = e' k) → V e = V e') (t a a' : Nat) : p_sn w T V t a = p_sn w T V t a' := by
  unfold p_lb at h
  have h1 : ¬ w 6 0 = 1 := fun z => h (Or.inl z)
  have h2 : ¬ 0 < w 5 0 := fun z => h (Or.inr (Or.inl z))
  have h3 : p_rw w T V t a = p_rw w T V t a' := by
    unfold p_rw
    by_cases h4 : w 4 0 = 4
    · rw [if_pos h4, if_pos h4]
      have h5 : l = 0 := by
        rcases hb with h5 | h5
        · exact h5
        · exact absurd (Or.inr (Or.inr ⟨h4, h5⟩)) h
      refine hV h5 _ _ (fun k hk => ?_)
      simp only [p_env, if_neg hk]
    · rw [if_neg h4, if_neg h4]
  unfold p_sn p_li p_ne
  rw [h3]
  simp [h1, h2]
theorem k9_Wl_fx {F : Nat → Nat → Nat → Bool} {I' : k9_I} {D : Nat} (h : k9_fx F I I') (e : ∀ p, F 4 i0 p = false) (hl : k9_Wl I i0 w D) : k9_Wl I' i0 w D := by
  obtain ⟨a5, a6, a7, a8, a9, a10, a11, a12, a13⟩ := hl
  exact ⟨(h _ _ _ (e _)).trans a5, (h _ _ _ (e _)).trans a6, (h _ _ _ (e _)).trans a7, fun z => (h _ _ _ (e _)).trans (a8 z), (h _ _ _ (e _)).trans a9, (h _ _ _ (e _)).trans a10, (h _ _ _ (e _)).trans a11, (h _ _ _ (e _)).trans a12, (h _ _ _ (e _)).trans a13⟩
theorem k9_Wc_fx {F : Nat → Nat → Nat → Bool} {I' : k9_I} {t : Nat} (h : k9_fx F I I') (e : ∀ p, F 4 i0 p = false) (hl : k9_Wc I i0 w t) : k9_Wc I' i0 w t := by
  obtain ⟨a5, a6, a7, a8, a9⟩ := hl
  exact ⟨(h _ _ _ (e _)).trans a5, (h _ _ _ (e _)).trans a6, (h _ _ _ (e _)).trans a7, (h _ _ _ (e _)).trans a8, (h _ _ _ (e _)).trans a9⟩
theorem k9_Fb_w1 {I1 I2 : k9_I} (h : k9_fx (k9_Fk i0) I1 I2) : k9_fx (k9_Fb i0) I1 I2 := k9_fx_w h (fun k i p e => by
  unfold k9_Fb at e
  unfold k9_Fk
  cases h1 : Nat.beq k 4 <;> cases h2 : Nat.beq i i0 <;> simp_all)
theorem k9_Fb_w2 {I1 I2 : k9_I} (h : k9_fx k9_Fl I1 I2) : k9_fx (k9_Fb i0) I1 I2 := k9_fx_w h (fun k i p e => by
  unfold k9_Fb at e
  cases h1 : k9_Fl k i p <;> simp_all)
theorem k9_Fb_t {k : Nat} (p : Nat) (h : (Nat.beq k 4 || Nat.beq k 24 || Nat.beq k 25 || (Nat.beq k 2 && (Nat.beq p 4 || Nat.beq p 5))) = true) : k9_Fb i0 k i0 p = true := by
  unfold k9_Fb
  rw [h, k9_beq_self]
  rfl
theorem k9_Wk_Fb {I' : k9_I} (h : k9_fx (k9_Fb i0) I I') (hW : k9_Wk I i1 w) : k9_Wk I' i1 w := k9_Wk_fx h (fun p => ⟨rfl, rfl, rfl, rfl, rfl⟩) hW
theorem k9_CL_Fb {I' : k9_I} (h : k9_fx (k9_Fb i0) I I') (hC : k9_CL I V) : k9_CL I' V :=
  k9_CL_fx hC (h 6 0 0 rfl) (h 6 0 1 rfl) (h 6 0 3 rfl) (k9_fx_row h 28 0 (fun _ => rfl))
/-- a bar as it stands once it is rolled from f up to L -/
def k9_Ro (I : k9_I) (i : Nat) (w : Nat → Nat → Nat) (V : (Nat → Int32) → Int32) (f L : Nat) : Prop :=
  I 2 i 4 = nI (p_len w) ∧ I 2 i 5 = nI (p_tt w 0) ∧ ∀ t, f ≤ t → t < L → I 25 i t = nI (p_sh w (p_tt w) V t) ∧ I 24 i t = nI (p_co w t)
theorem k9s_54 {f L : Nat} {x : Int32} (hW : k9_Wk I i0 w) (hf : k9_wf w) (hC : k9_CL I V) (hx : x.toInt = (L : Int) - 1) (hL : L ≤ 1000) (hfl : f ≤ 1000) (hlb : f = 0 ∨ ¬ p_lb w (I 6 0 0)) : ∃ I', k9_R S (d + 4) 54 0 [some (k9_r 2 i0), some (k9_r 6 0), some (k9_i (nI f)), some (k9_i x), none, none, none] [] I J = some (none, I', J) ∧ k9_Ro I' i0 w V f L ∧ k9_fx (k9_Fb i0) I I' := by
  have h6 := hf.1
  have hb := hC.2.1
  have hV := hC.2.2
  have key : ∀ k t a I1, t + k = max f L → f ≤ t → a ≤ 100 → p_sn w (p_tt w) V t a = p_sh w (p_tt w) V t → (∃ D, D ≤ p_dn w t ∧ k9_Wl I1 i0 w D) → k9_Ro I1 i0 w V f t → k9_fx (k9_Fb i0) I I1 →
      k9_ok (k9_R S (d + 4) 54 21 [some (k9_r 2 i0), some (k9_r 6 0), some (k9_i (nI f)), some (k9_i x), some (k9_i (nI a)), some (k9_i (nI t)), none] [] I1 J) (fun q => ∃ I', q = (none, I', J) ∧ k9_Ro I' i0 w V f L ∧ k9_fx (k9_Fb i0) I I') := by
    intro k
    induction k with
    | zero =>
      intro t a I1 hk hft ha he hl hR hfx
      refine k9o_eq k9e_54_21 ?_
      simp (disch := omega) only [k9e_54_0, k9e_54_4, k9e_54_9, k9e_54_15, k9e_54_24, k9e_54_27, k9e_54_33, k9e_54_38, k9e_54_43, k9e_54_44, k9e_54_50, k9e_54_55, k9e_54_63, k9e_54_68, k9e_54_70, Nat.reduceEqDiff, Int.reduceEq, Int.reduceLT, Int.reduceLE, k9_ps_s, k9_ps_n, k9_ur, false_and, and_false, true_and, and_true, true_or, or_true, false_or, or_false, eq_self, ↓reduceIte, not_true_eq_false, not_false_eq_true, n_toInt, n_cl, nI_1, nI_add, n_a0, n_p2, n_p3, n_p4, n_x2, n_x3, n_x4, n_x60, n_x100, n_pm1, k9L_m2, k9L_m1, k9L_0, k9L_1, k9L_2, k9L_3, k9L_4, k9L_5, k9L_6, k9L_7, k9L_8, k9L_9, k9L_10, k9L_20, k9L_23, k9L_24, k9L_30, k9L_40, k9L_50, k9L_60, k9L_99, k9L_100, k9L_120, k9L_255, k9L_999, k9L_1000, k9_bs, k9_ba]
      repeat (first | ((with_reducible refine k9q_T ?_ ?_); · omega) | ((with_reducible refine k9q_F ?_ ?_); · omega) | ((with_reducible refine k9q_Tb ?_ ?_); · omega) | ((with_reducible refine k9q_Fb ?_ ?_); · omega) | simp (disch := omega) only [k9e_54_0, k9e_54_4, k9e_54_9, k9e_54_15, k9e_54_24, k9e_54_27, k9e_54_33, k9e_54_38, k9e_54_43, k9e_54_44, k9e_54_50, k9e_54_55, k9e_54_63, k9e_54_68, k9e_54_70, Nat.reduceEqDiff, Int.reduceEq, Int.reduceLT, Int.reduceLE, k9_ps_s, k9_ps_n, k9_ur, false_and, and_false, true_and, and_true, true_or, or_true, false_or, or_false, eq_self, ↓reduceIte, not_true_eq_false, not_false_eq_true, n_toInt, n_cl, nI_1, nI_add, n_a0, n_p2, n_p3, n_p4, n_x2, n_x3, n_x4, n_x60, n_x100, n_pm1, k9L_m2, k9L_m1, k9L_0, k9L_1, k9L_2, k9L_3, k9L_4, k9L_5, k9L_6, k9L_7, k9L_8, k9L_9, k9L_10, k9L_20, k9L_23, k9L_24, k9L_30, k9L_40, k9L_50, k9L_60, k9L_99, k9L_100, k9L_120, k9L_255, k9L_999, k9L_1000, k9_bs, k9_ba])
      exact k9o_ret ⟨_, rfl, ⟨hR.1, hR.2.1, fun t' h1 h2 => hR.2.2 t' h1 (by omega)⟩, hfx⟩
    | succ k ih =>
      intro t a I1 hk hft ha he hl hR hfx
      obtain ⟨D, hD, hl⟩ := hl
      have hW1 := k9_Wk_Fb hfx hW
      have hC1 := k9_CL_Fb hfx hC
      obtain ⟨I2, e2, l2, c2, x2⟩ := k9s_21 (S := S) (d := d + 1) (J := J) hW1 hf hl hD (by omega)
      have hfx2 := k9_fx_tr hfx (k9_Fb_w1 x2)
      have hW2 := k9_Wk_Fb hfx2 hW
      have hC2 := k9_CL_Fb hfx2 hC
      obtain ⟨c20, c21, c22, c23, c24⟩ := c2
      have hm : I2 3 i0 1 = nI (w 4 0) := hW2.2.1
      have hm4 := hf.2.1
      -- what comes behind the raw cent
      have rest : ∀ (v : Int32) (I3 : k9_I), v = p_rw w (p_tt w) V t a → k9_fx k9_Fl I2 I3 → k9_ok (k9_R S (d + 4) 54 50 [some (k9_r 2 i0), some (k9_r 6 0), some (k9_i (nI f)), some (k9_i x), some (k9_i (nI a)), some (k9_i (nI t)), none] [k9_i v] I3 J) (fun q => ∃ I', q = (none, I', J) ∧ k9_Ro I' i0 w V f L ∧ k9_fx (k9_Fb i0) I I') := by
        intro v I3 hv x3
        have hfx3 := k9_fx_tr hfx2 (k9_Fb_w2 x3)
        have hW3 := k9_Wk_Fb hfx3 hW
        have hs : p_li w (p_cl v) a = p_sh w (p_tt w) V t := by rw [hv, ← he, p_sn]
        have h55 := k9s_55 (S := S) (d := d + 3) (J := J) (x := v) hW3 hf ha
        rw [hs] at h55
        have hc3 : I3 4 i0 0 = nI (p_co w t) := (x3 4 i0 0 rfl).trans c20
        have l3 := k9_Wl_fx x3 (fun _ => rfl) l2
        simp (disch := omega) only [k9e_54_0, k9e_54_4, k9e_54_9, k9e_54_15, k9e_54_24, k9e_54_27, k9e_54_33, k9e_54_38, k9e_54_43, k9e_54_44, k9e_54_50, k9e_54_55, k9e_54_63, k9e_54_68, k9e_54_70, Nat.reduceEqDiff, Int.reduceEq, Int.reduceLT, Int.reduceLE, k9_ps_s, k9_ps_n, k9_ur, false_and, and_false, true_and, and_true, true_or, or_true, false_or, or_false, eq_self, ↓reduceIte, not_true_eq_false, not_false_eq_true, n_toInt, n_cl, nI_1, nI_add, n_a0, n_p2, n_p3, n_p4, n_x2, n_x3, n_x4, n_x60, n_x100, n_pm1, k9L_m2, k9L_m1, k9L_0, k9L_1, k9L_2, k9L_3, k9L_4, k9L_5, k9L_6, k9L_7, k9L_8, k9L_9, k9L_10, k9L_20, k9L_23, k9L_24, k9L_30, k9L_40, k9L_50, k9L_60, k9L_99, k9L_100, k9L_120, k9L_255, k9L_999, k9L_1000, k9_bs, k9_ba, hc3]
        repeat (first | ((with_reducible refine k9q_T ?_ ?_); · omega) | ((with_reducible refine k9q_F ?_ ?_); · omega) | ((with_reducible refine k9q_Tb ?_ ?_); · omega) | ((with_reducible refine k9q_Fb ?_ ?_); · omega) | (refine k9o_call (h55) ?_; simp (disch := omega) only [k9e_54_0, k9e_54_4, k9e_54_9, k9e_54_15, k9e_54_24, k9e_54_27, k9e_54_33, k9e_54_38, k9e_54_43, k9e_54_44, k9e_54_50, k9e_54_55, k9e_54_63, k9e_54_68, k9e_54_70, Nat.reduceEqDiff, Int.reduceEq, Int.reduceLT, Int.reduceLE, k9_ps_s, k9_ps_n, k9_ur, false_and, and_false, true_and, and_true, true_or, or_true, false_or, or_false, eq_self, ↓reduceIte, not_true_eq_false, not_false_eq_true, n_toInt, n_cl, nI_1, nI_add, n_a0, n_p2, n_p3, n_p4, n_x2, n_x3, n_x4, n_x60, n_x100, n_pm1, k9L_m2, k9L_m1, k9L_0, k9L_1, k9L_2, k9L_3, k9L_4, k9L_5, k9L_6, k9L_7, k9L_8, k9L_9, k9L_10, k9L_20, k9L_23, k9L_24, k9L_30, k9L_40, k9L_50, k9L_60, k9L_99, k9L_100, k9L_120, k9L_255, k9L_999, k9L_1000, k9_bs, k9_ba, hc3]) | simp (disch := omega) only [k9e_54_0, k9e_54_4, k9e_54_9, k9e_54_15, k9e_54_24, k9e_54_27, k9e_54_33, k9e_54_38, k9e_54_43, k9e_54_44, k9e_54_50, k9e_54_55, k9e_54_63, k9e_54_68, k9e_54_70, Nat.reduceEqDiff, Int.reduceEq, Int.reduceLT, Int.reduceLE, k9_ps_s, k9_ps_n, k9_ur, false_and, and_false, true_and, and_true, true_or, or_true, false_or, or_false, eq_self, ↓reduceIte, not_true_eq_false, not_false_eq_true, n_toInt, n_cl, nI_1, nI_add, n_a0, n_p2, n_p3, n_p4, n_x2, n_x3, n_x4, n_x60, n_x100, n_pm1, k9L_m2, k9L_m1, k9L_0, k9L_1, k9L_2, k9L_3, k9L_4, k9L_5, k9L_6, k9L_7, k9L_8, k9L_9, k9L_10, k9L_20, k9L_23, k9L_24, k9L_30, k9L_40, k9L_50, k9L_60, k9L_99, k9L_100, k9L_120, k9L_255, k9L_999, k9L_1000, k9_bs, k9_ba, hc3])
        refine ih (t + 1) (p_sh w (p_tt w) V t) _ (by omega) (by omega) (p_sh_b t) rfl ⟨p_dn w t, p_dn_mono (Nat.le_succ t), ?_⟩ ?_ ?_
        · obtain ⟨a5, a6, a7, a8, a9, a10, a11, a12, a13⟩ := l3
          unfold k9_Wl
          simp (disch := omega) only [k9_ur, Nat.reduceEqDiff, false_and, and_false, true_and, and_true, eq_self, ↓reduceIte, a5, a6, a7, a9, a10, a11, a12, a13]
          exact a8
        · have r3 : k9_Ro I3 i0 w V f t := ⟨(x3 _ _ _ rfl).trans ((x2 _ _ _ rfl).trans hR.1), (x3 _ _ _ rfl).trans ((x2 _ _ _ rfl).trans hR.2.1), fun t' h1 h2 => ⟨(x3 _ _ _ rfl).trans ((x2 _ _ _ rfl).trans (hR.2.2 t' h1 h2).1), (x3 _ _ _ rfl).trans ((x2 _ _ _ rfl).trans (hR.2.2 t' h1 h2).2)⟩⟩
          refine ⟨?_, ?_, fun t' h1 h2 => ?_⟩
          · simp (disch := omega) only [k9_ur, Nat.reduceEqDiff, false_and, ↓reduceIte]
            exact r3.1
          · simp (disch := omega) only [k9_ur, Nat.reduceEqDiff, false_and, ↓reduceIte]
            exact r3.2.1
          · simp (disch := omega) only [k9_ur, Nat.reduceEqDiff, false_and, true_and, ↓reduceIte, eq_self]
            by_cases e : t' = t
            · subst e
              simp
            · rw [if_neg e, if_neg e]
              exact r3.2.2 t' h1 (by omega)
        · exact k9_fx_u (k9_fx_u hfx3 (k9_Fb_t _ rfl)) (k9_Fb_t _ rfl)
      refine k9o_eq k9e_54_21 ?_
      by_cases h4 : w 4 0 = 4
      · obtain ⟨I3, e3, x3⟩ := hC2.1 S d J I2 i0 (nI a) rfl rfl rfl rfl
        have hv : V (fun k => if k < 4 then I2 4 i0 (k + 1) else if k = 4 then nI a else I2 4 i0 5) = p_rw w (p_tt w) V t a := by
          rw [p_rw, if_pos h4]
          congr 1
          funext k
          unfold p_env
          by_cases h : k < 4
          · rw [if_pos h, if_pos h]
            have h : k = 0 ∨ k = 1 ∨ k = 2 ∨ k = 3 := by omega
            rcases h with rfl | rfl | rfl | rfl
            · exact c21
            · exact c22
            · exact c23
            · exact c24
          · rw [if_neg h, if_neg h, l2.1]
        have rr := rest _ I3 hv x3
        simp (disch := omega) only [k9e_54_0, k9e_54_4, k9e_54_9, k9e_54_15, k9e_54_24, k9e_54_27, k9e_54_33, k9e_54_38, k9e_54_43, k9e_54_44, k9e_54_50, k9e_54_55, k9e_54_63, k9e_54_68, k9e_54_70, Nat.reduceEqDiff, Int.reduceEq, Int.reduceLT, Int.reduceLE, k9_ps_s, k9_ps_n, k9_ur, false_and, and_false, true_and, and_true, true_or, or_true, false_or, or_false, eq_self, ↓reduceIte, not_true_eq_false, not_false_eq_true, n_toInt, n_cl, nI_1, nI_add, n_a0, n_p2, n_p3, n_p4, n_x2, n_x3, n_x4, n_x60, n_x100, n_pm1, k9L_m2, k9L_m1, k9L_0, k9L_1, k9L_2, k9L_3, k9L_4, k9L_5, k9L_6, k9L_7, k9L_8, k9L_9, k9L_10, k9L_20, k9L_23, k9L_24, k9L_30, k9L_40, k9L_50, k9L_60, k9L_99, k9L_100, k9L_120, k9L_255, k9L_999, k9L_1000, k9_bs, k9_ba, hm]
        repeat (first | ((with_reducible refine k9q_T ?_ ?_); · omega) | ((with_reducible refine k9q_F ?_ ?_); · omega) | ((with_reducible refine k9q_Tb ?_ ?_); · omega) | ((with_reducible refine k9q_Fb ?_ ?_); · omega))
        refine k9o_call e2 ?_
        simp (disch := omega) only [k9e_54_0, k9e_54_4, k9e_54_9, k9e_54_15, k9e_54_24, k9e_54_27, k9e_54_33, k9e_54_38, k9e_54_43, k9e_54_44, k9e_54_50, k9e_54_55, k9e_54_63, k9e_54_68, k9e_54_70, Nat.reduceEqDiff, Int.reduceEq, Int.reduceLT, Int.reduceLE, k9_ps_s, k9_ps_n, k9_ur, false_and, and_false, true_and, and_true, true_or, or_true, false_or, or_false, eq_self, ↓reduceIte, not_true_eq_false, not_false_eq_true, n_toInt, n_cl, nI_1, nI_add, n_a0, n_p2, n_p3, n_p4, n_x2, n_x3, n_x4, n_x60, n_x100, n_pm1, k9L_m2, k9L_m1, k9L_0, k9L_1, k9L_2, k9L_3, k9L_4, k9L_5, k9L_6, k9L_7, k9L_8, k9L_9, k9L_10, k9L_20, k9L_23, k9L_24, k9L_30, k9L_40, k9L_50, k9L_60, k9L_99, k9L_100, k9L_120, k9L_255, k9L_999, k9L_1000, k9_bs, k9_ba, hm]
        repeat (first | ((with_reducible refine k9q_T ?_ ?_); · omega) | ((with_reducible refine k9q_F ?_ ?_); · omega) | ((with_reducible refine k9q_Tb ?_ ?_); · omega) | ((with_reducible refine k9q_Fb ?_ ?_); · omega))
        refine k9o_call e3 ?_
        simp only [k9_ps_s]
        refine k9o_eq k9e_54_43 ?_
        exact rr
      · have rr := rest _ I2 (show nI (p_ce w (p_tt w) t (w 4 0)) = _ by rw [p_rw, if_neg h4]) (k9_fx_rf _ _)
        simp (disch := omega) only [k9e_54_0, k9e_54_4, k9e_54_9, k9e_54_15, k9e_54_24, k9e_54_27, k9e_54_33, k9e_54_38, k9e_54_43, k9e_54_44, k9e_54_50, k9e_54_55, k9e_54_63, k9e_54_68, k9e_54_70, Nat.reduceEqDiff, Int.reduceEq, Int.reduceLT, Int.reduceLE, k9_ps_s, k9_ps_n, k9_ur, false_and, and_false, true_and, and_true, true_or, or_true, false_or, or_false, eq_self, ↓reduceIte, not_true_eq_false, not_false_eq_true, n_toInt, n_cl, nI_1, nI_add, n_a0, n_p2, n_p3, n_p4, n_x2, n_x3, n_x4, n_x60, n_x100, n_pm1, k9L_m2, k9L_m1, k9L_0, k9L_1, k9L_2, k9L_3, k9L_4, k9L_5, k9L_6, k9L_7, k9L_8, k9L_9, k9L_10, k9L_20, k9L_23, k9L_24, k9L_30, k9L_40, k9L_50, k9L_60, k9L_99, k9L_100, k9L_120, k9L_255, k9L_999, k9L_1000, k9_bs, k9_ba, hm]
        repeat (first | ((with_reducible refine k9q_T ?_ ?_); · omega) | ((with_reducible refine k9q_F ?_ ?_); · omega) | ((with_reducible refine k9q_Tb ?_ ?_); · omega) | ((with_reducible refine k9q_Fb ?_ ?_); · omega))
        refine k9o_call e2 ?_
        simp (disch := omega) only [k9e_54_0, k9e_54_4, k9e_54_9, k9e_54_15, k9e_54_24, k9e_54_27, k9e_54_33, k9e_54_38, k9e_54_43, k9e_54_44, k9e_54_50, k9e_54_55, k9e_54_63, k9e_54_68, k9e_54_70, Nat.reduceEqDiff, Int.reduceEq, Int.reduceLT, Int.reduceLE, k9_ps_s, k9_ps_n, k9_ur, false_and, and_false, true_and, and_true, true_or, or_true, false_or, or_false, eq_self, ↓reduceIte, not_true_eq_false, not_false_eq_true, n_toInt, n_cl, nI_1, nI_add, n_a0, n_p2, n_p3, n_p4, n_x2, n_x3, n_x4, n_x60, n_x100, n_pm1, k9L_m2, k9L_m1, k9L_0, k9L_1, k9L_2, k9L_3, k9L_4, k9L_5, k9L_6, k9L_7, k9L_8, k9L_9, k9L_10, k9L_20, k9L_23, k9L_24, k9L_30, k9L_40, k9L_50, k9L_60, k9L_99, k9L_100, k9L_120, k9L_255, k9L_999, k9L_1000, k9_bs, k9_ba, hm]
        repeat (first | ((with_reducible refine k9q_T ?_ ?_); · omega) | ((with_reducible refine k9q_F ?_ ?_); · omega) | ((with_reducible refine k9q_Tb ?_ ?_); · omega) | ((with_reducible refine k9q_Fb ?_ ?_); · omega))
        refine k9o_call (k9s_22 (by omega) ⟨c20, c21, c22, c23, c24⟩) ?_
        simp only [k9_ps_s]
        exact rr
  obtain ⟨I1, e1, l1, x1⟩ := k9s_20 (S := S) (d := d) (I := k9_u (k9_u I 2 i0 4 (nI (p_len w))) 2 i0 5 (nI (p_tt w 0))) (J := J) (i0 := i0) (i1 := i0) (w := w) (by repeat (first | exact hW | apply k9_Wk_u rfl)) hf
  have hfx1 : k9_fx (k9_Fb i0) I I1 := k9_fx_tr (k9_fx_u (k9_fx_u (k9_fx_rf _ _) (k9_Fb_t _ rfl)) (k9_Fb_t _ rfl)) (k9_Fb_w1 x1)
  obtain ⟨q, e, I', rfl, h⟩ := key (max f L - f) f 0 I1 (by omega) (Nat.le_refl _) (Nat.zero_le _) (by
    rcases hlb with rfl | hlb
    · rfl
    · cases f with
      | zero => rfl
      | succ t => exact p_sn_nlb hb hlb hV _ _ _) ⟨0, Nat.zero_le _, l1⟩ ⟨(x1 _ _ _ rfl).trans (by simp [k9_ur]), (x1 _ _ _ rfl).trans (by simp [k9_ur]), fun t h1 h2 => by omega⟩ hfx1
  refine ⟨I', k9o_of ?_, h⟩
  simp (disch := omega) only [k9e_54_0, k9e_54_4, k9e_54_9, k9e_54_15, k9e_54_24, k9e_54_27, k9e_54_33, k9e_54_38, k9e_54_43, k9e_54_44, k9e_54_50, k9e_54_55, k9e_54_63, k9e_54_68, k9e_54_70, Nat.reduceEqDiff, Int.reduceEq, Int.reduceLT, Int.reduceLE, k9_ps_s, k9_ps_n, k9_ur, false_and, and_false, true_and, and_true, true_or, or_true, false_or, or_false, eq_self, ↓reduceIte, not_true_eq_false, not_false_eq_true, n_toInt, n_cl, nI_1, nI_add, n_a0, n_p2, n_p3, n_p4, n_x2, n_x3, n_x4, n_x60, n_x100, n_pm1, k9L_m2, k9L_m1, k9L_0, k9L_1, k9L_2, k9L_3, k9L_4, k9L_5, k9L_6, k9L_7, k9L_8, k9L_9, k9L_10, k9L_20, k9L_23, k9L_24, k9L_30, k9L_40, k9L_50, k9L_60, k9L_99, k9L_100, k9L_120, k9L_255, k9L_999, k9L_1000, k9_bs, k9_ba]
  repeat (first | ((with_reducible refine k9q_T ?_ ?_); · omega) | ((with_reducible refine k9q_F ?_ ?_); · omega) | ((with_reducible refine k9q_Tb ?_ ?_); · omega) | ((with_reducible refine k9q_Fb ?_ ?_); · omega) | (refine k9o_call (k9s_10 hW hf) ?_; simp (disch := omega) only [k9e_54_0, k9e_54_4, k9e_54_9, k9e_54_15, k9e_54_24, k9e_54_27, k9e_54_33, k9e_54_38, k9e_54_43, k9e_54_44, k9e_54_50, k9e_54_55, k9e_54_63, k9e_54_68, k9e_54_70, Nat.reduceEqDiff, Int.reduceEq, Int.reduceLT, Int.reduceLE, k9_ps_s, k9_ps_n, k9_ur, false_and, and_false, true_and, and_true, true_or, or_true, false_or, or_false, eq_self, ↓reduceIte, not_true_eq_false, not_false_eq_true, n_toInt, n_cl, nI_1, nI_add, n_a0, n_p2, n_p3, n_p4, n_x2, n_x3, n_x4, n_x60, n_x100, n_pm1, k9L_m2, k9L_m1, k9L_0, k9L_1, k9L_2, k9L_3, k9L_4, k9L_5, k9L_6, k9L_7, k9L_8, k9L_9, k9L_10, k9L_20, k9L_23, k9L_24, k9L_30, k9L_40, k9L_50, k9L_60, k9L_99, k9L_100, k9L_120, k9L_255, k9L_999, k9L_1000, k9_bs, k9_ba]) | (refine k9o_call (k9s_11 (by repeat (first | exact hW | apply k9_Wk_u rfl)) hf) ?_; simp (disch := omega) only [k9e_54_0, k9e_54_4, k9e_54_9, k9e_54_15, k9e_54_24, k9e_54_27, k9e_54_33, k9e_54_38, k9e_54_43, k9e_54_44, k9e_54_50, k9e_54_55, k9e_54_63, k9e_54_68, k9e_54_70, Nat.reduceEqDiff, Int.reduceEq, Int.reduceLT, Int.reduceLE, k9_ps_s, k9_ps_n, k9_ur, false_and, and_false, true_and, and_true, true_or, or_true, false_or, or_false, eq_self, ↓reduceIte, not_true_eq_false, not_false_eq_true, n_toInt, n_cl, nI_1, nI_add, n_a0, n_p2, n_p3, n_p4, n_x2, n_x3, n_x4, n_x60, n_x100, n_pm1, k9L_m2, k9L_m1, k9L_0, k9L_1, k9L_2, k9L_3, k9L_4, k9L_5, k9L_6, k9L_7, k9L_8, k9L_9, k9L_10, k9L_20, k9L_23, k9L_24, k9L_30, k9L_40, k9L_50, k9L_60, k9L_99, k9L_100, k9L_120, k9L_255, k9L_999, k9L_1000, k9_bs, k9_ba]) | (refine k9o_call (e1) ?_; simp (disch := omega) only [k9e_54_0, k9e_54_4, k9e_54_9, k9e_54_15, k9e_54_24, k9e_54_27, k9e_54_33, k9e_54_38, k9e_54_43, k9e_54_44, k9e_54_50, k9e_54_55, k9e_54_63, k9e_54_68, k9e_54_70, Nat.reduceEqDiff, Int.reduceEq, Int.reduceLT, Int.reduceLE, k9_ps_s, k9_ps_n, k9_ur, false_and, and_false, true_and, and_true, true_or, or_true, false_or, or_false, eq_self, ↓reduceIte, not_true_eq_false, not_false_eq_true, n_toInt, n_cl, nI_1, nI_add, n_a0, n_p2, n_p3, n_p4, n_x2, n_x3, n_x4, n_x60, n_x100, n_pm1, k9L_m2, k9L_m1, k9L_0, k9L_1, k9L_2, k9L_3, k9L_4, k9L_5, k9L_6, k9L_7, k9L_8, k9L_9, k9L_10, k9L_20, k9L_23, k9L_24, k9L_30, k9L_40, k9L_50, k9L_60, k9L_99, k9L_100, k9L_120, k9L_255, k9L_999, k9L_1000, k9_bs, k9_ba]) | simp (disch := omega) only [k9e_54_0, k9e_54_4, k9e_54_9, k9e_54_15, k9e_54_24, k9e_54_27, k9e_54_33, k9e_54_38, k9e_54_43, k9e_54_44, k9e_54_50, k9e_54_55, k9e_54_63, k9e_54_68, k9e_54_70, Nat.reduceEqDiff, Int.reduceEq, Int.reduceLT, Int.reduceLE, k9_ps_s, k9_ps_n, k9_ur, false_and, and_false, true_and, and_true, true_or, or_true, false_or, or_false, eq_self, ↓reduceIte, not_true_eq_false, not_false_eq_true, n_toInt, n_cl, nI_1, nI_add, n_a0, n_p2, n_p3, n_p4, n_x2, n_x3, n_x4, n_x60, n_x100, n_pm1, k9L_m2, k9L_m1, k9L_0, k9L_1, k9L_2, k9L_3, k9L_4, k9L_5, k9L_6, k9L_7, k9L_8, k9L_9, k9L_10, k9L_20, k9L_23, k9L_24, k9L_30, k9L_40, k9L_50, k9L_60, k9L_99, k9L_100, k9L_120, k9L_255, k9L_999, k9L_1000, k9_bs, k9_ba])
  rw [show (0 : Int32) = nI 0 from rfl, n_max (by omega) (by omega), Nat.max_eq_right (Nat.zero_le _)]
  exact k9o_to e rfl
end KR

/-! BAR: what is read off what was shown -/
def p_ds (a b : Nat) : Nat := (a - b) + (b - a)
def p_mn (h : Nat → Nat) (c : Nat) : Nat → Nat
  | 0 => 0
  | t + 1 => p_mn h c t + if h t = c then 1 else 0
def p_sg (h : Nat → Nat) (t g : Nat) : Nat := if 0 < t ∧ h t ≠ h (t - 1) then t else g
/-- the longest stand so far: how long, from where; and where this one began -/
def p_sd (h : Nat → Nat) : Nat → Nat × Nat × Nat
  | 0 => (0, 0, 0)
  | t + 1 => (if (p_sd h t).1 < t - p_sg h t (p_sd h t).2.2 + 1 then t - p_sg h t (p_sd h t).2.2 + 1 else (p_sd h t).1, if (p_sd h t).1 < t - p_sg h t (p_sd h t).2.2 + 1 then p_sg h t (p_sd h t).2.2 else (p_sd h t).2.1, p_sg h t (p_sd h t).2.2)
theorem p_sd_b (h : Nat → Nat) : ∀ t, (p_sd h t).1 ≤ t ∧ (p_sd h t).2.1 ≤ t ∧ (p_sd h t).2.2 ≤ t ∧ (0 < t → (p_sd h t).2.1 < t ∧ (p_sd h t).2.2 < t ∧ h (p_sd h t).2.2 = h (t - 1))
  | 0 => ⟨Nat.le_refl _, Nat.le_refl _, Nat.le_refl _, fun h => absurd h (Nat.lt_irrefl _)⟩
  | t + 1 => by
    obtain ⟨h1, h2, h3, h4⟩ := p_sd_b h t
    have hg : p_sg h t (p_sd h t).2.2 ≤ t ∧ h (p_sg h t (p_sd h t).2.2) = h t := by
      unfold p_sg
      by_cases e : 0 < t ∧ h t ≠ h (t - 1)
      · rw [if_pos e]
        exact ⟨Nat.le_refl _, rfl⟩
      · rw [if_neg e]
        refine ⟨h3, ?_⟩
        by_cases e0 : 0 < t
        · rw [(h4 e0).2.2]
          exact (Classical.byContradiction fun z => e ⟨e0, z⟩ : h t = h (t - 1)).symm
        · obtain rfl : t = 0 := by omega
          rfl
    simp only [p_sd]
    refine ⟨?_, ?_, by omega, fun _ => ⟨?_, by omega, hg.2⟩⟩
    all_goals split <;> omega
/-- how far it is off: the greatest, the sum, the second of the greatest -/
def p_of (h tr : Nat → Nat) : Nat → Nat × Nat × Nat
  | 0 => (0, 0, 0)
  | t + 1 => (if (p_of h tr t).1 < p_ds (h t) (tr t) then p_ds (h t) (tr t) else (p_of h tr t).1, (p_of h tr t).2.1 + p_ds (h t) (tr t), if (p_of h tr t).1 < p_ds (h t) (tr t) then t else (p_of h tr t).2.2)
theorem p_of_b {h tr : Nat → Nat} (hh : ∀ t, h t ≤ 100) (ht : ∀ t, tr t ≤ 100) : ∀ t, (p_of h tr t).1 ≤ 100 ∧ (p_of h tr t).2.1 ≤ 100 * t ∧ (p_of h tr t).2.2 ≤ t
  | 0 => ⟨Nat.zero_le _, Nat.le_refl _, Nat.le_refl _⟩
  | t + 1 => by
    obtain ⟨h1, h2, h3⟩ := p_of_b hh ht t
    have h4 : p_ds (h t) (tr t) ≤ 100 := by
      have := hh t
      have := ht t
      unfold p_ds
      omega
    simp only [p_of]
    refine ⟨?_, by omega, ?_⟩
    all_goals split <;> omega
theorem p_ct_b {a b : Nat} (h : b ≤ a) : p_ct a b ≤ 100 := by
  unfold p_ct
  split
  · omega
  · apply Nat.div_le_of_le_mul
    exact Nat.mul_le_mul_right _ h
def p_sp2 (t w : Nat) : Nat := if w = 0 then t else min t w
/-- seconds remaining; -2 where nothing came -/
def p_rm (c : Nat → Nat) (A t w : Nat) : Int32 := if c t - c (t - p_sp2 t w) = 0 then -2 else nI ((p_sp2 t w * (A - c t) + (c t - c (t - p_sp2 t w)) - 1) / (c t - c (t - p_sp2 t w)))
def p_g1 (c : Nat → Nat) (A L t w : Nat) : Nat := if c t - c (t - p_sp2 t w) = 0 then 999 else min 999 (p_ds ((p_sp2 t w * (A - c t) + (c t - c (t - p_sp2 t w)) - 1) / (c t - c (t - p_sp2 t w))) (L - t))
def p_gs (c : Nat → Nat) (A L w : Nat) : Nat → Nat
  | 0 => 0
  | k + 1 => p_gs c A L w k + p_g1 c A L (k + 1) w
def p_se (h : Nat → Nat) : Nat → Nat
  | 0 => 0
  | t + 1 => if h (t + 1) = h t then p_se h t + 1 else 0
def p_dd (h : Nat → Nat) (d : Nat) : Nat → Nat → Int32
  | 0, _ => -2
  | k + 1, t => if d ≤ p_se h t then nI t else p_dd h d k (t + 1)
def p_pl (h : Nat → Nat) : Nat → Int32
  | 0 => 0
  | k + 1 => p_pl h k + (nI (h (k + 1)) - nI (h k)) * nI (k + 1)
def p_fu (h : Nat → Nat) (b : Nat → Int32) (t : Nat) : Nat → Nat → Int32
  | 0, _ => -2
  | k + 1, i => if 999 < t + i ∨ ¬ nI (h (t + i)) = b i then nI i else p_fu h b t k (i + 1)
/-- a bar's length, all bytes, and what it showed -/
def k9_Br (I : k9_I) (i L A : Nat) (h c : Nat → Nat) (f M : Nat) : Prop := I 2 i 4 = nI L ∧ I 2 i 5 = nI A ∧ ∀ t, f ≤ t → t < M → I 25 i t = nI (h t) ∧ I 24 i t = nI (c t)
theorem n_abs {a b : Nat} (ha : a < 1000000000) (hb : b < 1000000000) : (if 0 ≤ nI a - nI b then nI a - nI b else 0 - (nI a - nI b)) = nI (p_ds a b) := by
  unfold p_ds
  by_cases h : b ≤ a
  · rw [n_sub h, if_pos (nI_pos' (by omega)), Nat.sub_eq_zero_of_le h, Nat.add_zero]
  · have h1 : ¬ 0 ≤ nI a - nI b := by
      intro z
      rw [Int32.le_iff_toInt_le, pk_sub_toInt (by omega) (by omega), k9L_0] at z
      omega
    rw [if_neg h1, Nat.sub_eq_zero_of_le (show a ≤ b by omega), Nat.zero_add, ← n_sub (show a ≤ b by omega)]
    have h2 : ∀ x y : Int32, 0 - (x - y) = y - x := by
      intro x y
      rw [Int32.sub_eq_add_neg, Int32.neg_sub]
      exact Int32.zero_add _
    exact h2 _ _
section KB7
variable {S : k9_S} {d : Nat} {I : k9_I} {J : k9_J} {i0 i1 i2 : Nat} {L A f M : Nat} {h c : Nat → Nat}
theorem k9s_56 {t : Nat} (hB : k9_Br I i0 L A h c f M) (h1 : f ≤ t) (h2 : t < M) (hM : M ≤ 1000) : k9_R S d 56 0 [some (k9_r 2 i0), some (k9_i (nI t))] [] I J = some (some (k9_i (nI (h t))), I, J) := by
  obtain ⟨a, b⟩ := hB.2.2 t h1 h2
  refine k9o_of ?_
  simp (disch := omega) only [k9e_56_0, k9e_56_2, k9e_56_5, k9e_56_9, k9e_56_10, k9e_56_11, Nat.reduceEqDiff, Int.reduceEq, Int.reduceLT, Int.reduceLE, k9_ps_s, k9_ps_n, k9_ur, false_and, and_false, true_and, and_true, true_or, or_true, false_or, or_false, eq_self, ↓reduceIte, not_true_eq_false, not_false_eq_true, n_toInt, n_cl, nI_1, nI_add, n_a0, n_p2, n_p3, n_p4, n_x2, n_x3, n_x4, n_x60, n_x100, n_pm1, k9L_m2, k9L_m1, k9L_0, k9L_1, k9L_2, k9L_3, k9L_4, k9L_5, k9L_6, k9L_7, k9L_8, k9L_9, k9L_10, k9L_20, k9L_23, k9L_24, k9L_30, k9L_40, k9L_50, k9L_60, k9L_99, k9L_100, k9L_120, k9L_255, k9L_999, k9L_1000, k9_bs, k9_ba, a]
  repeat (first | ((with_reducible refine k9q_T ?_ ?_); · omega) | ((with_reducible refine k9q_F ?_ ?_); · omega) | ((with_reducible refine k9q_Tb ?_ ?_); · omega) | ((with_reducible refine k9q_Fb ?_ ?_); · omega) | simp (disch := omega) only [k9e_56_0, k9e_56_2, k9e_56_5, k9e_56_9, k9e_56_10, k9e_56_11, Nat.reduceEqDiff, Int.reduceEq, Int.reduceLT, Int.reduceLE, k9_ps_s, k9_ps_n, k9_ur, false_and, and_false, true_and, and_true, true_or, or_true, false_or, or_false, eq_self, ↓reduceIte, not_true_eq_false, not_false_eq_true, n_toInt, n_cl, nI_1, nI_add, n_a0, n_p2, n_p3, n_p4, n_x2, n_x3, n_x4, n_x60, n_x100, n_pm1, k9L_m2, k9L_m1, k9L_0, k9L_1, k9L_2, k9L_3, k9L_4, k9L_5, k9L_6, k9L_7, k9L_8, k9L_9, k9L_10, k9L_20, k9L_23, k9L_24, k9L_30, k9L_40, k9L_50, k9L_60, k9L_99, k9L_100, k9L_120, k9L_255, k9L_999, k9L_1000, k9_bs, k9_ba, a])
  exact k9o_ret rfl
theorem k9s_57 {t : Nat} (hB : k9_Br I i0 L A h c f M) (h1 : f ≤ t) (h2 : t < M) (hM : M ≤ 1000) : k9_R S d 57 0 [some (k9_r 2 i0), some (k9_i (nI t))] [] I J = some (some (k9_i (nI (c t))), I, J) := by
  obtain ⟨a, b⟩ := hB.2.2 t h1 h2
  refine k9o_of ?_
  simp (disch := omega) only [k9e_57_0, k9e_57_2, k9e_57_5, k9e_57_9, k9e_57_10, k9e_57_11, Nat.reduceEqDiff, Int.reduceEq, Int.reduceLT, Int.reduceLE, k9_ps_s, k9_ps_n, k9_ur, false_and, and_false, true_and, and_true, true_or, or_true, false_or, or_false, eq_self, ↓reduceIte, not_true_eq_false, not_false_eq_true, n_toInt, n_cl, nI_1, nI_add, n_a0, n_p2, n_p3, n_p4, n_x2, n_x3, n_x4, n_x60, n_x100, n_pm1, k9L_m2, k9L_m1, k9L_0, k9L_1, k9L_2, k9L_3, k9L_4, k9L_5, k9L_6, k9L_7, k9L_8, k9L_9, k9L_10, k9L_20, k9L_23, k9L_24, k9L_30, k9L_40, k9L_50, k9L_60, k9L_99, k9L_100, k9L_120, k9L_255, k9L_999, k9L_1000, k9_bs, k9_ba, b]
  repeat (first | ((with_reducible refine k9q_T ?_ ?_); · omega) | ((with_reducible refine k9q_F ?_ ?_); · omega) | ((with_reducible refine k9q_Tb ?_ ?_); · omega) | ((with_reducible refine k9q_Fb ?_ ?_); · omega) | simp (disch := omega) only [k9e_57_0, k9e_57_2, k9e_57_5, k9e_57_9, k9e_57_10, k9e_57_11, Nat.reduceEqDiff, Int.reduceEq, Int.reduceLT, Int.reduceLE, k9_ps_s, k9_ps_n, k9_ur, false_and, and_false, true_and, and_true, true_or, or_true, false_or, or_false, eq_self, ↓reduceIte, not_true_eq_false, not_false_eq_true, n_toInt, n_cl, nI_1, nI_add, n_a0, n_p2, n_p3, n_p4, n_x2, n_x3, n_x4, n_x60, n_x100, n_pm1, k9L_m2, k9L_m1, k9L_0, k9L_1, k9L_2, k9L_3, k9L_4, k9L_5, k9L_6, k9L_7, k9L_8, k9L_9, k9L_10, k9L_20, k9L_23, k9L_24, k9L_30, k9L_40, k9L_50, k9L_60, k9L_99, k9L_100, k9L_120, k9L_255, k9L_999, k9L_1000, k9_bs, k9_ba, b])
  exact k9o_ret rfl
theorem k9s_59 {x : Nat} (hB : k9_Br I i0 L A h c 0 M) (hL : L < M) (hM : M ≤ 1000) (hx : x ≤ 1000) (hh : ∀ t, h t ≤ 100) : k9_R S d 59 0 [some (k9_r 2 i0), some (k9_i (nI x)), none, none] [] I J = some (some (k9_i (nI (p_mn h x (L + 1)))), I, J) := by
  have key : ∀ k t, t + k = L + 1 → k9_R S d 59 4 [some (k9_r 2 i0), some (k9_i (nI x)), some (k9_i (nI (p_mn h x t))), some (k9_i (nI t))] [] I J = some (some (k9_i (nI (p_mn h x (L + 1)))), I, J) := by
    intro k
    induction k with
    | zero =>
      intro t ht
      obtain rfl : t = L + 1 := by omega
      refine k9o_of (k9o_eq k9e_59_4 ?_)
      simp (disch := omega) only [k9e_59_0, k9e_59_8, k9e_59_11, k9e_59_16, k9e_59_18, k9e_59_20, k9e_59_21, k9e_59_25, Nat.reduceEqDiff, Int.reduceEq, Int.reduceLT, Int.reduceLE, k9_ps_s, k9_ps_n, k9_ur, false_and, and_false, true_and, and_true, true_or, or_true, false_or, or_false, eq_self, ↓reduceIte, not_true_eq_false, not_false_eq_true, n_toInt, n_cl, nI_1, nI_add, n_a0, n_p2, n_p3, n_p4, n_x2, n_x3, n_x4, n_x60, n_x100, n_pm1, k9L_m2, k9L_m1, k9L_0, k9L_1, k9L_2, k9L_3, k9L_4, k9L_5, k9L_6, k9L_7, k9L_8, k9L_9, k9L_10, k9L_20, k9L_23, k9L_24, k9L_30, k9L_40, k9L_50, k9L_60, k9L_99, k9L_100, k9L_120, k9L_255, k9L_999, k9L_1000, k9_bs, k9_ba, hB.1]
      repeat (first | ((with_reducible refine k9q_T ?_ ?_); · omega) | ((with_reducible refine k9q_F ?_ ?_); · omega) | ((with_reducible refine k9q_Tb ?_ ?_); · omega) | ((with_reducible refine k9q_Fb ?_ ?_); · omega) | simp (disch := omega) only [k9e_59_0, k9e_59_8, k9e_59_11, k9e_59_16, k9e_59_18, k9e_59_20, k9e_59_21, k9e_59_25, Nat.reduceEqDiff, Int.reduceEq, Int.reduceLT, Int.reduceLE, k9_ps_s, k9_ps_n, k9_ur, false_and, and_false, true_and, and_true, true_or, or_true, false_or, or_false, eq_self, ↓reduceIte, not_true_eq_false, not_false_eq_true, n_toInt, n_cl, nI_1, nI_add, n_a0, n_p2, n_p3, n_p4, n_x2, n_x3, n_x4, n_x60, n_x100, n_pm1, k9L_m2, k9L_m1, k9L_0, k9L_1, k9L_2, k9L_3, k9L_4, k9L_5, k9L_6, k9L_7, k9L_8, k9L_9, k9L_10, k9L_20, k9L_23, k9L_24, k9L_30, k9L_40, k9L_50, k9L_60, k9L_99, k9L_100, k9L_120, k9L_255, k9L_999, k9L_1000, k9_bs, k9_ba, hB.1])
      exact k9o_ret rfl
    | succ k ih =>
      intro t ht
      have e := ih (t + 1) (by omega)
      rw [p_mn] at e
      have a := (hB.2.2 t (Nat.zero_le _) (by omega)).1
      have b := hh t
      refine k9o_of (k9o_eq k9e_59_4 ?_)
      by_cases hc : h t = x
      · rw [if_pos hc] at e
        simp (disch := omega) only [k9e_59_0, k9e_59_8, k9e_59_11, k9e_59_16, k9e_59_18, k9e_59_20, k9e_59_21, k9e_59_25, Nat.reduceEqDiff, Int.reduceEq, Int.reduceLT, Int.reduceLE, k9_ps_s, k9_ps_n, k9_ur, false_and, and_false, true_and, and_true, true_or, or_true, false_or, or_false, eq_self, ↓reduceIte, not_true_eq_false, not_false_eq_true, n_toInt, n_cl, nI_1, nI_add, n_a0, n_p2, n_p3, n_p4, n_x2, n_x3, n_x4, n_x60, n_x100, n_pm1, k9L_m2, k9L_m1, k9L_0, k9L_1, k9L_2, k9L_3, k9L_4, k9L_5, k9L_6, k9L_7, k9L_8, k9L_9, k9L_10, k9L_20, k9L_23, k9L_24, k9L_30, k9L_40, k9L_50, k9L_60, k9L_99, k9L_100, k9L_120, k9L_255, k9L_999, k9L_1000, k9_bs, k9_ba, hB.1, a]
        repeat (first | ((with_reducible refine k9q_T ?_ ?_); · omega) | ((with_reducible refine k9q_F ?_ ?_); · omega) | ((with_reducible refine k9q_Tb ?_ ?_); · omega) | ((with_reducible refine k9q_Fb ?_ ?_); · omega) | simp (disch := omega) only [k9e_59_0, k9e_59_8, k9e_59_11, k9e_59_16, k9e_59_18, k9e_59_20, k9e_59_21, k9e_59_25, Nat.reduceEqDiff, Int.reduceEq, Int.reduceLT, Int.reduceLE, k9_ps_s, k9_ps_n, k9_ur, false_and, and_false, true_and, and_true, true_or, or_true, false_or, or_false, eq_self, ↓reduceIte, not_true_eq_false, not_false_eq_true, n_toInt, n_cl, nI_1, nI_add, n_a0, n_p2, n_p3, n_p4, n_x2, n_x3, n_x4, n_x60, n_x100, n_pm1, k9L_m2, k9L_m1, k9L_0, k9L_1, k9L_2, k9L_3, k9L_4, k9L_5, k9L_6, k9L_7, k9L_8, k9L_9, k9L_10, k9L_20, k9L_23, k9L_24, k9L_30, k9L_40, k9L_50, k9L_60, k9L_99, k9L_100, k9L_120, k9L_255, k9L_999, k9L_1000, k9_bs, k9_ba, hB.1, a])
        exact k9o_to e rfl
      · rw [if_neg hc] at e
        simp (disch := omega) only [k9e_59_0, k9e_59_8, k9e_59_11, k9e_59_16, k9e_59_18, k9e_59_20, k9e_59_21, k9e_59_25, Nat.reduceEqDiff, Int.reduceEq, Int.reduceLT, Int.reduceLE, k9_ps_s, k9_ps_n, k9_ur, false_and, and_false, true_and, and_true, true_or, or_true, false_or, or_false, eq_self, ↓reduceIte, not_true_eq_false, not_false_eq_true, n_toInt, n_cl, nI_1, nI_add, n_a0, n_p2, n_p3, n_p4, n_x2, n_x3, n_x4, n_x60, n_x100, n_pm1, k9L_m2, k9L_m1, k9L_0, k9L_1, k9L_2, k9L_3, k9L_4, k9L_5, k9L_6, k9L_7, k9L_8, k9L_9, k9L_10, k9L_20, k9L_23, k9L_24, k9L_30, k9L_40, k9L_50, k9L_60, k9L_99, k9L_100, k9L_120, k9L_255, k9L_999, k9L_1000, k9_bs, k9_ba, hB.1, a]
        repeat (first | ((with_reducible refine k9q_T ?_ ?_); · omega) | ((with_reducible refine k9q_F ?_ ?_); · omega) | ((with_reducible refine k9q_Tb ?_ ?_); · omega) | ((with_reducible refine k9q_Fb ?_ ?_); · omega) | simp (disch := omega) only [k9e_59_0, k9e_59_8, k9e_59_11, k9e_59_16, k9e_59_18, k9e_59_20, k9e_59_21, k9e_59_25, Nat.reduceEqDiff, Int.reduceEq, Int.reduceLT, Int.reduceLE, k9_ps_s, k9_ps_n, k9_ur, false_and, and_false, true_and, and_true, true_or, or_true, false_or, or_false, eq_self, ↓reduceIte, not_true_eq_false, not_false_eq_true, n_toInt, n_cl, nI_1, nI_add, n_a0, n_p2, n_p3, n_p4, n_x2, n_x3, n_x4, n_x60, n_x100, n_pm1, k9L_m2, k9L_m1, k9L_0, k9L_1, k9L_2, k9L_3, k9L_4, k9L_5, k9L_6, k9L_7, k9L_8, k9L_9, k9L_10, k9L_20, k9L_23, k9L_24, k9L_30, k9L_40, k9L_50, k9L_60, k9L_99, k9L_100, k9L_120, k9L_255, k9L_999, k9L_1000, k9_bs, k9_ba, hB.1, a])
        exact k9o_to e rfl
  rw [k9e_59_0]
  exact key (L + 1) 0 (by omega)
theorem k9s_60 {x : Int32} {N q : Nat} (hB : k9_Br I i0 L A h c 0 M) (hx : x.toInt = (N : Int) - 1) (hN : N ≤ M) (hM : M ≤ 1000) (hM1 : 1 ≤ M) (hh : ∀ t, h t ≤ 100) (hq : q ≤ 2) : k9_R S (d + 1) 60 0 [some (k9_r 2 i0), some (k9_i (nI q)), some (k9_i x), none, none, none, none] [] I J = some (some (k9_i (nI (if q = 0 then (p_sd h N).1 else if q = 1 then (p_sd h N).2.1 else h (p_sd h N).2.1))), I, J) := by
  have key : ∀ k t, t + k = N → k9_R S (d + 1) 60 8 [some (k9_r 2 i0), some (k9_i (nI q)), some (k9_i x), some (k9_i (nI (p_sd h t).1)), some (k9_i (nI (p_sd h t).2.1)), some (k9_i (nI (p_sd h t).2.2)), some (k9_i (nI t))] [] I J = some (some (k9_i (nI (if q = 0 then (p_sd h N).1 else if q = 1 then (p_sd h N).2.1 else h (p_sd h N).2.1))), I, J) := by
    intro k
    induction k with
    | zero =>
      intro t ht
      obtain rfl : t = N := by omega
      have hb := p_sd_b h t
      refine k9o_of (k9o_eq k9e_60_8 ?_)
      have hq3 : q = 0 ∨ q = 1 ∨ q = 2 := by omega
      rcases hq3 with rfl | rfl | rfl
      · simp (disch := omega) only [k9e_60_0, k9e_60_11, k9e_60_14, k9e_60_16, k9e_60_20, k9e_60_26, k9e_60_27, k9e_60_29, k9e_60_36, k9e_60_44, k9e_60_46, k9e_60_48, k9e_60_50, k9e_60_53, k9e_60_55, k9e_60_58, Nat.reduceEqDiff, Int.reduceEq, Int.reduceLT, Int.reduceLE, k9_ps_s, k9_ps_n, k9_ur, false_and, and_false, true_and, and_true, true_or, or_true, false_or, or_false, eq_self, ↓reduceIte, not_true_eq_false, not_false_eq_true, n_toInt, n_cl, nI_1, nI_add, n_a0, n_p2, n_p3, n_p4, n_x2, n_x3, n_x4, n_x60, n_x100, n_pm1, k9L_m2, k9L_m1, k9L_0, k9L_1, k9L_2, k9L_3, k9L_4, k9L_5, k9L_6, k9L_7, k9L_8, k9L_9, k9L_10, k9L_20, k9L_23, k9L_24, k9L_30, k9L_40, k9L_50, k9L_60, k9L_99, k9L_100, k9L_120, k9L_255, k9L_999, k9L_1000, k9_bs, k9_ba]
        repeat (first | ((with_reducible refine k9q_T ?_ ?_); · omega) | ((with_reducible refine k9q_F ?_ ?_); · omega) | ((with_reducible refine k9q_Tb ?_ ?_); · omega) | ((with_reducible refine k9q_Fb ?_ ?_); · omega) | simp (disch := omega) only [k9e_60_0, k9e_60_11, k9e_60_14, k9e_60_16, k9e_60_20, k9e_60_26, k9e_60_27, k9e_60_29, k9e_60_36, k9e_60_44, k9e_60_46, k9e_60_48, k9e_60_50, k9e_60_53, k9e_60_55, k9e_60_58, Nat.reduceEqDiff, Int.reduceEq, Int.reduceLT, Int.reduceLE, k9_ps_s, k9_ps_n, k9_ur, false_and, and_false, true_and, and_true, true_or, or_true, false_or, or_false, eq_self, ↓reduceIte, not_true_eq_false, not_false_eq_true, n_toInt, n_cl, nI_1, nI_add, n_a0, n_p2, n_p3, n_p4, n_x2, n_x3, n_x4, n_x60, n_x100, n_pm1, k9L_m2, k9L_m1, k9L_0, k9L_1, k9L_2, k9L_3, k9L_4, k9L_5, k9L_6, k9L_7, k9L_8, k9L_9, k9L_10, k9L_20, k9L_23, k9L_24, k9L_30, k9L_40, k9L_50, k9L_60, k9L_99, k9L_100, k9L_120, k9L_255, k9L_999, k9L_1000, k9_bs, k9_ba])
        exact k9o_ret rfl
      · simp (disch := omega) only [k9e_60_0, k9e_60_11, k9e_60_14, k9e_60_16, k9e_60_20, k9e_60_26, k9e_60_27, k9e_60_29, k9e_60_36, k9e_60_44, k9e_60_46, k9e_60_48, k9e_60_50, k9e_60_53, k9e_60_55, k9e_60_58, Nat.reduceEqDiff, Int.reduceEq, Int.reduceLT, Int.reduceLE, k9_ps_s, k9_ps_n, k9_ur, false_and, and_false, true_and, and_true, true_or, or_true, false_or, or_false, eq_self, ↓reduceIte, not_true_eq_false, not_false_eq_true, n_toInt, n_cl, nI_1, nI_add, n_a0, n_p2, n_p3, n_p4, n_x2, n_x3, n_x4, n_x60, n_x100, n_pm1, k9L_m2, k9L_m1, k9L_0, k9L_1, k9L_2, k9L_3, k9L_4, k9L_5, k9L_6, k9L_7, k9L_8, k9L_9, k9L_10, k9L_20, k9L_23, k9L_24, k9L_30, k9L_40, k9L_50, k9L_60, k9L_99, k9L_100, k9L_120, k9L_255, k9L_999, k9L_1000, k9_bs, k9_ba]
        repeat (first | ((with_reducible refine k9q_T ?_ ?_); · omega) | ((with_reducible refine k9q_F ?_ ?_); · omega) | ((with_reducible refine k9q_Tb ?_ ?_); · omega) | ((with_reducible refine k9q_Fb ?_ ?_); · omega) | simp (disch := omega) only [k9e_60_0, k9e_60_11, k9e_60_14, k9e_60_16, k9e_60_20, k9e_60_26, k9e_60_27, k9e_60_29, k9e_60_36, k9e_60_44, k9e_60_46, k9e_60_48, k9e_60_50, k9e_60_53, k9e_60_55, k9e_60_58, Nat.reduceEqDiff, Int.reduceEq, Int.reduceLT, Int.reduceLE, k9_ps_s, k9_ps_n, k9_ur, false_and, and_false, true_and, and_true, true_or, or_true, false_or, or_false, eq_self, ↓reduceIte, not_true_eq_false, not_false_eq_true, n_toInt, n_cl, nI_1, nI_add, n_a0, n_p2, n_p3, n_p4, n_x2, n_x3, n_x4, n_x60, n_x100, n_pm1, k9L_m2, k9L_m1, k9L_0, k9L_1, k9L_2, k9L_3, k9L_4, k9L_5, k9L_6, k9L_7, k9L_8, k9L_9, k9L_10, k9L_20, k9L_23, k9L_24, k9L_30, k9L_40, k9L_50, k9L_60, k9L_99, k9L_100, k9L_120, k9L_255, k9L_999, k9L_1000, k9_bs, k9_ba])
        exact k9o_ret rfl
      · simp (disch := omega) only [k9e_60_0, k9e_60_11, k9e_60_14, k9e_60_16, k9e_60_20, k9e_60_26, k9e_60_27, k9e_60_29, k9e_60_36, k9e_60_44, k9e_60_46, k9e_60_48, k9e_60_50, k9e_60_53, k9e_60_55, k9e_60_58, Nat.reduceEqDiff, Int.reduceEq, Int.reduceLT, Int.reduceLE, k9_ps_s, k9_ps_n, k9_ur, false_and, and_false, true_and, and_true, true_or, or_true, false_or, or_false, eq_self, ↓reduceIte, not_true_eq_false, not_false_eq_true, n_toInt, n_cl, nI_1, nI_add, n_a0, n_p2, n_p3, n_p4, n_x2, n_x3, n_x4, n_x60, n_x100, n_pm1, k9L_m2, k9L_m1, k9L_0, k9L_1, k9L_2, k9L_3, k9L_4, k9L_5, k9L_6, k9L_7, k9L_8, k9L_9, k9L_10, k9L_20, k9L_23, k9L_24, k9L_30, k9L_40, k9L_50, k9L_60, k9L_99, k9L_100, k9L_120, k9L_255, k9L_999, k9L_1000, k9_bs, k9_ba]
        repeat (first | ((with_reducible refine k9q_T ?_ ?_); · omega) | ((with_reducible refine k9q_F ?_ ?_); · omega) | ((with_reducible refine k9q_Tb ?_ ?_); · omega) | ((with_reducible refine k9q_Fb ?_ ?_); · omega) | (refine k9o_call (k9s_56 hB (Nat.zero_le _) (by omega) hM) ?_; simp (disch := omega) only [k9e_60_0, k9e_60_11, k9e_60_14, k9e_60_16, k9e_60_20, k9e_60_26, k9e_60_27, k9e_60_29, k9e_60_36, k9e_60_44, k9e_60_46, k9e_60_48, k9e_60_50, k9e_60_53, k9e_60_55, k9e_60_58, Nat.reduceEqDiff, Int.reduceEq, Int.reduceLT, Int.reduceLE, k9_ps_s, k9_ps_n, k9_ur, false_and, and_false, true_and, and_true, true_or, or_true, false_or, or_false, eq_self, ↓reduceIte, not_true_eq_false, not_false_eq_true, n_toInt, n_cl, nI_1, nI_add, n_a0, n_p2, n_p3, n_p4, n_x2, n_x3, n_x4, n_x60, n_x100, n_pm1, k9L_m2, k9L_m1, k9L_0, k9L_1, k9L_2, k9L_3, k9L_4, k9L_5, k9L_6, k9L_7, k9L_8, k9L_9, k9L_10, k9L_20, k9L_23, k9L_24, k9L_30, k9L_40, k9L_50, k9L_60, k9L_99, k9L_100, k9L_120, k9L_255, k9L_999, k9L_1000, k9_bs, k9_ba]) | simp (disch := omega) only [k9e_60_0, k9e_60_11, k9e_60_14, k9e_60_16, k9e_60_20, k9e_60_26, k9e_60_27, k9e_60_29, k9e_60_36, k9e_60_44, k9e_60_46, k9e_60_48, k9e_60_50, k9e_60_53, k9e_60_55, k9e_60_58, Nat.reduceEqDiff, Int.reduceEq, Int.reduceLT, Int.reduceLE, k9_ps_s, k9_ps_n, k9_ur, false_and, and_false, true_and, and_true, true_or, or_true, false_or, or_false, eq_self, ↓reduceIte, not_true_eq_false, not_false_eq_true, n_toInt, n_cl, nI_1, nI_add, n_a0, n_p2, n_p3, n_p4, n_x2, n_x3, n_x4, n_x60, n_x100, n_pm1, k9L_m2, k9L_m1, k9L_0, k9L_1, k9L_2, k9L_3, k9L_4, k9L_5, k9L_6, k9L_7, k9L_8, k9L_9, k9L_10, k9L_20, k9L_23, k9L_24, k9L_30, k9L_40, k9L_50, k9L_60, k9L_99, k9L_100, k9L_120, k9L_255, k9L_999, k9L_1000, k9_bs, k9_ba])
        exact k9o_ret rfl
    | succ k ih =>
      intro t ht
      have e := ih (t + 1) (by omega)
      have hb := p_sd_b h t
      have a := (hB.2.2 t (Nat.zero_le _) (by omega)).1
      have b := hh t
      -- behind the place where this stand began
      have rest : ∀ g : Nat, g = p_sg h t (p_sd h t).2.2 → g ≤ t → k9_ok (k9_R S (d + 1) 60 29 [some (k9_r 2 i0), some (k9_i (nI q)), some (k9_i x), some (k9_i (nI (p_sd h t).1)), some (k9_i (nI (p_sd h t).2.1)), some (k9_i (nI g)), some (k9_i (nI t))] [] I J) (fun q' => q' = (some (k9_i (nI (if q = 0 then (p_sd h N).1 else if q = 1 then (p_sd h N).2.1 else h (p_sd h N).2.1))), I, J)) := by
        intro g hg hgt
        rw [p_sd] at e
        simp only [] at e
        rw [← hg] at e
        refine k9o_eq k9e_60_29 ?_
        by_cases hc : (p_sd h t).1 < t - g + 1
        · rw [if_pos hc, if_pos hc] at e
          simp (disch := omega) only [k9e_60_0, k9e_60_11, k9e_60_14, k9e_60_16, k9e_60_20, k9e_60_26, k9e_60_27, k9e_60_29, k9e_60_36, k9e_60_44, k9e_60_46, k9e_60_48, k9e_60_50, k9e_60_53, k9e_60_55, k9e_60_58, Nat.reduceEqDiff, Int.reduceEq, Int.reduceLT, Int.reduceLE, k9_ps_s, k9_ps_n, k9_ur, false_and, and_false, true_and, and_true, true_or, or_true, false_or, or_false, eq_self, ↓reduceIte, not_true_eq_false, not_false_eq_true, n_toInt, n_cl, nI_1, nI_add, n_a0, n_p2, n_p3, n_p4, n_x2, n_x3, n_x4, n_x60, n_x100, n_pm1, k9L_m2, k9L_m1, k9L_0, k9L_1, k9L_2, k9L_3, k9L_4, k9L_5, k9L_6, k9L_7, k9L_8, k9L_9, k9L_10, k9L_20, k9L_23, k9L_24, k9L_30, k9L_40, k9L_50, k9L_60, k9L_99, k9L_100, k9L_120, k9L_255, k9L_999, k9L_1000, k9_bs, k9_ba, n_sub]
          repeat (first | ((with_reducible refine k9q_T ?_ ?_); · omega) | ((with_reducible refine k9q_F ?_ ?_); · omega) | ((with_reducible refine k9q_Tb ?_ ?_); · omega) | ((with_reducible refine k9q_Fb ?_ ?_); · omega))
          exact k9o_to e rfl
        · rw [if_neg hc, if_neg hc] at e
          simp (disch := omega) only [k9e_60_0, k9e_60_11, k9e_60_14, k9e_60_16, k9e_60_20, k9e_60_26, k9e_60_27, k9e_60_29, k9e_60_36, k9e_60_44, k9e_60_46, k9e_60_48, k9e_60_50, k9e_60_53, k9e_60_55, k9e_60_58, Nat.reduceEqDiff, Int.reduceEq, Int.reduceLT, Int.reduceLE, k9_ps_s, k9_ps_n, k9_ur, false_and, and_false, true_and, and_true, true_or, or_true, false_or, or_false, eq_self, ↓reduceIte, not_true_eq_false, not_false_eq_true, n_toInt, n_cl, nI_1, nI_add, n_a0, n_p2, n_p3, n_p4, n_x2, n_x3, n_x4, n_x60, n_x100, n_pm1, k9L_m2, k9L_m1, k9L_0, k9L_1, k9L_2, k9L_3, k9L_4, k9L_5, k9L_6, k9L_7, k9L_8, k9L_9, k9L_10, k9L_20, k9L_23, k9L_24, k9L_30, k9L_40, k9L_50, k9L_60, k9L_99, k9L_100, k9L_120, k9L_255, k9L_999, k9L_1000, k9_bs, k9_ba, n_sub]
          repeat (first | ((with_reducible refine k9q_T ?_ ?_); · omega) | ((with_reducible refine k9q_F ?_ ?_); · omega) | ((with_reducible refine k9q_Tb ?_ ?_); · omega) | ((with_reducible refine k9q_Fb ?_ ?_); · omega))
          exact k9o_to e rfl
      refine k9o_of (k9o_eq k9e_60_8 ?_)
      refine k9o_F (by rw [n_toInt (by omega)]; omega) (k9o_eq k9e_60_11 ?_)
      refine k9o_F (by rw [n_toInt (by omega)]; omega) (k9o_eq k9e_60_14 ?_)
      by_cases h0 : 0 < t
      · have a' := (hB.2.2 (t - 1) (Nat.zero_le _) (by omega)).1
        have b' := hh (t - 1)
        refine k9o_F (by rw [n_toInt (by omega)]; omega) (k9o_eq k9e_60_16 ?_)
        refine k9o_T (by rw [n_toInt (by omega)]; omega) (k9o_eq k9e_60_20 ?_)
        rw [n_s1 (by omega)]
        refine k9o_T (by rw [n_toInt (by omega)]; omega) (k9o_eq k9e_60_26 ?_)
        rw [n_cl (by omega), n_cl (by omega), a, a']
        by_cases hc : h t = h (t - 1)
        · refine k9o_T (by rw [hc]) ?_
          exact rest _ (by rw [p_sg, if_neg (fun z => z.2 hc)]) (by omega)
        · refine k9o_F (by rw [n_toInt (by omega), n_toInt (by omega)]; omega) (k9o_eq k9e_60_27 ?_)
          exact rest _ (by rw [p_sg, if_pos ⟨h0, hc⟩]) (by omega)
      · refine k9o_T (by rw [n_toInt (by omega)]; omega) ?_
        exact rest _ (by rw [p_sg, if_neg (fun z => h0 z.1)]) (by omega)
  rw [k9e_60_0]
  exact key N 0 (by omega)
theorem k9s_61 {q : Nat} (hB : k9_Br I i0 L A h c 0 M) (hL : L < M) (hM : M ≤ 1000) (hh : ∀ t, h t ≤ 100) (hq : q ≤ 2) : k9_R S (d + 2) 61 0 [some (k9_r 2 i0), some (k9_i (nI q)), none, none, none, none, none] [] I J = some (some (k9_i (nI (if q = 0 then (p_of h (fun t => p_ct L (min t L)) (L + 1)).1 else if q = 1 then (p_of h (fun t => p_ct L (min t L)) (L + 1)).2.1 else (p_of h (fun t => p_ct L (min t L)) (L + 1)).2.2))), I, J) := by
  have key : ∀ k t, t + k = L + 1 → k9_R S (d + 2) 61 8 [some (k9_r 2 i0), some (k9_i (nI q)), some (k9_i (nI (p_of h (fun t => p_ct L (min t L)) t).1)), some (k9_i (nI (p_of h (fun t => p_ct L (min t L)) t).2.1)), some (k9_i (nI (p_of h (fun t => p_ct L (min t L)) t).2.2)), some (k9_i (nI t)), none] [] I J = some (some (k9_i (nI (if q = 0 then (p_of h (fun t => p_ct L (min t L)) (L + 1)).1 else if q = 1 then (p_of h (fun t => p_ct L (min t L)) (L + 1)).2.1 else (p_of h (fun t => p_ct L (min t L)) (L + 1)).2.2))), I, J) := by
    intro k
    induction k with
    | zero =>
      intro t ht
      obtain rfl : t = L + 1 := by omega
      refine k9o_of (k9o_eq k9e_61_8 ?_)
      have hq3 : q = 0 ∨ q = 1 ∨ q = 2 := by omega
      rcases hq3 with rfl | rfl | rfl
      all_goals simp (disch := omega) only [k9e_61_0, k9e_61_12, k9e_61_15, k9e_61_19, k9e_61_23, k9e_61_33, k9e_61_37, k9e_61_39, k9e_61_41, k9e_61_43, k9e_61_46, k9e_61_48, k9e_61_49, Nat.reduceEqDiff, Int.reduceEq, Int.reduceLT, Int.reduceLE, k9_ps_s, k9_ps_n, k9_ur, false_and, and_false, true_and, and_true, true_or, or_true, false_or, or_false, eq_self, ↓reduceIte, not_true_eq_false, not_false_eq_true, n_toInt, n_cl, nI_1, nI_add, n_a0, n_p2, n_p3, n_p4, n_x2, n_x3, n_x4, n_x60, n_x100, n_pm1, k9L_m2, k9L_m1, k9L_0, k9L_1, k9L_2, k9L_3, k9L_4, k9L_5, k9L_6, k9L_7, k9L_8, k9L_9, k9L_10, k9L_20, k9L_23, k9L_24, k9L_30, k9L_40, k9L_50, k9L_60, k9L_99, k9L_100, k9L_120, k9L_255, k9L_999, k9L_1000, k9_bs, k9_ba, hB.1]
      all_goals repeat (first | ((with_reducible refine k9q_T ?_ ?_); · omega) | ((with_reducible refine k9q_F ?_ ?_); · omega) | ((with_reducible refine k9q_Tb ?_ ?_); · omega) | ((with_reducible refine k9q_Fb ?_ ?_); · omega) | simp (disch := omega) only [k9e_61_0, k9e_61_12, k9e_61_15, k9e_61_19, k9e_61_23, k9e_61_33, k9e_61_37, k9e_61_39, k9e_61_41, k9e_61_43, k9e_61_46, k9e_61_48, k9e_61_49, Nat.reduceEqDiff, Int.reduceEq, Int.reduceLT, Int.reduceLE, k9_ps_s, k9_ps_n, k9_ur, false_and, and_false, true_and, and_true, true_or, or_true, false_or, or_false, eq_self, ↓reduceIte, not_true_eq_false, not_false_eq_true, n_toInt, n_cl, nI_1, nI_add, n_a0, n_p2, n_p3, n_p4, n_x2, n_x3, n_x4, n_x60, n_x100, n_pm1, k9L_m2, k9L_m1, k9L_0, k9L_1, k9L_2, k9L_3, k9L_4, k9L_5, k9L_6, k9L_7, k9L_8, k9L_9, k9L_10, k9L_20, k9L_23, k9L_24, k9L_30, k9L_40, k9L_50, k9L_60, k9L_99, k9L_100, k9L_120, k9L_255, k9L_999, k9L_1000, k9_bs, k9_ba, hB.1])
      all_goals exact k9o_ret rfl
    | succ k ih =>
      intro t ht
      have e := ih (t + 1) (by omega)
      have hct : p_ct L (min t L) ≤ 100 := p_ct_b (Nat.min_le_right _ _)
      have hb := p_of_b hh (fun t => p_ct_b (Nat.min_le_right t L)) t
      have a := (hB.2.2 t (Nat.zero_le _) (by omega)).1
      have b := hh t
      have hds : p_ds (h t) (p_ct L (min t L)) ≤ 100 := by
        unfold p_ds
        omega
      rw [p_of] at e
      simp only [] at e
      refine k9o_of (k9o_eq k9e_61_8 ?_)
      simp (disch := omega) only [k9e_61_0, k9e_61_12, k9e_61_15, k9e_61_19, k9e_61_23, k9e_61_33, k9e_61_37, k9e_61_39, k9e_61_41, k9e_61_43, k9e_61_46, k9e_61_48, k9e_61_49, Nat.reduceEqDiff, Int.reduceEq, Int.reduceLT, Int.reduceLE, k9_ps_s, k9_ps_n, k9_ur, false_and, and_false, true_and, and_true, true_or, or_true, false_or, or_false, eq_self, ↓reduceIte, not_true_eq_false, not_false_eq_true, n_toInt, n_cl, nI_1, nI_add, n_a0, n_p2, n_p3, n_p4, n_x2, n_x3, n_x4, n_x60, n_x100, n_pm1, k9L_m2, k9L_m1, k9L_0, k9L_1, k9L_2, k9L_3, k9L_4, k9L_5, k9L_6, k9L_7, k9L_8, k9L_9, k9L_10, k9L_20, k9L_23, k9L_24, k9L_30, k9L_40, k9L_50, k9L_60, k9L_99, k9L_100, k9L_120, k9L_255, k9L_999, k9L_1000, k9_bs, k9_ba, hB.1, a, n_abs]
      repeat (first | ((with_reducible refine k9q_T ?_ ?_); · omega) | ((with_reducible refine k9q_F ?_ ?_); · omega) | ((with_reducible refine k9q_Tb ?_ ?_); · omega) | ((with_reducible refine k9q_Fb ?_ ?_); · omega) | (refine k9o_call (k9s_23 (by omega) (by omega)) ?_; simp (disch := omega) only [k9e_61_0, k9e_61_12, k9e_61_15, k9e_61_19, k9e_61_23, k9e_61_33, k9e_61_37, k9e_61_39, k9e_61_41, k9e_61_43, k9e_61_46, k9e_61_48, k9e_61_49, Nat.reduceEqDiff, Int.reduceEq, Int.reduceLT, Int.reduceLE, k9_ps_s, k9_ps_n, k9_ur, false_and, and_false, true_and, and_true, true_or, or_true, false_or, or_false, eq_self, ↓reduceIte, not_true_eq_false, not_false_eq_true, n_toInt, n_cl, nI_1, nI_add, n_a0, n_p2, n_p3, n_p4, n_x2, n_x3, n_x4, n_x60, n_x100, n_pm1, k9L_m2, k9L_m1, k9L_0, k9L_1, k9L_2, k9L_3, k9L_4, k9L_5, k9L_6, k9L_7, k9L_8, k9L_9, k9L_10, k9L_20, k9L_23, k9L_24, k9L_30, k9L_40, k9L_50, k9L_60, k9L_99, k9L_100, k9L_120, k9L_255, k9L_999, k9L_1000, k9_bs, k9_ba, hB.1, a, n_abs]) | simp (disch := omega) only [k9e_61_0, k9e_61_12, k9e_61_15, k9e_61_19, k9e_61_23, k9e_61_33, k9e_61_37, k9e_61_39, k9e_61_41, k9e_61_43, k9e_61_46, k9e_61_48, k9e_61_49, Nat.reduceEqDiff, Int.reduceEq, Int.reduceLT, Int.reduceLE, k9_ps_s, k9_ps_n, k9_ur, false_and, and_false, true_and, and_true, true_or, or_true, false_or, or_false, eq_self, ↓reduceIte, not_true_eq_false, not_false_eq_true, n_toInt, n_cl, nI_1, nI_add, n_a0, n_p2, n_p3, n_p4, n_x2, n_x3, n_x4, n_x60, n_x100, n_pm1, k9L_m2, k9L_m1, k9L_0, k9L_1, k9L_2, k9L_3, k9L_4, k9L_5, k9L_6, k9L_7, k9L_8, k9L_9, k9L_10, k9L_20, k9L_23, k9L_24, k9L_30, k9L_40, k9L_50, k9L_60, k9L_99, k9L_100, k9L_120, k9L_255, k9L_999, k9L_1000, k9_bs, k9_ba, hB.1, a, n_abs])
      by_cases hc : (p_of h (fun t => p_ct L (min t L)) t).1 < p_ds (h t) (p_ct L (min t L))
      · rw [if_pos hc, if_pos hc] at e
        repeat (first | ((with_reducible refine k9q_T ?_ ?_); · omega) | ((with_reducible refine k9q_F ?_ ?_); · omega) | ((with_reducible refine k9q_Tb ?_ ?_); · omega) | ((with_reducible refine k9q_Fb ?_ ?_); · omega))
        exact k9o_to e rfl
      · rw [if_neg hc, if_neg hc] at e
        repeat (first | ((with_reducible refine k9q_T ?_ ?_); · omega) | ((with_reducible refine k9q_F ?_ ?_); · omega) | ((with_reducible refine k9q_Tb ?_ ?_); · omega) | ((with_reducible refine k9q_Fb ?_ ?_); · omega))
        exact k9o_to e rfl
  rw [k9e_61_0]
  exact key (L + 1) 0 (by omega)
end KB7

/-! BAR: seconds that remain, dead, pleasing, seen -/
section KB8
variable {S : k9_S} {d : Nat} {I : k9_I} {J : k9_J} {i0 i1 i2 : Nat} {L A f M : Nat} {h c : Nat → Nat}
theorem p_ds_b (a b : Nat) : p_ds a b ≤ a + b := by
  unfold p_ds
  omega
theorem p_rq_b {c : Nat → Nat} {A t w : Nat} (ht : t ≤ 1000) (hA : A ≤ 700) (hc : ∀ t, c t ≤ 700) : (p_sp2 t w * (A - c t) + (c t - c (t - p_sp2 t w)) - 1) / (c t - c (t - p_sp2 t w)) ≤ 701000 ∧ p_sp2 t w ≤ t ∧ p_sp2 t w * (A - c t) ≤ 700000 := by
  have h1 : p_sp2 t w ≤ t := by
    unfold p_sp2
    split
    · exact Nat.le_refl _
    · exact Nat.min_le_left _ _
  have h2 : p_sp2 t w * (A - c t) ≤ 1000 * 700 := Nat.mul_le_mul (by omega) (by omega)
  refine ⟨Nat.le_trans (Nat.div_le_self _ _) ?_, h1, h2⟩
  have := hc t
  omega
theorem k9s_62 {t w : Nat} (hB : k9_Br I i0 L A h c 0 M) (ht : t < M) (hM : M ≤ 1000) (hA : A ≤ 700) (hc : ∀ t, c t ≤ 700) (hcA : c t ≤ A) (hcm : ∀ a, a ≤ t → c a ≤ c t) (hw : w ≤ 60) : k9_R S (d + 1) 62 0 [some (k9_r 2 i0), some (k9_i (nI t)), some (k9_i (nI w)), none, none, none] [] I J = some (some (k9_i (p_rm c A t w)), I, J) := by
  obtain ⟨b1, b2, b3⟩ := p_rq_b (w := w) (show t ≤ 1000 by omega) hA hc
  have m := hcm (t - p_sp2 t w) (by omega)
  have ct := hc t
  have key : k9_ok (k9_R S (d + 1) 62 7 [some (k9_r 2 i0), some (k9_i (nI t)), some (k9_i (nI w)), none, none, none] [k9_i (nI (p_sp2 t w))] I J) (fun q => q = (some (k9_i (p_rm c A t w)), I, J)) := by
    unfold p_rm
    by_cases h0 : c t - c (t - p_sp2 t w) = 0
    · rw [if_pos h0]
      simp (disch := omega) only [k9e_62_0, k9e_62_2, k9e_62_4, k9e_62_7, k9e_62_11, k9e_62_16, k9e_62_21, k9e_62_23, k9e_62_28, k9e_62_39, Nat.reduceEqDiff, Int.reduceEq, Int.reduceLT, Int.reduceLE, k9_ps_s, k9_ps_n, k9_ur, false_and, and_false, true_and, and_true, true_or, or_true, false_or, or_false, eq_self, ↓reduceIte, not_true_eq_false, not_false_eq_true, n_toInt, n_cl, nI_1, nI_add, n_a0, n_p2, n_p3, n_p4, n_x2, n_x3, n_x4, n_x60, n_x100, n_pm1, k9L_m2, k9L_m1, k9L_0, k9L_1, k9L_2, k9L_3, k9L_4, k9L_5, k9L_6, k9L_7, k9L_8, k9L_9, k9L_10, k9L_20, k9L_23, k9L_24, k9L_30, k9L_40, k9L_50, k9L_60, k9L_99, k9L_100, k9L_120, k9L_255, k9L_999, k9L_1000, k9_bs, k9_ba, n_sub]
      repeat (first | ((with_reducible refine k9q_T ?_ ?_); · omega) | ((with_reducible refine k9q_F ?_ ?_); · omega) | ((with_reducible refine k9q_Tb ?_ ?_); · omega) | ((with_reducible refine k9q_Fb ?_ ?_); · omega) | (refine k9o_call (k9s_57 hB (Nat.zero_le _) (by omega) hM) ?_; simp (disch := omega) only [k9e_62_0, k9e_62_2, k9e_62_4, k9e_62_7, k9e_62_11, k9e_62_16, k9e_62_21, k9e_62_23, k9e_62_28, k9e_62_39, Nat.reduceEqDiff, Int.reduceEq, Int.reduceLT, Int.reduceLE, k9_ps_s, k9_ps_n, k9_ur, false_and, and_false, true_and, and_true, true_or, or_true, false_or, or_false, eq_self, ↓reduceIte, not_true_eq_false, not_false_eq_true, n_toInt, n_cl, nI_1, nI_add, n_a0, n_p2, n_p3, n_p4, n_x2, n_x3, n_x4, n_x60, n_x100, n_pm1, k9L_m2, k9L_m1, k9L_0, k9L_1, k9L_2, k9L_3, k9L_4, k9L_5, k9L_6, k9L_7, k9L_8, k9L_9, k9L_10, k9L_20, k9L_23, k9L_24, k9L_30, k9L_40, k9L_50, k9L_60, k9L_99, k9L_100, k9L_120, k9L_255, k9L_999, k9L_1000, k9_bs, k9_ba, n_sub]) | simp (disch := omega) only [k9e_62_0, k9e_62_2, k9e_62_4, k9e_62_7, k9e_62_11, k9e_62_16, k9e_62_21, k9e_62_23, k9e_62_28, k9e_62_39, Nat.reduceEqDiff, Int.reduceEq, Int.reduceLT, Int.reduceLE, k9_ps_s, k9_ps_n, k9_ur, false_and, and_false, true_and, and_true, true_or, or_true, false_or, or_false, eq_self, ↓reduceIte, not_true_eq_false, not_false_eq_true, n_toInt, n_cl, nI_1, nI_add, n_a0, n_p2, n_p3, n_p4, n_x2, n_x3, n_x4, n_x60, n_x100, n_pm1, k9L_m2, k9L_m1, k9L_0, k9L_1, k9L_2, k9L_3, k9L_4, k9L_5, k9L_6, k9L_7, k9L_8, k9L_9, k9L_10, k9L_20, k9L_23, k9L_24, k9L_30, k9L_40, k9L_50, k9L_60, k9L_99, k9L_100, k9L_120, k9L_255, k9L_999, k9L_1000, k9_bs, k9_ba, n_sub])
      exact k9o_ret rfl
    · rw [if_neg h0]
      simp (disch := omega) only [k9e_62_0, k9e_62_2, k9e_62_4, k9e_62_7, k9e_62_11, k9e_62_16, k9e_62_21, k9e_62_23, k9e_62_28, k9e_62_39, Nat.reduceEqDiff, Int.reduceEq, Int.reduceLT, Int.reduceLE, k9_ps_s, k9_ps_n, k9_ur, false_and, and_false, true_and, and_true, true_or, or_true, false_or, or_false, eq_self, ↓reduceIte, not_true_eq_false, not_false_eq_true, n_toInt, n_cl, nI_1, nI_add, n_a0, n_p2, n_p3, n_p4, n_x2, n_x3, n_x4, n_x60, n_x100, n_pm1, k9L_m2, k9L_m1, k9L_0, k9L_1, k9L_2, k9L_3, k9L_4, k9L_5, k9L_6, k9L_7, k9L_8, k9L_9, k9L_10, k9L_20, k9L_23, k9L_24, k9L_30, k9L_40, k9L_50, k9L_60, k9L_99, k9L_100, k9L_120, k9L_255, k9L_999, k9L_1000, k9_bs, k9_ba, n_sub, hB.2.1]
      repeat (first | ((with_reducible refine k9q_T ?_ ?_); · omega) | ((with_reducible refine k9q_F ?_ ?_); · omega) | ((with_reducible refine k9q_Tb ?_ ?_); · omega) | ((with_reducible refine k9q_Fb ?_ ?_); · omega) | (refine k9o_call (k9s_57 hB (Nat.zero_le _) (by omega) hM) ?_; simp (disch := omega) only [k9e_62_0, k9e_62_2, k9e_62_4, k9e_62_7, k9e_62_11, k9e_62_16, k9e_62_21, k9e_62_23, k9e_62_28, k9e_62_39, Nat.reduceEqDiff, Int.reduceEq, Int.reduceLT, Int.reduceLE, k9_ps_s, k9_ps_n, k9_ur, false_and, and_false, true_and, and_true, true_or, or_true, false_or, or_false, eq_self, ↓reduceIte, not_true_eq_false, not_false_eq_true, n_toInt, n_cl, nI_1, nI_add, n_a0, n_p2, n_p3, n_p4, n_x2, n_x3, n_x4, n_x60, n_x100, n_pm1, k9L_m2, k9L_m1, k9L_0, k9L_1, k9L_2, k9L_3, k9L_4, k9L_5, k9L_6, k9L_7, k9L_8, k9L_9, k9L_10, k9L_20, k9L_23, k9L_24, k9L_30, k9L_40, k9L_50, k9L_60, k9L_99, k9L_100, k9L_120, k9L_255, k9L_999, k9L_1000, k9_bs, k9_ba, n_sub, hB.2.1]) | simp (disch := omega) only [k9e_62_0, k9e_62_2, k9e_62_4, k9e_62_7, k9e_62_11, k9e_62_16, k9e_62_21, k9e_62_23, k9e_62_28, k9e_62_39, Nat.reduceEqDiff, Int.reduceEq, Int.reduceLT, Int.reduceLE, k9_ps_s, k9_ps_n, k9_ur, false_and, and_false, true_and, and_true, true_or, or_true, false_or, or_false, eq_self, ↓reduceIte, not_true_eq_false, not_false_eq_true, n_toInt, n_cl, nI_1, nI_add, n_a0, n_p2, n_p3, n_p4, n_x2, n_x3, n_x4, n_x60, n_x100, n_pm1, k9L_m2, k9L_m1, k9L_0, k9L_1, k9L_2, k9L_3, k9L_4, k9L_5, k9L_6, k9L_7, k9L_8, k9L_9, k9L_10, k9L_20, k9L_23, k9L_24, k9L_30, k9L_40, k9L_50, k9L_60, k9L_99, k9L_100, k9L_120, k9L_255, k9L_999, k9L_1000, k9_bs, k9_ba, n_sub, hB.2.1])
      rw [n_mul, nI_add, n_s1 (by omega), n_div (by omega) (by omega) (by omega)]
      exact k9o_ret rfl
  refine k9o_of (k9o_eq k9e_62_0 ?_)
  by_cases hw0 : w = 0
  · subst hw0
    refine k9o_T (by rw [n_toInt (by omega)]; rfl) (k9o_eq k9e_62_2 ?_)
    rw [p_sp2, if_pos rfl] at key
    exact key
  · refine k9o_F (by rw [n_toInt (by omega)]; omega) (k9o_eq k9e_62_4 ?_)
    rw [n_min (by omega) (by omega)]
    rw [p_sp2, if_neg hw0] at key
    exact key
theorem p_g1_b (c : Nat → Nat) (A L t w : Nat) : p_g1 c A L t w ≤ 999 := by
  unfold p_g1
  split
  · omega
  · exact Nat.min_le_left _ _
theorem p_gs_b (c : Nat → Nat) (A L w : Nat) : ∀ k, p_gs c A L w k ≤ 999 * k
  | 0 => Nat.le_refl _
  | k + 1 => by
    have h1 := p_gs_b c A L w k
    have h2 := p_g1_b c A L (k + 1) w
    rw [p_gs]
    omega
theorem k9s_63 {w : Nat} (hB : k9_Br I i0 L A h c 0 M) (hL : L < M) (hM : M ≤ 1000) (hA : A ≤ 700) (hc : ∀ t, c t ≤ 700) (hcA : ∀ t, c t ≤ A) (hcm : ∀ a b, a ≤ b → c a ≤ c b) (hw : w ≤ 60) : k9_R S (d + 2) 63 0 [some (k9_r 2 i0), some (k9_i (nI w)), none, none, none] [] I J = some (some (k9_i (nI (p_gs c A L w L))), I, J) := by
  have key : ∀ k t, t + k = L → k9_R S (d + 2) 63 4 [some (k9_r 2 i0), some (k9_i (nI w)), some (k9_i (nI (p_gs c A L w t))), some (k9_i (nI (t + 1))), none] [] I J = some (some (k9_i (nI (p_gs c A L w L))), I, J) := by
    intro k
    induction k with
    | zero =>
      intro t ht
      obtain rfl : t = L := by omega
      refine k9o_of (k9o_eq k9e_63_4 ?_)
      simp (disch := omega) only [k9e_63_0, k9e_63_8, k9e_63_11, k9e_63_15, k9e_63_20, k9e_63_22, k9e_63_31, k9e_63_35, Nat.reduceEqDiff, Int.reduceEq, Int.reduceLT, Int.reduceLE, k9_ps_s, k9_ps_n, k9_ur, false_and, and_false, true_and, and_true, true_or, or_true, false_or, or_false, eq_self, ↓reduceIte, not_true_eq_false, not_false_eq_true, n_toInt, n_cl, nI_1, nI_add, n_a0, n_p2, n_p3, n_p4, n_x2, n_x3, n_x4, n_x60, n_x100, n_pm1, k9L_m2, k9L_m1, k9L_0, k9L_1, k9L_2, k9L_3, k9L_4, k9L_5, k9L_6, k9L_7, k9L_8, k9L_9, k9L_10, k9L_20, k9L_23, k9L_24, k9L_30, k9L_40, k9L_50, k9L_60, k9L_99, k9L_100, k9L_120, k9L_255, k9L_999, k9L_1000, k9_bs, k9_ba, hB.1]
      repeat (first | ((with_reducible refine k9q_T ?_ ?_); · omega) | ((with_reducible refine k9q_F ?_ ?_); · omega) | ((with_reducible refine k9q_Tb ?_ ?_); · omega) | ((with_reducible refine k9q_Fb ?_ ?_); · omega) | simp (disch := omega) only [k9e_63_0, k9e_63_8, k9e_63_11, k9e_63_15, k9e_63_20, k9e_63_22, k9e_63_31, k9e_63_35, Nat.reduceEqDiff, Int.reduceEq, Int.reduceLT, Int.reduceLE, k9_ps_s, k9_ps_n, k9_ur, false_and, and_false, true_and, and_true, true_or, or_true, false_or, or_false, eq_self, ↓reduceIte, not_true_eq_false, not_false_eq_true, n_toInt, n_cl, nI_1, nI_add, n_a0, n_p2, n_p3, n_p4, n_x2, n_x3, n_x4, n_x60, n_x100, n_pm1, k9L_m2, k9L_m1, k9L_0, k9L_1, k9L_2, k9L_3, k9L_4, k9L_5, k9L_6, k9L_7, k9L_8, k9L_9, k9L_10, k9L_20, k9L_23, k9L_24, k9L_30, k9L_40, k9L_50, k9L_60, k9L_99, k9L_100, k9L_120, k9L_255, k9L_999, k9L_1000, k9_bs, k9_ba, hB.1])
      exact k9o_ret rfl
    | succ k ih =>
      intro t ht
      have e := ih (t + 1) (by omega)
      have hb := p_gs_b c A L w t
      obtain ⟨b1, b2, b3⟩ := p_rq_b (w := w) (show t + 1 ≤ 1000 by omega) hA hc
      have h62 := k9s_62 (S := S) (d := d) (J := J) (t := t + 1) (w := w) hB (by omega) hM hA hc (hcA _) (fun a ha => hcm a _ ha) hw
      rw [p_gs, p_g1] at e
      rw [p_rm] at h62
      refine k9o_of (k9o_eq k9e_63_4 ?_)
      by_cases h0 : c (t + 1) - c (t + 1 - p_sp2 (t + 1) w) = 0
      · rw [if_pos h0] at e h62
        simp (disch := omega) only [k9e_63_0, k9e_63_8, k9e_63_11, k9e_63_15, k9e_63_20, k9e_63_22, k9e_63_31, k9e_63_35, Nat.reduceEqDiff, Int.reduceEq, Int.reduceLT, Int.reduceLE, k9_ps_s, k9_ps_n, k9_ur, false_and, and_false, true_and, and_true, true_or, or_true, false_or, or_false, eq_self, ↓reduceIte, not_true_eq_false, not_false_eq_true, n_toInt, n_cl, nI_1, nI_add, n_a0, n_p2, n_p3, n_p4, n_x2, n_x3, n_x4, n_x60, n_x100, n_pm1, k9L_m2, k9L_m1, k9L_0, k9L_1, k9L_2, k9L_3, k9L_4, k9L_5, k9L_6, k9L_7, k9L_8, k9L_9, k9L_10, k9L_20, k9L_23, k9L_24, k9L_30, k9L_40, k9L_50, k9L_60, k9L_99, k9L_100, k9L_120, k9L_255, k9L_999, k9L_1000, k9_bs, k9_ba, hB.1, k9L_m2]
        repeat (first | ((with_reducible refine k9q_T ?_ ?_); · omega) | ((with_reducible refine k9q_F ?_ ?_); · omega) | ((with_reducible refine k9q_Tb ?_ ?_); · omega) | ((with_reducible refine k9q_Fb ?_ ?_); · omega) | (refine k9o_call (h62) ?_; simp (disch := omega) only [k9e_63_0, k9e_63_8, k9e_63_11, k9e_63_15, k9e_63_20, k9e_63_22, k9e_63_31, k9e_63_35, Nat.reduceEqDiff, Int.reduceEq, Int.reduceLT, Int.reduceLE, k9_ps_s, k9_ps_n, k9_ur, false_and, and_false, true_and, and_true, true_or, or_true, false_or, or_false, eq_self, ↓reduceIte, not_true_eq_false, not_false_eq_true, n_toInt, n_cl, nI_1, nI_add, n_a0, n_p2, n_p3, n_p4, n_x2, n_x3, n_x4, n_x60, n_x100, n_pm1, k9L_m2, k9L_m1, k9L_0, k9L_1, k9L_2, k9L_3, k9L_4, k9L_5, k9L_6, k9L_7, k9L_8, k9L_9, k9L_10, k9L_20, k9L_23, k9L_24, k9L_30, k9L_40, k9L_50, k9L_60, k9L_99, k9L_100, k9L_120, k9L_255, k9L_999, k9L_1000, k9_bs, k9_ba, hB.1, k9L_m2]) | simp (disch := omega) only [k9e_63_0, k9e_63_8, k9e_63_11, k9e_63_15, k9e_63_20, k9e_63_22, k9e_63_31, k9e_63_35, Nat.reduceEqDiff, Int.reduceEq, Int.reduceLT, Int.reduceLE, k9_ps_s, k9_ps_n, k9_ur, false_and, and_false, true_and, and_true, true_or, or_true, false_or, or_false, eq_self, ↓reduceIte, not_true_eq_false, not_false_eq_true, n_toInt, n_cl, nI_1, nI_add, n_a0, n_p2, n_p3, n_p4, n_x2, n_x3, n_x4, n_x60, n_x100, n_pm1, k9L_m2, k9L_m1, k9L_0, k9L_1, k9L_2, k9L_3, k9L_4, k9L_5, k9L_6, k9L_7, k9L_8, k9L_9, k9L_10, k9L_20, k9L_23, k9L_24, k9L_30, k9L_40, k9L_50, k9L_60, k9L_99, k9L_100, k9L_120, k9L_255, k9L_999, k9L_1000, k9_bs, k9_ba, hB.1, k9L_m2])
        rw [show (999 : Int32) = nI 999 from rfl, nI_add]
        exact k9o_to e rfl
      · rw [if_neg h0] at e h62
        obtain ⟨Q, hQ⟩ : ∃ Q, Q = (p_sp2 (t + 1) w * (A - c (t + 1)) + (c (t + 1) - c (t + 1 - p_sp2 (t + 1) w)) - 1) / (c (t + 1) - c (t + 1 - p_sp2 (t + 1) w)) := ⟨_, rfl⟩
        rw [← hQ] at b1 e h62
        have b4 := p_ds_b Q (L - (t + 1))
        simp (disch := omega) only [k9e_63_0, k9e_63_8, k9e_63_11, k9e_63_15, k9e_63_20, k9e_63_22, k9e_63_31, k9e_63_35, Nat.reduceEqDiff, Int.reduceEq, Int.reduceLT, Int.reduceLE, k9_ps_s, k9_ps_n, k9_ur, false_and, and_false, true_and, and_true, true_or, or_true, false_or, or_false, eq_self, ↓reduceIte, not_true_eq_false, not_false_eq_true, n_toInt, n_cl, nI_1, nI_add, n_a0, n_p2, n_p3, n_p4, n_x2, n_x3, n_x4, n_x60, n_x100, n_pm1, k9L_m2, k9L_m1, k9L_0, k9L_1, k9L_2, k9L_3, k9L_4, k9L_5, k9L_6, k9L_7, k9L_8, k9L_9, k9L_10, k9L_20, k9L_23, k9L_24, k9L_30, k9L_40, k9L_50, k9L_60, k9L_99, k9L_100, k9L_120, k9L_255, k9L_999, k9L_1000, k9_bs, k9_ba, hB.1, k9L_m2, n_sub, n_abs]
        repeat (first | ((with_reducible refine k9q_T ?_ ?_); · omega) | ((with_reducible refine k9q_F ?_ ?_); · omega) | ((with_reducible refine k9q_Tb ?_ ?_); · omega) | ((with_reducible refine k9q_Fb ?_ ?_); · omega) | (refine k9o_call (h62) ?_; simp (disch := omega) only [k9e_63_0, k9e_63_8, k9e_63_11, k9e_63_15, k9e_63_20, k9e_63_22, k9e_63_31, k9e_63_35, Nat.reduceEqDiff, Int.reduceEq, Int.reduceLT, Int.reduceLE, k9_ps_s, k9_ps_n, k9_ur, false_and, and_false, true_and, and_true, true_or, or_true, false_or, or_false, eq_self, ↓reduceIte, not_true_eq_false, not_false_eq_true, n_toInt, n_cl, nI_1, nI_add, n_a0, n_p2, n_p3, n_p4, n_x2, n_x3, n_x4, n_x60, n_x100, n_pm1, k9L_m2, k9L_m1, k9L_0, k9L_1, k9L_2, k9L_3, k9L_4, k9L_5, k9L_6, k9L_7, k9L_8, k9L_9, k9L_10, k9L_20, k9L_23, k9L_24, k9L_30, k9L_40, k9L_50, k9L_60, k9L_99, k9L_100, k9L_120, k9L_255, k9L_999, k9L_1000, k9_bs, k9_ba, hB.1, k9L_m2, n_sub, n_abs]) | simp (disch := omega) only [k9e_63_0, k9e_63_8, k9e_63_11, k9e_63_15, k9e_63_20, k9e_63_22, k9e_63_31, k9e_63_35, Nat.reduceEqDiff, Int.reduceEq, Int.reduceLT, Int.reduceLE, k9_ps_s, k9_ps_n, k9_ur, false_and, and_false, true_and, and_true, true_or, or_true, false_or, or_false, eq_self, ↓reduceIte, not_true_eq_false, not_false_eq_true, n_toInt, n_cl, nI_1, nI_add, n_a0, n_p2, n_p3, n_p4, n_x2, n_x3, n_x4, n_x60, n_x100, n_pm1, k9L_m2, k9L_m1, k9L_0, k9L_1, k9L_2, k9L_3, k9L_4, k9L_5, k9L_6, k9L_7, k9L_8, k9L_9, k9L_10, k9L_20, k9L_23, k9L_24, k9L_30, k9L_40, k9L_50, k9L_60, k9L_99, k9L_100, k9L_120, k9L_255, k9L_999, k9L_1000, k9_bs, k9_ba, hB.1, k9L_m2, n_sub, n_abs])
        rw [show (999 : Int32) = nI 999 from rfl, n_min (by omega) (by omega), nI_add]
        exact k9o_to e rfl
  rw [k9e_63_0]
  exact key L 0 (by omega)
theorem p_se_b (h : Nat → Nat) : ∀ t, p_se h t ≤ t
  | 0 => Nat.le_refl _
  | t + 1 => by
    have := p_se_b h t
    unfold p_se
    split <;> omega
theorem k9s_64 {x : Nat} (hB : k9_Br I i0 L A h c 0 M) (hL : L ≤ M) (hM : M ≤ 1000) (hh : ∀ t, h t ≤ 100) (hx : x ≤ 1000) (hx1 : 1 ≤ x) : k9_R S d 64 0 [some (k9_r 2 i0), some (k9_i (nI x)), none, none] [] I J = some (some (k9_i (p_dd h x (L - 1) 1)), I, J) := by
  have key : ∀ k t, t + k + 1 = L → k9_R S d 64 4 [some (k9_r 2 i0), some (k9_i (nI x)), some (k9_i (nI (p_se h t))), some (k9_i (nI (t + 1)))] [] I J = some (some (k9_i (p_dd h x k (t + 1))), I, J) := by
    intro k
    induction k with
    | zero =>
      intro t ht
      have hb := p_se_b h t
      refine k9o_of (k9o_eq k9e_64_4 ?_)
      simp (disch := omega) only [k9e_64_0, k9e_64_8, k9e_64_11, k9e_64_15, k9e_64_21, k9e_64_22, k9e_64_26, k9e_64_27, k9e_64_31, k9e_64_33, k9e_64_35, Nat.reduceEqDiff, Int.reduceEq, Int.reduceLT, Int.reduceLE, k9_ps_s, k9_ps_n, k9_ur, false_and, and_false, true_and, and_true, true_or, or_true, false_or, or_false, eq_self, ↓reduceIte, not_true_eq_false, not_false_eq_true, n_toInt, n_cl, nI_1, nI_add, n_a0, n_p2, n_p3, n_p4, n_x2, n_x3, n_x4, n_x60, n_x100, n_pm1, k9L_m2, k9L_m1, k9L_0, k9L_1, k9L_2, k9L_3, k9L_4, k9L_5, k9L_6, k9L_7, k9L_8, k9L_9, k9L_10, k9L_20, k9L_23, k9L_24, k9L_30, k9L_40, k9L_50, k9L_60, k9L_99, k9L_100, k9L_120, k9L_255, k9L_999, k9L_1000, k9_bs, k9_ba, hB.1]
      repeat (first | ((with_reducible refine k9q_T ?_ ?_); · omega) | ((with_reducible refine k9q_F ?_ ?_); · omega) | ((with_reducible refine k9q_Tb ?_ ?_); · omega) | ((with_reducible refine k9q_Fb ?_ ?_); · omega) | simp (disch := omega) only [k9e_64_0, k9e_64_8, k9e_64_11, k9e_64_15, k9e_64_21, k9e_64_22, k9e_64_26, k9e_64_27, k9e_64_31, k9e_64_33, k9e_64_35, Nat.reduceEqDiff, Int.reduceEq, Int.reduceLT, Int.reduceLE, k9_ps_s, k9_ps_n, k9_ur, false_and, and_false, true_and, and_true, true_or, or_true, false_or, or_false, eq_self, ↓reduceIte, not_true_eq_false, not_false_eq_true, n_toInt, n_cl, nI_1, nI_add, n_a0, n_p2, n_p3, n_p4, n_x2, n_x3, n_x4, n_x60, n_x100, n_pm1, k9L_m2, k9L_m1, k9L_0, k9L_1, k9L_2, k9L_3, k9L_4, k9L_5, k9L_6, k9L_7, k9L_8, k9L_9, k9L_10, k9L_20, k9L_23, k9L_24, k9L_30, k9L_40, k9L_50, k9L_60, k9L_99, k9L_100, k9L_120, k9L_255, k9L_999, k9L_1000, k9_bs, k9_ba, hB.1])
      exact k9o_ret rfl
    | succ k ih =>
      intro t ht
      have hb := p_se_b h (t + 1)
      have e := ih (t + 1) (by omega)
      have a := (hB.2.2 (t + 1) (Nat.zero_le _) (by omega)).1
      have a' := (hB.2.2 t (Nat.zero_le _) (by omega)).1
      have b := hh (t + 1)
      have b' := hh t
      refine k9o_of (k9o_eq k9e_64_4 ?_)
      by_cases hs : h (t + 1) = h t
      · have hse : p_se h (t + 1) = p_se h t + 1 := by rw [p_se, if_pos hs]
        simp (disch := omega) only [k9e_64_0, k9e_64_8, k9e_64_11, k9e_64_15, k9e_64_21, k9e_64_22, k9e_64_26, k9e_64_27, k9e_64_31, k9e_64_33, k9e_64_35, Nat.reduceEqDiff, Int.reduceEq, Int.reduceLT, Int.reduceLE, k9_ps_s, k9_ps_n, k9_ur, false_and, and_false, true_and, and_true, true_or, or_true, false_or, or_false, eq_self, ↓reduceIte, not_true_eq_false, not_false_eq_true, n_toInt, n_cl, nI_1, nI_add, n_a0, n_p2, n_p3, n_p4, n_x2, n_x3, n_x4, n_x60, n_x100, n_pm1, k9L_m2, k9L_m1, k9L_0, k9L_1, k9L_2, k9L_3, k9L_4, k9L_5, k9L_6, k9L_7, k9L_8, k9L_9, k9L_10, k9L_20, k9L_23, k9L_24, k9L_30, k9L_40, k9L_50, k9L_60, k9L_99, k9L_100, k9L_120, k9L_255, k9L_999, k9L_1000, k9_bs, k9_ba, hB.1, a, a', n_s1, Nat.add_sub_cancel]
        repeat (first | ((with_reducible refine k9q_T ?_ ?_); · omega) | ((with_reducible refine k9q_F ?_ ?_); · omega) | ((with_reducible refine k9q_Tb ?_ ?_); · omega) | ((with_reducible refine k9q_Fb ?_ ?_); · omega))
        rw [← hse]
        by_cases hd : x ≤ p_se h (t + 1)
        · rw [show p_dd h x (k + 1) (t + 1) = nI (t + 1) by rw [p_dd, if_pos hd]]
          repeat (first | ((with_reducible refine k9q_T ?_ ?_); · omega) | ((with_reducible refine k9q_F ?_ ?_); · omega) | ((with_reducible refine k9q_Tb ?_ ?_); · omega) | ((with_reducible refine k9q_Fb ?_ ?_); · omega))
          exact k9o_ret rfl
        · rw [show p_dd h x (k + 1) (t + 1) = p_dd h x k (t + 1 + 1) by rw [p_dd, if_neg hd]]
          repeat (first | ((with_reducible refine k9q_T ?_ ?_); · omega) | ((with_reducible refine k9q_F ?_ ?_); · omega) | ((with_reducible refine k9q_Tb ?_ ?_); · omega) | ((with_reducible refine k9q_Fb ?_ ?_); · omega))
          exact k9o_to e rfl
      · have hse : p_se h (t + 1) = 0 := by rw [p_se, if_neg hs]
        rw [show p_dd h x (k + 1) (t + 1) = p_dd h x k (t + 1 + 1) by rw [p_dd, if_neg (by omega)]]
        rw [hse] at e
        simp (disch := omega) only [k9e_64_0, k9e_64_8, k9e_64_11, k9e_64_15, k9e_64_21, k9e_64_22, k9e_64_26, k9e_64_27, k9e_64_31, k9e_64_33, k9e_64_35, Nat.reduceEqDiff, Int.reduceEq, Int.reduceLT, Int.reduceLE, k9_ps_s, k9_ps_n, k9_ur, false_and, and_false, true_and, and_true, true_or, or_true, false_or, or_false, eq_self, ↓reduceIte, not_true_eq_false, not_false_eq_true, n_toInt, n_cl, nI_1, nI_add, n_a0, n_p2, n_p3, n_p4, n_x2, n_x3, n_x4, n_x60, n_x100, n_pm1, k9L_m2, k9L_m1, k9L_0, k9L_1, k9L_2, k9L_3, k9L_4, k9L_5, k9L_6, k9L_7, k9L_8, k9L_9, k9L_10, k9L_20, k9L_23, k9L_24, k9L_30, k9L_40, k9L_50, k9L_60, k9L_99, k9L_100, k9L_120, k9L_255, k9L_999, k9L_1000, k9_bs, k9_ba, hB.1, a, a', n_s1, Nat.add_sub_cancel]
        repeat (first | ((with_reducible refine k9q_T ?_ ?_); · omega) | ((with_reducible refine k9q_F ?_ ?_); · omega) | ((with_reducible refine k9q_Tb ?_ ?_); · omega) | ((with_reducible refine k9q_Fb ?_ ?_); · omega))
        exact k9o_to e rfl
  rw [k9e_64_0]
  by_cases hL0 : L = 0
  · subst hL0
    refine k9o_of (k9o_eq k9e_64_4 ?_)
    simp (disch := omega) only [k9e_64_0, k9e_64_8, k9e_64_11, k9e_64_15, k9e_64_21, k9e_64_22, k9e_64_26, k9e_64_27, k9e_64_31, k9e_64_33, k9e_64_35, Nat.reduceEqDiff, Int.reduceEq, Int.reduceLT, Int.reduceLE, k9_ps_s, k9_ps_n, k9_ur, false_and, and_false, true_and, and_true, true_or, or_true, false_or, or_false, eq_self, ↓reduceIte, not_true_eq_false, not_false_eq_true, n_toInt, n_cl, nI_1, nI_add, n_a0, n_p2, n_p3, n_p4, n_x2, n_x3, n_x4, n_x60, n_x100, n_pm1, k9L_m2, k9L_m1, k9L_0, k9L_1, k9L_2, k9L_3, k9L_4, k9L_5, k9L_6, k9L_7, k9L_8, k9L_9, k9L_10, k9L_20, k9L_23, k9L_24, k9L_30, k9L_40, k9L_50, k9L_60, k9L_99, k9L_100, k9L_120, k9L_255, k9L_999, k9L_1000, k9_bs, k9_ba, hB.1]
    repeat (first | ((with_reducible refine k9q_T ?_ ?_); · omega) | ((with_reducible refine k9q_F ?_ ?_); · omega) | ((with_reducible refine k9q_Tb ?_ ?_); · omega) | ((with_reducible refine k9q_Fb ?_ ?_); · omega) | simp (disch := omega) only [k9e_64_0, k9e_64_8, k9e_64_11, k9e_64_15, k9e_64_21, k9e_64_22, k9e_64_26, k9e_64_27, k9e_64_31, k9e_64_33, k9e_64_35, Nat.reduceEqDiff, Int.reduceEq, Int.reduceLT, Int.reduceLE, k9_ps_s, k9_ps_n, k9_ur, false_and, and_false, true_and, and_true, true_or, or_true, false_or, or_false, eq_self, ↓reduceIte, not_true_eq_false, not_false_eq_true, n_toInt, n_cl, nI_1, nI_add, n_a0, n_p2, n_p3, n_p4, n_x2, n_x3, n_x4, n_x60, n_x100, n_pm1, k9L_m2, k9L_m1, k9L_0, k9L_1, k9L_2, k9L_3, k9L_4, k9L_5, k9L_6, k9L_7, k9L_8, k9L_9, k9L_10, k9L_20, k9L_23, k9L_24, k9L_30, k9L_40, k9L_50, k9L_60, k9L_99, k9L_100, k9L_120, k9L_255, k9L_999, k9L_1000, k9_bs, k9_ba, hB.1])
    exact k9o_ret rfl
  · exact key (L - 1) 0 (by omega)
theorem k9s_65 (hB : k9_Br I i0 L A h c 0 M) (hL : L < M) (hM : M ≤ 1000) : k9_R S d 65 0 [some (k9_r 2 i0), none, none] [] I J = some (some (k9_i (p_pl h L)), I, J) := by
  have key : ∀ k t, t + k = L → k9_R S d 65 4 [some (k9_r 2 i0), some (k9_i (p_pl h t)), some (k9_i (nI (t + 1)))] [] I J = some (some (k9_i (p_pl h L)), I, J) := by
    intro k
    induction k with
    | zero =>
      intro t ht
      obtain rfl : t = L := by omega
      refine k9o_of (k9o_eq k9e_65_4 ?_)
      simp (disch := omega) only [k9e_65_0, k9e_65_8, k9e_65_11, k9e_65_16, k9e_65_22, k9e_65_29, Nat.reduceEqDiff, Int.reduceEq, Int.reduceLT, Int.reduceLE, k9_ps_s, k9_ps_n, k9_ur, false_and, and_false, true_and, and_true, true_or, or_true, false_or, or_false, eq_self, ↓reduceIte, not_true_eq_false, not_false_eq_true, n_toInt, n_cl, nI_1, nI_add, n_a0, n_p2, n_p3, n_p4, n_x2, n_x3, n_x4, n_x60, n_x100, n_pm1, k9L_m2, k9L_m1, k9L_0, k9L_1, k9L_2, k9L_3, k9L_4, k9L_5, k9L_6, k9L_7, k9L_8, k9L_9, k9L_10, k9L_20, k9L_23, k9L_24, k9L_30, k9L_40, k9L_50, k9L_60, k9L_99, k9L_100, k9L_120, k9L_255, k9L_999, k9L_1000, k9_bs, k9_ba, hB.1]
      repeat (first | ((with_reducible refine k9q_T ?_ ?_); · omega) | ((with_reducible refine k9q_F ?_ ?_); · omega) | ((with_reducible refine k9q_Tb ?_ ?_); · omega) | ((with_reducible refine k9q_Fb ?_ ?_); · omega) | simp (disch := omega) only [k9e_65_0, k9e_65_8, k9e_65_11, k9e_65_16, k9e_65_22, k9e_65_29, Nat.reduceEqDiff, Int.reduceEq, Int.reduceLT, Int.reduceLE, k9_ps_s, k9_ps_n, k9_ur, false_and, and_false, true_and, and_true, true_or, or_true, false_or, or_false, eq_self, ↓reduceIte, not_true_eq_false, not_false_eq_true, n_toInt, n_cl, nI_1, nI_add, n_a0, n_p2, n_p3, n_p4, n_x2, n_x3, n_x4, n_x60, n_x100, n_pm1, k9L_m2, k9L_m1, k9L_0, k9L_1, k9L_2, k9L_3, k9L_4, k9L_5, k9L_6, k9L_7, k9L_8, k9L_9, k9L_10, k9L_20, k9L_23, k9L_24, k9L_30, k9L_40, k9L_50, k9L_60, k9L_99, k9L_100, k9L_120, k9L_255, k9L_999, k9L_1000, k9_bs, k9_ba, hB.1])
      exact k9o_ret rfl
    | succ k ih =>
      intro t ht
      have e := ih (t + 1) (by omega)
      have a := (hB.2.2 (t + 1) (Nat.zero_le _) (by omega)).1
      have a' := (hB.2.2 t (Nat.zero_le _) (by omega)).1
      refine k9o_of (k9o_eq k9e_65_4 ?_)
      simp (disch := omega) only [k9e_65_0, k9e_65_8, k9e_65_11, k9e_65_16, k9e_65_22, k9e_65_29, Nat.reduceEqDiff, Int.reduceEq, Int.reduceLT, Int.reduceLE, k9_ps_s, k9_ps_n, k9_ur, false_and, and_false, true_and, and_true, true_or, or_true, false_or, or_false, eq_self, ↓reduceIte, not_true_eq_false, not_false_eq_true, n_toInt, n_cl, nI_1, nI_add, n_a0, n_p2, n_p3, n_p4, n_x2, n_x3, n_x4, n_x60, n_x100, n_pm1, k9L_m2, k9L_m1, k9L_0, k9L_1, k9L_2, k9L_3, k9L_4, k9L_5, k9L_6, k9L_7, k9L_8, k9L_9, k9L_10, k9L_20, k9L_23, k9L_24, k9L_30, k9L_40, k9L_50, k9L_60, k9L_99, k9L_100, k9L_120, k9L_255, k9L_999, k9L_1000, k9_bs, k9_ba, hB.1, a, a', n_s1, Nat.add_sub_cancel]
      repeat (first | ((with_reducible refine k9q_T ?_ ?_); · omega) | ((with_reducible refine k9q_F ?_ ?_); · omega) | ((with_reducible refine k9q_Tb ?_ ?_); · omega) | ((with_reducible refine k9q_Fb ?_ ?_); · omega) | simp (disch := omega) only [k9e_65_0, k9e_65_8, k9e_65_11, k9e_65_16, k9e_65_22, k9e_65_29, Nat.reduceEqDiff, Int.reduceEq, Int.reduceLT, Int.reduceLE, k9_ps_s, k9_ps_n, k9_ur, false_and, and_false, true_and, and_true, true_or, or_true, false_or, or_false, eq_self, ↓reduceIte, not_true_eq_false, not_false_eq_true, n_toInt, n_cl, nI_1, nI_add, n_a0, n_p2, n_p3, n_p4, n_x2, n_x3, n_x4, n_x60, n_x100, n_pm1, k9L_m2, k9L_m1, k9L_0, k9L_1, k9L_2, k9L_3, k9L_4, k9L_5, k9L_6, k9L_7, k9L_8, k9L_9, k9L_10, k9L_20, k9L_23, k9L_24, k9L_30, k9L_40, k9L_50, k9L_60, k9L_99, k9L_100, k9L_120, k9L_255, k9L_999, k9L_1000, k9_bs, k9_ba, hB.1, a, a', n_s1, Nat.add_sub_cancel])
      exact k9o_to e rfl
  rw [k9e_65_0]
  exact key L 0 (by omega)
theorem k9s_94 {i : Nat} (hi : i < 60) : k9_R S d 94 0 [some (k9_r 11 i0), some (k9_i (nI i))] [] I J = some (some (k9_l (J 37 i0 i)), I, J) := by
  refine k9o_of ?_
  simp (disch := omega) only [k9e_94_0, k9e_94_2, k9e_94_5, k9e_94_9, k9e_94_10, k9e_94_11, Nat.reduceEqDiff, Int.reduceEq, Int.reduceLT, Int.reduceLE, k9_ps_s, k9_ps_n, k9_ur, false_and, and_false, true_and, and_true, true_or, or_true, false_or, or_false, eq_self, ↓reduceIte, not_true_eq_false, not_false_eq_true, n_toInt, n_cl, nI_1, nI_add, n_a0, n_p2, n_p3, n_p4, n_x2, n_x3, n_x4, n_x60, n_x100, n_pm1, k9L_m2, k9L_m1, k9L_0, k9L_1, k9L_2, k9L_3, k9L_4, k9L_5, k9L_6, k9L_7, k9L_8, k9L_9, k9L_10, k9L_20, k9L_23, k9L_24, k9L_30, k9L_40, k9L_50, k9L_60, k9L_99, k9L_100, k9L_120, k9L_255, k9L_999, k9L_1000, k9_bs, k9_ba]
  repeat (first | ((with_reducible refine k9q_T ?_ ?_); · omega) | ((with_reducible refine k9q_F ?_ ?_); · omega) | ((with_reducible refine k9q_Tb ?_ ?_); · omega) | ((with_reducible refine k9q_Fb ?_ ?_); · omega) | simp (disch := omega) only [k9e_94_0, k9e_94_2, k9e_94_5, k9e_94_9, k9e_94_10, k9e_94_11, Nat.reduceEqDiff, Int.reduceEq, Int.reduceLT, Int.reduceLE, k9_ps_s, k9_ps_n, k9_ur, false_and, and_false, true_and, and_true, true_or, or_true, false_or, or_false, eq_self, ↓reduceIte, not_true_eq_false, not_false_eq_true, n_toInt, n_cl, nI_1, nI_add, n_a0, n_p2, n_p3, n_p4, n_x2, n_x3, n_x4, n_x60, n_x100, n_pm1, k9L_m2, k9L_m1, k9L_0, k9L_1, k9L_2, k9L_3, k9L_4, k9L_5, k9L_6, k9L_7, k9L_8, k9L_9, k9L_10, k9L_20, k9L_23, k9L_24, k9L_30, k9L_40, k9L_50, k9L_60, k9L_99, k9L_100, k9L_120, k9L_255, k9L_999, k9L_1000, k9_bs, k9_ba])
  exact k9o_ret rfl
theorem k9s_95 {i : Nat} (hi : i < 60) : k9_R S (d + 1) 95 0 [some (k9_r 11 i0), some (k9_i (nI i))] [] I J = some (some (k9_i (J 37 i0 i).toInt32), I, J) := by
  refine k9o_of ?_
  simp (disch := omega) only [k9e_95_0, k9e_95_3, Nat.reduceEqDiff, Int.reduceEq, Int.reduceLT, Int.reduceLE, k9_ps_s, k9_ps_n, k9_ur, false_and, and_false, true_and, and_true, true_or, or_true, false_or, or_false, eq_self, ↓reduceIte, not_true_eq_false, not_false_eq_true, n_toInt, n_cl, nI_1, nI_add, n_a0, n_p2, n_p3, n_p4, n_x2, n_x3, n_x4, n_x60, n_x100, n_pm1, k9L_m2, k9L_m1, k9L_0, k9L_1, k9L_2, k9L_3, k9L_4, k9L_5, k9L_6, k9L_7, k9L_8, k9L_9, k9L_10, k9L_20, k9L_23, k9L_24, k9L_30, k9L_40, k9L_50, k9L_60, k9L_99, k9L_100, k9L_120, k9L_255, k9L_999, k9L_1000, k9_bs, k9_ba]
  repeat (first | ((with_reducible refine k9q_T ?_ ?_); · omega) | ((with_reducible refine k9q_F ?_ ?_); · omega) | ((with_reducible refine k9q_Tb ?_ ?_); · omega) | ((with_reducible refine k9q_Fb ?_ ?_); · omega) | (refine k9o_call (k9s_94 hi) ?_; simp (disch := omega) only [k9e_95_0, k9e_95_3, Nat.reduceEqDiff, Int.reduceEq, Int.reduceLT, Int.reduceLE, k9_ps_s, k9_ps_n, k9_ur, false_and, and_false, true_and, and_true, true_or, or_true, false_or, or_false, eq_self, ↓reduceIte, not_true_eq_false, not_false_eq_true, n_toInt, n_cl, nI_1, nI_add, n_a0, n_p2, n_p3, n_p4, n_x2, n_x3, n_x4, n_x60, n_x100, n_pm1, k9L_m2, k9L_m1, k9L_0, k9L_1, k9L_2, k9L_3, k9L_4, k9L_5, k9L_6, k9L_7, k9L_8, k9L_9, k9L_10, k9L_20, k9L_23, k9L_24, k9L_30, k9L_40, k9L_50, k9L_60, k9L_99, k9L_100, k9L_120, k9L_255, k9L_999, k9L_1000, k9_bs, k9_ba]) | simp (disch := omega) only [k9e_95_0, k9e_95_3, Nat.reduceEqDiff, Int.reduceEq, Int.reduceLT, Int.reduceLE, k9_ps_s, k9_ps_n, k9_ur, false_and, and_false, true_and, and_true, true_or, or_true, false_or, or_false, eq_self, ↓reduceIte, not_true_eq_false, not_false_eq_true, n_toInt, n_cl, nI_1, nI_add, n_a0, n_p2, n_p3, n_p4, n_x2, n_x3, n_x4, n_x60, n_x100, n_pm1, k9L_m2, k9L_m1, k9L_0, k9L_1, k9L_2, k9L_3, k9L_4, k9L_5, k9L_6, k9L_7, k9L_8, k9L_9, k9L_10, k9L_20, k9L_23, k9L_24, k9L_30, k9L_40, k9L_50, k9L_60, k9L_99, k9L_100, k9L_120, k9L_255, k9L_999, k9L_1000, k9_bs, k9_ba])
  exact k9o_ret rfl
theorem p_fu_1 {h : Nat → Nat} {b : Nat → Int32} {t k i : Nat} (z : 999 < t + i ∨ ¬ nI (h (t + i)) = b i) : p_fu h b t (k + 1) i = nI i := by rw [p_fu, if_pos z]
theorem p_fu_2 {h : Nat → Nat} {b : Nat → Int32} {t k i : Nat} (z : ¬ 999 < t + i) (z' : nI (h (t + i)) = b i) : p_fu h b t (k + 1) i = p_fu h b t k (i + 1) := by rw [p_fu, if_neg (fun y => y.elim z (fun y => y z'))]
theorem k9s_66 {t n : Nat} (hB : k9_Br I i0 L A h c f M) (hft : f ≤ t) (hn : I 11 i1 3 = nI n) (hn60 : n ≤ 60) (hM : M ≤ 1000) (ht : t ≤ 999) (hM2 : t + n ≤ M ∨ M = 1000) : k9_R S (d + 2) 66 0 [some (k9_r 2 i0), some (k9_r 11 i1), some (k9_i (nI t)), none] [] I J = some (some (k9_i (p_fu h (fun i => (J 37 i1 i).toInt32) t n 0)), I, J) := by
  have key : ∀ k i, i + k = n → k9_R S (d + 2) 66 2 [some (k9_r 2 i0), some (k9_r 11 i1), some (k9_i (nI t)), some (k9_i (nI i))] [] I J = some (some (k9_i (p_fu h (fun i => (J 37 i1 i).toInt32) t k i)), I, J) := by
    intro k
    induction k with
    | zero =>
      intro i hi
      refine k9o_of (k9o_eq k9e_66_2 ?_)
      simp (disch := omega) only [k9e_66_0, k9e_66_6, k9e_66_11, k9e_66_16, k9e_66_19, k9e_66_20, k9e_66_22, k9e_66_24, Nat.reduceEqDiff, Int.reduceEq, Int.reduceLT, Int.reduceLE, k9_ps_s, k9_ps_n, k9_ur, false_and, and_false, true_and, and_true, true_or, or_true, false_or, or_false, eq_self, ↓reduceIte, not_true_eq_false, not_false_eq_true, n_toInt, n_cl, nI_1, nI_add, n_a0, n_p2, n_p3, n_p4, n_x2, n_x3, n_x4, n_x60, n_x100, n_pm1, k9L_m2, k9L_m1, k9L_0, k9L_1, k9L_2, k9L_3, k9L_4, k9L_5, k9L_6, k9L_7, k9L_8, k9L_9, k9L_10, k9L_20, k9L_23, k9L_24, k9L_30, k9L_40, k9L_50, k9L_60, k9L_99, k9L_100, k9L_120, k9L_255, k9L_999, k9L_1000, k9_bs, k9_ba, hn]
      repeat (first | ((with_reducible refine k9q_T ?_ ?_); · omega) | ((with_reducible refine k9q_F ?_ ?_); · omega) | ((with_reducible refine k9q_Tb ?_ ?_); · omega) | ((with_reducible refine k9q_Fb ?_ ?_); · omega) | simp (disch := omega) only [k9e_66_0, k9e_66_6, k9e_66_11, k9e_66_16, k9e_66_19, k9e_66_20, k9e_66_22, k9e_66_24, Nat.reduceEqDiff, Int.reduceEq, Int.reduceLT, Int.reduceLE, k9_ps_s, k9_ps_n, k9_ur, false_and, and_false, true_and, and_true, true_or, or_true, false_or, or_false, eq_self, ↓reduceIte, not_true_eq_false, not_false_eq_true, n_toInt, n_cl, nI_1, nI_add, n_a0, n_p2, n_p3, n_p4, n_x2, n_x3, n_x4, n_x60, n_x100, n_pm1, k9L_m2, k9L_m1, k9L_0, k9L_1, k9L_2, k9L_3, k9L_4, k9L_5, k9L_6, k9L_7, k9L_8, k9L_9, k9L_10, k9L_20, k9L_23, k9L_24, k9L_30, k9L_40, k9L_50, k9L_60, k9L_99, k9L_100, k9L_120, k9L_255, k9L_999, k9L_1000, k9_bs, k9_ba, hn])
      exact k9o_ret rfl
    | succ k ih =>
      intro i hi
      have e := ih (i + 1) (by omega)
      refine k9o_of (k9o_eq k9e_66_2 ?_)
      by_cases h9 : 999 < t + i
      · rw [p_fu_1 (Or.inl h9)]
        simp (disch := omega) only [k9e_66_0, k9e_66_6, k9e_66_11, k9e_66_16, k9e_66_19, k9e_66_20, k9e_66_22, k9e_66_24, Nat.reduceEqDiff, Int.reduceEq, Int.reduceLT, Int.reduceLE, k9_ps_s, k9_ps_n, k9_ur, false_and, and_false, true_and, and_true, true_or, or_true, false_or, or_false, eq_self, ↓reduceIte, not_true_eq_false, not_false_eq_true, n_toInt, n_cl, nI_1, nI_add, n_a0, n_p2, n_p3, n_p4, n_x2, n_x3, n_x4, n_x60, n_x100, n_pm1, k9L_m2, k9L_m1, k9L_0, k9L_1, k9L_2, k9L_3, k9L_4, k9L_5, k9L_6, k9L_7, k9L_8, k9L_9, k9L_10, k9L_20, k9L_23, k9L_24, k9L_30, k9L_40, k9L_50, k9L_60, k9L_99, k9L_100, k9L_120, k9L_255, k9L_999, k9L_1000, k9_bs, k9_ba, hn]
        repeat (first | ((with_reducible refine k9q_T ?_ ?_); · omega) | ((with_reducible refine k9q_F ?_ ?_); · omega) | ((with_reducible refine k9q_Tb ?_ ?_); · omega) | ((with_reducible refine k9q_Fb ?_ ?_); · omega) | simp (disch := omega) only [k9e_66_0, k9e_66_6, k9e_66_11, k9e_66_16, k9e_66_19, k9e_66_20, k9e_66_22, k9e_66_24, Nat.reduceEqDiff, Int.reduceEq, Int.reduceLT, Int.reduceLE, k9_ps_s, k9_ps_n, k9_ur, false_and, and_false, true_and, and_true, true_or, or_true, false_or, or_false, eq_self, ↓reduceIte, not_true_eq_false, not_false_eq_true, n_toInt, n_cl, nI_1, nI_add, n_a0, n_p2, n_p3, n_p4, n_x2, n_x3, n_x4, n_x60, n_x100, n_pm1, k9L_m2, k9L_m1, k9L_0, k9L_1, k9L_2, k9L_3, k9L_4, k9L_5, k9L_6, k9L_7, k9L_8, k9L_9, k9L_10, k9L_20, k9L_23, k9L_24, k9L_30, k9L_40, k9L_50, k9L_60, k9L_99, k9L_100, k9L_120, k9L_255, k9L_999, k9L_1000, k9_bs, k9_ba, hn])
        exact k9o_ret rfl
      · by_cases hc : nI (h (t + i)) = (J 37 i1 i).toInt32
        · rw [p_fu_2 h9 hc]
          simp (disch := omega) only [k9e_66_0, k9e_66_6, k9e_66_11, k9e_66_16, k9e_66_19, k9e_66_20, k9e_66_22, k9e_66_24, Nat.reduceEqDiff, Int.reduceEq, Int.reduceLT, Int.reduceLE, k9_ps_s, k9_ps_n, k9_ur, false_and, and_false, true_and, and_true, true_or, or_true, false_or, or_false, eq_self, ↓reduceIte, not_true_eq_false, not_false_eq_true, n_toInt, n_cl, nI_1, nI_add, n_a0, n_p2, n_p3, n_p4, n_x2, n_x3, n_x4, n_x60, n_x100, n_pm1, k9L_m2, k9L_m1, k9L_0, k9L_1, k9L_2, k9L_3, k9L_4, k9L_5, k9L_6, k9L_7, k9L_8, k9L_9, k9L_10, k9L_20, k9L_23, k9L_24, k9L_30, k9L_40, k9L_50, k9L_60, k9L_99, k9L_100, k9L_120, k9L_255, k9L_999, k9L_1000, k9_bs, k9_ba, hn]
          repeat (first | ((with_reducible refine k9q_T ?_ ?_); · omega) | ((with_reducible refine k9q_F ?_ ?_); · omega) | ((with_reducible refine k9q_Tb ?_ ?_); · omega) | ((with_reducible refine k9q_Fb ?_ ?_); · omega))
          refine k9o_call (k9s_56 hB (by omega) (by omega) hM) ?_
          simp only [k9_ps_s, k9_ps_n]
          refine k9o_eq k9e_66_16 ?_
          refine k9o_call (k9s_95 (by omega)) ?_
          simp only [k9_ps_s, k9_ps_n]
          refine k9o_eq k9e_66_19 ?_
          refine k9o_T (by rw [hc]) ?_
          simp (disch := omega) only [k9e_66_0, k9e_66_6, k9e_66_11, k9e_66_16, k9e_66_19, k9e_66_20, k9e_66_22, k9e_66_24, Nat.reduceEqDiff, Int.reduceEq, Int.reduceLT, Int.reduceLE, k9_ps_s, k9_ps_n, k9_ur, false_and, and_false, true_and, and_true, true_or, or_true, false_or, or_false, eq_self, ↓reduceIte, not_true_eq_false, not_false_eq_true, n_toInt, n_cl, nI_1, nI_add, n_a0, n_p2, n_p3, n_p4, n_x2, n_x3, n_x4, n_x60, n_x100, n_pm1, k9L_m2, k9L_m1, k9L_0, k9L_1, k9L_2, k9L_3, k9L_4, k9L_5, k9L_6, k9L_7, k9L_8, k9L_9, k9L_10, k9L_20, k9L_23, k9L_24, k9L_30, k9L_40, k9L_50, k9L_60, k9L_99, k9L_100, k9L_120, k9L_255, k9L_999, k9L_1000, k9_bs, k9_ba]
          exact k9o_to e rfl
        · rw [p_fu_1 (Or.inr hc)]
          simp (disch := omega) only [k9e_66_0, k9e_66_6, k9e_66_11, k9e_66_16, k9e_66_19, k9e_66_20, k9e_66_22, k9e_66_24, Nat.reduceEqDiff, Int.reduceEq, Int.reduceLT, Int.reduceLE, k9_ps_s, k9_ps_n, k9_ur, false_and, and_false, true_and, and_true, true_or, or_true, false_or, or_false, eq_self, ↓reduceIte, not_true_eq_false, not_false_eq_true, n_toInt, n_cl, nI_1, nI_add, n_a0, n_p2, n_p3, n_p4, n_x2, n_x3, n_x4, n_x60, n_x100, n_pm1, k9L_m2, k9L_m1, k9L_0, k9L_1, k9L_2, k9L_3, k9L_4, k9L_5, k9L_6, k9L_7, k9L_8, k9L_9, k9L_10, k9L_20, k9L_23, k9L_24, k9L_30, k9L_40, k9L_50, k9L_60, k9L_99, k9L_100, k9L_120, k9L_255, k9L_999, k9L_1000, k9_bs, k9_ba, hn]
          repeat (first | ((with_reducible refine k9q_T ?_ ?_); · omega) | ((with_reducible refine k9q_F ?_ ?_); · omega) | ((with_reducible refine k9q_Tb ?_ ?_); · omega) | ((with_reducible refine k9q_Fb ?_ ?_); · omega))
          refine k9o_call (k9s_56 hB (by omega) (by omega) hM) ?_
          simp only [k9_ps_s, k9_ps_n]
          refine k9o_eq k9e_66_16 ?_
          refine k9o_call (k9s_95 (by omega)) ?_
          simp only [k9_ps_s, k9_ps_n]
          refine k9o_eq k9e_66_19 ?_
          refine k9o_F (fun z => hc (n_ext z)) ?_
          simp (disch := omega) only [k9e_66_0, k9e_66_6, k9e_66_11, k9e_66_16, k9e_66_19, k9e_66_20, k9e_66_22, k9e_66_24, Nat.reduceEqDiff, Int.reduceEq, Int.reduceLT, Int.reduceLE, k9_ps_s, k9_ps_n, k9_ur, false_and, and_false, true_and, and_true, true_or, or_true, false_or, or_false, eq_self, ↓reduceIte, not_true_eq_false, not_false_eq_true, n_toInt, n_cl, nI_1, nI_add, n_a0, n_p2, n_p3, n_p4, n_x2, n_x3, n_x4, n_x60, n_x100, n_pm1, k9L_m2, k9L_m1, k9L_0, k9L_1, k9L_2, k9L_3, k9L_4, k9L_5, k9L_6, k9L_7, k9L_8, k9L_9, k9L_10, k9L_20, k9L_23, k9L_24, k9L_30, k9L_40, k9L_50, k9L_60, k9L_99, k9L_100, k9L_120, k9L_255, k9L_999, k9L_1000, k9_bs, k9_ba]
          exact k9o_ret rfl
  rw [k9e_66_0]
  exact key n 0 (by omega)
end KB8
