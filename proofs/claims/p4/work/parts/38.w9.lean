/-! ORDER -/
section KO
variable {S : k9_S} {d : Nat} {I : k9_I} {J : k9_J} {i0 i1 i2 : Nat} {n m : Nat} {o : Nat → Nat} {w : Nat → Nat → Nat}
def k9_Fo (i0 : Nat) (k i _ : Nat) : Bool := (Nat.beq k 7 || Nat.beq k 30) && Nat.beq i i0
theorem k9_Fo_t (k : Nat) (h : (Nat.beq k 7 || Nat.beq k 30) = true) (p : Nat) : k9_Fo i0 k i0 p = true := by
  unfold k9_Fo
  rw [h, k9_beq_self]
  rfl
theorem k9s_29 {x : Nat} (hO : k9_Or I i0 n o) (hm : ∀ k, k < n → o k < 100) (hx : x < 100) (h : ∃ k, k < n ∧ o k = x) : k9_R S d 29 0 [some (k9_r 7 i0), some (k9_i (nI x)), none] [] I J = some (some (k9_i 1), I, J) := by
  obtain ⟨h1, h6, h3⟩ := hO
  have key : ∀ k j, j + k = n → (∃ k', j ≤ k' ∧ k' < n ∧ o k' = x) → k9_R S d 29 2 [some (k9_r 7 i0), some (k9_i (nI x)), some (k9_i (nI j))] [] I J = some (some (k9_i 1), I, J) := by
    intro k
    induction k with
    | zero =>
      rintro j hj ⟨k', a, b, -⟩
      omega
    | succ k ih =>
      rintro j hj ⟨k', a, b, c⟩
      have a3 := h3 j (by omega)
      have am := hm j (by omega)
      refine k9o_of (k9o_eq k9e_29_2 ?_)
      by_cases e : o j = x
      · simp (disch := omega) only [k9e_29_0, k9e_29_6, k9e_29_9, k9e_29_13, k9e_29_15, k9e_29_17, k9e_29_19, Nat.reduceEqDiff, Int.reduceEq, Int.reduceLT, Int.reduceLE, k9_ps_s, k9_ps_n, k9_ur, false_and, and_false, true_and, and_true, true_or, or_true, false_or, or_false, eq_self, ↓reduceIte, not_true_eq_false, not_false_eq_true, n_toInt, n_cl, nI_1, nI_add, n_a0, n_p2, n_p3, n_p4, n_x2, n_x3, n_x4, n_x60, n_x100, n_pm1, k9L_m2, k9L_m1, k9L_0, k9L_1, k9L_2, k9L_3, k9L_4, k9L_5, k9L_6, k9L_7, k9L_8, k9L_9, k9L_10, k9L_20, k9L_23, k9L_24, k9L_30, k9L_40, k9L_50, k9L_60, k9L_99, k9L_100, k9L_120, k9L_255, k9L_999, k9L_1000, k9_bs, k9_ba, h1, a3]
        repeat (first | ((with_reducible refine k9q_T ?_ ?_); · omega) | ((with_reducible refine k9q_F ?_ ?_); · omega) | ((with_reducible refine k9q_Tb ?_ ?_); · omega) | ((with_reducible refine k9q_Fb ?_ ?_); · omega) | simp (disch := omega) only [k9e_29_0, k9e_29_6, k9e_29_9, k9e_29_13, k9e_29_15, k9e_29_17, k9e_29_19, Nat.reduceEqDiff, Int.reduceEq, Int.reduceLT, Int.reduceLE, k9_ps_s, k9_ps_n, k9_ur, false_and, and_false, true_and, and_true, true_or, or_true, false_or, or_false, eq_self, ↓reduceIte, not_true_eq_false, not_false_eq_true, n_toInt, n_cl, nI_1, nI_add, n_a0, n_p2, n_p3, n_p4, n_x2, n_x3, n_x4, n_x60, n_x100, n_pm1, k9L_m2, k9L_m1, k9L_0, k9L_1, k9L_2, k9L_3, k9L_4, k9L_5, k9L_6, k9L_7, k9L_8, k9L_9, k9L_10, k9L_20, k9L_23, k9L_24, k9L_30, k9L_40, k9L_50, k9L_60, k9L_99, k9L_100, k9L_120, k9L_255, k9L_999, k9L_1000, k9_bs, k9_ba, h1, a3])
        exact k9o_ret rfl
      · simp (disch := omega) only [k9e_29_0, k9e_29_6, k9e_29_9, k9e_29_13, k9e_29_15, k9e_29_17, k9e_29_19, Nat.reduceEqDiff, Int.reduceEq, Int.reduceLT, Int.reduceLE, k9_ps_s, k9_ps_n, k9_ur, false_and, and_false, true_and, and_true, true_or, or_true, false_or, or_false, eq_self, ↓reduceIte, not_true_eq_false, not_false_eq_true, n_toInt, n_cl, nI_1, nI_add, n_a0, n_p2, n_p3, n_p4, n_x2, n_x3, n_x4, n_x60, n_x100, n_pm1, k9L_m2, k9L_m1, k9L_0, k9L_1, k9L_2, k9L_3, k9L_4, k9L_5, k9L_6, k9L_7, k9L_8, k9L_9, k9L_10, k9L_20, k9L_23, k9L_24, k9L_30, k9L_40, k9L_50, k9L_60, k9L_99, k9L_100, k9L_120, k9L_255, k9L_999, k9L_1000, k9_bs, k9_ba, h1, a3]
        repeat (first | ((with_reducible refine k9q_T ?_ ?_); · omega) | ((with_reducible refine k9q_F ?_ ?_); · omega) | ((with_reducible refine k9q_Tb ?_ ?_); · omega) | ((with_reducible refine k9q_Fb ?_ ?_); · omega) | simp (disch := omega) only [k9e_29_0, k9e_29_6, k9e_29_9, k9e_29_13, k9e_29_15, k9e_29_17, k9e_29_19, Nat.reduceEqDiff, Int.reduceEq, Int.reduceLT, Int.reduceLE, k9_ps_s, k9_ps_n, k9_ur, false_and, and_false, true_and, and_true, true_or, or_true, false_or, or_false, eq_self, ↓reduceIte, not_true_eq_false, not_false_eq_true, n_toInt, n_cl, nI_1, nI_add, n_a0, n_p2, n_p3, n_p4, n_x2, n_x3, n_x4, n_x60, n_x100, n_pm1, k9L_m2, k9L_m1, k9L_0, k9L_1, k9L_2, k9L_3, k9L_4, k9L_5, k9L_6, k9L_7, k9L_8, k9L_9, k9L_10, k9L_20, k9L_23, k9L_24, k9L_30, k9L_40, k9L_50, k9L_60, k9L_99, k9L_100, k9L_120, k9L_255, k9L_999, k9L_1000, k9_bs, k9_ba, h1, a3])
        exact k9o_to (ih (j + 1) (by omega) ⟨k', by
          apply Nat.lt_of_le_of_ne a
          rintro rfl
          exact e c, b, c⟩) rfl
  rw [k9e_29_0]
  obtain ⟨k', b, c⟩ := h
  exact key n 0 (by omega) ⟨k', Nat.zero_le _, b, c⟩
theorem k9s_29x {x : Nat} (hO : k9_Or I i0 n o) (hm : ∀ k, k < n → o k < 100) (hx : x < 100) (h : ∀ k, k < n → o k ≠ x) : k9_R S d 29 0 [some (k9_r 7 i0), some (k9_i (nI x)), none] [] I J = some (some (k9_i 0), I, J) := by
  obtain ⟨h1, h6, h3⟩ := hO
  have key : ∀ k j, j + k = n → k9_R S d 29 2 [some (k9_r 7 i0), some (k9_i (nI x)), some (k9_i (nI j))] [] I J = some (some (k9_i 0), I, J) := by
    intro k
    induction k with
    | zero =>
      intro j hj
      refine k9o_of (k9o_eq k9e_29_2 ?_)
      simp (disch := omega) only [k9e_29_0, k9e_29_6, k9e_29_9, k9e_29_13, k9e_29_15, k9e_29_17, k9e_29_19, Nat.reduceEqDiff, Int.reduceEq, Int.reduceLT, Int.reduceLE, k9_ps_s, k9_ps_n, k9_ur, false_and, and_false, true_and, and_true, true_or, or_true, false_or, or_false, eq_self, ↓reduceIte, not_true_eq_false, not_false_eq_true, n_toInt, n_cl, nI_1, nI_add, n_a0, n_p2, n_p3, n_p4, n_x2, n_x3, n_x4, n_x60, n_x100, n_pm1, k9L_m2, k9L_m1, k9L_0, k9L_1, k9L_2, k9L_3, k9L_4, k9L_5, k9L_6, k9L_7, k9L_8, k9L_9, k9L_10, k9L_20, k9L_23, k9L_24, k9L_30, k9L_40, k9L_50, k9L_60, k9L_99, k9L_100, k9L_120, k9L_255, k9L_999, k9L_1000, k9_bs, k9_ba, h1]
      repeat (first | ((with_reducible refine k9q_T ?_ ?_); · omega) | ((with_reducible refine k9q_F ?_ ?_); · omega) | ((with_reducible refine k9q_Tb ?_ ?_); · omega) | ((with_reducible refine k9q_Fb ?_ ?_); · omega) | simp (disch := omega) only [k9e_29_0, k9e_29_6, k9e_29_9, k9e_29_13, k9e_29_15, k9e_29_17, k9e_29_19, Nat.reduceEqDiff, Int.reduceEq, Int.reduceLT, Int.reduceLE, k9_ps_s, k9_ps_n, k9_ur, false_and, and_false, true_and, and_true, true_or, or_true, false_or, or_false, eq_self, ↓reduceIte, not_true_eq_false, not_false_eq_true, n_toInt, n_cl, nI_1, nI_add, n_a0, n_p2, n_p3, n_p4, n_x2, n_x3, n_x4, n_x60, n_x100, n_pm1, k9L_m2, k9L_m1, k9L_0, k9L_1, k9L_2, k9L_3, k9L_4, k9L_5, k9L_6, k9L_7, k9L_8, k9L_9, k9L_10, k9L_20, k9L_23, k9L_24, k9L_30, k9L_40, k9L_50, k9L_60, k9L_99, k9L_100, k9L_120, k9L_255, k9L_999, k9L_1000, k9_bs, k9_ba, h1])
      exact k9o_ret rfl
    | succ k ih =>
      intro j hj
      have a3 := h3 j (by omega)
      have am := hm j (by omega)
      have e := h j (by omega)
      refine k9o_of (k9o_eq k9e_29_2 ?_)
      simp (disch := omega) only [k9e_29_0, k9e_29_6, k9e_29_9, k9e_29_13, k9e_29_15, k9e_29_17, k9e_29_19, Nat.reduceEqDiff, Int.reduceEq, Int.reduceLT, Int.reduceLE, k9_ps_s, k9_ps_n, k9_ur, false_and, and_false, true_and, and_true, true_or, or_true, false_or, or_false, eq_self, ↓reduceIte, not_true_eq_false, not_false_eq_true, n_toInt, n_cl, nI_1, nI_add, n_a0, n_p2, n_p3, n_p4, n_x2, n_x3, n_x4, n_x60, n_x100, n_pm1, k9L_m2, k9L_m1, k9L_0, k9L_1, k9L_2, k9L_3, k9L_4, k9L_5, k9L_6, k9L_7, k9L_8, k9L_9, k9L_10, k9L_20, k9L_23, k9L_24, k9L_30, k9L_40, k9L_50, k9L_60, k9L_99, k9L_100, k9L_120, k9L_255, k9L_999, k9L_1000, k9_bs, k9_ba, h1, a3]
      repeat (first | ((with_reducible refine k9q_T ?_ ?_); · omega) | ((with_reducible refine k9q_F ?_ ?_); · omega) | ((with_reducible refine k9q_Tb ?_ ?_); · omega) | ((with_reducible refine k9q_Fb ?_ ?_); · omega) | simp (disch := omega) only [k9e_29_0, k9e_29_6, k9e_29_9, k9e_29_13, k9e_29_15, k9e_29_17, k9e_29_19, Nat.reduceEqDiff, Int.reduceEq, Int.reduceLT, Int.reduceLE, k9_ps_s, k9_ps_n, k9_ur, false_and, and_false, true_and, and_true, true_or, or_true, false_or, or_false, eq_self, ↓reduceIte, not_true_eq_false, not_false_eq_true, n_toInt, n_cl, nI_1, nI_add, n_a0, n_p2, n_p3, n_p4, n_x2, n_x3, n_x4, n_x60, n_x100, n_pm1, k9L_m2, k9L_m1, k9L_0, k9L_1, k9L_2, k9L_3, k9L_4, k9L_5, k9L_6, k9L_7, k9L_8, k9L_9, k9L_10, k9L_20, k9L_23, k9L_24, k9L_30, k9L_40, k9L_50, k9L_60, k9L_99, k9L_100, k9L_120, k9L_255, k9L_999, k9L_1000, k9_bs, k9_ba, h1, a3])
      exact k9o_to (ih (j + 1) (by omega)) rfl
  rw [k9e_29_0]
  exact key n 0 (by omega)
theorem k9s_28 {x : Nat} (hO : k9_Or I i0 n o) (hm : ∀ k, k < n → o k < 100) (hxm : x < m) (hm6 : m ≤ 6) (hn : n < 6) (h : ∀ k, k < n → o k ≠ x) : k9_R S (d + 1) 28 0 [some (k9_r 7 i0), some (k9_i (nI x)), some (k9_i (nI m))] [] I J = some (none, k9_u (k9_u I 30 i0 n (nI x)) 7 i0 1 (nI (n + 1)), J) := by
  have h1 := hO.1
  refine k9o_of ?_
  simp (disch := omega) only [k9e_28_0, k9e_28_2, k9e_28_5, k9e_28_9, k9e_28_12, k9e_28_13, k9e_28_19, k9e_28_25, Nat.reduceEqDiff, Int.reduceEq, Int.reduceLT, Int.reduceLE, k9_ps_s, k9_ps_n, k9_ur, false_and, and_false, true_and, and_true, true_or, or_true, false_or, or_false, eq_self, ↓reduceIte, not_true_eq_false, not_false_eq_true, n_toInt, n_cl, nI_1, nI_add, n_a0, n_p2, n_p3, n_p4, n_x2, n_x3, n_x4, n_x60, n_x100, n_pm1, k9L_m2, k9L_m1, k9L_0, k9L_1, k9L_2, k9L_3, k9L_4, k9L_5, k9L_6, k9L_7, k9L_8, k9L_9, k9L_10, k9L_20, k9L_23, k9L_24, k9L_30, k9L_40, k9L_50, k9L_60, k9L_99, k9L_100, k9L_120, k9L_255, k9L_999, k9L_1000, k9_bs, k9_ba, h1]
  repeat (first | ((with_reducible refine k9q_T ?_ ?_); · omega) | ((with_reducible refine k9q_F ?_ ?_); · omega) | ((with_reducible refine k9q_Tb ?_ ?_); · omega) | ((with_reducible refine k9q_Fb ?_ ?_); · omega) | (refine k9o_call (k9s_29x hO hm (by omega) h) ?_; simp (disch := omega) only [k9e_28_0, k9e_28_2, k9e_28_5, k9e_28_9, k9e_28_12, k9e_28_13, k9e_28_19, k9e_28_25, Nat.reduceEqDiff, Int.reduceEq, Int.reduceLT, Int.reduceLE, k9_ps_s, k9_ps_n, k9_ur, false_and, and_false, true_and, and_true, true_or, or_true, false_or, or_false, eq_self, ↓reduceIte, not_true_eq_false, not_false_eq_true, n_toInt, n_cl, nI_1, nI_add, n_a0, n_p2, n_p3, n_p4, n_x2, n_x3, n_x4, n_x60, n_x100, n_pm1, k9L_m2, k9L_m1, k9L_0, k9L_1, k9L_2, k9L_3, k9L_4, k9L_5, k9L_6, k9L_7, k9L_8, k9L_9, k9L_10, k9L_20, k9L_23, k9L_24, k9L_30, k9L_40, k9L_50, k9L_60, k9L_99, k9L_100, k9L_120, k9L_255, k9L_999, k9L_1000, k9_bs, k9_ba, h1]) | simp (disch := omega) only [k9e_28_0, k9e_28_2, k9e_28_5, k9e_28_9, k9e_28_12, k9e_28_13, k9e_28_19, k9e_28_25, Nat.reduceEqDiff, Int.reduceEq, Int.reduceLT, Int.reduceLE, k9_ps_s, k9_ps_n, k9_ur, false_and, and_false, true_and, and_true, true_or, or_true, false_or, or_false, eq_self, ↓reduceIte, not_true_eq_false, not_false_eq_true, n_toInt, n_cl, nI_1, nI_add, n_a0, n_p2, n_p3, n_p4, n_x2, n_x3, n_x4, n_x60, n_x100, n_pm1, k9L_m2, k9L_m1, k9L_0, k9L_1, k9L_2, k9L_3, k9L_4, k9L_5, k9L_6, k9L_7, k9L_8, k9L_9, k9L_10, k9L_20, k9L_23, k9L_24, k9L_30, k9L_40, k9L_50, k9L_60, k9L_99, k9L_100, k9L_120, k9L_255, k9L_999, k9L_1000, k9_bs, k9_ba, h1])
  exact k9o_ret rfl
theorem k9_Or_add {x : Nat} (hO : k9_Or I i0 n o) (hn : n < 6) : k9_Or (k9_u (k9_u I 30 i0 n (nI x)) 7 i0 1 (nI (n + 1))) i0 (n + 1) (fun k => if k = n then x else o k) := by
  obtain ⟨h1, h6, h3⟩ := hO
  refine ⟨by simp [k9_ur], by omega, fun k hk => ?_⟩
  by_cases e : k = n
  · simp [k9_ur, e]
  · simpa [k9_ur, e] using h3 k (by omega)
theorem k9s_28x {x : Int32} (hO : k9_Or I i0 n o) (hm : ∀ k, k < n → o k < 100) (hm6 : m ≤ 6) (h : x.toInt < 0 ∨ (m : Int) ≤ x.toInt ∨ 6 ≤ n ∨ ∃ k, k < n ∧ (o k : Int) = x.toInt) : k9_R S (d + 1) 28 0 [some (k9_r 7 i0), some (k9_i x), some (k9_i (nI m))] [] I J = some (none, I, J) := by
  have h1 := hO.1
  have h6 := hO.2.1
  refine k9o_of ?_
  by_cases hx : 0 ≤ x.toInt ∧ x.toInt < m ∧ n < 6
  · obtain ⟨y, rfl, hy, -⟩ := n_of hx.1
    have h' : ∃ k, k < n ∧ o k = y := by
      rcases h with h | h | h | ⟨k, a, b⟩
      · omega
      · omega
      · omega
      · exact ⟨k, a, by omega⟩
    simp (disch := omega) only [k9e_28_0, k9e_28_2, k9e_28_5, k9e_28_9, k9e_28_12, k9e_28_13, k9e_28_19, k9e_28_25, Nat.reduceEqDiff, Int.reduceEq, Int.reduceLT, Int.reduceLE, k9_ps_s, k9_ps_n, k9_ur, false_and, and_false, true_and, and_true, true_or, or_true, false_or, or_false, eq_self, ↓reduceIte, not_true_eq_false, not_false_eq_true, n_toInt, n_cl, nI_1, nI_add, n_a0, n_p2, n_p3, n_p4, n_x2, n_x3, n_x4, n_x60, n_x100, n_pm1, k9L_m2, k9L_m1, k9L_0, k9L_1, k9L_2, k9L_3, k9L_4, k9L_5, k9L_6, k9L_7, k9L_8, k9L_9, k9L_10, k9L_20, k9L_23, k9L_24, k9L_30, k9L_40, k9L_50, k9L_60, k9L_99, k9L_100, k9L_120, k9L_255, k9L_999, k9L_1000, k9_bs, k9_ba, h1]
    repeat (first | ((with_reducible refine k9q_T ?_ ?_); · omega) | ((with_reducible refine k9q_F ?_ ?_); · omega) | ((with_reducible refine k9q_Tb ?_ ?_); · omega) | ((with_reducible refine k9q_Fb ?_ ?_); · omega) | (refine k9o_call (k9s_29 hO hm (by omega) h') ?_; simp (disch := omega) only [k9e_28_0, k9e_28_2, k9e_28_5, k9e_28_9, k9e_28_12, k9e_28_13, k9e_28_19, k9e_28_25, Nat.reduceEqDiff, Int.reduceEq, Int.reduceLT, Int.reduceLE, k9_ps_s, k9_ps_n, k9_ur, false_and, and_false, true_and, and_true, true_or, or_true, false_or, or_false, eq_self, ↓reduceIte, not_true_eq_false, not_false_eq_true, n_toInt, n_cl, nI_1, nI_add, n_a0, n_p2, n_p3, n_p4, n_x2, n_x3, n_x4, n_x60, n_x100, n_pm1, k9L_m2, k9L_m1, k9L_0, k9L_1, k9L_2, k9L_3, k9L_4, k9L_5, k9L_6, k9L_7, k9L_8, k9L_9, k9L_10, k9L_20, k9L_23, k9L_24, k9L_30, k9L_40, k9L_50, k9L_60, k9L_99, k9L_100, k9L_120, k9L_255, k9L_999, k9L_1000, k9_bs, k9_ba, h1]) | simp (disch := omega) only [k9e_28_0, k9e_28_2, k9e_28_5, k9e_28_9, k9e_28_12, k9e_28_13, k9e_28_19, k9e_28_25, Nat.reduceEqDiff, Int.reduceEq, Int.reduceLT, Int.reduceLE, k9_ps_s, k9_ps_n, k9_ur, false_and, and_false, true_and, and_true, true_or, or_true, false_or, or_false, eq_self, ↓reduceIte, not_true_eq_false, not_false_eq_true, n_toInt, n_cl, nI_1, nI_add, n_a0, n_p2, n_p3, n_p4, n_x2, n_x3, n_x4, n_x60, n_x100, n_pm1, k9L_m2, k9L_m1, k9L_0, k9L_1, k9L_2, k9L_3, k9L_4, k9L_5, k9L_6, k9L_7, k9L_8, k9L_9, k9L_10, k9L_20, k9L_23, k9L_24, k9L_30, k9L_40, k9L_50, k9L_60, k9L_99, k9L_100, k9L_120, k9L_255, k9L_999, k9L_1000, k9_bs, k9_ba, h1])
    exact k9o_ret rfl
  · simp (disch := omega) only [k9e_28_0, k9e_28_2, k9e_28_5, k9e_28_9, k9e_28_12, k9e_28_13, k9e_28_19, k9e_28_25, Nat.reduceEqDiff, Int.reduceEq, Int.reduceLT, Int.reduceLE, k9_ps_s, k9_ps_n, k9_ur, false_and, and_false, true_and, and_true, true_or, or_true, false_or, or_false, eq_self, ↓reduceIte, not_true_eq_false, not_false_eq_true, n_toInt, n_cl, nI_1, nI_add, n_a0, n_p2, n_p3, n_p4, n_x2, n_x3, n_x4, n_x60, n_x100, n_pm1, k9L_m2, k9L_m1, k9L_0, k9L_1, k9L_2, k9L_3, k9L_4, k9L_5, k9L_6, k9L_7, k9L_8, k9L_9, k9L_10, k9L_20, k9L_23, k9L_24, k9L_30, k9L_40, k9L_50, k9L_60, k9L_99, k9L_100, k9L_120, k9L_255, k9L_999, k9L_1000, k9_bs, k9_ba, h1]
    refine k9o_if (fun z => k9o_ret rfl) (fun z => ?_)
    refine k9o_if (fun z => k9o_ret rfl) (fun z => ?_)
    refine k9o_T (by omega) ?_
    exact k9o_ret rfl
theorem k9s_26 : k9_R S d 26 0 [some (k9_r 7 i0)] [] I J = some (none, k9_u I 7 i0 1 0, J) := by
  refine k9o_of ?_
  simp (disch := omega) only [k9e_26_0, Nat.reduceEqDiff, Int.reduceEq, Int.reduceLT, Int.reduceLE, k9_ps_s, k9_ps_n, k9_ur, false_and, and_false, true_and, and_true, true_or, or_true, false_or, or_false, eq_self, ↓reduceIte, not_true_eq_false, not_false_eq_true, n_toInt, n_cl, nI_1, nI_add, n_a0, n_p2, n_p3, n_p4, n_x2, n_x3, n_x4, n_x60, n_x100, n_pm1, k9L_m2, k9L_m1, k9L_0, k9L_1, k9L_2, k9L_3, k9L_4, k9L_5, k9L_6, k9L_7, k9L_8, k9L_9, k9L_10, k9L_20, k9L_23, k9L_24, k9L_30, k9L_40, k9L_50, k9L_60, k9L_99, k9L_100, k9L_120, k9L_255, k9L_999, k9L_1000, k9_bs, k9_ba]
  exact k9o_ret rfl
theorem k9_Or_0 : k9_Or (k9_u I 7 i0 1 0) i0 0 o := ⟨by simp [k9_ur]; rfl, by omega, fun k hk => by omega⟩
/-- the others come behind: all numbers are below m -/
theorem k9s_30 (hO : k9_Or I i0 n o) (hm : ∀ k, k < n → o k < m) (hm6 : m ≤ 6) : ∃ I' n' o', k9_R S (d + 2) 30 0 [some (k9_r 7 i0), some (k9_i (nI m)), none] [] I J = some (none, I', J) ∧ k9_Or I' i0 n' o' ∧ (∀ k, k < n' → o' k < m) ∧ k9_fx (k9_Fo i0) I I' ∧ (n = 0 → n' = m ∧ ∀ k, k < m → o' k = k) := by
  have key : ∀ k j n1 o1 I1, j + k = m → k9_Or I1 i0 n1 o1 → (∀ k, k < n1 → o1 k < m) → k9_fx (k9_Fo i0) I I1 → (n = 0 → n1 = j ∧ ∀ k, k < j → o1 k = k) → ∃ I' n' o', k9_R S (d + 2) 30 2 [some (k9_r 7 i0), some (k9_i (nI m)), some (k9_i (nI j))] [] I1 J = some (none, I', J) ∧ k9_Or I' i0 n' o' ∧ (∀ k, k < n' → o' k < m) ∧ k9_fx (k9_Fo i0) I I' ∧ (n = 0 → n' = m ∧ ∀ k, k < m → o' k = k) := by
    intro k
    induction k with
    | zero =>
      intro j n1 o1 I1 hj hO hm hx hz
      obtain rfl : j = m := by omega
      refine ⟨I1, n1, o1, k9o_of (k9o_eq k9e_30_2 ?_), hO, hm, hx, hz⟩
      simp (disch := omega) only [k9e_30_0, k9e_30_5, k9e_30_9, k9e_30_11, Nat.reduceEqDiff, Int.reduceEq, Int.reduceLT, Int.reduceLE, k9_ps_s, k9_ps_n, k9_ur, false_and, and_false, true_and, and_true, true_or, or_true, false_or, or_false, eq_self, ↓reduceIte, not_true_eq_false, not_false_eq_true, n_toInt, n_cl, nI_1, nI_add, n_a0, n_p2, n_p3, n_p4, n_x2, n_x3, n_x4, n_x60, n_x100, n_pm1, k9L_m2, k9L_m1, k9L_0, k9L_1, k9L_2, k9L_3, k9L_4, k9L_5, k9L_6, k9L_7, k9L_8, k9L_9, k9L_10, k9L_20, k9L_23, k9L_24, k9L_30, k9L_40, k9L_50, k9L_60, k9L_99, k9L_100, k9L_120, k9L_255, k9L_999, k9L_1000, k9_bs, k9_ba]
      repeat (first | ((with_reducible refine k9q_T ?_ ?_); · omega) | ((with_reducible refine k9q_F ?_ ?_); · omega) | ((with_reducible refine k9q_Tb ?_ ?_); · omega) | ((with_reducible refine k9q_Fb ?_ ?_); · omega) | simp (disch := omega) only [k9e_30_0, k9e_30_5, k9e_30_9, k9e_30_11, Nat.reduceEqDiff, Int.reduceEq, Int.reduceLT, Int.reduceLE, k9_ps_s, k9_ps_n, k9_ur, false_and, and_false, true_and, and_true, true_or, or_true, false_or, or_false, eq_self, ↓reduceIte, not_true_eq_false, not_false_eq_true, n_toInt, n_cl, nI_1, nI_add, n_a0, n_p2, n_p3, n_p4, n_x2, n_x3, n_x4, n_x60, n_x100, n_pm1, k9L_m2, k9L_m1, k9L_0, k9L_1, k9L_2, k9L_3, k9L_4, k9L_5, k9L_6, k9L_7, k9L_8, k9L_9, k9L_10, k9L_20, k9L_23, k9L_24, k9L_30, k9L_40, k9L_50, k9L_60, k9L_99, k9L_100, k9L_120, k9L_255, k9L_999, k9L_1000, k9_bs, k9_ba])
      exact k9o_ret rfl
    | succ k ih =>
      intro j n1 o1 I1 hj hO hm hx hz
      have h100 : ∀ k, k < n1 → o1 k < 100 := fun k hk => by
        have := hm k hk
        omega
      by_cases h : n1 < 6 ∧ ∀ k, k < n1 → o1 k ≠ j
      · obtain ⟨I', n', o', e, r⟩ := ih (j + 1) (n1 + 1) (fun k => if k = n1 then j else o1 k) (k9_u (k9_u I1 30 i0 n1 (nI j)) 7 i0 1 (nI (n1 + 1))) (by omega) (k9_Or_add hO h.1) (fun k hk => by
            show (if k = n1 then j else o1 k) < m
            by_cases e : k = n1
            · rw [if_pos e]; omega
            · rw [if_neg e]; exact hm k (by omega)) (k9_fx_u (k9_fx_u hx (k9_Fo_t _ rfl _)) (k9_Fo_t _ rfl _)) (fun z => by
            obtain ⟨a, b⟩ := hz z
            refine ⟨by omega, fun k hk => ?_⟩
            show (if k = n1 then j else o1 k) = k
            by_cases e : k = n1
            · rw [if_pos e]; omega
            · rw [if_neg e]; exact b k (by omega))
        refine ⟨I', n', o', k9o_of (k9o_eq k9e_30_2 ?_), r⟩
        simp (disch := omega) only [k9e_30_0, k9e_30_5, k9e_30_9, k9e_30_11, Nat.reduceEqDiff, Int.reduceEq, Int.reduceLT, Int.reduceLE, k9_ps_s, k9_ps_n, k9_ur, false_and, and_false, true_and, and_true, true_or, or_true, false_or, or_false, eq_self, ↓reduceIte, not_true_eq_false, not_false_eq_true, n_toInt, n_cl, nI_1, nI_add, n_a0, n_p2, n_p3, n_p4, n_x2, n_x3, n_x4, n_x60, n_x100, n_pm1, k9L_m2, k9L_m1, k9L_0, k9L_1, k9L_2, k9L_3, k9L_4, k9L_5, k9L_6, k9L_7, k9L_8, k9L_9, k9L_10, k9L_20, k9L_23, k9L_24, k9L_30, k9L_40, k9L_50, k9L_60, k9L_99, k9L_100, k9L_120, k9L_255, k9L_999, k9L_1000, k9_bs, k9_ba]
        repeat (first | ((with_reducible refine k9q_T ?_ ?_); · omega) | ((with_reducible refine k9q_F ?_ ?_); · omega) | ((with_reducible refine k9q_Tb ?_ ?_); · omega) | ((with_reducible refine k9q_Fb ?_ ?_); · omega) | (refine k9o_call (k9s_28 hO h100 (by omega : j < m) hm6 h.1 h.2) ?_; simp (disch := omega) only [k9e_30_0, k9e_30_5, k9e_30_9, k9e_30_11, Nat.reduceEqDiff, Int.reduceEq, Int.reduceLT, Int.reduceLE, k9_ps_s, k9_ps_n, k9_ur, false_and, and_false, true_and, and_true, true_or, or_true, false_or, or_false, eq_self, ↓reduceIte, not_true_eq_false, not_false_eq_true, n_toInt, n_cl, nI_1, nI_add, n_a0, n_p2, n_p3, n_p4, n_x2, n_x3, n_x4, n_x60, n_x100, n_pm1, k9L_m2, k9L_m1, k9L_0, k9L_1, k9L_2, k9L_3, k9L_4, k9L_5, k9L_6, k9L_7, k9L_8, k9L_9, k9L_10, k9L_20, k9L_23, k9L_24, k9L_30, k9L_40, k9L_50, k9L_60, k9L_99, k9L_100, k9L_120, k9L_255, k9L_999, k9L_1000, k9_bs, k9_ba]) | simp (disch := omega) only [k9e_30_0, k9e_30_5, k9e_30_9, k9e_30_11, Nat.reduceEqDiff, Int.reduceEq, Int.reduceLT, Int.reduceLE, k9_ps_s, k9_ps_n, k9_ur, false_and, and_false, true_and, and_true, true_or, or_true, false_or, or_false, eq_self, ↓reduceIte, not_true_eq_false, not_false_eq_true, n_toInt, n_cl, nI_1, nI_add, n_a0, n_p2, n_p3, n_p4, n_x2, n_x3, n_x4, n_x60, n_x100, n_pm1, k9L_m2, k9L_m1, k9L_0, k9L_1, k9L_2, k9L_3, k9L_4, k9L_5, k9L_6, k9L_7, k9L_8, k9L_9, k9L_10, k9L_20, k9L_23, k9L_24, k9L_30, k9L_40, k9L_50, k9L_60, k9L_99, k9L_100, k9L_120, k9L_255, k9L_999, k9L_1000, k9_bs, k9_ba])
        exact k9o_to e rfl
      · have h' : n1 ≥ 6 ∨ ∃ k, k < n1 ∧ o1 k = j := by
          by_cases h1 : n1 < 6
          · refine Or.inr (Classical.byContradiction fun z => h ⟨h1, fun k hk e => z ⟨k, hk, e⟩⟩)
          · exact Or.inl (by omega)
        obtain ⟨I', n', o', e, r⟩ := ih (j + 1) n1 o1 I1 (by omega) hO hm hx (fun z => by
          obtain ⟨a, b⟩ := hz z
          exfalso
          rcases h' with h' | ⟨k, a', b'⟩
          · omega
          · have := b k (by omega)
            omega)
        have hno : (nI j).toInt < 0 ∨ (m : Int) ≤ (nI j).toInt ∨ 6 ≤ n1 ∨ ∃ k, k < n1 ∧ (o1 k : Int) = (nI j).toInt := by
          rw [n_toInt (by omega)]
          rcases h' with h' | ⟨k, a, b⟩
          · exact Or.inr (Or.inr (Or.inl h'))
          · exact Or.inr (Or.inr (Or.inr ⟨k, a, by omega⟩))
        refine ⟨I', n', o', k9o_of (k9o_eq k9e_30_2 ?_), r⟩
        simp (disch := omega) only [k9e_30_0, k9e_30_5, k9e_30_9, k9e_30_11, Nat.reduceEqDiff, Int.reduceEq, Int.reduceLT, Int.reduceLE, k9_ps_s, k9_ps_n, k9_ur, false_and, and_false, true_and, and_true, true_or, or_true, false_or, or_false, eq_self, ↓reduceIte, not_true_eq_false, not_false_eq_true, n_toInt, n_cl, nI_1, nI_add, n_a0, n_p2, n_p3, n_p4, n_x2, n_x3, n_x4, n_x60, n_x100, n_pm1, k9L_m2, k9L_m1, k9L_0, k9L_1, k9L_2, k9L_3, k9L_4, k9L_5, k9L_6, k9L_7, k9L_8, k9L_9, k9L_10, k9L_20, k9L_23, k9L_24, k9L_30, k9L_40, k9L_50, k9L_60, k9L_99, k9L_100, k9L_120, k9L_255, k9L_999, k9L_1000, k9_bs, k9_ba]
        repeat (first | ((with_reducible refine k9q_T ?_ ?_); · omega) | ((with_reducible refine k9q_F ?_ ?_); · omega) | ((with_reducible refine k9q_Tb ?_ ?_); · omega) | ((with_reducible refine k9q_Fb ?_ ?_); · omega) | (refine k9o_call (k9s_28x hO h100 hm6 hno) ?_; simp (disch := omega) only [k9e_30_0, k9e_30_5, k9e_30_9, k9e_30_11, Nat.reduceEqDiff, Int.reduceEq, Int.reduceLT, Int.reduceLE, k9_ps_s, k9_ps_n, k9_ur, false_and, and_false, true_and, and_true, true_or, or_true, false_or, or_false, eq_self, ↓reduceIte, not_true_eq_false, not_false_eq_true, n_toInt, n_cl, nI_1, nI_add, n_a0, n_p2, n_p3, n_p4, n_x2, n_x3, n_x4, n_x60, n_x100, n_pm1, k9L_m2, k9L_m1, k9L_0, k9L_1, k9L_2, k9L_3, k9L_4, k9L_5, k9L_6, k9L_7, k9L_8, k9L_9, k9L_10, k9L_20, k9L_23, k9L_24, k9L_30, k9L_40, k9L_50, k9L_60, k9L_99, k9L_100, k9L_120, k9L_255, k9L_999, k9L_1000, k9_bs, k9_ba]) | simp (disch := omega) only [k9e_30_0, k9e_30_5, k9e_30_9, k9e_30_11, Nat.reduceEqDiff, Int.reduceEq, Int.reduceLT, Int.reduceLE, k9_ps_s, k9_ps_n, k9_ur, false_and, and_false, true_and, and_true, true_or, or_true, false_or, or_false, eq_self, ↓reduceIte, not_true_eq_false, not_false_eq_true, n_toInt, n_cl, nI_1, nI_add, n_a0, n_p2, n_p3, n_p4, n_x2, n_x3, n_x4, n_x60, n_x100, n_pm1, k9L_m2, k9L_m1, k9L_0, k9L_1, k9L_2, k9L_3, k9L_4, k9L_5, k9L_6, k9L_7, k9L_8, k9L_9, k9L_10, k9L_20, k9L_23, k9L_24, k9L_30, k9L_40, k9L_50, k9L_60, k9L_99, k9L_100, k9L_120, k9L_255, k9L_999, k9L_1000, k9_bs, k9_ba])
        exact k9o_to e rfl
  rw [k9e_30_0]
  exact key m 0 n o I (by omega) hO hm (k9_fx_rf _ _) (fun z => ⟨z, fun k hk => by omega⟩)
/-- one at a place, the others by numbers -/
def p_ld (b pl k : Nat) : Nat := if k = pl then b else if (if k < pl then k else k - 1) < b then (if k < pl then k else k - 1) else (if k < pl then k else k - 1) + 1
/-- how many others lie below -/
def p_lr (b x : Nat) : Nat := if b < x then x - 1 else x
/-- how many there are once x are through -/
def p_ln (b pl x : Nat) : Nat := if x = 0 then 0 else p_lr b x + if pl ≤ p_lr b (x - 1) then 1 else 0
theorem k9s_31 {b pl : Nat} (hm6 : m ≤ 6) (hb : b < m) (hpl : pl < m) : ∃ I' n' o', k9_R S (d + 2) 31 0 [some (k9_r 7 i0), some (k9_i (nI b)), some (k9_i (nI pl)), some (k9_i (nI m)), none] [] I J = some (none, I', J) ∧ k9_Or I' i0 n' o' ∧ n' = m ∧ (∀ k, k < m → o' k = p_ld b pl k) ∧ k9_fx (k9_Fo i0) I I' := by
  have key : ∀ k x o1 I1, x + k = m → k9_Or I1 i0 (p_ln b pl x) o1 → (∀ k, k < p_ln b pl x → o1 k = p_ld b pl k) → k9_fx (k9_Fo i0) I I1 → ∃ I' n' o', k9_R S (d + 2) 31 5 [some (k9_r 7 i0), some (k9_i (nI b)), some (k9_i (nI pl)), some (k9_i (nI m)), some (k9_i (nI x))] [] I1 J = some (none, I', J) ∧ k9_Or I' i0 n' o' ∧ n' = m ∧ (∀ k, k < m → o' k = p_ld b pl k) ∧ k9_fx (k9_Fo i0) I I' := by
    have hld : ∀ k, k < 6 → p_ld b pl k < 100 := fun k hk => by
      unfold p_ld
      repeat' split
      all_goals omega
    intro k
    induction k with
    | zero =>
      intro x o1 I1 hj hO ho hx
      obtain rfl : x = m := by omega
      have h6 := hO.2.1
      have h1 := hO.1
      have h100 : ∀ k, k < p_ln b pl x → o1 k < 100 := fun k hk => by
        rw [ho k hk]
        exact hld k (by omega)
      by_cases h : p_ln b pl x = x
      · refine ⟨I1, p_ln b pl x, o1, k9o_of (k9o_eq k9e_31_5 ?_), hO, h, fun k hk => ho k (by omega), hx⟩
        have hi : pl < p_ln b pl x := by omega
        simp (disch := omega) only [k9e_31_0, k9e_31_8, k9e_31_12, k9e_31_16, k9e_31_19, k9e_31_23, k9e_31_25, k9e_31_29, Nat.reduceEqDiff, Int.reduceEq, Int.reduceLT, Int.reduceLE, k9_ps_s, k9_ps_n, k9_ur, false_and, and_false, true_and, and_true, true_or, or_true, false_or, or_false, eq_self, ↓reduceIte, not_true_eq_false, not_false_eq_true, n_toInt, n_cl, nI_1, nI_add, n_a0, n_p2, n_p3, n_p4, n_x2, n_x3, n_x4, n_x60, n_x100, n_pm1, k9L_m2, k9L_m1, k9L_0, k9L_1, k9L_2, k9L_3, k9L_4, k9L_5, k9L_6, k9L_7, k9L_8, k9L_9, k9L_10, k9L_20, k9L_23, k9L_24, k9L_30, k9L_40, k9L_50, k9L_60, k9L_99, k9L_100, k9L_120, k9L_255, k9L_999, k9L_1000, k9_bs, k9_ba]
        repeat (first | ((with_reducible refine k9q_T ?_ ?_); · omega) | ((with_reducible refine k9q_F ?_ ?_); · omega) | ((with_reducible refine k9q_Tb ?_ ?_); · omega) | ((with_reducible refine k9q_Fb ?_ ?_); · omega) | (refine k9o_call (k9s_28x hO h100 hm6 (Or.inr (Or.inr (Or.inr ⟨pl, hi, by rw [ho pl hi, n_toInt (by omega), p_ld, if_pos rfl]⟩)))) ?_; simp (disch := omega) only [k9e_31_0, k9e_31_8, k9e_31_12, k9e_31_16, k9e_31_19, k9e_31_23, k9e_31_25, k9e_31_29, Nat.reduceEqDiff, Int.reduceEq, Int.reduceLT, Int.reduceLE, k9_ps_s, k9_ps_n, k9_ur, false_and, and_false, true_and, and_true, true_or, or_true, false_or, or_false, eq_self, ↓reduceIte, not_true_eq_false, not_false_eq_true, n_toInt, n_cl, nI_1, nI_add, n_a0, n_p2, n_p3, n_p4, n_x2, n_x3, n_x4, n_x60, n_x100, n_pm1, k9L_m2, k9L_m1, k9L_0, k9L_1, k9L_2, k9L_3, k9L_4, k9L_5, k9L_6, k9L_7, k9L_8, k9L_9, k9L_10, k9L_20, k9L_23, k9L_24, k9L_30, k9L_40, k9L_50, k9L_60, k9L_99, k9L_100, k9L_120, k9L_255, k9L_999, k9L_1000, k9_bs, k9_ba]) | simp (disch := omega) only [k9e_31_0, k9e_31_8, k9e_31_12, k9e_31_16, k9e_31_19, k9e_31_23, k9e_31_25, k9e_31_29, Nat.reduceEqDiff, Int.reduceEq, Int.reduceLT, Int.reduceLE, k9_ps_s, k9_ps_n, k9_ur, false_and, and_false, true_and, and_true, true_or, or_true, false_or, or_false, eq_self, ↓reduceIte, not_true_eq_false, not_false_eq_true, n_toInt, n_cl, nI_1, nI_add, n_a0, n_p2, n_p3, n_p4, n_x2, n_x3, n_x4, n_x60, n_x100, n_pm1, k9L_m2, k9L_m1, k9L_0, k9L_1, k9L_2, k9L_3, k9L_4, k9L_5, k9L_6, k9L_7, k9L_8, k9L_9, k9L_10, k9L_20, k9L_23, k9L_24, k9L_30, k9L_40, k9L_50, k9L_60, k9L_99, k9L_100, k9L_120, k9L_255, k9L_999, k9L_1000, k9_bs, k9_ba])
        exact k9o_ret rfl
      · have hl : p_ln b pl x = x - 1 ∧ pl = x - 1 := by
          unfold p_ln p_lr at h ⊢
          repeat' split at h
          all_goals repeat' split
          all_goals omega
        have hno : ∀ k, k < p_ln b pl x → o1 k ≠ b := fun k hk => by
          rw [ho k hk]
          unfold p_ld
          repeat' split
          all_goals omega
        refine ⟨_, _, _, k9o_of (k9o_eq k9e_31_5 ?_), k9_Or_add (x := b) hO (by omega), by omega, fun k hk => ?_, k9_fx_u (k9_fx_u hx (k9_Fo_t _ rfl _)) (k9_Fo_t _ rfl _)⟩
        · simp (disch := omega) only [k9e_31_0, k9e_31_8, k9e_31_12, k9e_31_16, k9e_31_19, k9e_31_23, k9e_31_25, k9e_31_29, Nat.reduceEqDiff, Int.reduceEq, Int.reduceLT, Int.reduceLE, k9_ps_s, k9_ps_n, k9_ur, false_and, and_false, true_and, and_true, true_or, or_true, false_or, or_false, eq_self, ↓reduceIte, not_true_eq_false, not_false_eq_true, n_toInt, n_cl, nI_1, nI_add, n_a0, n_p2, n_p3, n_p4, n_x2, n_x3, n_x4, n_x60, n_x100, n_pm1, k9L_m2, k9L_m1, k9L_0, k9L_1, k9L_2, k9L_3, k9L_4, k9L_5, k9L_6, k9L_7, k9L_8, k9L_9, k9L_10, k9L_20, k9L_23, k9L_24, k9L_30, k9L_40, k9L_50, k9L_60, k9L_99, k9L_100, k9L_120, k9L_255, k9L_999, k9L_1000, k9_bs, k9_ba]
          repeat (first | ((with_reducible refine k9q_T ?_ ?_); · omega) | ((with_reducible refine k9q_F ?_ ?_); · omega) | ((with_reducible refine k9q_Tb ?_ ?_); · omega) | ((with_reducible refine k9q_Fb ?_ ?_); · omega) | (refine k9o_call (k9s_28 hO h100 hb hm6 (by omega) hno) ?_; simp (disch := omega) only [k9e_31_0, k9e_31_8, k9e_31_12, k9e_31_16, k9e_31_19, k9e_31_23, k9e_31_25, k9e_31_29, Nat.reduceEqDiff, Int.reduceEq, Int.reduceLT, Int.reduceLE, k9_ps_s, k9_ps_n, k9_ur, false_and, and_false, true_and, and_true, true_or, or_true, false_or, or_false, eq_self, ↓reduceIte, not_true_eq_false, not_false_eq_true, n_toInt, n_cl, nI_1, nI_add, n_a0, n_p2, n_p3, n_p4, n_x2, n_x3, n_x4, n_x60, n_x100, n_pm1, k9L_m2, k9L_m1, k9L_0, k9L_1, k9L_2, k9L_3, k9L_4, k9L_5, k9L_6, k9L_7, k9L_8, k9L_9, k9L_10, k9L_20, k9L_23, k9L_24, k9L_30, k9L_40, k9L_50, k9L_60, k9L_99, k9L_100, k9L_120, k9L_255, k9L_999, k9L_1000, k9_bs, k9_ba]) | simp (disch := omega) only [k9e_31_0, k9e_31_8, k9e_31_12, k9e_31_16, k9e_31_19, k9e_31_23, k9e_31_25, k9e_31_29, Nat.reduceEqDiff, Int.reduceEq, Int.reduceLT, Int.reduceLE, k9_ps_s, k9_ps_n, k9_ur, false_and, and_false, true_and, and_true, true_or, or_true, false_or, or_false, eq_self, ↓reduceIte, not_true_eq_false, not_false_eq_true, n_toInt, n_cl, nI_1, nI_add, n_a0, n_p2, n_p3, n_p4, n_x2, n_x3, n_x4, n_x60, n_x100, n_pm1, k9L_m2, k9L_m1, k9L_0, k9L_1, k9L_2, k9L_3, k9L_4, k9L_5, k9L_6, k9L_7, k9L_8, k9L_9, k9L_10, k9L_20, k9L_23, k9L_24, k9L_30, k9L_40, k9L_50, k9L_60, k9L_99, k9L_100, k9L_120, k9L_255, k9L_999, k9L_1000, k9_bs, k9_ba])
          exact k9o_ret rfl
        · show (if k = p_ln b pl x then b else o1 k) = _
          by_cases e : k = p_ln b pl x
          · rw [if_pos e, p_ld, if_pos (by omega)]
          · rw [if_neg e]
            exact ho k (by omega)
    | succ k ih =>
      intro x o1 I1 hj hO ho hx
      have h6 := hO.2.1
      have h1 := hO.1
      -- the piece itself, once its place is settled
      have two : ∀ n2 o2 I2, n2 = p_lr b x + (if pl ≤ p_lr b x then 1 else 0) → k9_Or I2 i0 n2 o2 → (∀ k, k < n2 → o2 k = p_ld b pl k) → k9_fx (k9_Fo i0) I I2 → ∃ I' n' o', k9_R S (d + 2) 31 16 [some (k9_r 7 i0), some (k9_i (nI b)), some (k9_i (nI pl)), some (k9_i (nI m)), some (k9_i (nI x))] [] I2 J = some (none, I', J) ∧ k9_Or I' i0 n' o' ∧ n' = m ∧ (∀ k, k < m → o' k = p_ld b pl k) ∧ k9_fx (k9_Fo i0) I I' := by
        intro n2 o2 I2 hn2 hO2 ho2 hx2
        have h62 := hO2.2.1
        have h100 : ∀ k, k < n2 → o2 k < 100 := fun k hk => by
          rw [ho2 k hk]
          exact hld k (by omega)
        by_cases hb2 : x = b
        · have hl : n2 = p_ln b pl (x + 1) := by
            rw [hn2]
            unfold p_ln p_lr
            rw [Nat.add_sub_cancel]
            repeat' split
            all_goals omega
          rw [hl] at hO2 ho2
          obtain ⟨I', n', o', e, r⟩ := ih (x + 1) o2 I2 (by omega) hO2 ho2 hx2
          refine ⟨I', n', o', k9o_of ?_, r⟩
          simp (disch := omega) only [k9e_31_0, k9e_31_8, k9e_31_12, k9e_31_16, k9e_31_19, k9e_31_23, k9e_31_25, k9e_31_29, Nat.reduceEqDiff, Int.reduceEq, Int.reduceLT, Int.reduceLE, k9_ps_s, k9_ps_n, k9_ur, false_and, and_false, true_and, and_true, true_or, or_true, false_or, or_false, eq_self, ↓reduceIte, not_true_eq_false, not_false_eq_true, n_toInt, n_cl, nI_1, nI_add, n_a0, n_p2, n_p3, n_p4, n_x2, n_x3, n_x4, n_x60, n_x100, n_pm1, k9L_m2, k9L_m1, k9L_0, k9L_1, k9L_2, k9L_3, k9L_4, k9L_5, k9L_6, k9L_7, k9L_8, k9L_9, k9L_10, k9L_20, k9L_23, k9L_24, k9L_30, k9L_40, k9L_50, k9L_60, k9L_99, k9L_100, k9L_120, k9L_255, k9L_999, k9L_1000, k9_bs, k9_ba]
          repeat (first | ((with_reducible refine k9q_T ?_ ?_); · omega) | ((with_reducible refine k9q_F ?_ ?_); · omega) | ((with_reducible refine k9q_Tb ?_ ?_); · omega) | ((with_reducible refine k9q_Fb ?_ ?_); · omega) | simp (disch := omega) only [k9e_31_0, k9e_31_8, k9e_31_12, k9e_31_16, k9e_31_19, k9e_31_23, k9e_31_25, k9e_31_29, Nat.reduceEqDiff, Int.reduceEq, Int.reduceLT, Int.reduceLE, k9_ps_s, k9_ps_n, k9_ur, false_and, and_false, true_and, and_true, true_or, or_true, false_or, or_false, eq_self, ↓reduceIte, not_true_eq_false, not_false_eq_true, n_toInt, n_cl, nI_1, nI_add, n_a0, n_p2, n_p3, n_p4, n_x2, n_x3, n_x4, n_x60, n_x100, n_pm1, k9L_m2, k9L_m1, k9L_0, k9L_1, k9L_2, k9L_3, k9L_4, k9L_5, k9L_6, k9L_7, k9L_8, k9L_9, k9L_10, k9L_20, k9L_23, k9L_24, k9L_30, k9L_40, k9L_50, k9L_60, k9L_99, k9L_100, k9L_120, k9L_255, k9L_999, k9L_1000, k9_bs, k9_ba])
          exact k9o_to e rfl
        · have hl : n2 + 1 = p_ln b pl (x + 1) := by
            rw [hn2]
            unfold p_ln p_lr
            rw [Nat.add_sub_cancel]
            repeat' split
            all_goals omega
          have hn26 : n2 < 6 := by
            rw [hn2]
            unfold p_lr
            repeat' split
            all_goals omega
          have hno : ∀ k, k < n2 → o2 k ≠ x := fun k hk => by
            rw [ho2 k hk]
            rw [hn2] at hk
            unfold p_lr at hk
            unfold p_ld
            repeat' split at hk
            all_goals repeat' split
            all_goals omega
          have hO3 := k9_Or_add (x := x) hO2 hn26
          rw [hl] at hO3
          obtain ⟨I', n', o', e, r⟩ := ih (x + 1) _ _ (by omega) hO3 (fun k hk => by
            show (if k = n2 then x else o2 k) = _
            by_cases e : k = n2
            · rw [if_pos e, e, hn2]
              unfold p_ld p_lr
              repeat' split
              all_goals omega
            · rw [if_neg e]
              exact ho2 k (by omega)) (k9_fx_u (k9_fx_u hx2 (k9_Fo_t _ rfl _)) (k9_Fo_t _ rfl _))
          rw [← hl] at e
          refine ⟨I', n', o', k9o_of ?_, r⟩
          simp (disch := omega) only [k9e_31_0, k9e_31_8, k9e_31_12, k9e_31_16, k9e_31_19, k9e_31_23, k9e_31_25, k9e_31_29, Nat.reduceEqDiff, Int.reduceEq, Int.reduceLT, Int.reduceLE, k9_ps_s, k9_ps_n, k9_ur, false_and, and_false, true_and, and_true, true_or, or_true, false_or, or_false, eq_self, ↓reduceIte, not_true_eq_false, not_false_eq_true, n_toInt, n_cl, nI_1, nI_add, n_a0, n_p2, n_p3, n_p4, n_x2, n_x3, n_x4, n_x60, n_x100, n_pm1, k9L_m2, k9L_m1, k9L_0, k9L_1, k9L_2, k9L_3, k9L_4, k9L_5, k9L_6, k9L_7, k9L_8, k9L_9, k9L_10, k9L_20, k9L_23, k9L_24, k9L_30, k9L_40, k9L_50, k9L_60, k9L_99, k9L_100, k9L_120, k9L_255, k9L_999, k9L_1000, k9_bs, k9_ba]
          repeat (first | ((with_reducible refine k9q_T ?_ ?_); · omega) | ((with_reducible refine k9q_F ?_ ?_); · omega) | ((with_reducible refine k9q_Tb ?_ ?_); · omega) | ((with_reducible refine k9q_Fb ?_ ?_); · omega) | (refine k9o_call (k9s_28 hO2 h100 (by omega : x < m) hm6 hn26 hno) ?_; simp (disch := omega) only [k9e_31_0, k9e_31_8, k9e_31_12, k9e_31_16, k9e_31_19, k9e_31_23, k9e_31_25, k9e_31_29, Nat.reduceEqDiff, Int.reduceEq, Int.reduceLT, Int.reduceLE, k9_ps_s, k9_ps_n, k9_ur, false_and, and_false, true_and, and_true, true_or, or_true, false_or, or_false, eq_self, ↓reduceIte, not_true_eq_false, not_false_eq_true, n_toInt, n_cl, nI_1, nI_add, n_a0, n_p2, n_p3, n_p4, n_x2, n_x3, n_x4, n_x60, n_x100, n_pm1, k9L_m2, k9L_m1, k9L_0, k9L_1, k9L_2, k9L_3, k9L_4, k9L_5, k9L_6, k9L_7, k9L_8, k9L_9, k9L_10, k9L_20, k9L_23, k9L_24, k9L_30, k9L_40, k9L_50, k9L_60, k9L_99, k9L_100, k9L_120, k9L_255, k9L_999, k9L_1000, k9_bs, k9_ba]) | simp (disch := omega) only [k9e_31_0, k9e_31_8, k9e_31_12, k9e_31_16, k9e_31_19, k9e_31_23, k9e_31_25, k9e_31_29, Nat.reduceEqDiff, Int.reduceEq, Int.reduceLT, Int.reduceLE, k9_ps_s, k9_ps_n, k9_ur, false_and, and_false, true_and, and_true, true_or, or_true, false_or, or_false, eq_self, ↓reduceIte, not_true_eq_false, not_false_eq_true, n_toInt, n_cl, nI_1, nI_add, n_a0, n_p2, n_p3, n_p4, n_x2, n_x3, n_x4, n_x60, n_x100, n_pm1, k9L_m2, k9L_m1, k9L_0, k9L_1, k9L_2, k9L_3, k9L_4, k9L_5, k9L_6, k9L_7, k9L_8, k9L_9, k9L_10, k9L_20, k9L_23, k9L_24, k9L_30, k9L_40, k9L_50, k9L_60, k9L_99, k9L_100, k9L_120, k9L_255, k9L_999, k9L_1000, k9_bs, k9_ba])
          exact k9o_to e rfl
      have h100 : ∀ k, k < p_ln b pl x → o1 k < 100 := fun k hk => by
        rw [ho k hk]
        exact hld k (by omega)
      by_cases hp : p_ln b pl x = pl
      · have hl : p_ln b pl x + 1 = p_lr b x + (if pl ≤ p_lr b x then 1 else 0) := by
          unfold p_ln p_lr at hp ⊢
          repeat' split at hp
          all_goals repeat' split
          all_goals omega
        have hno : ∀ k, k < p_ln b pl x → o1 k ≠ b := fun k hk => by
          rw [ho k hk]
          unfold p_ld
          repeat' split
          all_goals omega
        obtain ⟨I', n', o', e, r⟩ := two _ _ _ hl (k9_Or_add (x := b) hO (by omega)) (fun k hk => by
          show (if k = p_ln b pl x then b else o1 k) = _
          by_cases e : k = p_ln b pl x
          · rw [if_pos e, p_ld, if_pos (by omega)]
          · rw [if_neg e]
            exact ho k (by omega)) (k9_fx_u (k9_fx_u hx (k9_Fo_t _ rfl _)) (k9_Fo_t _ rfl _))
        refine ⟨I', n', o', k9o_of (k9o_eq k9e_31_5 ?_), r⟩
        refine k9o_F (by rw [n_toInt (by omega), n_toInt (by omega)]; omega) (k9o_eq k9e_31_8 ?_)
        refine k9o_T (by rw [h1, hp]) (k9o_eq k9e_31_12 ?_)
        refine k9o_call (k9s_28 hO h100 hb hm6 (by omega) hno) ?_
        simp only [k9_ps_n]
        exact k9o_to e rfl
      · have hl : p_ln b pl x = p_lr b x + (if pl ≤ p_lr b x then 1 else 0) := by
          unfold p_ln p_lr at hp ⊢
          repeat' split at hp
          all_goals repeat' split
          all_goals omega
        obtain ⟨I', n', o', e, r⟩ := two _ _ _ hl hO ho hx
        refine ⟨I', n', o', k9o_of (k9o_eq k9e_31_5 ?_), r⟩
        refine k9o_F (by rw [n_toInt (by omega), n_toInt (by omega)]; omega) (k9o_eq k9e_31_8 ?_)
        refine k9o_F (by rw [h1, n_toInt (by omega), n_toInt (by omega)]; omega) ?_
        exact k9o_to e rfl
  rw [k9e_31_0]
  exact key m 0 (fun _ => 0) _ (by omega) k9_Or_0 (fun k hk => by
    rw [p_ln, if_pos rfl] at hk
    omega) (k9_fx_u (k9_fx_rf _ _) (k9_Fo_t _ rfl _))
theorem k9s_27 (hne : i0 ≠ i1) (hO : k9_Or I i1 n o) : ∃ I', k9_R S d 27 0 [some (k9_r 7 i0), some (k9_r 7 i1), none] [] I J = some (none, I', J) ∧ k9_Or I' i0 n o ∧ k9_fx (k9_Fo i0) I I' := by
  obtain ⟨h1, h6, h3⟩ := hO
  have key : ∀ k j I1, j + k = n → I1 7 i0 1 = nI n → (∀ k, k < j → I1 30 i0 k = nI (o k)) → k9_fx (k9_Fo i0) I I1 → ∃ I', k9_R S d 27 6 [some (k9_r 7 i0), some (k9_r 7 i1), some (k9_i (nI j))] [] I1 J = some (none, I', J) ∧ k9_Or I' i0 n o ∧ k9_fx (k9_Fo i0) I I' := by
    intro k
    induction k with
    | zero =>
      intro j I1 hj hn ho hx
      obtain rfl : j = n := by omega
      refine ⟨I1, k9o_of (k9o_eq k9e_27_6 ?_), ⟨hn, h6, ho⟩, hx⟩
      simp (disch := omega) only [k9e_27_0, k9e_27_10, k9e_27_13, k9e_27_20, k9e_27_21, k9e_27_23, Nat.reduceEqDiff, Int.reduceEq, Int.reduceLT, Int.reduceLE, k9_ps_s, k9_ps_n, k9_ur, false_and, and_false, true_and, and_true, true_or, or_true, false_or, or_false, eq_self, ↓reduceIte, not_true_eq_false, not_false_eq_true, n_toInt, n_cl, nI_1, nI_add, n_a0, n_p2, n_p3, n_p4, n_x2, n_x3, n_x4, n_x60, n_x100, n_pm1, k9L_m2, k9L_m1, k9L_0, k9L_1, k9L_2, k9L_3, k9L_4, k9L_5, k9L_6, k9L_7, k9L_8, k9L_9, k9L_10, k9L_20, k9L_23, k9L_24, k9L_30, k9L_40, k9L_50, k9L_60, k9L_99, k9L_100, k9L_120, k9L_255, k9L_999, k9L_1000, k9_bs, k9_ba, hn]
      repeat (first | ((with_reducible refine k9q_T ?_ ?_); · omega) | ((with_reducible refine k9q_F ?_ ?_); · omega) | ((with_reducible refine k9q_Tb ?_ ?_); · omega) | ((with_reducible refine k9q_Fb ?_ ?_); · omega) | simp (disch := omega) only [k9e_27_0, k9e_27_10, k9e_27_13, k9e_27_20, k9e_27_21, k9e_27_23, Nat.reduceEqDiff, Int.reduceEq, Int.reduceLT, Int.reduceLE, k9_ps_s, k9_ps_n, k9_ur, false_and, and_false, true_and, and_true, true_or, or_true, false_or, or_false, eq_self, ↓reduceIte, not_true_eq_false, not_false_eq_true, n_toInt, n_cl, nI_1, nI_add, n_a0, n_p2, n_p3, n_p4, n_x2, n_x3, n_x4, n_x60, n_x100, n_pm1, k9L_m2, k9L_m1, k9L_0, k9L_1, k9L_2, k9L_3, k9L_4, k9L_5, k9L_6, k9L_7, k9L_8, k9L_9, k9L_10, k9L_20, k9L_23, k9L_24, k9L_30, k9L_40, k9L_50, k9L_60, k9L_99, k9L_100, k9L_120, k9L_255, k9L_999, k9L_1000, k9_bs, k9_ba, hn])
      exact k9o_ret rfl
    | succ k ih =>
      intro j I1 hj hn ho hx
      have a : I1 30 i1 j = nI (o j) := (hx 30 i1 j (by
        unfold k9_Fo
        cases e : Nat.beq i1 i0 with
        | false => rw [Bool.and_false]
        | true => exact absurd (Nat.eq_of_beq_eq_true e).symm hne)).trans (h3 j (by omega))
      obtain ⟨I', e, r⟩ := ih (j + 1) (k9_u I1 30 i0 j (nI (o j))) (by omega) (by simpa [k9_ur] using hn) (fun k hk => by
        by_cases e : k = j
        · simp [k9_ur, e]
        · simpa [k9_ur, e] using ho k (by omega)) (k9_fx_u hx (k9_Fo_t _ rfl _))
      refine ⟨I', k9o_of (k9o_eq k9e_27_6 ?_), r⟩
      simp (disch := omega) only [k9e_27_0, k9e_27_10, k9e_27_13, k9e_27_20, k9e_27_21, k9e_27_23, Nat.reduceEqDiff, Int.reduceEq, Int.reduceLT, Int.reduceLE, k9_ps_s, k9_ps_n, k9_ur, false_and, and_false, true_and, and_true, true_or, or_true, false_or, or_false, eq_self, ↓reduceIte, not_true_eq_false, not_false_eq_true, n_toInt, n_cl, nI_1, nI_add, n_a0, n_p2, n_p3, n_p4, n_x2, n_x3, n_x4, n_x60, n_x100, n_pm1, k9L_m2, k9L_m1, k9L_0, k9L_1, k9L_2, k9L_3, k9L_4, k9L_5, k9L_6, k9L_7, k9L_8, k9L_9, k9L_10, k9L_20, k9L_23, k9L_24, k9L_30, k9L_40, k9L_50, k9L_60, k9L_99, k9L_100, k9L_120, k9L_255, k9L_999, k9L_1000, k9_bs, k9_ba, hn, a]
      repeat (first | ((with_reducible refine k9q_T ?_ ?_); · omega) | ((with_reducible refine k9q_F ?_ ?_); · omega) | ((with_reducible refine k9q_Tb ?_ ?_); · omega) | ((with_reducible refine k9q_Fb ?_ ?_); · omega) | simp (disch := omega) only [k9e_27_0, k9e_27_10, k9e_27_13, k9e_27_20, k9e_27_21, k9e_27_23, Nat.reduceEqDiff, Int.reduceEq, Int.reduceLT, Int.reduceLE, k9_ps_s, k9_ps_n, k9_ur, false_and, and_false, true_and, and_true, true_or, or_true, false_or, or_false, eq_self, ↓reduceIte, not_true_eq_false, not_false_eq_true, n_toInt, n_cl, nI_1, nI_add, n_a0, n_p2, n_p3, n_p4, n_x2, n_x3, n_x4, n_x60, n_x100, n_pm1, k9L_m2, k9L_m1, k9L_0, k9L_1, k9L_2, k9L_3, k9L_4, k9L_5, k9L_6, k9L_7, k9L_8, k9L_9, k9L_10, k9L_20, k9L_23, k9L_24, k9L_30, k9L_40, k9L_50, k9L_60, k9L_99, k9L_100, k9L_120, k9L_255, k9L_999, k9L_1000, k9_bs, k9_ba, hn, a])
      exact k9o_to e rfl
  rw [k9e_27_0]
  exact key n 0 _ (by omega) (by simpa [k9_ur] using h1) (fun k hk => by omega) (k9_fx_u (k9_fx_rf _ _) (k9_Fo_t _ rfl _))
end KO
