/-! WORK: copies, draws, the largest -/
section KW3
variable {S : k9_S} {d : Nat} {I : k9_I} {J : k9_J} {i0 i1 i2 : Nat} {w : Nat → Nat → Nat}
def k9_Or (I : k9_I) (i n : Nat) (o : Nat → Nat) : Prop := I 7 i 1 = nI n ∧ n ≤ 6 ∧ ∀ k, k < n → I 30 i k = nI (o k)
theorem k9s_25 {n k : Nat} {o : Nat → Nat} (hO : k9_Or I i0 n o) (hk : k < 100) : k9_R S d 25 0 [some (k9_r 7 i0), some (k9_i (nI k))] [] I J = some (some (k9_i (nI (if k < n then o k else 0))), I, J) := by
  obtain ⟨h1, h2, h3⟩ := hO
  refine k9o_of ?_
  by_cases h : k < n
  · rw [if_pos h]
    simp (disch := omega) only [k9e_25_0, k9e_25_2, k9e_25_6, k9e_25_9, k9e_25_13, k9e_25_14, k9e_25_15, Nat.reduceEqDiff, Int.reduceEq, Int.reduceLT, Int.reduceLE, k9_ps_s, k9_ps_n, k9_ur, false_and, and_false, true_and, and_true, true_or, or_true, false_or, or_false, eq_self, ↓reduceIte, not_true_eq_false, not_false_eq_true, n_toInt, n_cl, nI_1, nI_add, n_a0, n_p2, n_p3, n_p4, n_x2, n_x3, n_x4, n_x60, n_x100, n_pm1, k9L_m2, k9L_m1, k9L_0, k9L_1, k9L_2, k9L_3, k9L_4, k9L_5, k9L_6, k9L_7, k9L_8, k9L_9, k9L_10, k9L_20, k9L_23, k9L_24, k9L_30, k9L_40, k9L_50, k9L_60, k9L_99, k9L_100, k9L_120, k9L_255, k9L_999, k9L_1000, k9_bs, k9_ba, h1, h3 k h]
    repeat (first | ((with_reducible refine k9q_T ?_ ?_); · omega) | ((with_reducible refine k9q_F ?_ ?_); · omega) | ((with_reducible refine k9q_Tb ?_ ?_); · omega) | ((with_reducible refine k9q_Fb ?_ ?_); · omega) | simp (disch := omega) only [k9e_25_0, k9e_25_2, k9e_25_6, k9e_25_9, k9e_25_13, k9e_25_14, k9e_25_15, Nat.reduceEqDiff, Int.reduceEq, Int.reduceLT, Int.reduceLE, k9_ps_s, k9_ps_n, k9_ur, false_and, and_false, true_and, and_true, true_or, or_true, false_or, or_false, eq_self, ↓reduceIte, not_true_eq_false, not_false_eq_true, n_toInt, n_cl, nI_1, nI_add, n_a0, n_p2, n_p3, n_p4, n_x2, n_x3, n_x4, n_x60, n_x100, n_pm1, k9L_m2, k9L_m1, k9L_0, k9L_1, k9L_2, k9L_3, k9L_4, k9L_5, k9L_6, k9L_7, k9L_8, k9L_9, k9L_10, k9L_20, k9L_23, k9L_24, k9L_30, k9L_40, k9L_50, k9L_60, k9L_99, k9L_100, k9L_120, k9L_255, k9L_999, k9L_1000, k9_bs, k9_ba, h1, h3 k h])
    exact k9o_ret rfl
  · rw [if_neg h]
    simp (disch := omega) only [k9e_25_0, k9e_25_2, k9e_25_6, k9e_25_9, k9e_25_13, k9e_25_14, k9e_25_15, Nat.reduceEqDiff, Int.reduceEq, Int.reduceLT, Int.reduceLE, k9_ps_s, k9_ps_n, k9_ur, false_and, and_false, true_and, and_true, true_or, or_true, false_or, or_false, eq_self, ↓reduceIte, not_true_eq_false, not_false_eq_true, n_toInt, n_cl, nI_1, nI_add, n_a0, n_p2, n_p3, n_p4, n_x2, n_x3, n_x4, n_x60, n_x100, n_pm1, k9L_m2, k9L_m1, k9L_0, k9L_1, k9L_2, k9L_3, k9L_4, k9L_5, k9L_6, k9L_7, k9L_8, k9L_9, k9L_10, k9L_20, k9L_23, k9L_24, k9L_30, k9L_40, k9L_50, k9L_60, k9L_99, k9L_100, k9L_120, k9L_255, k9L_999, k9L_1000, k9_bs, k9_ba, h1]
    repeat (first | ((with_reducible refine k9q_T ?_ ?_); · omega) | ((with_reducible refine k9q_F ?_ ?_); · omega) | ((with_reducible refine k9q_Tb ?_ ?_); · omega) | ((with_reducible refine k9q_Fb ?_ ?_); · omega) | simp (disch := omega) only [k9e_25_0, k9e_25_2, k9e_25_6, k9e_25_9, k9e_25_13, k9e_25_14, k9e_25_15, Nat.reduceEqDiff, Int.reduceEq, Int.reduceLT, Int.reduceLE, k9_ps_s, k9_ps_n, k9_ur, false_and, and_false, true_and, and_true, true_or, or_true, false_or, or_false, eq_self, ↓reduceIte, not_true_eq_false, not_false_eq_true, n_toInt, n_cl, nI_1, nI_add, n_a0, n_p2, n_p3, n_p4, n_x2, n_x3, n_x4, n_x60, n_x100, n_pm1, k9L_m2, k9L_m1, k9L_0, k9L_1, k9L_2, k9L_3, k9L_4, k9L_5, k9L_6, k9L_7, k9L_8, k9L_9, k9L_10, k9L_20, k9L_23, k9L_24, k9L_30, k9L_40, k9L_50, k9L_60, k9L_99, k9L_100, k9L_120, k9L_255, k9L_999, k9L_1000, k9_bs, k9_ba, h1])
    exact k9o_ret rfl
/-- the settings, and the first p pieces -/
def k9_Cp (I0 I : k9_I) (i : Nat) (w : Nat → Nat → Nat) (p : Nat) : Prop :=
  (I 3 i 0 = nI (w 7 0) ∧ I 3 i 1 = nI (w 4 0) ∧ I 3 i 2 = nI (w 5 0) ∧ I 3 i 3 = nI (w 6 0) ∧
  ∀ p', p' < p → I 20 i p' = nI (w 0 p') ∧ I 21 i p' = nI (w 1 p') ∧ I 22 i p' = nI (w 2 p') ∧ I 23 i p' = nI (w 3 p')) ∧ k9_fx (k9_Fw i) I0 I
theorem k9_Fw_t (k : Nat) (h : (Nat.beq k 3 || Nat.beq k 20 || Nat.beq k 21 || Nat.beq k 22 || Nat.beq k 23) = true) (p : Nat) : k9_Fw i0 k i0 p = true := by
  unfold k9_Fw
  rw [h, k9_beq_self]
  rfl
theorem k9_Fw_f {k i p : Nat} (h : i ≠ i0) : k9_Fw i0 k i p = false := by
  unfold k9_Fw
  cases h2 : Nat.beq i i0 with
  | false => rw [Bool.and_false]
  | true => exact absurd (Nat.eq_of_beq_eq_true h2) h
theorem k9_Cp_s {I0 : k9_I} {p : Nat} (h : k9_Cp I0 I i0 w p) : k9_Cp I0 (c_cp I i0 p (nI (w 0 p)) (nI (w 1 p)) (nI (w 2 p)) (nI (w 3 p))) i0 w (p + 1) := by
  obtain ⟨⟨w0, w1, w2, w3, w4⟩, hfx⟩ := h
  refine ⟨⟨?_, ?_, ?_, ?_, fun p' hp' => ?_⟩, ?_⟩
  · simpa [c_cp, k9_ur] using w0
  · simpa [c_cp, k9_ur] using w1
  · simpa [c_cp, k9_ur] using w2
  · simpa [c_cp, k9_ur] using w3
  · by_cases e : p' = p
    · simp [c_cp, k9_ur, e]
    · simpa [c_cp, k9_ur, e] using w4 p' (by omega)
  · exact k9_fx_u (k9_fx_u (k9_fx_u (k9_fx_u hfx (k9_Fw_t _ rfl _)) (k9_Fw_t _ rfl _)) (k9_Fw_t _ rfl _)) (k9_Fw_t _ rfl _)
theorem k9_Wk_Fw {I' : k9_I} (h : k9_fx (k9_Fw i0) I I') (hne : i0 ≠ i1) (hW : k9_Wk I i1 w) : k9_Wk I' i1 w :=
  k9_Wk_fx h (fun p => ⟨k9_Fw_f (Ne.symm hne), k9_Fw_f (Ne.symm hne), k9_Fw_f (Ne.symm hne), k9_Fw_f (Ne.symm hne), k9_Fw_f (Ne.symm hne)⟩) hW
theorem k9s_15 (hne : i0 ≠ i1) (hW : k9_Wk I i1 w) (hf : k9_wf w) : ∃ I', k9_R S (d + 2) 15 0 [some (k9_r 3 i0), some (k9_r 3 i1), none] [] I J = some (none, I', J) ∧ k9_Wk I' i0 w ∧ k9_fx (k9_Fw i0) I I' := by
  have h6 := hf.1
  have key : ∀ k p I1, p + k = w 7 0 → k9_Cp I I1 i0 w p → ∃ I', k9_R S (d + 2) 15 5 [some (k9_r 3 i0), some (k9_r 3 i1), some (k9_i (nI p))] [] I1 J = some (none, I', J) ∧ k9_Cp I I' i0 w (w 7 0) := by
    intro k
    induction k with
    | zero =>
      intro p I1 hp hC
      obtain rfl : p = w 7 0 := by omega
      refine ⟨I1, k9o_of (k9o_eq k9e_15_5 ?_), hC⟩
      simp (disch := omega) only [k9e_15_0, k9e_15_3, k9e_15_9, k9e_15_14, k9e_15_16, Nat.reduceEqDiff, Int.reduceEq, Int.reduceLT, Int.reduceLE, k9_ps_s, k9_ps_n, k9_ur, false_and, and_false, true_and, and_true, true_or, or_true, false_or, or_false, eq_self, ↓reduceIte, not_true_eq_false, not_false_eq_true, n_toInt, n_cl, nI_1, nI_add, n_a0, n_p2, n_p3, n_p4, n_x2, n_x3, n_x4, n_x60, n_x100, n_pm1, k9L_m2, k9L_m1, k9L_0, k9L_1, k9L_2, k9L_3, k9L_4, k9L_5, k9L_6, k9L_7, k9L_8, k9L_9, k9L_10, k9L_20, k9L_23, k9L_24, k9L_30, k9L_40, k9L_50, k9L_60, k9L_99, k9L_100, k9L_120, k9L_255, k9L_999, k9L_1000, k9_bs, k9_ba, hC.1.1]
      repeat (first | ((with_reducible refine k9q_T ?_ ?_); · omega) | ((with_reducible refine k9q_F ?_ ?_); · omega) | ((with_reducible refine k9q_Tb ?_ ?_); · omega) | ((with_reducible refine k9q_Fb ?_ ?_); · omega) | simp (disch := omega) only [k9e_15_0, k9e_15_3, k9e_15_9, k9e_15_14, k9e_15_16, Nat.reduceEqDiff, Int.reduceEq, Int.reduceLT, Int.reduceLE, k9_ps_s, k9_ps_n, k9_ur, false_and, and_false, true_and, and_true, true_or, or_true, false_or, or_false, eq_self, ↓reduceIte, not_true_eq_false, not_false_eq_true, n_toInt, n_cl, nI_1, nI_add, n_a0, n_p2, n_p3, n_p4, n_x2, n_x3, n_x4, n_x60, n_x100, n_pm1, k9L_m2, k9L_m1, k9L_0, k9L_1, k9L_2, k9L_3, k9L_4, k9L_5, k9L_6, k9L_7, k9L_8, k9L_9, k9L_10, k9L_20, k9L_23, k9L_24, k9L_30, k9L_40, k9L_50, k9L_60, k9L_99, k9L_100, k9L_120, k9L_255, k9L_999, k9L_1000, k9_bs, k9_ba, hC.1.1])
      exact k9o_ret rfl
    | succ k ih =>
      intro p I1 hp hC
      have hW1 := k9_Wk_Fw hC.2 hne hW
      obtain ⟨I', e, h⟩ := ih (p + 1) _ (by omega) (k9_Cp_s hC)
      refine ⟨I', k9o_of (k9o_eq k9e_15_5 ?_), h⟩
      simp (disch := omega) only [k9e_15_0, k9e_15_3, k9e_15_9, k9e_15_14, k9e_15_16, Nat.reduceEqDiff, Int.reduceEq, Int.reduceLT, Int.reduceLE, k9_ps_s, k9_ps_n, k9_ur, false_and, and_false, true_and, and_true, true_or, or_true, false_or, or_false, eq_self, ↓reduceIte, not_true_eq_false, not_false_eq_true, n_toInt, n_cl, nI_1, nI_add, n_a0, n_p2, n_p3, n_p4, n_x2, n_x3, n_x4, n_x60, n_x100, n_pm1, k9L_m2, k9L_m1, k9L_0, k9L_1, k9L_2, k9L_3, k9L_4, k9L_5, k9L_6, k9L_7, k9L_8, k9L_9, k9L_10, k9L_20, k9L_23, k9L_24, k9L_30, k9L_40, k9L_50, k9L_60, k9L_99, k9L_100, k9L_120, k9L_255, k9L_999, k9L_1000, k9_bs, k9_ba, hC.1.1]
      repeat (first | ((with_reducible refine k9q_T ?_ ?_); · omega) | ((with_reducible refine k9q_F ?_ ?_); · omega) | ((with_reducible refine k9q_Tb ?_ ?_); · omega) | ((with_reducible refine k9q_Fb ?_ ?_); · omega) | (refine k9o_call (k9s_18 hne hC.1.1 h6 (by omega : p < w 7 0) hW1 hf (by omega : p < w 7 0)) ?_; simp (disch := omega) only [k9e_15_0, k9e_15_3, k9e_15_9, k9e_15_14, k9e_15_16, Nat.reduceEqDiff, Int.reduceEq, Int.reduceLT, Int.reduceLE, k9_ps_s, k9_ps_n, k9_ur, false_and, and_false, true_and, and_true, true_or, or_true, false_or, or_false, eq_self, ↓reduceIte, not_true_eq_false, not_false_eq_true, n_toInt, n_cl, nI_1, nI_add, n_a0, n_p2, n_p3, n_p4, n_x2, n_x3, n_x4, n_x60, n_x100, n_pm1, k9L_m2, k9L_m1, k9L_0, k9L_1, k9L_2, k9L_3, k9L_4, k9L_5, k9L_6, k9L_7, k9L_8, k9L_9, k9L_10, k9L_20, k9L_23, k9L_24, k9L_30, k9L_40, k9L_50, k9L_60, k9L_99, k9L_100, k9L_120, k9L_255, k9L_999, k9L_1000, k9_bs, k9_ba, hC.1.1]) | simp (disch := omega) only [k9e_15_0, k9e_15_3, k9e_15_9, k9e_15_14, k9e_15_16, Nat.reduceEqDiff, Int.reduceEq, Int.reduceLT, Int.reduceLE, k9_ps_s, k9_ps_n, k9_ur, false_and, and_false, true_and, and_true, true_or, or_true, false_or, or_false, eq_self, ↓reduceIte, not_true_eq_false, not_false_eq_true, n_toInt, n_cl, nI_1, nI_add, n_a0, n_p2, n_p3, n_p4, n_x2, n_x3, n_x4, n_x60, n_x100, n_pm1, k9L_m2, k9L_m1, k9L_0, k9L_1, k9L_2, k9L_3, k9L_4, k9L_5, k9L_6, k9L_7, k9L_8, k9L_9, k9L_10, k9L_20, k9L_23, k9L_24, k9L_30, k9L_40, k9L_50, k9L_60, k9L_99, k9L_100, k9L_120, k9L_255, k9L_999, k9L_1000, k9_bs, k9_ba, hC.1.1])
      exact k9o_to e rfl
  obtain ⟨I', e, h⟩ := key (w 7 0) 0 (k9_u (k9_u (k9_u (k9_u I 3 i0 0 (I 3 i1 0)) 3 i0 1 (I 3 i1 1)) 3 i0 2 (I 3 i1 2)) 3 i0 3 (I 3 i1 3)) (by omega) ⟨⟨by simp [k9_ur, hW.1], by simp [k9_ur, hW.2.1], by simp [k9_ur, hW.2.2.1], by simp [k9_ur, hW.2.2.2.1], fun p' hp' => by omega⟩, k9_fx_u (k9_fx_u (k9_fx_u (k9_fx_u (k9_fx_rf _ _) (k9_Fw_t _ rfl _)) (k9_Fw_t _ rfl _)) (k9_Fw_t _ rfl _)) (k9_Fw_t _ rfl _)⟩
  refine ⟨I', k9o_of ?_, h.1, h.2⟩
  simp (disch := omega) only [k9e_15_0, k9e_15_3, k9e_15_9, k9e_15_14, k9e_15_16, Nat.reduceEqDiff, Int.reduceEq, Int.reduceLT, Int.reduceLE, k9_ps_s, k9_ps_n, k9_ur, false_and, and_false, true_and, and_true, true_or, or_true, false_or, or_false, eq_self, ↓reduceIte, not_true_eq_false, not_false_eq_true, n_toInt, n_cl, nI_1, nI_add, n_a0, n_p2, n_p3, n_p4, n_x2, n_x3, n_x4, n_x60, n_x100, n_pm1, k9L_m2, k9L_m1, k9L_0, k9L_1, k9L_2, k9L_3, k9L_4, k9L_5, k9L_6, k9L_7, k9L_8, k9L_9, k9L_10, k9L_20, k9L_23, k9L_24, k9L_30, k9L_40, k9L_50, k9L_60, k9L_99, k9L_100, k9L_120, k9L_255, k9L_999, k9L_1000, k9_bs, k9_ba]
  repeat (first | ((with_reducible refine k9q_T ?_ ?_); · omega) | ((with_reducible refine k9q_F ?_ ?_); · omega) | ((with_reducible refine k9q_Tb ?_ ?_); · omega) | ((with_reducible refine k9q_Fb ?_ ?_); · omega) | (refine k9o_call (k9s_17) ?_; simp (disch := omega) only [k9e_15_0, k9e_15_3, k9e_15_9, k9e_15_14, k9e_15_16, Nat.reduceEqDiff, Int.reduceEq, Int.reduceLT, Int.reduceLE, k9_ps_s, k9_ps_n, k9_ur, false_and, and_false, true_and, and_true, true_or, or_true, false_or, or_false, eq_self, ↓reduceIte, not_true_eq_false, not_false_eq_true, n_toInt, n_cl, nI_1, nI_add, n_a0, n_p2, n_p3, n_p4, n_x2, n_x3, n_x4, n_x60, n_x100, n_pm1, k9L_m2, k9L_m1, k9L_0, k9L_1, k9L_2, k9L_3, k9L_4, k9L_5, k9L_6, k9L_7, k9L_8, k9L_9, k9L_10, k9L_20, k9L_23, k9L_24, k9L_30, k9L_40, k9L_50, k9L_60, k9L_99, k9L_100, k9L_120, k9L_255, k9L_999, k9L_1000, k9_bs, k9_ba]) | simp (disch := omega) only [k9e_15_0, k9e_15_3, k9e_15_9, k9e_15_14, k9e_15_16, Nat.reduceEqDiff, Int.reduceEq, Int.reduceLT, Int.reduceLE, k9_ps_s, k9_ps_n, k9_ur, false_and, and_false, true_and, and_true, true_or, or_true, false_or, or_false, eq_self, ↓reduceIte, not_true_eq_false, not_false_eq_true, n_toInt, n_cl, nI_1, nI_add, n_a0, n_p2, n_p3, n_p4, n_x2, n_x3, n_x4, n_x60, n_x100, n_pm1, k9L_m2, k9L_m1, k9L_0, k9L_1, k9L_2, k9L_3, k9L_4, k9L_5, k9L_6, k9L_7, k9L_8, k9L_9, k9L_10, k9L_20, k9L_23, k9L_24, k9L_30, k9L_40, k9L_50, k9L_60, k9L_99, k9L_100, k9L_120, k9L_255, k9L_999, k9L_1000, k9_bs, k9_ba])
  exact k9o_to e rfl
/-- the pieces in an order -/
def p_cm (w : Nat → Nat → Nat) (o : Nat → Nat) : Nat → Nat → Nat := fun q p => if q < 4 then w q (o p) else w q p
theorem k9_wf_cm {o : Nat → Nat} (hf : k9_wf w) (ho : ∀ k, k < w 7 0 → o k < w 7 0) : k9_wf (p_cm w o) := by
  obtain ⟨h1, h2, h3, h4, h5⟩ := hf
  exact ⟨h1, h2, h3, h4, fun p hp => h5 (o p) (ho p hp)⟩
theorem k9s_16 {n : Nat} {o : Nat → Nat} (hne : i0 ≠ i1) (hW : k9_Wk I i1 w) (hf : k9_wf w) (hO : k9_Or I i2 n o) (ho : ∀ k, k < w 7 0 → (if k < n then o k else 0) < w 7 0) : ∃ I', k9_R S (d + 2) 16 0 [some (k9_r 3 i0), some (k9_r 3 i1), some (k9_r 7 i2), none] [] I J = some (none, I', J) ∧ k9_Wk I' i0 (p_cm w (fun k => if k < n then o k else 0)) ∧ k9_fx (k9_Fw i0) I I' := by
  have h6 := hf.1
  have key : ∀ k p I1, p + k = w 7 0 → k9_Cp I I1 i0 (p_cm w (fun k => if k < n then o k else 0)) p → ∃ I', k9_R S (d + 2) 16 5 [some (k9_r 3 i0), some (k9_r 3 i1), some (k9_r 7 i2), some (k9_i (nI p))] [] I1 J = some (none, I', J) ∧ k9_Cp I I' i0 (p_cm w (fun k => if k < n then o k else 0)) (w 7 0) := by
    intro k
    induction k with
    | zero =>
      intro p I1 hp hC
      obtain rfl : p = w 7 0 := by omega
      have hc : I1 3 i0 0 = nI (w 7 0) := hC.1.1
      refine ⟨I1, k9o_of (k9o_eq k9e_16_5 ?_), hC⟩
      simp (disch := omega) only [k9e_16_0, k9e_16_3, k9e_16_9, k9e_16_15, k9e_16_16, k9e_16_18, Nat.reduceEqDiff, Int.reduceEq, Int.reduceLT, Int.reduceLE, k9_ps_s, k9_ps_n, k9_ur, false_and, and_false, true_and, and_true, true_or, or_true, false_or, or_false, eq_self, ↓reduceIte, not_true_eq_false, not_false_eq_true, n_toInt, n_cl, nI_1, nI_add, n_a0, n_p2, n_p3, n_p4, n_x2, n_x3, n_x4, n_x60, n_x100, n_pm1, k9L_m2, k9L_m1, k9L_0, k9L_1, k9L_2, k9L_3, k9L_4, k9L_5, k9L_6, k9L_7, k9L_8, k9L_9, k9L_10, k9L_20, k9L_23, k9L_24, k9L_30, k9L_40, k9L_50, k9L_60, k9L_99, k9L_100, k9L_120, k9L_255, k9L_999, k9L_1000, k9_bs, k9_ba, hc]
      repeat (first | ((with_reducible refine k9q_T ?_ ?_); · omega) | ((with_reducible refine k9q_F ?_ ?_); · omega) | ((with_reducible refine k9q_Tb ?_ ?_); · omega) | ((with_reducible refine k9q_Fb ?_ ?_); · omega) | simp (disch := omega) only [k9e_16_0, k9e_16_3, k9e_16_9, k9e_16_15, k9e_16_16, k9e_16_18, Nat.reduceEqDiff, Int.reduceEq, Int.reduceLT, Int.reduceLE, k9_ps_s, k9_ps_n, k9_ur, false_and, and_false, true_and, and_true, true_or, or_true, false_or, or_false, eq_self, ↓reduceIte, not_true_eq_false, not_false_eq_true, n_toInt, n_cl, nI_1, nI_add, n_a0, n_p2, n_p3, n_p4, n_x2, n_x3, n_x4, n_x60, n_x100, n_pm1, k9L_m2, k9L_m1, k9L_0, k9L_1, k9L_2, k9L_3, k9L_4, k9L_5, k9L_6, k9L_7, k9L_8, k9L_9, k9L_10, k9L_20, k9L_23, k9L_24, k9L_30, k9L_40, k9L_50, k9L_60, k9L_99, k9L_100, k9L_120, k9L_255, k9L_999, k9L_1000, k9_bs, k9_ba, hc])
      exact k9o_ret rfl
    | succ k ih =>
      intro p I1 hp hC
      have hW1 := k9_Wk_Fw hC.2 hne hW
      have hc : I1 3 i0 0 = nI (w 7 0) := hC.1.1
      have hO1 : k9_Or I1 i2 n o := ⟨(hC.2 7 i2 1 rfl).trans hO.1, hO.2.1, fun k hk => (hC.2 30 i2 k rfl).trans (hO.2.2 k hk)⟩
      obtain ⟨I', e, h⟩ := ih (p + 1) _ (by omega) (k9_Cp_s hC)
      refine ⟨I', k9o_of (k9o_eq k9e_16_5 ?_), h⟩
      simp (disch := omega) only [k9e_16_0, k9e_16_3, k9e_16_9, k9e_16_15, k9e_16_16, k9e_16_18, Nat.reduceEqDiff, Int.reduceEq, Int.reduceLT, Int.reduceLE, k9_ps_s, k9_ps_n, k9_ur, false_and, and_false, true_and, and_true, true_or, or_true, false_or, or_false, eq_self, ↓reduceIte, not_true_eq_false, not_false_eq_true, n_toInt, n_cl, nI_1, nI_add, n_a0, n_p2, n_p3, n_p4, n_x2, n_x3, n_x4, n_x60, n_x100, n_pm1, k9L_m2, k9L_m1, k9L_0, k9L_1, k9L_2, k9L_3, k9L_4, k9L_5, k9L_6, k9L_7, k9L_8, k9L_9, k9L_10, k9L_20, k9L_23, k9L_24, k9L_30, k9L_40, k9L_50, k9L_60, k9L_99, k9L_100, k9L_120, k9L_255, k9L_999, k9L_1000, k9_bs, k9_ba, hc]
      repeat (first | ((with_reducible refine k9q_T ?_ ?_); · omega) | ((with_reducible refine k9q_F ?_ ?_); · omega) | ((with_reducible refine k9q_Tb ?_ ?_); · omega) | ((with_reducible refine k9q_Fb ?_ ?_); · omega) | (refine k9o_call (k9s_25 hO1 (by omega : p < 100)) ?_; simp (disch := omega) only [k9e_16_0, k9e_16_3, k9e_16_9, k9e_16_15, k9e_16_16, k9e_16_18, Nat.reduceEqDiff, Int.reduceEq, Int.reduceLT, Int.reduceLE, k9_ps_s, k9_ps_n, k9_ur, false_and, and_false, true_and, and_true, true_or, or_true, false_or, or_false, eq_self, ↓reduceIte, not_true_eq_false, not_false_eq_true, n_toInt, n_cl, nI_1, nI_add, n_a0, n_p2, n_p3, n_p4, n_x2, n_x3, n_x4, n_x60, n_x100, n_pm1, k9L_m2, k9L_m1, k9L_0, k9L_1, k9L_2, k9L_3, k9L_4, k9L_5, k9L_6, k9L_7, k9L_8, k9L_9, k9L_10, k9L_20, k9L_23, k9L_24, k9L_30, k9L_40, k9L_50, k9L_60, k9L_99, k9L_100, k9L_120, k9L_255, k9L_999, k9L_1000, k9_bs, k9_ba, hc]) | (refine k9o_call (k9s_18 hne hc h6 (by omega : p < w 7 0) hW1 hf (ho p (by omega))) ?_; simp (disch := omega) only [k9e_16_0, k9e_16_3, k9e_16_9, k9e_16_15, k9e_16_16, k9e_16_18, Nat.reduceEqDiff, Int.reduceEq, Int.reduceLT, Int.reduceLE, k9_ps_s, k9_ps_n, k9_ur, false_and, and_false, true_and, and_true, true_or, or_true, false_or, or_false, eq_self, ↓reduceIte, not_true_eq_false, not_false_eq_true, n_toInt, n_cl, nI_1, nI_add, n_a0, n_p2, n_p3, n_p4, n_x2, n_x3, n_x4, n_x60, n_x100, n_pm1, k9L_m2, k9L_m1, k9L_0, k9L_1, k9L_2, k9L_3, k9L_4, k9L_5, k9L_6, k9L_7, k9L_8, k9L_9, k9L_10, k9L_20, k9L_23, k9L_24, k9L_30, k9L_40, k9L_50, k9L_60, k9L_99, k9L_100, k9L_120, k9L_255, k9L_999, k9L_1000, k9_bs, k9_ba, hc]) | simp (disch := omega) only [k9e_16_0, k9e_16_3, k9e_16_9, k9e_16_15, k9e_16_16, k9e_16_18, Nat.reduceEqDiff, Int.reduceEq, Int.reduceLT, Int.reduceLE, k9_ps_s, k9_ps_n, k9_ur, false_and, and_false, true_and, and_true, true_or, or_true, false_or, or_false, eq_self, ↓reduceIte, not_true_eq_false, not_false_eq_true, n_toInt, n_cl, nI_1, nI_add, n_a0, n_p2, n_p3, n_p4, n_x2, n_x3, n_x4, n_x60, n_x100, n_pm1, k9L_m2, k9L_m1, k9L_0, k9L_1, k9L_2, k9L_3, k9L_4, k9L_5, k9L_6, k9L_7, k9L_8, k9L_9, k9L_10, k9L_20, k9L_23, k9L_24, k9L_30, k9L_40, k9L_50, k9L_60, k9L_99, k9L_100, k9L_120, k9L_255, k9L_999, k9L_1000, k9_bs, k9_ba, hc])
      exact k9o_to e rfl
  obtain ⟨I', e, h⟩ := key (w 7 0) 0 (k9_u (k9_u (k9_u (k9_u I 3 i0 0 (I 3 i1 0)) 3 i0 1 (I 3 i1 1)) 3 i0 2 (I 3 i1 2)) 3 i0 3 (I 3 i1 3)) (by omega) ⟨⟨by simp [k9_ur, hW.1, p_cm], by simp [k9_ur, hW.2.1, p_cm], by simp [k9_ur, hW.2.2.1, p_cm], by simp [k9_ur, hW.2.2.2.1, p_cm], fun p' hp' => by omega⟩, k9_fx_u (k9_fx_u (k9_fx_u (k9_fx_u (k9_fx_rf _ _) (k9_Fw_t _ rfl _)) (k9_Fw_t _ rfl _)) (k9_Fw_t _ rfl _)) (k9_Fw_t _ rfl _)⟩
  refine ⟨I', k9o_of ?_, h.1, h.2⟩
  simp (disch := omega) only [k9e_16_0, k9e_16_3, k9e_16_9, k9e_16_15, k9e_16_16, k9e_16_18, Nat.reduceEqDiff, Int.reduceEq, Int.reduceLT, Int.reduceLE, k9_ps_s, k9_ps_n, k9_ur, false_and, and_false, true_and, and_true, true_or, or_true, false_or, or_false, eq_self, ↓reduceIte, not_true_eq_false, not_false_eq_true, n_toInt, n_cl, nI_1, nI_add, n_a0, n_p2, n_p3, n_p4, n_x2, n_x3, n_x4, n_x60, n_x100, n_pm1, k9L_m2, k9L_m1, k9L_0, k9L_1, k9L_2, k9L_3, k9L_4, k9L_5, k9L_6, k9L_7, k9L_8, k9L_9, k9L_10, k9L_20, k9L_23, k9L_24, k9L_30, k9L_40, k9L_50, k9L_60, k9L_99, k9L_100, k9L_120, k9L_255, k9L_999, k9L_1000, k9_bs, k9_ba]
  repeat (first | ((with_reducible refine k9q_T ?_ ?_); · omega) | ((with_reducible refine k9q_F ?_ ?_); · omega) | ((with_reducible refine k9q_Tb ?_ ?_); · omega) | ((with_reducible refine k9q_Fb ?_ ?_); · omega) | (refine k9o_call (k9s_17) ?_; simp (disch := omega) only [k9e_16_0, k9e_16_3, k9e_16_9, k9e_16_15, k9e_16_16, k9e_16_18, Nat.reduceEqDiff, Int.reduceEq, Int.reduceLT, Int.reduceLE, k9_ps_s, k9_ps_n, k9_ur, false_and, and_false, true_and, and_true, true_or, or_true, false_or, or_false, eq_self, ↓reduceIte, not_true_eq_false, not_false_eq_true, n_toInt, n_cl, nI_1, nI_add, n_a0, n_p2, n_p3, n_p4, n_x2, n_x3, n_x4, n_x60, n_x100, n_pm1, k9L_m2, k9L_m1, k9L_0, k9L_1, k9L_2, k9L_3, k9L_4, k9L_5, k9L_6, k9L_7, k9L_8, k9L_9, k9L_10, k9L_20, k9L_23, k9L_24, k9L_30, k9L_40, k9L_50, k9L_60, k9L_99, k9L_100, k9L_120, k9L_255, k9L_999, k9L_1000, k9_bs, k9_ba]) | simp (disch := omega) only [k9e_16_0, k9e_16_3, k9e_16_9, k9e_16_15, k9e_16_16, k9e_16_18, Nat.reduceEqDiff, Int.reduceEq, Int.reduceLT, Int.reduceLE, k9_ps_s, k9_ps_n, k9_ur, false_and, and_false, true_and, and_true, true_or, or_true, false_or, or_false, eq_self, ↓reduceIte, not_true_eq_false, not_false_eq_true, n_toInt, n_cl, nI_1, nI_add, n_a0, n_p2, n_p3, n_p4, n_x2, n_x3, n_x4, n_x60, n_x100, n_pm1, k9L_m2, k9L_m1, k9L_0, k9L_1, k9L_2, k9L_3, k9L_4, k9L_5, k9L_6, k9L_7, k9L_8, k9L_9, k9L_10, k9L_20, k9L_23, k9L_24, k9L_30, k9L_40, k9L_50, k9L_60, k9L_99, k9L_100, k9L_120, k9L_255, k9L_999, k9L_1000, k9_bs, k9_ba])
  exact k9o_to e rfl
/-- the piece of most bytes -/
def p_lg (r : Nat → Nat) : Nat → Nat
  | 0 => 0
  | k + 1 => if k = 0 then 0 else if r (p_lg r k) < r k then k else p_lg r k
theorem p_lg_le (r : Nat → Nat) : ∀ k, p_lg r k < k + 1 ∧ (1 ≤ k → p_lg r k < k)
  | 0 => ⟨by simp [p_lg], by omega⟩
  | k + 1 => by
    have h := p_lg_le r k
    unfold p_lg
    repeat' split
    all_goals omega
theorem k9s_14 (hW : k9_Wk I i0 w) (hf : k9_wf w) (h1 : 1 ≤ w 7 0) : k9_R S d 14 0 [some (k9_r 3 i0), none, none] [] I J = some (some (k9_i (nI (p_lg (w 0) (w 7 0)))), I, J) := by
  have h6 := hf.1
  have key : ∀ k p, 1 ≤ p → p + k = w 7 0 → k9_R S d 14 4 [some (k9_r 3 i0), some (k9_i (nI (p_lg (w 0) p))), some (k9_i (nI p))] [] I J = some (some (k9_i (nI (p_lg (w 0) (w 7 0)))), I, J) := by
    intro k
    induction k with
    | zero =>
      intro p _ hp
      obtain rfl : p = w 7 0 := by omega
      refine k9o_of (k9o_eq k9e_14_4 ?_)
      simp (disch := omega) only [k9e_14_0, k9e_14_8, k9e_14_11, k9e_14_15, k9e_14_19, k9e_14_20, k9e_14_22, k9e_14_24, Nat.reduceEqDiff, Int.reduceEq, Int.reduceLT, Int.reduceLE, k9_ps_s, k9_ps_n, k9_ur, false_and, and_false, true_and, and_true, true_or, or_true, false_or, or_false, eq_self, ↓reduceIte, not_true_eq_false, not_false_eq_true, n_toInt, n_cl, nI_1, nI_add, n_a0, n_p2, n_p3, n_p4, n_x2, n_x3, n_x4, n_x60, n_x100, n_pm1, k9L_m2, k9L_m1, k9L_0, k9L_1, k9L_2, k9L_3, k9L_4, k9L_5, k9L_6, k9L_7, k9L_8, k9L_9, k9L_10, k9L_20, k9L_23, k9L_24, k9L_30, k9L_40, k9L_50, k9L_60, k9L_99, k9L_100, k9L_120, k9L_255, k9L_999, k9L_1000, k9_bs, k9_ba, hW.1]
      repeat (first | ((with_reducible refine k9q_T ?_ ?_); · omega) | ((with_reducible refine k9q_F ?_ ?_); · omega) | ((with_reducible refine k9q_Tb ?_ ?_); · omega) | ((with_reducible refine k9q_Fb ?_ ?_); · omega) | simp (disch := omega) only [k9e_14_0, k9e_14_8, k9e_14_11, k9e_14_15, k9e_14_19, k9e_14_20, k9e_14_22, k9e_14_24, Nat.reduceEqDiff, Int.reduceEq, Int.reduceLT, Int.reduceLE, k9_ps_s, k9_ps_n, k9_ur, false_and, and_false, true_and, and_true, true_or, or_true, false_or, or_false, eq_self, ↓reduceIte, not_true_eq_false, not_false_eq_true, n_toInt, n_cl, nI_1, nI_add, n_a0, n_p2, n_p3, n_p4, n_x2, n_x3, n_x4, n_x60, n_x100, n_pm1, k9L_m2, k9L_m1, k9L_0, k9L_1, k9L_2, k9L_3, k9L_4, k9L_5, k9L_6, k9L_7, k9L_8, k9L_9, k9L_10, k9L_20, k9L_23, k9L_24, k9L_30, k9L_40, k9L_50, k9L_60, k9L_99, k9L_100, k9L_120, k9L_255, k9L_999, k9L_1000, k9_bs, k9_ba, hW.1])
      exact k9o_ret rfl
    | succ k ih =>
      intro p hp1 hp
      have hl := (p_lg_le (w 0) p).2 hp1
      have a0 := (hW.2.2.2.2 p (by omega)).1
      have a1 := (hW.2.2.2.2 (p_lg (w 0) p) (by omega)).1
      have b0 := (hf.2.2.2.2 p (by omega)).2.1
      have b1 := (hf.2.2.2.2 (p_lg (w 0) p) (by omega)).2.1
      have e := ih (p + 1) (by omega) (by omega)
      refine k9o_of (k9o_eq k9e_14_4 ?_)
      simp (disch := omega) only [k9e_14_0, k9e_14_8, k9e_14_11, k9e_14_15, k9e_14_19, k9e_14_20, k9e_14_22, k9e_14_24, Nat.reduceEqDiff, Int.reduceEq, Int.reduceLT, Int.reduceLE, k9_ps_s, k9_ps_n, k9_ur, false_and, and_false, true_and, and_true, true_or, or_true, false_or, or_false, eq_self, ↓reduceIte, not_true_eq_false, not_false_eq_true, n_toInt, n_cl, nI_1, nI_add, n_a0, n_p2, n_p3, n_p4, n_x2, n_x3, n_x4, n_x60, n_x100, n_pm1, k9L_m2, k9L_m1, k9L_0, k9L_1, k9L_2, k9L_3, k9L_4, k9L_5, k9L_6, k9L_7, k9L_8, k9L_9, k9L_10, k9L_20, k9L_23, k9L_24, k9L_30, k9L_40, k9L_50, k9L_60, k9L_99, k9L_100, k9L_120, k9L_255, k9L_999, k9L_1000, k9_bs, k9_ba, hW.1, a0, a1]
      repeat (first | ((with_reducible refine k9q_T ?_ ?_); · omega) | ((with_reducible refine k9q_F ?_ ?_); · omega) | ((with_reducible refine k9q_Tb ?_ ?_); · omega) | ((with_reducible refine k9q_Fb ?_ ?_); · omega) | simp (disch := omega) only [k9e_14_0, k9e_14_8, k9e_14_11, k9e_14_15, k9e_14_19, k9e_14_20, k9e_14_22, k9e_14_24, Nat.reduceEqDiff, Int.reduceEq, Int.reduceLT, Int.reduceLE, k9_ps_s, k9_ps_n, k9_ur, false_and, and_false, true_and, and_true, true_or, or_true, false_or, or_false, eq_self, ↓reduceIte, not_true_eq_false, not_false_eq_true, n_toInt, n_cl, nI_1, nI_add, n_a0, n_p2, n_p3, n_p4, n_x2, n_x3, n_x4, n_x60, n_x100, n_pm1, k9L_m2, k9L_m1, k9L_0, k9L_1, k9L_2, k9L_3, k9L_4, k9L_5, k9L_6, k9L_7, k9L_8, k9L_9, k9L_10, k9L_20, k9L_23, k9L_24, k9L_30, k9L_40, k9L_50, k9L_60, k9L_99, k9L_100, k9L_120, k9L_255, k9L_999, k9L_1000, k9_bs, k9_ba, hW.1, a0, a1])
      by_cases hc : w 0 (p_lg (w 0) p) < w 0 p
      · rw [show p_lg (w 0) (p + 1) = p by simp only [p_lg]; rw [if_neg (by omega), if_pos hc]] at e
        repeat (first | ((with_reducible refine k9q_T ?_ ?_); · omega) | ((with_reducible refine k9q_F ?_ ?_); · omega) | ((with_reducible refine k9q_Tb ?_ ?_); · omega) | ((with_reducible refine k9q_Fb ?_ ?_); · omega))
        exact k9o_to e rfl
      · rw [show p_lg (w 0) (p + 1) = p_lg (w 0) p by rw [p_lg.eq_2, if_neg (by omega), if_neg hc]] at e
        repeat (first | ((with_reducible refine k9q_T ?_ ?_); · omega) | ((with_reducible refine k9q_F ?_ ?_); · omega) | ((with_reducible refine k9q_Tb ?_ ?_); · omega) | ((with_reducible refine k9q_Fb ?_ ?_); · omega))
        exact k9o_to e rfl
  rw [k9e_14_0]
  exact key (w 7 0 - 1) 1 (by omega) (by omega)
/-- draws -/
def p_z (z : Int32) : Nat → Int32
  | 0 => z
  | k + 1 => p_z z k * 1103515245 + 12345
def p_hw (z : Int32) : Int32 := (z.toUInt32 >>> ((8 : Int32).toUInt32 &&& Int32.toUInt32 31)).toInt32 - (z.toUInt32 >>> ((8 : Int32).toUInt32 &&& Int32.toUInt32 31)).toInt32 / 4 * 4
def p_dv (h : Int32) (v : Nat) : Nat := if h.toInt = 0 then max 1 (v / 2) else if h.toInt = 3 then v * 2 else v
def p_dw (w : Nat → Nat → Nat) (z : Int32) (m : Nat) : Nat → Nat → Nat := fun q p => if q = 1 ∧ p < m then p_dv (p_hw (p_z z (p + 1))) (w 1 p) else w q p
theorem n_max {a b : Nat} (ha : a < 2147483648) (hb : b < 2147483648) : (if nI a < nI b then nI b else nI a) = nI (max a b) := by
  by_cases h : a < b
  · rw [if_pos (nI_lt h hb), Nat.max_eq_right (by omega)]
  · rw [if_neg (nI_nlt (by omega) ha), Nat.max_eq_left (by omega)]
theorem n_min {a b : Nat} (ha : a < 2147483648) (hb : b < 2147483648) : (if nI b < nI a then nI b else nI a) = nI (min a b) := by
  by_cases h : b < a
  · rw [if_pos (nI_lt h ha), Nat.min_eq_right (by omega)]
  · rw [if_neg (nI_nlt (by omega) hb), Nat.min_eq_left (by omega)]
theorem p_dw_s {z : Int32} {p : Nat} {v : Nat} (h : v = p_dv (p_hw (p_z z (p + 1))) (w 1 p)) (hW : k9_Wk I i0 (p_dw w z p)) : k9_Wk (k9_u I 21 i0 p (nI v)) i0 (p_dw w z (p + 1)) := by
  obtain ⟨w0, w1, w2, w3, w4⟩ := hW
  refine ⟨w0, w1, w2, w3, fun p' hp' => ?_⟩
  obtain ⟨a0, a1, a2, a3⟩ := w4 p' hp'
  refine ⟨a0, ?_, a2, a3⟩
  simp only [p_dw, true_and] at a1 ⊢
  by_cases e : p' = p
  · subst e
    simp [k9_ur, h]
  · rw [k9_ur, if_neg (fun h => e h.2.2), a1]
    by_cases h2 : p' < p
    · rw [if_pos h2, if_pos (by omega)]
    · rw [if_neg h2, if_neg (by omega)]
theorem p_dw_k {z : Int32} {p : Nat} (h : w 1 p = p_dv (p_hw (p_z z (p + 1))) (w 1 p)) (hW : k9_Wk I i0 (p_dw w z p)) : k9_Wk I i0 (p_dw w z (p + 1)) := by
  obtain ⟨w0, w1, w2, w3, w4⟩ := hW
  refine ⟨w0, w1, w2, w3, fun p' hp' => ?_⟩
  obtain ⟨a0, a1, a2, a3⟩ := w4 p' hp'
  refine ⟨a0, ?_, a2, a3⟩
  simp only [p_dw, true_and] at a1 ⊢
  by_cases e : p' = p
  · subst e
    rw [a1, if_neg (by omega), if_pos (by omega)]
    exact congrArg nI h
  · rw [a1]
    by_cases h2 : p' < p
    · rw [if_pos h2, if_pos (by omega)]
    · rw [if_neg h2, if_neg (by omega)]
theorem k9s_19 {z : Int32} (hW : k9_Wk I i0 w) (hf : k9_wf w) (hv : ∀ p, p < w 7 0 → w 1 p ≤ 9) : ∃ I', k9_R S d 19 0 [some (k9_r 3 i0), some (k9_i z), none, none, none] [] I J = some (some (k9_i (p_z z (w 7 0))), I', J) ∧ k9_Wk I' i0 (p_dw w z (w 7 0)) ∧ k9_fx (k9_Fw i0) I I' := by
  have h6 := hf.1
  have key : ∀ k p I1, p + k = w 7 0 → k9_Wk I1 i0 (p_dw w z p) → k9_fx (k9_Fw i0) I I1 → ∃ I', k9_R S d 19 4 [some (k9_r 3 i0), some (k9_i z), some (k9_i (p_z z p)), some (k9_i (nI p)), none] [] I1 J = some (some (k9_i (p_z z (w 7 0))), I', J) ∧ k9_Wk I' i0 (p_dw w z (w 7 0)) ∧ k9_fx (k9_Fw i0) I I' := by
    intro k
    induction k with
    | zero =>
      intro p I1 hp hC hx
      obtain rfl : p = w 7 0 := by omega
      have hc : I1 3 i0 0 = nI (w 7 0) := hC.1
      refine ⟨I1, k9o_of (k9o_eq k9e_19_4 ?_), hC, hx⟩
      simp (disch := omega) only [k9e_19_0, k9e_19_8, k9e_19_11, k9e_19_20, k9e_19_22, k9e_19_25, k9e_19_33, k9e_19_35, k9e_19_37, k9e_19_38, k9e_19_41, k9e_19_46, k9e_19_49, k9e_19_51, Nat.reduceEqDiff, Int.reduceEq, Int.reduceLT, Int.reduceLE, k9_ps_s, k9_ps_n, k9_ur, false_and, and_false, true_and, and_true, true_or, or_true, false_or, or_false, eq_self, ↓reduceIte, not_true_eq_false, not_false_eq_true, n_toInt, n_cl, nI_1, nI_add, n_a0, n_p2, n_p3, n_p4, n_x2, n_x3, n_x4, n_x60, n_x100, n_pm1, k9L_m2, k9L_m1, k9L_0, k9L_1, k9L_2, k9L_3, k9L_4, k9L_5, k9L_6, k9L_7, k9L_8, k9L_9, k9L_10, k9L_20, k9L_23, k9L_24, k9L_30, k9L_40, k9L_50, k9L_60, k9L_99, k9L_100, k9L_120, k9L_255, k9L_999, k9L_1000, k9_bs, k9_ba, hc]
      repeat (first | ((with_reducible refine k9q_T ?_ ?_); · omega) | ((with_reducible refine k9q_F ?_ ?_); · omega) | ((with_reducible refine k9q_Tb ?_ ?_); · omega) | ((with_reducible refine k9q_Fb ?_ ?_); · omega) | simp (disch := omega) only [k9e_19_0, k9e_19_8, k9e_19_11, k9e_19_20, k9e_19_22, k9e_19_25, k9e_19_33, k9e_19_35, k9e_19_37, k9e_19_38, k9e_19_41, k9e_19_46, k9e_19_49, k9e_19_51, Nat.reduceEqDiff, Int.reduceEq, Int.reduceLT, Int.reduceLE, k9_ps_s, k9_ps_n, k9_ur, false_and, and_false, true_and, and_true, true_or, or_true, false_or, or_false, eq_self, ↓reduceIte, not_true_eq_false, not_false_eq_true, n_toInt, n_cl, nI_1, nI_add, n_a0, n_p2, n_p3, n_p4, n_x2, n_x3, n_x4, n_x60, n_x100, n_pm1, k9L_m2, k9L_m1, k9L_0, k9L_1, k9L_2, k9L_3, k9L_4, k9L_5, k9L_6, k9L_7, k9L_8, k9L_9, k9L_10, k9L_20, k9L_23, k9L_24, k9L_30, k9L_40, k9L_50, k9L_60, k9L_99, k9L_100, k9L_120, k9L_255, k9L_999, k9L_1000, k9_bs, k9_ba, hc])
      exact k9o_ret rfl
    | succ k ih =>
      intro p I1 hp hC hx
      have hp6 : p < w 7 0 := by omega
      have hc : I1 3 i0 0 = nI (w 7 0) := hC.1
      have b1 := hv p hp6
      have b0 := (hf.2.2.2.2 p hp6).2.2.1
      have a1 : I1 21 i0 p = nI (w 1 p) := by
        have h := (hC.2.2.2.2 p hp6).2.1
        simpa [p_dw] using h
      by_cases e0 : (p_hw (p_z z (p + 1))).toInt = 0
      · obtain ⟨I', e, h⟩ := ih (p + 1) (k9_u I1 21 i0 p (nI (max 1 (w 1 p / 2)))) (by omega) (p_dw_s (by simp [p_dv, e0]) hC) (k9_fx_u hx (k9_Fw_t _ rfl _))
        refine ⟨I', k9o_of (k9o_eq k9e_19_4 ?_), h⟩
        rw [p_hw, p_z] at e0
        simp (disch := omega) only [k9e_19_0, k9e_19_8, k9e_19_11, k9e_19_20, k9e_19_22, k9e_19_25, k9e_19_33, k9e_19_35, k9e_19_37, k9e_19_38, k9e_19_41, k9e_19_46, k9e_19_49, k9e_19_51, Nat.reduceEqDiff, Int.reduceEq, Int.reduceLT, Int.reduceLE, k9_ps_s, k9_ps_n, k9_ur, false_and, and_false, true_and, and_true, true_or, or_true, false_or, or_false, eq_self, ↓reduceIte, not_true_eq_false, not_false_eq_true, n_toInt, n_cl, nI_1, nI_add, n_a0, n_p2, n_p3, n_p4, n_x2, n_x3, n_x4, n_x60, n_x100, n_pm1, k9L_m2, k9L_m1, k9L_0, k9L_1, k9L_2, k9L_3, k9L_4, k9L_5, k9L_6, k9L_7, k9L_8, k9L_9, k9L_10, k9L_20, k9L_23, k9L_24, k9L_30, k9L_40, k9L_50, k9L_60, k9L_99, k9L_100, k9L_120, k9L_255, k9L_999, k9L_1000, k9_bs, k9_ba, hc, a1]
        repeat (first | ((with_reducible refine k9q_T ?_ ?_); · omega) | ((with_reducible refine k9q_F ?_ ?_); · omega) | ((with_reducible refine k9q_Tb ?_ ?_); · omega) | ((with_reducible refine k9q_Fb ?_ ?_); · omega) | simp (disch := omega) only [k9e_19_0, k9e_19_8, k9e_19_11, k9e_19_20, k9e_19_22, k9e_19_25, k9e_19_33, k9e_19_35, k9e_19_37, k9e_19_38, k9e_19_41, k9e_19_46, k9e_19_49, k9e_19_51, Nat.reduceEqDiff, Int.reduceEq, Int.reduceLT, Int.reduceLE, k9_ps_s, k9_ps_n, k9_ur, false_and, and_false, true_and, and_true, true_or, or_true, false_or, or_false, eq_self, ↓reduceIte, not_true_eq_false, not_false_eq_true, n_toInt, n_cl, nI_1, nI_add, n_a0, n_p2, n_p3, n_p4, n_x2, n_x3, n_x4, n_x60, n_x100, n_pm1, k9L_m2, k9L_m1, k9L_0, k9L_1, k9L_2, k9L_3, k9L_4, k9L_5, k9L_6, k9L_7, k9L_8, k9L_9, k9L_10, k9L_20, k9L_23, k9L_24, k9L_30, k9L_40, k9L_50, k9L_60, k9L_99, k9L_100, k9L_120, k9L_255, k9L_999, k9L_1000, k9_bs, k9_ba, hc, a1])
        rw [show (2 : Int32) = nI 2 from rfl, show (1 : Int32) = nI 1 from rfl, n_div (by omega) (by omega) (by omega), n_max (by omega) (by omega)]
        exact k9o_to e rfl
      · by_cases e3 : (p_hw (p_z z (p + 1))).toInt = 3
        · obtain ⟨I', e, h⟩ := ih (p + 1) (k9_u I1 21 i0 p (nI (w 1 p * 2))) (by omega) (p_dw_s (by simp [p_dv, e0, e3]) hC) (k9_fx_u hx (k9_Fw_t _ rfl _))
          refine ⟨I', k9o_of (k9o_eq k9e_19_4 ?_), h⟩
          rw [p_hw, p_z] at e0 e3
          simp (disch := omega) only [k9e_19_0, k9e_19_8, k9e_19_11, k9e_19_20, k9e_19_22, k9e_19_25, k9e_19_33, k9e_19_35, k9e_19_37, k9e_19_38, k9e_19_41, k9e_19_46, k9e_19_49, k9e_19_51, Nat.reduceEqDiff, Int.reduceEq, Int.reduceLT, Int.reduceLE, k9_ps_s, k9_ps_n, k9_ur, false_and, and_false, true_and, and_true, true_or, or_true, false_or, or_false, eq_self, ↓reduceIte, not_true_eq_false, not_false_eq_true, n_toInt, n_cl, nI_1, nI_add, n_a0, n_p2, n_p3, n_p4, n_x2, n_x3, n_x4, n_x60, n_x100, n_pm1, k9L_m2, k9L_m1, k9L_0, k9L_1, k9L_2, k9L_3, k9L_4, k9L_5, k9L_6, k9L_7, k9L_8, k9L_9, k9L_10, k9L_20, k9L_23, k9L_24, k9L_30, k9L_40, k9L_50, k9L_60, k9L_99, k9L_100, k9L_120, k9L_255, k9L_999, k9L_1000, k9_bs, k9_ba, hc, a1]
          repeat (first | ((with_reducible refine k9q_T ?_ ?_); · omega) | ((with_reducible refine k9q_F ?_ ?_); · omega) | ((with_reducible refine k9q_Tb ?_ ?_); · omega) | ((with_reducible refine k9q_Fb ?_ ?_); · omega) | simp (disch := omega) only [k9e_19_0, k9e_19_8, k9e_19_11, k9e_19_20, k9e_19_22, k9e_19_25, k9e_19_33, k9e_19_35, k9e_19_37, k9e_19_38, k9e_19_41, k9e_19_46, k9e_19_49, k9e_19_51, Nat.reduceEqDiff, Int.reduceEq, Int.reduceLT, Int.reduceLE, k9_ps_s, k9_ps_n, k9_ur, false_and, and_false, true_and, and_true, true_or, or_true, false_or, or_false, eq_self, ↓reduceIte, not_true_eq_false, not_false_eq_true, n_toInt, n_cl, nI_1, nI_add, n_a0, n_p2, n_p3, n_p4, n_x2, n_x3, n_x4, n_x60, n_x100, n_pm1, k9L_m2, k9L_m1, k9L_0, k9L_1, k9L_2, k9L_3, k9L_4, k9L_5, k9L_6, k9L_7, k9L_8, k9L_9, k9L_10, k9L_20, k9L_23, k9L_24, k9L_30, k9L_40, k9L_50, k9L_60, k9L_99, k9L_100, k9L_120, k9L_255, k9L_999, k9L_1000, k9_bs, k9_ba, hc, a1])
          rw [show (2 : Int32) = nI 2 from rfl, n_mul]
          exact k9o_to e rfl
        · obtain ⟨I', e, h⟩ := ih (p + 1) I1 (by omega) (p_dw_k (by simp [p_dv, e0, e3]) hC) hx
          refine ⟨I', k9o_of (k9o_eq k9e_19_4 ?_), h⟩
          rw [p_hw, p_z] at e0 e3
          simp (disch := omega) only [k9e_19_0, k9e_19_8, k9e_19_11, k9e_19_20, k9e_19_22, k9e_19_25, k9e_19_33, k9e_19_35, k9e_19_37, k9e_19_38, k9e_19_41, k9e_19_46, k9e_19_49, k9e_19_51, Nat.reduceEqDiff, Int.reduceEq, Int.reduceLT, Int.reduceLE, k9_ps_s, k9_ps_n, k9_ur, false_and, and_false, true_and, and_true, true_or, or_true, false_or, or_false, eq_self, ↓reduceIte, not_true_eq_false, not_false_eq_true, n_toInt, n_cl, nI_1, nI_add, n_a0, n_p2, n_p3, n_p4, n_x2, n_x3, n_x4, n_x60, n_x100, n_pm1, k9L_m2, k9L_m1, k9L_0, k9L_1, k9L_2, k9L_3, k9L_4, k9L_5, k9L_6, k9L_7, k9L_8, k9L_9, k9L_10, k9L_20, k9L_23, k9L_24, k9L_30, k9L_40, k9L_50, k9L_60, k9L_99, k9L_100, k9L_120, k9L_255, k9L_999, k9L_1000, k9_bs, k9_ba, hc, a1]
          repeat (first | ((with_reducible refine k9q_T ?_ ?_); · omega) | ((with_reducible refine k9q_F ?_ ?_); · omega) | ((with_reducible refine k9q_Tb ?_ ?_); · omega) | ((with_reducible refine k9q_Fb ?_ ?_); · omega) | simp (disch := omega) only [k9e_19_0, k9e_19_8, k9e_19_11, k9e_19_20, k9e_19_22, k9e_19_25, k9e_19_33, k9e_19_35, k9e_19_37, k9e_19_38, k9e_19_41, k9e_19_46, k9e_19_49, k9e_19_51, Nat.reduceEqDiff, Int.reduceEq, Int.reduceLT, Int.reduceLE, k9_ps_s, k9_ps_n, k9_ur, false_and, and_false, true_and, and_true, true_or, or_true, false_or, or_false, eq_self, ↓reduceIte, not_true_eq_false, not_false_eq_true, n_toInt, n_cl, nI_1, nI_add, n_a0, n_p2, n_p3, n_p4, n_x2, n_x3, n_x4, n_x60, n_x100, n_pm1, k9L_m2, k9L_m1, k9L_0, k9L_1, k9L_2, k9L_3, k9L_4, k9L_5, k9L_6, k9L_7, k9L_8, k9L_9, k9L_10, k9L_20, k9L_23, k9L_24, k9L_30, k9L_40, k9L_50, k9L_60, k9L_99, k9L_100, k9L_120, k9L_255, k9L_999, k9L_1000, k9_bs, k9_ba, hc, a1])
          exact k9o_to e rfl
  rw [k9e_19_0]
  refine key (w 7 0) 0 I (by omega) ?_ (k9_fx_rf _ _)
  obtain ⟨w0, w1, w2, w3, w4⟩ := hW
  exact ⟨w0, w1, w2, w3, fun p' hp' => by simpa [p_dw] using w4 p' hp'⟩
theorem k9_wf_dw {z : Int32} {m : Nat} (hf : k9_wf w) (hv : ∀ p, p < w 7 0 → w 1 p ≤ 9) : k9_wf (p_dw w z m) := by
  obtain ⟨h1, h2, h3, h4, h5⟩ := hf
  refine ⟨h1, h2, h3, h4, fun p hp => ?_⟩
  have hp : p < w 7 0 := hp
  have b := hv p hp
  obtain ⟨c1, c2, c3, c4, c5, c6⟩ := h5 p hp
  refine ⟨c1, c2, ?_, ?_, c5, c6⟩
  all_goals
    simp only [p_dw, true_and]
    split
    · unfold p_dv
      repeat' split
      all_goals omega
    · omega
end KW3
