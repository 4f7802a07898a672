/-! BAR: seconds that remain, dead, pleasing, seen -/
section KB8
variable {S : k9_S} {d : Nat} {I : k9_I} {J : k9_J} {i0 i1 i2 : Nat} {L A f M : Nat} {h c : Nat → Nat}
theorem p_ds_b (a b : Nat) : p_ds a b ≤ a + b := by
  unfold p_ds
  omega
theorem p_rq_b {c : Nat → Nat} {A t w : Nat} (ht : t ≤ 1000) (hA : A ≤ 700) (hc : ∀ t, c t ≤ 700) : (p_sp2 t w * (A - c t) + (c t - c (t - p_sp2 t w)) - 1) / (c t - c (t - p_sp2 t w)) ≤ 701000 ∧ p_sp2 t w ≤ t ∧ p_sp2 t w * (A - c t) ≤ 700000 := by
  have h1 : p_sp2 t w ≤ t := by
    unfold p_sp2
    split
    · exact Nat.le_refl _
    · exact Nat.min_le_left _ _
  have h2 : p_sp2 t w * (A - c t) ≤ 1000 * 700 := Nat.mul_le_mul (by omega) (by omega)
  refine ⟨Nat.le_trans (Nat.div_le_self _ _) ?_, h1, h2⟩
  have := hc t
  omega
theorem k9s_62 {t w : Nat} (hB : k9_Br I i0 L A h c 0 M) (ht : t < M) (hM : M ≤ 1000) (hA : A ≤ 700) (hc : ∀ t, c t ≤ 700) (hcA : c t ≤ A) (hcm : ∀ a, a ≤ t → c a ≤ c t) (hw : w ≤ 60) : k9_R S (d + 1) 62 0 [some (k9_r 2 i0), some (k9_i (nI t)), some (k9_i (nI w)), none, none, none] [] I J = some (some (k9_i (p_rm c A t w)), I, J) := by
  obtain ⟨b1, b2, b3⟩ := p_rq_b (w := w) (show t ≤ 1000 by omega) hA hc
  have m := hcm (t - p_sp2 t w) (by omega)
  have ct := hc t
  have key : k9_ok (k9_R S (d + 1) 62 7 [some (k9_r 2 i0), some (k9_i (nI t)), some (k9_i (nI w)), none, none, none] [k9_i (nI (p_sp2 t w))] I J) (fun q => q = (some (k9_i (p_rm c A t w)), I, J)) := by
    unfold p_rm
    by_cases h0 : c t - c (t - p_sp2 t w) = 0
    · rw [if_pos h0]
      simp (disch := omega) only [k9e_62_0, k9e_62_2, k9e_62_4, k9e_62_7, k9e_62_11, k9e_62_16, k9e_62_21, k9e_62_23, k9e_62_28, k9e_62_39, Nat.reduceEqDiff, Int.reduceEq, Int.reduceLT, Int.reduceLE, k9_ps_s, k9_ps_n, k9_ur, false_and, and_false, true_and, and_true, true_or, or_true, false_or, or_false, eq_self, ↓reduceIte, not_true_eq_false, not_false_eq_true, n_toInt, n_cl, nI_1, nI_add, n_a0, n_p2, n_p3, n_p4, n_x2, n_x3, n_x4, n_x60, n_x100, n_pm1, k9L_m2, k9L_m1, k9L_0, k9L_1, k9L_2, k9L_3, k9L_4, k9L_5, k9L_6, k9L_7, k9L_8, k9L_9, k9L_10, k9L_20, k9L_23, k9L_24, k9L_30, k9L_40, k9L_50, k9L_60, k9L_99, k9L_100, k9L_120, k9L_255, k9L_999, k9L_1000, k9_bs, k9_ba, n_sub]
      repeat (first | ((with_reducible refine k9q_T ?_ ?_); · omega) | ((with_reducible refine k9q_F ?_ ?_); · omega) | ((with_reducible refine k9q_Tb ?_ ?_); · omega) | ((with_reducible refine k9q_Fb ?_ ?_); · omega) | (refine k9o_call (k9s_57 hB (Nat.zero_le _) (by omega) hM) ?_; simp (disch := omega) only [k9e_62_0, k9e_62_2, k9e_62_4, k9e_62_7, k9e_62_11, k9e_62_16, k9e_62_21, k9e_62_23, k9e_62_28, k9e_62_39, Nat.reduceEqDiff, Int.reduceEq, Int.reduceLT, Int.reduceLE, k9_ps_s, k9_ps_n, k9_ur, false_and, and_false, true_and, and_true, true_or, or_true, false_or, or_false, eq_self, ↓reduceIte, not_true_eq_false, not_false_eq_true, n_toInt, n_cl, nI_1, nI_add, n_a0, n_p2, n_p3, n_p4, n_x2, n_x3, n_x4, n_x60, n_x100, n_pm1, k9L_m2, k9L_m1, k9L_0, k9L_1, k9L_2, k9L_3, k9L_4, k9L_5, k9L_6, k9L_7, k9L_8, k9L_9, k9L_10, k9L_20, k9L_23, k9L_24, k9L_30, k9L_40, k9L_50, k9L_60, k9L_99, k9L_100, k9L_120, k9L_255, k9L_999, k9L_1000, k9_bs, k9_ba, n_sub]) | simp (disch := omega) only [k9e_62_0, k9e_62_2, k9e_62_4, k9e_62_7, k9e_62_11, k9e_62_16, k9e_62_21, k9e_62_23, k9e_62_28, k9e_62_39, Nat.reduceEqDiff, Int.reduceEq, Int.reduceLT, Int.reduceLE, k9_ps_s, k9_ps_n, k9_ur, false_and, and_false, true_and, and_true, true_or, or_true, false_or, or_false, eq_self, ↓reduceIte, not_true_eq_false, not_false_eq_true, n_toInt, n_cl, nI_1, nI_add, n_a0, n_p2, n_p3, n_p4, n_x2, n_x3, n_x4, n_x60, n_x100, n_pm1, k9L_m2, k9L_m1, k9L_0, k9L_1, k9L_2, k9L_3, k9L_4, k9L_5, k9L_6, k9L_7, k9L_8, k9L_9, k9L_10, k9L_20, k9L_23, k9L_24, k9L_30, k9L_40, k9L_50, k9L_60, k9L_99, k9L_100, k9L_120, k9L_255, k9L_999, k9L_1000, k9_bs, k9_ba, n_sub])
      exact k9o_ret rfl
    · rw [if_neg h0]
      simp (disch := omega) only [k9e_62_0, k9e_62_2, k9e_62_4, k9e_62_7, k9e_62_11, k9e_62_16, k9e_62_21, k9e_62_23, k9e_62_28, k9e_62_39, Nat.reduceEqDiff, Int.reduceEq, Int.reduceLT, Int.reduceLE, k9_ps_s, k9_ps_n, k9_ur, false_and, and_false, true_and, and_true, true_or, or_true, false_or, or_false, eq_self, ↓reduceIte, not_true_eq_false, not_false_eq_true, n_toInt, n_cl, nI_1, nI_add, n_a0, n_p2, n_p3, n_p4, n_x2, n_x3, n_x4, n_x60, n_x100, n_pm1, k9L_m2, k9L_m1, k9L_0, k9L_1, k9L_2, k9L_3, k9L_4, k9L_5, k9L_6, k9L_7, k9L_8, k9L_9, k9L_10, k9L_20, k9L_23, k9L_24, k9L_30, k9L_40, k9L_50, k9L_60, k9L_99, k9L_100, k9L_120, k9L_255, k9L_999, k9L_1000, k9_bs, k9_ba, n_sub, hB.2.1]
      repeat (first | ((with_reducible refine k9q_T ?_ ?_); · omega) | ((with_reducible refine k9q_F ?_ ?_); · omega) | ((with_reducible refine k9q_Tb ?_ ?_); · omega) | ((with_reducible refine k9q_Fb ?_ ?_); · omega) | (refine k9o_call (k9s_57 hB (Nat.zero_le _) (by omega) hM) ?_; simp (disch := omega) only [k9e_62_0, k9e_62_2, k9e_62_4, k9e_62_7, k9e_62_11, k9e_62_16, k9e_62_21, k9e_62_23, k9e_62_28, k9e_62_39, Nat.reduceEqDiff, Int.reduceEq, Int.reduceLT, Int.reduceLE, k9_ps_s, k9_ps_n, k9_ur, false_and, and_false, true_and, and_true, true_or, or_true, false_or, or_false, eq_self, ↓reduceIte, not_true_eq_false, not_false_eq_true, n_toInt, n_cl, nI_1, nI_add, n_a0, n_p2, n_p3, n_p4, n_x2, n_x3, n_x4, n_x60, n_x100, n_pm1, k9L_m2, k9L_m1, k9L_0, k9L_1, k9L_2, k9L_3, k9L_4, k9L_5, k9L_6, k9L_7, k9L_8, k9L_9, k9L_10, k9L_20, k9L_23, k9L_24, k9L_30, k9L_40, k9L_50, k9L_60, k9L_99, k9L_100, k9L_120, k9L_255, k9L_999, k9L_1000, k9_bs, k9_ba, n_sub, hB.2.1]) | simp (disch := omega) only [k9e_62_0, k9e_62_2, k9e_62_4, k9e_62_7, k9e_62_11, k9e_62_16, k9e_62_21, k9e_62_23, k9e_62_28, k9e_62_39, Nat.reduceEqDiff, Int.reduceEq, Int.reduceLT, Int.reduceLE, k9_ps_s, k9_ps_n, k9_ur, false_and, and_false, true_and, and_true, true_or, or_true, false_or, or_false, eq_self, ↓reduceIte, not_true_eq_false, not_false_eq_true, n_toInt, n_cl, nI_1, nI_add, n_a0, n_p2, n_p3, n_p4, n_x2, n_x3, n_x4, n_x60, n_x100, n_pm1, k9L_m2, k9L_m1, k9L_0, k9L_1, k9L_2, k9L_3, k9L_4, k9L_5, k9L_6, k9L_7, k9L_8, k9L_9, k9L_10, k9L_20, k9L_23, k9L_24, k9L_30, k9L_40, k9L_50, k9L_60, k9L_99, k9L_100, k9L_120, k9L_255, k9L_999, k9L_1000, k9_bs, k9_ba, n_sub, hB.2.1])
      rw [n_mul, nI_add, n_s1 (by omega), n_div (by omega) (by omega) (by omega)]
      exact k9o_ret rfl
  refine k9o_of (k9o_eq k9e_62_0 ?_)
  by_cases hw0 : w = 0
  · subst hw0
    refine k9o_T (by rw [n_toInt (by omega)]; rfl) (k9o_eq k9e_62_2 ?_)
    rw [p_sp2, if_pos rfl] at key
    exact key
  · refine k9o_F (by rw [n_toInt (by omega)]; omega) (k9o_eq k9e_62_4 ?_)
    rw [n_min (by omega) (by omega)]
    rw [p_sp2, if_neg hw0] at key
    exact key
theorem p_g1_b (c : Nat → Nat) (A L t w : Nat) : p_g1 c A L t w ≤ 999 := by
  unfold p_g1
  split
  · omega
  · exact Nat.min_le_left _ _
theorem p_gs_b (c : Nat → Nat) (A L w : Nat) : ∀ k, p_gs c A L w k ≤ 999 * k
  | 0 => Nat.le_refl _
  | k + 1 => by
    have h1 := p_gs_b c A L w k
    have h2 := p_g1_b c A L (k + 1) w
    rw [p_gs]
    omega
theorem k9s_63 {w : Nat} (hB : k9_Br I i0 L A h c 0 M) (hL : L < M) (hM : M ≤ 1000) (hA : A ≤ 700) (hc : ∀ t, c t ≤ 700) (hcA : ∀ t, c t ≤ A) (hcm : ∀ a b, a ≤ b → c a ≤ c b) (hw : w ≤ 60) : k9_R S (d + 2) 63 0 [some (k9_r 2 i0), some (k9_i (nI w)), none, none, none] [] I J = some (some (k9_i (nI (p_gs c A L w L))), I, J) := by
  have key : ∀ k t, t + k = L → k9_R S (d + 2) 63 4 [some (k9_r 2 i0), some (k9_i (nI w)), some (k9_i (nI (p_gs c A L w t))), some (k9_i (nI (t + 1))), none] [] I J = some (some (k9_i (nI (p_gs c A L w L))), I, J) := by
    intro k
    induction k with
    | zero =>
      intro t ht
      obtain rfl : t = L := by omega
      refine k9o_of (k9o_eq k9e_63_4 ?_)
      simp (disch := omega) only [k9e_63_0, k9e_63_8, k9e_63_11, k9e_63_15, k9e_63_20, k9e_63_22, k9e_63_31, k9e_63_35, Nat.reduceEqDiff, Int.reduceEq, Int.reduceLT, Int.reduceLE, k9_ps_s, k9_ps_n, k9_ur, false_and, and_false, true_and, and_true, true_or, or_true, false_or, or_false, eq_self, ↓reduceIte, not_true_eq_false, not_false_eq_true, n_toInt, n_cl, nI_1, nI_add, n_a0, n_p2, n_p3, n_p4, n_x2, n_x3, n_x4, n_x60, n_x100, n_pm1, k9L_m2, k9L_m1, k9L_0, k9L_1, k9L_2, k9L_3, k9L_4, k9L_5, k9L_6, k9L_7, k9L_8, k9L_9, k9L_10, k9L_20, k9L_23, k9L_24, k9L_30, k9L_40, k9L_50, k9L_60, k9L_99, k9L_100, k9L_120, k9L_255, k9L_999, k9L_1000, k9_bs, k9_ba, hB.1]
      repeat (first | ((with_reducible refine k9q_T ?_ ?_); · omega) | ((with_reducible refine k9q_F ?_ ?_); · omega) | ((with_reducible refine k9q_Tb ?_ ?_); · omega) | ((with_reducible refine k9q_Fb ?_ ?_); · omega) | simp (disch := omega) only [k9e_63_0, k9e_63_8, k9e_63_11, k9e_63_15, k9e_63_20, k9e_63_22, k9e_63_31, k9e_63_35, Nat.reduceEqDiff, Int.reduceEq, Int.reduceLT, Int.reduceLE, k9_ps_s, k9_ps_n, k9_ur, false_and, and_false, true_and, and_true, true_or, or_true, false_or, or_false, eq_self, ↓reduceIte, not_true_eq_false, not_false_eq_true, n_toInt, n_cl, nI_1, nI_add, n_a0, n_p2, n_p3, n_p4, n_x2, n_x3, n_x4, n_x60, n_x100, n_pm1, k9L_m2, k9L_m1, k9L_0, k9L_1, k9L_2, k9L_3, k9L_4, k9L_5, k9L_6, k9L_7, k9L_8, k9L_9, k9L_10, k9L_20, k9L_23, k9L_24, k9L_30, k9L_40, k9L_50, k9L_60, k9L_99, k9L_100, k9L_120, k9L_255, k9L_999, k9L_1000, k9_bs, k9_ba, hB.1])
      exact k9o_ret rfl
    | succ k ih =>
      intro t ht
      have e := ih (t + 1) (by omega)
      have hb := p_gs_b c A L w t
      obtain ⟨b1, b2, b3⟩ := p_rq_b (w := w) (show t + 1 ≤ 1000 by omega) hA hc
      have h62 := k9s_62 (S := S) (d := d) (J := J) (t := t + 1) (w := w) hB (by omega) hM hA hc (hcA _) (fun a ha => hcm a _ ha) hw
      rw [p_gs, p_g1] at e
      rw [p_rm] at h62
      refine k9o_of (k9o_eq k9e_63_4 ?_)
      by_cases h0 : c (t + 1) - c (t + 1 - p_sp2 (t + 1) w) = 0
      · rw [if_pos h0] at e h62
        simp (disch := omega) only [k9e_63_0, k9e_63_8, k9e_63_11, k9e_63_15, k9e_63_20, k9e_63_22, k9e_63_31, k9e_63_35, Nat.reduceEqDiff, Int.reduceEq, Int.reduceLT, Int.reduceLE, k9_ps_s, k9_ps_n, k9_ur, false_and, and_false, true_and, and_true, true_or, or_true, false_or, or_false, eq_self, ↓reduceIte, not_true_eq_false, not_false_eq_true, n_toInt, n_cl, nI_1, nI_add, n_a0, n_p2, n_p3, n_p4, n_x2, n_x3, n_x4, n_x60, n_x100, n_pm1, k9L_m2, k9L_m1, k9L_0, k9L_1, k9L_2, k9L_3, k9L_4, k9L_5, k9L_6, k9L_7, k9L_8, k9L_9, k9L_10, k9L_20, k9L_23, k9L_24, k9L_30, k9L_40, k9L_50, k9L_60, k9L_99, k9L_100, k9L_120, k9L_255, k9L_999, k9L_1000, k9_bs, k9_ba, hB.1, k9L_m2]
        repeat (first | ((with_reducible refine k9q_T ?_ ?_); · omega) | ((with_reducible refine k9q_F ?_ ?_); · omega) | ((with_reducible refine k9q_Tb ?_ ?_); · omega) | ((with_reducible refine k9q_Fb ?_ ?_); · omega) | (refine k9o_call (h62) ?_; simp (disch := omega) only [k9e_63_0, k9e_63_8, k9e_63_11, k9e_63_15, k9e_63_20, k9e_63_22, k9e_63_31, k9e_63_35, Nat.reduceEqDiff, Int.reduceEq, Int.reduceLT, Int.reduceLE, k9_ps_s, k9_ps_n, k9_ur, false_and, and_false, true_and, and_true, true_or, or_true, false_or, or_false, eq_self, ↓reduceIte, not_true_eq_false, not_false_eq_true, n_toInt, n_cl, nI_1, nI_add, n_a0, n_p2, n_p3, n_p4, n_x2, n_x3, n_x4, n_x60, n_x100, n_pm1, k9L_m2, k9L_m1, k9L_0, k9L_1, k9L_2, k9L_3, k9L_4, k9L_5, k9L_6, k9L_7, k9L_8, k9L_9, k9L_10, k9L_20, k9L_23, k9L_24, k9L_30, k9L_40, k9L_50, k9L_60, k9L_99, k9L_100, k9L_120, k9L_255, k9L_999, k9L_1000, k9_bs, k9_ba, hB.1, k9L_m2]) | simp (disch := omega) only [k9e_63_0, k9e_63_8, k9e_63_11, k9e_63_15, k9e_63_20, k9e_63_22, k9e_63_31, k9e_63_35, Nat.reduceEqDiff, Int.reduceEq, Int.reduceLT, Int.reduceLE, k9_ps_s, k9_ps_n, k9_ur, false_and, and_false, true_and, and_true, true_or, or_true, false_or, or_false, eq_self, ↓reduceIte, not_true_eq_false, not_false_eq_true, n_toInt, n_cl, nI_1, nI_add, n_a0, n_p2, n_p3, n_p4, n_x2, n_x3, n_x4, n_x60, n_x100, n_pm1, k9L_m2, k9L_m1, k9L_0, k9L_1, k9L_2, k9L_3, k9L_4, k9L_5, k9L_6, k9L_7, k9L_8, k9L_9, k9L_10, k9L_20, k9L_23, k9L_24, k9L_30, k9L_40, k9L_50, k9L_60, k9L_99, k9L_100, k9L_120, k9L_255, k9L_999, k9L_1000, k9_bs, k9_ba, hB.1, k9L_m2])
        rw [show (999 : Int32) = nI 999 from rfl, nI_add]
        exact k9o_to e rfl
      · rw [if_neg h0] at e h62
        obtain ⟨Q, hQ⟩ : ∃ Q, Q = (p_sp2 (t + 1) w * (A - c (t + 1)) + (c (t + 1) - c (t + 1 - p_sp2 (t + 1) w)) - 1) / (c (t + 1) - c (t + 1 - p_sp2 (t + 1) w)) := ⟨_, rfl⟩
        rw [← hQ] at b1 e h62
        have b4 := p_ds_b Q (L - (t + 1))
        simp (disch := omega) only [k9e_63_0, k9e_63_8, k9e_63_11, k9e_63_15, k9e_63_20, k9e_63_22, k9e_63_31, k9e_63_35, Nat.reduceEqDiff, Int.reduceEq, Int.reduceLT, Int.reduceLE, k9_ps_s, k9_ps_n, k9_ur, false_and, and_false, true_and, and_true, true_or, or_true, false_or, or_false, eq_self, ↓reduceIte, not_true_eq_false, not_false_eq_true, n_toInt, n_cl, nI_1, nI_add, n_a0, n_p2, n_p3, n_p4, n_x2, n_x3, n_x4, n_x60, n_x100, n_pm1, k9L_m2, k9L_m1, k9L_0, k9L_1, k9L_2, k9L_3, k9L_4, k9L_5, k9L_6, k9L_7, k9L_8, k9L_9, k9L_10, k9L_20, k9L_23, k9L_24, k9L_30, k9L_40, k9L_50, k9L_60, k9L_99, k9L_100, k9L_120, k9L_255, k9L_999, k9L_1000, k9_bs, k9_ba, hB.1, k9L_m2, n_sub, n_abs]
        repeat (first | ((with_reducible refine k9q_T ?_ ?_); · omega) | ((with_reducible refine k9q_F ?_ ?_); · omega) | ((with_reducible refine k9q_Tb ?_ ?_); · omega) | ((with_reducible refine k9q_Fb ?_ ?_); · omega) | (refine k9o_call (h62) ?_; simp (disch := omega) only [k9e_63_0, k9e_63_8, k9e_63_11, k9e_63_15, k9e_63_20, k9e_63_22, k9e_63_31, k9e_63_35, Nat.reduceEqDiff, Int.reduceEq, Int.reduceLT, Int.reduceLE, k9_ps_s, k9_ps_n, k9_ur, false_and, and_false, true_and, and_true, true_or, or_true, false_or, or_false, eq_self, ↓reduceIte, not_true_eq_false, not_false_eq_true, n_toInt, n_cl, nI_1, nI_add, n_a0, n_p2, n_p3, n_p4, n_x2, n_x3, n_x4, n_x60, n_x100, n_pm1, k9L_m2, k9L_m1, k9L_0, k9L_1, k9L_2, k9L_3, k9L_4, k9L_5, k9L_6, k9L_7, k9L_8, k9L_9, k9L_10, k9L_20, k9L_23, k9L_24, k9L_30, k9L_40, k9L_50, k9L_60, k9L_99, k9L_100, k9L_120, k9L_255, k9L_999, k9L_1000, k9_bs, k9_ba, hB.1, k9L_m2, n_sub, n_abs]) | simp (disch := omega) only [k9e_63_0, k9e_63_8, k9e_63_11, k9e_63_15, k9e_63_20, k9e_63_22, k9e_63_31, k9e_63_35, Nat.reduceEqDiff, Int.reduceEq, Int.reduceLT, Int.reduceLE, k9_ps_s, k9_ps_n, k9_ur, false_and, and_false, true_and, and_true, true_or, or_true, false_or, or_false, eq_self, ↓reduceIte, not_true_eq_false, not_false_eq_true, n_toInt, n_cl, nI_1, nI_add, n_a0, n_p2, n_p3, n_p4, n_x2, n_x3, n_x4, n_x60, n_x100, n_pm1, k9L_m2, k9L_m1, k9L_0, k9L_1, k9L_2, k9L_3, k9L_4, k9L_5, k9L_6, k9L_7, k9L_8, k9L_9, k9L_10, k9L_20, k9L_23, k9L_24, k9L_30, k9L_40, k9L_50, k9L_60, k9L_99, k9L_100, k9L_120, k9L_255, k9L_999, k9L_1000, k9_bs, k9_ba, hB.1, k9L_m2, n_sub, n_abs])
        rw [show (999 : Int32) = nI 999 from rfl, n_min (by omega) (by omega), nI_add]
        exact k9o_to e rfl
  rw [k9e_63_0]
  exact key L 0 (by omega)
theorem p_se_b (h : Nat → Nat) : ∀ t, p_se h t ≤ t
  | 0 => Nat.le_refl _
  | t + 1 => by
    have := p_se_b h t
    unfold p_se
    split <;> omega
theorem k9s_64 {x : Nat} (hB : k9_Br I i0 L A h c 0 M) (hL : L ≤ M) (hM : M ≤ 1000) (hh : ∀ t, h t ≤ 100) (hx : x ≤ 1000) (hx1 : 1 ≤ x) : k9_R S d 64 0 [some (k9_r 2 i0), some (k9_i (nI x)), none, none] [] I J = some (some (k9_i (p_dd h x (L - 1) 1)), I, J) := by
  have key : ∀ k t, t + k + 1 = L → k9_R S d 64 4 [some (k9_r 2 i0), some (k9_i (nI x)), some (k9_i (nI (p_se h t))), some (k9_i (nI (t + 1)))] [] I J = some (some (k9_i (p_dd h x k (t + 1))), I, J) := by
    intro k
    induction k with
    | zero =>
      intro t ht
      have hb := p_se_b h t
      refine k9o_of (k9o_eq k9e_64_4 ?_)
      simp (disch := omega) only [k9e_64_0, k9e_64_8, k9e_64_11, k9e_64_15, k9e_64_21, k9e_64_22, k9e_64_26, k9e_64_27, k9e_64_31, k9e_64_33, k9e_64_35, Nat.reduceEqDiff, Int.reduceEq, Int.reduceLT, Int.reduceLE, k9_ps_s, k9_ps_n, k9_ur, false_and, and_false, true_and, and_true, true_or, or_true, false_or, or_false, eq_self, ↓reduceIte, not_true_eq_false, not_false_eq_true, n_toInt, n_cl, nI_1, nI_add, n_a0, n_p2, n_p3, n_p4, n_x2, n_x3, n_x4, n_x60, n_x100, n_pm1, k9L_m2, k9L_m1, k9L_0, k9L_1, k9L_2, k9L_3, k9L_4, k9L_5, k9L_6, k9L_7, k9L_8, k9L_9, k9L_10, k9L_20, k9L_23, k9L_24, k9L_30, k9L_40, k9L_50, k9L_60, k9L_99, k9L_100, k9L_120, k9L_255, k9L_999, k9L_1000, k9_bs, k9_ba, hB.1]
      repeat (first | ((with_reducible refine k9q_T ?_ ?_); · omega) | ((with_reducible refine k9q_F ?_ ?_); · omega) | ((with_reducible refine k9q_Tb ?_ ?_); · omega) | ((with_reducible refine k9q_Fb ?_ ?_); · omega) | simp (disch := omega) only [k9e_64_0, k9e_64_8, k9e_64_11, k9e_64_15, k9e_64_21, k9e_64_22, k9e_64_26, k9e_64_27, k9e_64_31, k9e_64_33, k9e_64_35, Nat.reduceEqDiff, Int.reduceEq, Int.reduceLT, Int.reduceLE, k9_ps_s, k9_ps_n, k9_ur, false_and, and_false, true_and, and_true, true_or, or_true, false_or, or_false, eq_self, ↓reduceIte, not_true_eq_false, not_false_eq_true, n_toInt, n_cl, nI_1, nI_add, n_a0, n_p2, n_p3, n_p4, n_x2, n_x3, n_x4, n_x60, n_x100, n_pm1, k9L_m2, k9L_m1, k9L_0, k9L_1, k9L_2, k9L_3, k9L_4, k9L_5, k9L_6, k9L_7, k9L_8, k9L_9, k9L_10, k9L_20, k9L_23, k9L_24, k9L_30, k9L_40, k9L_50, k9L_60, k9L_99, k9L_100, k9L_120, k9L_255, k9L_999, k9L_1000, k9_bs, k9_ba, hB.1])
      exact k9o_ret rfl
    | succ k ih =>
      intro t ht
      have hb := p_se_b h (t + 1)
      have e := ih (t + 1) (by omega)
      have a := (hB.2.2 (t + 1) (Nat.zero_le _) (by omega)).1
      have a' := (hB.2.2 t (Nat.zero_le _) (by omega)).1
      have b := hh (t + 1)
      have b' := hh t
      refine k9o_of (k9o_eq k9e_64_4 ?_)
      by_cases hs : h (t + 1) = h t
      · have hse : p_se h (t + 1) = p_se h t + 1 := by rw [p_se, if_pos hs]
        simp (disch := omega) only [k9e_64_0, k9e_64_8, k9e_64_11, k9e_64_15, k9e_64_21, k9e_64_22, k9e_64_26, k9e_64_27, k9e_64_31, k9e_64_33, k9e_64_35, Nat.reduceEqDiff, Int.reduceEq, Int.reduceLT, Int.reduceLE, k9_ps_s, k9_ps_n, k9_ur, false_and, and_false, true_and, and_true, true_or, or_true, false_or, or_false, eq_self, ↓reduceIte, not_true_eq_false, not_false_eq_true, n_toInt, n_cl, nI_1, nI_add, n_a0, n_p2, n_p3, n_p4, n_x2, n_x3, n_x4, n_x60, n_x100, n_pm1, k9L_m2, k9L_m1, k9L_0, k9L_1, k9L_2, k9L_3, k9L_4, k9L_5, k9L_6, k9L_7, k9L_8, k9L_9, k9L_10, k9L_20, k9L_23, k9L_24, k9L_30, k9L_40, k9L_50, k9L_60, k9L_99, k9L_100, k9L_120, k9L_255, k9L_999, k9L_1000, k9_bs, k9_ba, hB.1, a, a', n_s1, Nat.add_sub_cancel]
        repeat (first | ((with_reducible refine k9q_T ?_ ?_); · omega) | ((with_reducible refine k9q_F ?_ ?_); · omega) | ((with_reducible refine k9q_Tb ?_ ?_); · omega) | ((with_reducible refine k9q_Fb ?_ ?_); · omega))
        rw [← hse]
        by_cases hd : x ≤ p_se h (t + 1)
        · rw [show p_dd h x (k + 1) (t + 1) = nI (t + 1) by rw [p_dd, if_pos hd]]
          repeat (first | ((with_reducible refine k9q_T ?_ ?_); · omega) | ((with_reducible refine k9q_F ?_ ?_); · omega) | ((with_reducible refine k9q_Tb ?_ ?_); · omega) | ((with_reducible refine k9q_Fb ?_ ?_); · omega))
          exact k9o_ret rfl
        · rw [show p_dd h x (k + 1) (t + 1) = p_dd h x k (t + 1 + 1) by rw [p_dd, if_neg hd]]
          repeat (first | ((with_reducible refine k9q_T ?_ ?_); · omega) | ((with_reducible refine k9q_F ?_ ?_); · omega) | ((with_reducible refine k9q_Tb ?_ ?_); · omega) | ((with_reducible refine k9q_Fb ?_ ?_); · omega))
          exact k9o_to e rfl
      · have hse : p_se h (t + 1) = 0 := by rw [p_se, if_neg hs]
        rw [show p_dd h x (k + 1) (t + 1) = p_dd h x k (t + 1 + 1) by rw [p_dd, if_neg (by omega)]]
        rw [hse] at e
        simp (disch := omega) only [k9e_64_0, k9e_64_8, k9e_64_11, k9e_64_15, k9e_64_21, k9e_64_22, k9e_64_26, k9e_64_27, k9e_64_31, k9e_64_33, k9e_64_35, Nat.reduceEqDiff, Int.reduceEq, Int.reduceLT, Int.reduceLE, k9_ps_s, k9_ps_n, k9_ur, false_and, and_false, true_and, and_true, true_or, or_true, false_or, or_false, eq_self, ↓reduceIte, not_true_eq_false, not_false_eq_true, n_toInt, n_cl, nI_1, nI_add, n_a0, n_p2, n_p3, n_p4, n_x2, n_x3, n_x4, n_x60, n_x100, n_pm1, k9L_m2, k9L_m1, k9L_0, k9L_1, k9L_2, k9L_3, k9L_4, k9L_5, k9L_6, k9L_7, k9L_8, k9L_9, k9L_10, k9L_20, k9L_23, k9L_24, k9L_30, k9L_40, k9L_50, k9L_60, k9L_99, k9L_100, k9L_120, k9L_255, k9L_999, k9L_1000, k9_bs, k9_ba, hB.1, a, a', n_s1, Nat.add_sub_cancel]
        repeat (first | ((with_reducible refine k9q_T ?_ ?_); · omega) | ((with_reducible refine k9q_F ?_ ?_); · omega) | ((with_reducible refine k9q_Tb ?_ ?_); · omega) | ((with_reducible refine k9q_Fb ?_ ?_); · omega))
        exact k9o_to e rfl
  rw [k9e_64_0]
  by_cases hL0 : L = 0
  · subst hL0
    refine k9o_of (k9o_eq k9e_64_4 ?_)
    simp (disch := omega) only [k9e_64_0, k9e_64_8, k9e_64_11, k9e_64_15, k9e_64_21, k9e_64_22, k9e_64_26, k9e_64_27, k9e_64_31, k9e_64_33, k9e_64_35, Nat.reduceEqDiff, Int.reduceEq, Int.reduceLT, Int.reduceLE, k9_ps_s, k9_ps_n, k9_ur, false_and, and_false, true_and, and_true, true_or, or_true, false_or, or_false, eq_self, ↓reduceIte, not_true_eq_false, not_false_eq_true, n_toInt, n_cl, nI_1, nI_add, n_a0, n_p2, n_p3, n_p4, n_x2, n_x3, n_x4, n_x60, n_x100, n_pm1, k9L_m2, k9L_m1, k9L_0, k9L_1, k9L_2, k9L_3, k9L_4, k9L_5, k9L_6, k9L_7, k9L_8, k9L_9, k9L_10, k9L_20, k9L_23, k9L_24, k9L_30, k9L_40, k9L_50, k9L_60, k9L_99, k9L_100, k9L_120, k9L_255, k9L_999, k9L_1000, k9_bs, k9_ba, hB.1]
    repeat (first | ((with_reducible refine k9q_T ?_ ?_); · omega) | ((with_reducible refine k9q_F ?_ ?_); · omega) | ((with_reducible refine k9q_Tb ?_ ?_); · omega) | ((with_reducible refine k9q_Fb ?_ ?_); · omega) | simp (disch := omega) only [k9e_64_0, k9e_64_8, k9e_64_11, k9e_64_15, k9e_64_21, k9e_64_22, k9e_64_26, k9e_64_27, k9e_64_31, k9e_64_33, k9e_64_35, Nat.reduceEqDiff, Int.reduceEq, Int.reduceLT, Int.reduceLE, k9_ps_s, k9_ps_n, k9_ur, false_and, and_false, true_and, and_true, true_or, or_true, false_or, or_false, eq_self, ↓reduceIte, not_true_eq_false, not_false_eq_true, n_toInt, n_cl, nI_1, nI_add, n_a0, n_p2, n_p3, n_p4, n_x2, n_x3, n_x4, n_x60, n_x100, n_pm1, k9L_m2, k9L_m1, k9L_0, k9L_1, k9L_2, k9L_3, k9L_4, k9L_5, k9L_6, k9L_7, k9L_8, k9L_9, k9L_10, k9L_20, k9L_23, k9L_24, k9L_30, k9L_40, k9L_50, k9L_60, k9L_99, k9L_100, k9L_120, k9L_255, k9L_999, k9L_1000, k9_bs, k9_ba, hB.1])
    exact k9o_ret rfl
  · exact key (L - 1) 0 (by omega)
theorem k9s_65 (hB : k9_Br I i0 L A h c 0 M) (hL : L < M) (hM : M ≤ 1000) : k9_R S d 65 0 [some (k9_r 2 i0), none, none] [] I J = some (some (k9_i (p_pl h L)), I, J) := by
  have key : ∀ k t, t + k = L → k9_R S d 65 4 [some (k9_r 2 i0), some (k9_i (p_pl h t)), some (k9_i (nI (t + 1)))] [] I J = some (some (k9_i (p_pl h L)), I, J) := by
    intro k
    induction k with
    | zero =>
      intro t ht
      obtain rfl : t = L := by omega
      refine k9o_of (k9o_eq k9e_65_4 ?_)
      simp (disch := omega) only [k9e_65_0, k9e_65_8, k9e_65_11, k9e_65_16, k9e_65_22, k9e_65_29, Nat.reduceEqDiff, Int.reduceEq, Int.reduceLT, Int.reduceLE, k9_ps_s, k9_ps_n, k9_ur, false_and, and_false, true_and, and_true, true_or, or_true, false_or, or_false, eq_self, ↓reduceIte, not_true_eq_false, not_false_eq_true, n_toInt, n_cl, nI_1, nI_add, n_a0, n_p2, n_p3, n_p4, n_x2, n_x3, n_x4, n_x60, n_x100, n_pm1, k9L_m2, k9L_m1, k9L_0, k9L_1, k9L_2, k9L_3, k9L_4, k9L_5, k9L_6, k9L_7, k9L_8, k9L_9, k9L_10, k9L_20, k9L_23, k9L_24, k9L_30, k9L_40, k9L_50, k9L_60, k9L_99, k9L_100, k9L_120, k9L_255, k9L_999, k9L_1000, k9_bs, k9_ba, hB.1]
      repeat (first | ((with_reducible refine k9q_T ?_ ?_); · omega) | ((with_reducible refine k9q_F ?_ ?_); · omega) | ((with_reducible refine k9q_Tb ?_ ?_); · omega) | ((with_reducible refine k9q_Fb ?_ ?_); · omega) | simp (disch := omega) only [k9e_65_0, k9e_65_8, k9e_65_11, k9e_65_16, k9e_65_22, k9e_65_29, Nat.reduceEqDiff, Int.reduceEq, Int.reduceLT, Int.reduceLE, k9_ps_s, k9_ps_n, k9_ur, false_and, and_false, true_and, and_true, true_or, or_true, false_or, or_false, eq_self, ↓reduceIte, not_true_eq_false, not_false_eq_true, n_toInt, n_cl, nI_1, nI_add, n_a0, n_p2, n_p3, n_p4, n_x2, n_x3, n_x4, n_x60, n_x100, n_pm1, k9L_m2, k9L_m1, k9L_0, k9L_1, k9L_2, k9L_3, k9L_4, k9L_5, k9L_6, k9L_7, k9L_8, k9L_9, k9L_10, k9L_20, k9L_23, k9L_24, k9L_30, k9L_40, k9L_50, k9L_60, k9L_99, k9L_100, k9L_120, k9L_255, k9L_999, k9L_1000, k9_bs, k9_ba, hB.1])
      exact k9o_ret rfl
    | succ k ih =>
      intro t ht
      have e := ih (t + 1) (by omega)
      have a := (hB.2.2 (t + 1) (Nat.zero_le _) (by omega)).1
      have a' := (hB.2.2 t (Nat.zero_le _) (by omega)).1
      refine k9o_of (k9o_eq k9e_65_4 ?_)
      simp (disch := omega) only [k9e_65_0, k9e_65_8, k9e_65_11, k9e_65_16, k9e_65_22, k9e_65_29, Nat.reduceEqDiff, Int.reduceEq, Int.reduceLT, Int.reduceLE, k9_ps_s, k9_ps_n, k9_ur, false_and, and_false, true_and, and_true, true_or, or_true, false_or, or_false, eq_self, ↓reduceIte, not_true_eq_false, not_false_eq_true, n_toInt, n_cl, nI_1, nI_add, n_a0, n_p2, n_p3, n_p4, n_x2, n_x3, n_x4, n_x60, n_x100, n_pm1, k9L_m2, k9L_m1, k9L_0, k9L_1, k9L_2, k9L_3, k9L_4, k9L_5, k9L_6, k9L_7, k9L_8, k9L_9, k9L_10, k9L_20, k9L_23, k9L_24, k9L_30, k9L_40, k9L_50, k9L_60, k9L_99, k9L_100, k9L_120, k9L_255, k9L_999, k9L_1000, k9_bs, k9_ba, hB.1, a, a', n_s1, Nat.add_sub_cancel]
      repeat (first | ((with_reducible refine k9q_T ?_ ?_); · omega) | ((with_reducible refine k9q_F ?_ ?_); · omega) | ((with_reducible refine k9q_Tb ?_ ?_); · omega) | ((with_reducible refine k9q_Fb ?_ ?_); · omega) | simp (disch := omega) only [k9e_65_0, k9e_65_8, k9e_65_11, k9e_65_16, k9e_65_22, k9e_65_29, Nat.reduceEqDiff, Int.reduceEq, Int.reduceLT, Int.reduceLE, k9_ps_s, k9_ps_n, k9_ur, false_and, and_false, true_and, and_true, true_or, or_true, false_or, or_false, eq_self, ↓reduceIte, not_true_eq_false, not_false_eq_true, n_toInt, n_cl, nI_1, nI_add, n_a0, n_p2, n_p3, n_p4, n_x2, n_x3, n_x4, n_x60, n_x100, n_pm1, k9L_m2, k9L_m1, k9L_0, k9L_1, k9L_2, k9L_3, k9L_4, k9L_5, k9L_6, k9L_7, k9L_8, k9L_9, k9L_10, k9L_20, k9L_23, k9L_24, k9L_30, k9L_40, k9L_50, k9L_60, k9L_99, k9L_100, k9L_120, k9L_255, k9L_999, k9L_1000, k9_bs, k9_ba, hB.1, a, a', n_s1, Nat.add_sub_cancel])
      exact k9o_to e rfl
  rw [k9e_65_0]
  exact key L 0 (by omega)
theorem k9s_94 {i : Nat} (hi : i < 60) : k9_R S d 94 0 [some (k9_r 11 i0), some (k9_i (nI i))] [] I J = some (some (k9_l (J 37 i0 i)), I, J) := by
  refine k9o_of ?_
  simp (disch := omega) only [k9e_94_0, k9e_94_2, k9e_94_5, k9e_94_9, k9e_94_10, k9e_94_11, Nat.reduceEqDiff, Int.reduceEq, Int.reduceLT, Int.reduceLE, k9_ps_s, k9_ps_n, k9_ur, false_and, and_false, true_and, and_true, true_or, or_true, false_or, or_false, eq_self, ↓reduceIte, not_true_eq_false, not_false_eq_true, n_toInt, n_cl, nI_1, nI_add, n_a0, n_p2, n_p3, n_p4, n_x2, n_x3, n_x4, n_x60, n_x100, n_pm1, k9L_m2, k9L_m1, k9L_0, k9L_1, k9L_2, k9L_3, k9L_4, k9L_5, k9L_6, k9L_7, k9L_8, k9L_9, k9L_10, k9L_20, k9L_23, k9L_24, k9L_30, k9L_40, k9L_50, k9L_60, k9L_99, k9L_100, k9L_120, k9L_255, k9L_999, k9L_1000, k9_bs, k9_ba]
  repeat (first | ((with_reducible refine k9q_T ?_ ?_); · omega) | ((with_reducible refine k9q_F ?_ ?_); · omega) | ((with_reducible refine k9q_Tb ?_ ?_); · omega) | ((with_reducible refine k9q_Fb ?_ ?_); · omega) | simp (disch := omega) only [k9e_94_0, k9e_94_2, k9e_94_5, k9e_94_9, k9e_94_10, k9e_94_11, Nat.reduceEqDiff, Int.reduceEq, Int.reduceLT, Int.reduceLE, k9_ps_s, k9_ps_n, k9_ur, false_and, and_false, true_and, and_true, true_or, or_true, false_or, or_false, eq_self, ↓reduceIte, not_true_eq_false, not_false_eq_true, n_toInt, n_cl, nI_1, nI_add, n_a0, n_p2, n_p3, n_p4, n_x2, n_x3, n_x4, n_x60, n_x100, n_pm1, k9L_m2, k9L_m1, k9L_0, k9L_1, k9L_2, k9L_3, k9L_4, k9L_5, k9L_6, k9L_7, k9L_8, k9L_9, k9L_10, k9L_20, k9L_23, k9L_24, k9L_30, k9L_40, k9L_50, k9L_60, k9L_99, k9L_100, k9L_120, k9L_255, k9L_999, k9L_1000, k9_bs, k9_ba])
  exact k9o_ret rfl
theorem k9s_95 {i : Nat} (hi : i < 60) : k9_R S (d + 1) 95 0 [some (k9_r 11 i0), some (k9_i (nI i))] [] I J = some (some (k9_i (J 37 i0 i).toInt32), I, J) := by
  refine k9o_of ?_
  simp (disch := omega) only [k9e_95_0, k9e_95_3, Nat.reduceEqDiff, Int.reduceEq, Int.reduceLT, Int.reduceLE, k9_ps_s, k9_ps_n, k9_ur, false_and, and_false, true_and, and_true, true_or, or_true, false_or, or_false, eq_self, ↓reduceIte, not_true_eq_false, not_false_eq_true, n_toInt, n_cl, nI_1, nI_add, n_a0, n_p2, n_p3, n_p4, n_x2, n_x3, n_x4, n_x60, n_x100, n_pm1, k9L_m2, k9L_m1, k9L_0, k9L_1, k9L_2, k9L_3, k9L_4, k9L_5, k9L_6, k9L_7, k9L_8, k9L_9, k9L_10, k9L_20, k9L_23, k9L_24, k9L_30, k9L_40, k9L_50, k9L_60, k9L_99, k9L_100, k9L_120, k9L_255, k9L_999, k9L_1000, k9_bs, k9_ba]
  repeat (first | ((with_reducible refine k9q_T ?_ ?_); · omega) | ((with_reducible refine k9q_F ?_ ?_); · omega) | ((with_reducible refine k9q_Tb ?_ ?_); · omega) | ((with_reducible refine k9q_Fb ?_ ?_); · omega) | (refine k9o_call (k9s_94 hi) ?_; simp (disch := omega) only [k9e_95_0, k9e_95_3, Nat.reduceEqDiff, Int.reduceEq, Int.reduceLT, Int.reduceLE, k9_ps_s, k9_ps_n, k9_ur, false_and, and_false, true_and, and_true, true_or, or_true, false_or, or_false, eq_self, ↓reduceIte, not_true_eq_false, not_false_eq_true, n_toInt, n_cl, nI_1, nI_add, n_a0, n_p2, n_p3, n_p4, n_x2, n_x3, n_x4, n_x60, n_x100, n_pm1, k9L_m2, k9L_m1, k9L_0, k9L_1, k9L_2, k9L_3, k9L_4, k9L_5, k9L_6, k9L_7, k9L_8, k9L_9, k9L_10, k9L_20, k9L_23, k9L_24, k9L_30, k9L_40, k9L_50, k9L_60, k9L_99, k9L_100, k9L_120, k9L_255, k9L_999, k9L_1000, k9_bs, k9_ba]) | simp (disch := omega) only [k9e_95_0, k9e_95_3, Nat.reduceEqDiff, Int.reduceEq, Int.reduceLT, Int.reduceLE, k9_ps_s, k9_ps_n, k9_ur, false_and, and_false, true_and, and_true, true_or, or_true, false_or, or_false, eq_self, ↓reduceIte, not_true_eq_false, not_false_eq_true, n_toInt, n_cl, nI_1, nI_add, n_a0, n_p2, n_p3, n_p4, n_x2, n_x3, n_x4, n_x60, n_x100, n_pm1, k9L_m2, k9L_m1, k9L_0, k9L_1, k9L_2, k9L_3, k9L_4, k9L_5, k9L_6, k9L_7, k9L_8, k9L_9, k9L_10, k9L_20, k9L_23, k9L_24, k9L_30, k9L_40, k9L_50, k9L_60, k9L_99, k9L_100, k9L_120, k9L_255, k9L_999, k9L_1000, k9_bs, k9_ba])
  exact k9o_ret rfl
theorem p_fu_1 {h : Nat → Nat} {b : Nat → Int32} {t k i : Nat} (z : 999 < t + i ∨ ¬ nI (h (t + i)) = b i) : p_fu h b t (k + 1) i = nI i := by rw [p_fu, if_pos z]
theorem p_fu_2 {h : Nat → Nat} {b : Nat → Int32} {t k i : Nat} (z : ¬ 999 < t + i) (z' : nI (h (t + i)) = b i) : p_fu h b t (k + 1) i = p_fu h b t k (i + 1) := by rw [p_fu, if_neg (fun y => y.elim z (fun y => y z'))]
theorem k9s_66 {t n : Nat} (hB : k9_Br I i0 L A h c f M) (hft : f ≤ t) (hn : I 11 i1 3 = nI n) (hn60 : n ≤ 60) (hM : M ≤ 1000) (ht : t ≤ 999) (hM2 : t + n ≤ M ∨ M = 1000) : k9_R S (d + 2) 66 0 [some (k9_r 2 i0), some (k9_r 11 i1), some (k9_i (nI t)), none] [] I J = some (some (k9_i (p_fu h (fun i => (J 37 i1 i).toInt32) t n 0)), I, J) := by
  have key : ∀ k i, i + k = n → k9_R S (d + 2) 66 2 [some (k9_r 2 i0), some (k9_r 11 i1), some (k9_i (nI t)), some (k9_i (nI i))] [] I J = some (some (k9_i (p_fu h (fun i => (J 37 i1 i).toInt32) t k i)), I, J) := by
    intro k
    induction k with
    | zero =>
      intro i hi
      refine k9o_of (k9o_eq k9e_66_2 ?_)
      simp (disch := omega) only [k9e_66_0, k9e_66_6, k9e_66_11, k9e_66_16, k9e_66_19, k9e_66_20, k9e_66_22, k9e_66_24, Nat.reduceEqDiff, Int.reduceEq, Int.reduceLT, Int.reduceLE, k9_ps_s, k9_ps_n, k9_ur, false_and, and_false, true_and, and_true, true_or, or_true, false_or, or_false, eq_self, ↓reduceIte, not_true_eq_false, not_false_eq_true, n_toInt, n_cl, nI_1, nI_add, n_a0, n_p2, n_p3, n_p4, n_x2, n_x3, n_x4, n_x60, n_x100, n_pm1, k9L_m2, k9L_m1, k9L_0, k9L_1, k9L_2, k9L_3, k9L_4, k9L_5, k9L_6, k9L_7, k9L_8, k9L_9, k9L_10, k9L_20, k9L_23, k9L_24, k9L_30, k9L_40, k9L_50, k9L_60, k9L_99, k9L_100, k9L_120, k9L_255, k9L_999, k9L_1000, k9_bs, k9_ba, hn]
      repeat (first | ((with_reducible refine k9q_T ?_ ?_); · omega) | ((with_reducible refine k9q_F ?_ ?_); · omega) | ((with_reducible refine k9q_Tb ?_ ?_); · omega) | ((with_reducible refine k9q_Fb ?_ ?_); · omega) | simp (disch := omega) only [k9e_66_0, k9e_66_6, k9e_66_11, k9e_66_16, k9e_66_19, k9e_66_20, k9e_66_22, k9e_66_24, Nat.reduceEqDiff, Int.reduceEq, Int.reduceLT, Int.reduceLE, k9_ps_s, k9_ps_n, k9_ur, false_and, and_false, true_and, and_true, true_or, or_true, false_or, or_false, eq_self, ↓reduceIte, not_true_eq_false, not_false_eq_true, n_toInt, n_cl, nI_1, nI_add, n_a0, n_p2, n_p3, n_p4, n_x2, n_x3, n_x4, n_x60, n_x100, n_pm1, k9L_m2, k9L_m1, k9L_0, k9L_1, k9L_2, k9L_3, k9L_4, k9L_5, k9L_6, k9L_7, k9L_8, k9L_9, k9L_10, k9L_20, k9L_23, k9L_24, k9L_30, k9L_40, k9L_50, k9L_60, k9L_99, k9L_100, k9L_120, k9L_255, k9L_999, k9L_1000, k9_bs, k9_ba, hn])
      exact k9o_ret rfl
    | succ k ih =>
      intro i hi
      have e := ih (i + 1) (by omega)
      refine k9o_of (k9o_eq k9e_66_2 ?_)
      by_cases h9 : 999 < t + i
      · rw [p_fu_1 (Or.inl h9)]
        simp (disch := omega) only [k9e_66_0, k9e_66_6, k9e_66_11, k9e_66_16, k9e_66_19, k9e_66_20, k9e_66_22, k9e_66_24, Nat.reduceEqDiff, Int.reduceEq, Int.reduceLT, Int.reduceLE, k9_ps_s, k9_ps_n, k9_ur, false_and, and_false, true_and, and_true, true_or, or_true, false_or, or_false, eq_self, ↓reduceIte, not_true_eq_false, not_false_eq_true, n_toInt, n_cl, nI_1, nI_add, n_a0, n_p2, n_p3, n_p4, n_x2, n_x3, n_x4, n_x60, n_x100, n_pm1, k9L_m2, k9L_m1, k9L_0, k9L_1, k9L_2, k9L_3, k9L_4, k9L_5, k9L_6, k9L_7, k9L_8, k9L_9, k9L_10, k9L_20, k9L_23, k9L_24, k9L_30, k9L_40, k9L_50, k9L_60, k9L_99, k9L_100, k9L_120, k9L_255, k9L_999, k9L_1000, k9_bs, k9_ba, hn]
        repeat (first | ((with_reducible refine k9q_T ?_ ?_); · omega) | ((with_reducible refine k9q_F ?_ ?_); · omega) | ((with_reducible refine k9q_Tb ?_ ?_); · omega) | ((with_reducible refine k9q_Fb ?_ ?_); · omega) | simp (disch := omega) only [k9e_66_0, k9e_66_6, k9e_66_11, k9e_66_16, k9e_66_19, k9e_66_20, k9e_66_22, k9e_66_24, Nat.reduceEqDiff, Int.reduceEq, Int.reduceLT, Int.reduceLE, k9_ps_s, k9_ps_n, k9_ur, false_and, and_false, true_and, and_true, true_or, or_true, false_or, or_false, eq_self, ↓reduceIte, not_true_eq_false, not_false_eq_true, n_toInt, n_cl, nI_1, nI_add, n_a0, n_p2, n_p3, n_p4, n_x2, n_x3, n_x4, n_x60, n_x100, n_pm1, k9L_m2, k9L_m1, k9L_0, k9L_1, k9L_2, k9L_3, k9L_4, k9L_5, k9L_6, k9L_7, k9L_8, k9L_9, k9L_10, k9L_20, k9L_23, k9L_24, k9L_30, k9L_40, k9L_50, k9L_60, k9L_99, k9L_100, k9L_120, k9L_255, k9L_999, k9L_1000, k9_bs, k9_ba, hn])
        exact k9o_ret rfl
      · by_cases hc : nI (h (t + i)) = (J 37 i1 i).toInt32
        · rw [p_fu_2 h9 hc]
          simp (disch := omega) only [k9e_66_0, k9e_66_6, k9e_66_11, k9e_66_16, k9e_66_19, k9e_66_20, k9e_66_22, k9e_66_24, Nat.reduceEqDiff, Int.reduceEq, Int.reduceLT, Int.reduceLE, k9_ps_s, k9_ps_n, k9_ur, false_and, and_false, true_and, and_true, true_or, or_true, false_or, or_false, eq_self, ↓reduceIte, not_true_eq_false, not_false_eq_true, n_toInt, n_cl, nI_1, nI_add, n_a0, n_p2, n_p3, n_p4, n_x2, n_x3, n_x4, n_x60, n_x100, n_pm1, k9L_m2, k9L_m1, k9L_0, k9L_1, k9L_2, k9L_3, k9L_4, k9L_5, k9L_6, k9L_7, k9L_8, k9L_9, k9L_10, k9L_20, k9L_23, k9L_24, k9L_30, k9L_40, k9L_50, k9L_60, k9L_99, k9L_100, k9L_120, k9L_255, k9L_999, k9L_1000, k9_bs, k9_ba, hn]
          repeat (first | ((with_reducible refine k9q_T ?_ ?_); · omega) | ((with_reducible refine k9q_F ?_ ?_); · omega) | ((with_reducible refine k9q_Tb ?_ ?_); · omega) | ((with_reducible refine k9q_Fb ?_ ?_); · omega))
          refine k9o_call (k9s_56 hB (by omega) (by omega) hM) ?_
          simp only [k9_ps_s, k9_ps_n]
          refine k9o_eq k9e_66_16 ?_
          refine k9o_call (k9s_95 (by omega)) ?_
          simp only [k9_ps_s, k9_ps_n]
          refine k9o_eq k9e_66_19 ?_
          refine k9o_T (by rw [hc]) ?_
          simp (disch := omega) only [k9e_66_0, k9e_66_6, k9e_66_11, k9e_66_16, k9e_66_19, k9e_66_20, k9e_66_22, k9e_66_24, Nat.reduceEqDiff, Int.reduceEq, Int.reduceLT, Int.reduceLE, k9_ps_s, k9_ps_n, k9_ur, false_and, and_false, true_and, and_true, true_or, or_true, false_or, or_false, eq_self, ↓reduceIte, not_true_eq_false, not_false_eq_true, n_toInt, n_cl, nI_1, nI_add, n_a0, n_p2, n_p3, n_p4, n_x2, n_x3, n_x4, n_x60, n_x100, n_pm1, k9L_m2, k9L_m1, k9L_0, k9L_1, k9L_2, k9L_3, k9L_4, k9L_5, k9L_6, k9L_7, k9L_8, k9L_9, k9L_10, k9L_20, k9L_23, k9L_24, k9L_30, k9L_40, k9L_50, k9L_60, k9L_99, k9L_100, k9L_120, k9L_255, k9L_999, k9L_1000, k9_bs, k9_ba]
          exact k9o_to e rfl
        · rw [p_fu_1 (Or.inr hc)]
          simp (disch := omega) only [k9e_66_0, k9e_66_6, k9e_66_11, k9e_66_16, k9e_66_19, k9e_66_20, k9e_66_22, k9e_66_24, Nat.reduceEqDiff, Int.reduceEq, Int.reduceLT, Int.reduceLE, k9_ps_s, k9_ps_n, k9_ur, false_and, and_false, true_and, and_true, true_or, or_true, false_or, or_false, eq_self, ↓reduceIte, not_true_eq_false, not_false_eq_true, n_toInt, n_cl, nI_1, nI_add, n_a0, n_p2, n_p3, n_p4, n_x2, n_x3, n_x4, n_x60, n_x100, n_pm1, k9L_m2, k9L_m1, k9L_0, k9L_1, k9L_2, k9L_3, k9L_4, k9L_5, k9L_6, k9L_7, k9L_8, k9L_9, k9L_10, k9L_20, k9L_23, k9L_24, k9L_30, k9L_40, k9L_50, k9L_60, k9L_99, k9L_100, k9L_120, k9L_255, k9L_999, k9L_1000, k9_bs, k9_ba, hn]
          repeat (first | ((with_reducible refine k9q_T ?_ ?_); · omega) | ((with_reducible refine k9q_F ?_ ?_); · omega) | ((with_reducible refine k9q_Tb ?_ ?_); · omega) | ((with_reducible refine k9q_Fb ?_ ?_); · omega))
          refine k9o_call (k9s_56 hB (by omega) (by omega) hM) ?_
          simp only [k9_ps_s, k9_ps_n]
          refine k9o_eq k9e_66_16 ?_
          refine k9o_call (k9s_95 (by omega)) ?_
          simp only [k9_ps_s, k9_ps_n]
          refine k9o_eq k9e_66_19 ?_
          refine k9o_F (fun z => hc (n_ext z)) ?_
          simp (disch := omega) only [k9e_66_0, k9e_66_6, k9e_66_11, k9e_66_16, k9e_66_19, k9e_66_20, k9e_66_22, k9e_66_24, Nat.reduceEqDiff, Int.reduceEq, Int.reduceLT, Int.reduceLE, k9_ps_s, k9_ps_n, k9_ur, false_and, and_false, true_and, and_true, true_or, or_true, false_or, or_false, eq_self, ↓reduceIte, not_true_eq_false, not_false_eq_true, n_toInt, n_cl, nI_1, nI_add, n_a0, n_p2, n_p3, n_p4, n_x2, n_x3, n_x4, n_x60, n_x100, n_pm1, k9L_m2, k9L_m1, k9L_0, k9L_1, k9L_2, k9L_3, k9L_4, k9L_5, k9L_6, k9L_7, k9L_8, k9L_9, k9L_10, k9L_20, k9L_23, k9L_24, k9L_30, k9L_40, k9L_50, k9L_60, k9L_99, k9L_100, k9L_120, k9L_255, k9L_999, k9L_1000, k9_bs, k9_ba]
          exact k9o_ret rfl
  rw [k9e_66_0]
  exact key n 0 (by omega)
end KB8
