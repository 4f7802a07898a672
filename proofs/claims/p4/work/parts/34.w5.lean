/-! WALK.go, and what a bar shows -/
section KB
variable {S : k9_S} {d : Nat} {I : k9_I} {J : k9_J} {i0 i1 i2 : Nat} {w : Nat → Nat → Nat}
theorem p_tt_b (hf : k9_wf w) : p_tt w 0 ≤ 594 ∧ p_tt w 1 ≤ 54 ∧ p_tt w 2 ≤ 954 :=
  ⟨p_sm0_b hf (Nat.le_refl _), p_sm3_b hf (Nat.le_refl _), p_len_b hf⟩
theorem k9s_21 {t D : Nat} (hW : k9_Wk I i1 w) (hf : k9_wf w) (hl : k9_Wl I i0 w D) (hD : D ≤ p_dn w t) (ht : t ≤ 1000) : ∃ I', k9_R S (d + 2) 21 0 [some (k9_r 4 i0), some (k9_r 3 i1), some (k9_i (nI t))] [] I J = some (none, I', J) ∧ k9_Wl I' i0 w (p_dn w t) ∧ k9_Wc I' i0 w t ∧ k9_fx (k9_Fk i0) I I' := by
  obtain ⟨g1, g2, g3⟩ := p_dn_sp w t
  have h6 := hf.1
  have key : ∀ k D I1, D + k = p_dn w t → k9_Wk I1 i1 w → k9_Wl I1 i0 w D → k9_fx (k9_Fk i0) I I1 → k9_ok (k9_R S (d + 2) 21 0 [some (k9_r 4 i0), some (k9_r 3 i1), some (k9_i (nI t))] [] I1 J) (fun q => ∃ I', q = (none, I', J) ∧ k9_Wl I' i0 w (p_dn w t) ∧ k9_Wc I' i0 w t ∧ k9_fx (k9_Fk i0) I I') := by
    intro k
    induction k with
    | zero =>
      intro D I1 hk hW hl hx
      obtain rfl : D = p_dn w t := by omega
      obtain ⟨a5, a6, a7, a8, a9, a10, a11, a12, a13⟩ := hl
      have b1 := p_sm0_b hf g1
      have b3 := p_sm3_b hf g1
      have b5 := p_st_b hf g1
      obtain ⟨b6, b7, b8⟩ := p_tt_b hf
      have bc := p_co_b hf t
      unfold p_co at bc
      refine k9o_eq k9e_21_0 ?_
      by_cases h : p_dn w t < w 7 0
      · have a8 := a8 h
        have g3 := g3 h
        have b4 := p_st_b hf (show p_dn w t + 1 ≤ w 7 0 by omega)
        simp (disch := omega) only [k9e_21_5, k9e_21_9, k9e_21_17, k9e_21_27, k9e_21_42, k9e_21_51, k9e_21_62, k9e_21_70, k9e_21_77, k9e_21_84, k9e_21_90, Nat.reduceEqDiff, Int.reduceEq, Int.reduceLT, Int.reduceLE, k9_ps_s, k9_ps_n, k9_ur, false_and, and_false, true_and, and_true, true_or, or_true, false_or, or_false, eq_self, ↓reduceIte, not_true_eq_false, not_false_eq_true, n_toInt, n_cl, nI_1, nI_add, n_a0, n_p2, n_p3, n_p4, n_x2, n_x3, n_x4, n_x60, n_x100, n_pm1, k9L_m2, k9L_m1, k9L_0, k9L_1, k9L_2, k9L_3, k9L_4, k9L_5, k9L_6, k9L_7, k9L_8, k9L_9, k9L_10, k9L_20, k9L_23, k9L_24, k9L_30, k9L_40, k9L_50, k9L_60, k9L_99, k9L_100, k9L_120, k9L_255, k9L_999, k9L_1000, k9_bs, k9_ba, a5, a6, a7, a8, a9, a10, a11, a12, a13, n_sub]
        repeat (first | ((with_reducible refine k9q_T ?_ ?_); · omega) | ((with_reducible refine k9q_F ?_ ?_); · omega) | ((with_reducible refine k9q_Tb ?_ ?_); · omega) | ((with_reducible refine k9q_Fb ?_ ?_); · omega) | (refine k9o_call (k9s_13 (by repeat (first | exact hW | apply k9_Wk_u rfl)) hf g1 (by omega)) ?_; simp (disch := omega) only [k9e_21_5, k9e_21_9, k9e_21_17, k9e_21_27, k9e_21_42, k9e_21_51, k9e_21_62, k9e_21_70, k9e_21_77, k9e_21_84, k9e_21_90, Nat.reduceEqDiff, Int.reduceEq, Int.reduceLT, Int.reduceLE, k9_ps_s, k9_ps_n, k9_ur, false_and, and_false, true_and, and_true, true_or, or_true, false_or, or_false, eq_self, ↓reduceIte, not_true_eq_false, not_false_eq_true, n_toInt, n_cl, nI_1, nI_add, n_a0, n_p2, n_p3, n_p4, n_x2, n_x3, n_x4, n_x60, n_x100, n_pm1, k9L_m2, k9L_m1, k9L_0, k9L_1, k9L_2, k9L_3, k9L_4, k9L_5, k9L_6, k9L_7, k9L_8, k9L_9, k9L_10, k9L_20, k9L_23, k9L_24, k9L_30, k9L_40, k9L_50, k9L_60, k9L_99, k9L_100, k9L_120, k9L_255, k9L_999, k9L_1000, k9_bs, k9_ba, a5, a6, a7, a8, a9, a10, a11, a12, a13, n_sub]) | (refine k9o_call (k9s_24 (by omega) (by omega)) ?_; simp (disch := omega) only [k9e_21_5, k9e_21_9, k9e_21_17, k9e_21_27, k9e_21_42, k9e_21_51, k9e_21_62, k9e_21_70, k9e_21_77, k9e_21_84, k9e_21_90, Nat.reduceEqDiff, Int.reduceEq, Int.reduceLT, Int.reduceLE, k9_ps_s, k9_ps_n, k9_ur, false_and, and_false, true_and, and_true, true_or, or_true, false_or, or_false, eq_self, ↓reduceIte, not_true_eq_false, not_false_eq_true, n_toInt, n_cl, nI_1, nI_add, n_a0, n_p2, n_p3, n_p4, n_x2, n_x3, n_x4, n_x60, n_x100, n_pm1, k9L_m2, k9L_m1, k9L_0, k9L_1, k9L_2, k9L_3, k9L_4, k9L_5, k9L_6, k9L_7, k9L_8, k9L_9, k9L_10, k9L_20, k9L_23, k9L_24, k9L_30, k9L_40, k9L_50, k9L_60, k9L_99, k9L_100, k9L_120, k9L_255, k9L_999, k9L_1000, k9_bs, k9_ba, a5, a6, a7, a8, a9, a10, a11, a12, a13, n_sub]) | (refine k9o_call (k9s_23 (by omega) (by omega)) ?_; simp (disch := omega) only [k9e_21_5, k9e_21_9, k9e_21_17, k9e_21_27, k9e_21_42, k9e_21_51, k9e_21_62, k9e_21_70, k9e_21_77, k9e_21_84, k9e_21_90, Nat.reduceEqDiff, Int.reduceEq, Int.reduceLT, Int.reduceLE, k9_ps_s, k9_ps_n, k9_ur, false_and, and_false, true_and, and_true, true_or, or_true, false_or, or_false, eq_self, ↓reduceIte, not_true_eq_false, not_false_eq_true, n_toInt, n_cl, nI_1, nI_add, n_a0, n_p2, n_p3, n_p4, n_x2, n_x3, n_x4, n_x60, n_x100, n_pm1, k9L_m2, k9L_m1, k9L_0, k9L_1, k9L_2, k9L_3, k9L_4, k9L_5, k9L_6, k9L_7, k9L_8, k9L_9, k9L_10, k9L_20, k9L_23, k9L_24, k9L_30, k9L_40, k9L_50, k9L_60, k9L_99, k9L_100, k9L_120, k9L_255, k9L_999, k9L_1000, k9_bs, k9_ba, a5, a6, a7, a8, a9, a10, a11, a12, a13, n_sub]) | simp (disch := omega) only [k9e_21_5, k9e_21_9, k9e_21_17, k9e_21_27, k9e_21_42, k9e_21_51, k9e_21_62, k9e_21_70, k9e_21_77, k9e_21_84, k9e_21_90, Nat.reduceEqDiff, Int.reduceEq, Int.reduceLT, Int.reduceLE, k9_ps_s, k9_ps_n, k9_ur, false_and, and_false, true_and, and_true, true_or, or_true, false_or, or_false, eq_self, ↓reduceIte, not_true_eq_false, not_false_eq_true, n_toInt, n_cl, nI_1, nI_add, n_a0, n_p2, n_p3, n_p4, n_x2, n_x3, n_x4, n_x60, n_x100, n_pm1, k9L_m2, k9L_m1, k9L_0, k9L_1, k9L_2, k9L_3, k9L_4, k9L_5, k9L_6, k9L_7, k9L_8, k9L_9, k9L_10, k9L_20, k9L_23, k9L_24, k9L_30, k9L_40, k9L_50, k9L_60, k9L_99, k9L_100, k9L_120, k9L_255, k9L_999, k9L_1000, k9_bs, k9_ba, a5, a6, a7, a8, a9, a10, a11, a12, a13, n_sub])
        refine k9o_ret ⟨_, rfl, ?_, ?_, ?_⟩
        · unfold k9_Wl
          simp (disch := omega) only [k9_ur, Nat.reduceEqDiff, false_and, and_false, true_and, and_true, eq_self, ↓reduceIte, a5, a6, a7, a8, a9, a10, a11, a12, a13, implies_true]
        · unfold k9_Wc
          simp (disch := omega) only [k9_ur, Nat.reduceEqDiff, false_and, and_false, true_and, and_true, eq_self, ↓reduceIte]
          exact ⟨rfl, rfl, rfl, rfl, rfl⟩
        · exact k9_fx_u (k9_fx_u (k9_fx_u (k9_fx_u (k9_fx_u hx (k9_Fk_t _)) (k9_Fk_t _)) (k9_Fk_t _)) (k9_Fk_t _)) (k9_Fk_t _)
      · simp (disch := omega) only [k9e_21_5, k9e_21_9, k9e_21_17, k9e_21_27, k9e_21_42, k9e_21_51, k9e_21_62, k9e_21_70, k9e_21_77, k9e_21_84, k9e_21_90, Nat.reduceEqDiff, Int.reduceEq, Int.reduceLT, Int.reduceLE, k9_ps_s, k9_ps_n, k9_ur, false_and, and_false, true_and, and_true, true_or, or_true, false_or, or_false, eq_self, ↓reduceIte, not_true_eq_false, not_false_eq_true, n_toInt, n_cl, nI_1, nI_add, n_a0, n_p2, n_p3, n_p4, n_x2, n_x3, n_x4, n_x60, n_x100, n_pm1, k9L_m2, k9L_m1, k9L_0, k9L_1, k9L_2, k9L_3, k9L_4, k9L_5, k9L_6, k9L_7, k9L_8, k9L_9, k9L_10, k9L_20, k9L_23, k9L_24, k9L_30, k9L_40, k9L_50, k9L_60, k9L_99, k9L_100, k9L_120, k9L_255, k9L_999, k9L_1000, k9_bs, k9_ba, a5, a6, a7, a9, a10, a11, a12, a13, n_sub]
        repeat (first | ((with_reducible refine k9q_T ?_ ?_); · omega) | ((with_reducible refine k9q_F ?_ ?_); · omega) | ((with_reducible refine k9q_Tb ?_ ?_); · omega) | ((with_reducible refine k9q_Fb ?_ ?_); · omega) | (refine k9o_call (k9s_13 (by repeat (first | exact hW | apply k9_Wk_u rfl)) hf g1 (by omega)) ?_; simp (disch := omega) only [k9e_21_5, k9e_21_9, k9e_21_17, k9e_21_27, k9e_21_42, k9e_21_51, k9e_21_62, k9e_21_70, k9e_21_77, k9e_21_84, k9e_21_90, Nat.reduceEqDiff, Int.reduceEq, Int.reduceLT, Int.reduceLE, k9_ps_s, k9_ps_n, k9_ur, false_and, and_false, true_and, and_true, true_or, or_true, false_or, or_false, eq_self, ↓reduceIte, not_true_eq_false, not_false_eq_true, n_toInt, n_cl, nI_1, nI_add, n_a0, n_p2, n_p3, n_p4, n_x2, n_x3, n_x4, n_x60, n_x100, n_pm1, k9L_m2, k9L_m1, k9L_0, k9L_1, k9L_2, k9L_3, k9L_4, k9L_5, k9L_6, k9L_7, k9L_8, k9L_9, k9L_10, k9L_20, k9L_23, k9L_24, k9L_30, k9L_40, k9L_50, k9L_60, k9L_99, k9L_100, k9L_120, k9L_255, k9L_999, k9L_1000, k9_bs, k9_ba, a5, a6, a7, a9, a10, a11, a12, a13, n_sub]) | (refine k9o_call (k9s_24 (by omega) (by omega)) ?_; simp (disch := omega) only [k9e_21_5, k9e_21_9, k9e_21_17, k9e_21_27, k9e_21_42, k9e_21_51, k9e_21_62, k9e_21_70, k9e_21_77, k9e_21_84, k9e_21_90, Nat.reduceEqDiff, Int.reduceEq, Int.reduceLT, Int.reduceLE, k9_ps_s, k9_ps_n, k9_ur, false_and, and_false, true_and, and_true, true_or, or_true, false_or, or_false, eq_self, ↓reduceIte, not_true_eq_false, not_false_eq_true, n_toInt, n_cl, nI_1, nI_add, n_a0, n_p2, n_p3, n_p4, n_x2, n_x3, n_x4, n_x60, n_x100, n_pm1, k9L_m2, k9L_m1, k9L_0, k9L_1, k9L_2, k9L_3, k9L_4, k9L_5, k9L_6, k9L_7, k9L_8, k9L_9, k9L_10, k9L_20, k9L_23, k9L_24, k9L_30, k9L_40, k9L_50, k9L_60, k9L_99, k9L_100, k9L_120, k9L_255, k9L_999, k9L_1000, k9_bs, k9_ba, a5, a6, a7, a9, a10, a11, a12, a13, n_sub]) | (refine k9o_call (k9s_23 (by omega) (by omega)) ?_; simp (disch := omega) only [k9e_21_5, k9e_21_9, k9e_21_17, k9e_21_27, k9e_21_42, k9e_21_51, k9e_21_62, k9e_21_70, k9e_21_77, k9e_21_84, k9e_21_90, Nat.reduceEqDiff, Int.reduceEq, Int.reduceLT, Int.reduceLE, k9_ps_s, k9_ps_n, k9_ur, false_and, and_false, true_and, and_true, true_or, or_true, false_or, or_false, eq_self, ↓reduceIte, not_true_eq_false, not_false_eq_true, n_toInt, n_cl, nI_1, nI_add, n_a0, n_p2, n_p3, n_p4, n_x2, n_x3, n_x4, n_x60, n_x100, n_pm1, k9L_m2, k9L_m1, k9L_0, k9L_1, k9L_2, k9L_3, k9L_4, k9L_5, k9L_6, k9L_7, k9L_8, k9L_9, k9L_10, k9L_20, k9L_23, k9L_24, k9L_30, k9L_40, k9L_50, k9L_60, k9L_99, k9L_100, k9L_120, k9L_255, k9L_999, k9L_1000, k9_bs, k9_ba, a5, a6, a7, a9, a10, a11, a12, a13, n_sub]) | simp (disch := omega) only [k9e_21_5, k9e_21_9, k9e_21_17, k9e_21_27, k9e_21_42, k9e_21_51, k9e_21_62, k9e_21_70, k9e_21_77, k9e_21_84, k9e_21_90, Nat.reduceEqDiff, Int.reduceEq, Int.reduceLT, Int.reduceLE, k9_ps_s, k9_ps_n, k9_ur, false_and, and_false, true_and, and_true, true_or, or_true, false_or, or_false, eq_self, ↓reduceIte, not_true_eq_false, not_false_eq_true, n_toInt, n_cl, nI_1, nI_add, n_a0, n_p2, n_p3, n_p4, n_x2, n_x3, n_x4, n_x60, n_x100, n_pm1, k9L_m2, k9L_m1, k9L_0, k9L_1, k9L_2, k9L_3, k9L_4, k9L_5, k9L_6, k9L_7, k9L_8, k9L_9, k9L_10, k9L_20, k9L_23, k9L_24, k9L_30, k9L_40, k9L_50, k9L_60, k9L_99, k9L_100, k9L_120, k9L_255, k9L_999, k9L_1000, k9_bs, k9_ba, a5, a6, a7, a9, a10, a11, a12, a13, n_sub])
        refine k9o_ret ⟨_, rfl, ?_, ?_, ?_⟩
        · unfold k9_Wl
          simp (disch := omega) only [k9_ur, Nat.reduceEqDiff, false_and, and_false, true_and, and_true, eq_self, ↓reduceIte, a5, a6, a7, a9, a10, a11, a12, a13]
          exact fun z => absurd z h
        · unfold k9_Wc
          simp (disch := omega) only [k9_ur, Nat.reduceEqDiff, false_and, and_false, true_and, and_true, eq_self, ↓reduceIte]
          exact ⟨rfl, rfl, rfl, rfl, rfl⟩
        · exact k9_fx_u (k9_fx_u (k9_fx_u (k9_fx_u (k9_fx_u hx (k9_Fk_t _)) (k9_Fk_t _)) (k9_Fk_t _)) (k9_Fk_t _)) (k9_Fk_t _)
    | succ k ih =>
      intro D I1 hk hW hl hx
      have hDn : D < w 7 0 := by omega
      obtain ⟨a5, a6, a7, a8, a9, a10, a11, a12, a13⟩ := hl
      have a8 := a8 hDn
      have b4 := p_st_b hf (show D + 1 ≤ w 7 0 by omega)
      have b5 := p_st_mono (w := w) (show D + 1 ≤ p_dn w t by omega)
      have hh0 : p_has w D 0 := Or.inl ⟨by omega, hDn⟩
      have hh3 : p_has w D 3 := Or.inl ⟨by omega, hDn⟩
      refine k9o_eq k9e_21_0 ?_
      by_cases h : D + 1 < w 7 0
      · simp (disch := omega) only [k9e_21_5, k9e_21_9, k9e_21_17, k9e_21_27, k9e_21_42, k9e_21_51, k9e_21_62, k9e_21_70, k9e_21_77, k9e_21_84, k9e_21_90, Nat.reduceEqDiff, Int.reduceEq, Int.reduceLT, Int.reduceLE, k9_ps_s, k9_ps_n, k9_ur, false_and, and_false, true_and, and_true, true_or, or_true, false_or, or_false, eq_self, ↓reduceIte, not_true_eq_false, not_false_eq_true, n_toInt, n_cl, nI_1, nI_add, n_a0, n_p2, n_p3, n_p4, n_x2, n_x3, n_x4, n_x60, n_x100, n_pm1, k9L_m2, k9L_m1, k9L_0, k9L_1, k9L_2, k9L_3, k9L_4, k9L_5, k9L_6, k9L_7, k9L_8, k9L_9, k9L_10, k9L_20, k9L_23, k9L_24, k9L_30, k9L_40, k9L_50, k9L_60, k9L_99, k9L_100, k9L_120, k9L_255, k9L_999, k9L_1000, k9_bs, k9_ba, a5, a6, a7, a8, a9, a10, a11, a12, a13]
        repeat (first | ((with_reducible refine k9q_T ?_ ?_); · omega) | ((with_reducible refine k9q_F ?_ ?_); · omega) | ((with_reducible refine k9q_Tb ?_ ?_); · omega) | ((with_reducible refine k9q_Fb ?_ ?_); · omega) | (refine k9o_call (k9s_5 (q := 0) (by repeat (first | exact hW | apply k9_Wk_u rfl)) hf hh0) ?_; simp (disch := omega) only [k9e_21_5, k9e_21_9, k9e_21_17, k9e_21_27, k9e_21_42, k9e_21_51, k9e_21_62, k9e_21_70, k9e_21_77, k9e_21_84, k9e_21_90, Nat.reduceEqDiff, Int.reduceEq, Int.reduceLT, Int.reduceLE, k9_ps_s, k9_ps_n, k9_ur, false_and, and_false, true_and, and_true, true_or, or_true, false_or, or_false, eq_self, ↓reduceIte, not_true_eq_false, not_false_eq_true, n_toInt, n_cl, nI_1, nI_add, n_a0, n_p2, n_p3, n_p4, n_x2, n_x3, n_x4, n_x60, n_x100, n_pm1, k9L_m2, k9L_m1, k9L_0, k9L_1, k9L_2, k9L_3, k9L_4, k9L_5, k9L_6, k9L_7, k9L_8, k9L_9, k9L_10, k9L_20, k9L_23, k9L_24, k9L_30, k9L_40, k9L_50, k9L_60, k9L_99, k9L_100, k9L_120, k9L_255, k9L_999, k9L_1000, k9_bs, k9_ba, a5, a6, a7, a8, a9, a10, a11, a12, a13]) | (refine k9o_call (k9s_5 (q := 3) (by repeat (first | exact hW | apply k9_Wk_u rfl)) hf hh3) ?_; simp (disch := omega) only [k9e_21_5, k9e_21_9, k9e_21_17, k9e_21_27, k9e_21_42, k9e_21_51, k9e_21_62, k9e_21_70, k9e_21_77, k9e_21_84, k9e_21_90, Nat.reduceEqDiff, Int.reduceEq, Int.reduceLT, Int.reduceLE, k9_ps_s, k9_ps_n, k9_ur, false_and, and_false, true_and, and_true, true_or, or_true, false_or, or_false, eq_self, ↓reduceIte, not_true_eq_false, not_false_eq_true, n_toInt, n_cl, nI_1, nI_add, n_a0, n_p2, n_p3, n_p4, n_x2, n_x3, n_x4, n_x60, n_x100, n_pm1, k9L_m2, k9L_m1, k9L_0, k9L_1, k9L_2, k9L_3, k9L_4, k9L_5, k9L_6, k9L_7, k9L_8, k9L_9, k9L_10, k9L_20, k9L_23, k9L_24, k9L_30, k9L_40, k9L_50, k9L_60, k9L_99, k9L_100, k9L_120, k9L_255, k9L_999, k9L_1000, k9_bs, k9_ba, a5, a6, a7, a8, a9, a10, a11, a12, a13]) | (refine k9o_call (k9s_9 (by repeat (first | exact hW | apply k9_Wk_u rfl)) hf h) ?_; simp (disch := omega) only [k9e_21_5, k9e_21_9, k9e_21_17, k9e_21_27, k9e_21_42, k9e_21_51, k9e_21_62, k9e_21_70, k9e_21_77, k9e_21_84, k9e_21_90, Nat.reduceEqDiff, Int.reduceEq, Int.reduceLT, Int.reduceLE, k9_ps_s, k9_ps_n, k9_ur, false_and, and_false, true_and, and_true, true_or, or_true, false_or, or_false, eq_self, ↓reduceIte, not_true_eq_false, not_false_eq_true, n_toInt, n_cl, nI_1, nI_add, n_a0, n_p2, n_p3, n_p4, n_x2, n_x3, n_x4, n_x60, n_x100, n_pm1, k9L_m2, k9L_m1, k9L_0, k9L_1, k9L_2, k9L_3, k9L_4, k9L_5, k9L_6, k9L_7, k9L_8, k9L_9, k9L_10, k9L_20, k9L_23, k9L_24, k9L_30, k9L_40, k9L_50, k9L_60, k9L_99, k9L_100, k9L_120, k9L_255, k9L_999, k9L_1000, k9_bs, k9_ba, a5, a6, a7, a8, a9, a10, a11, a12, a13]) | simp (disch := omega) only [k9e_21_5, k9e_21_9, k9e_21_17, k9e_21_27, k9e_21_42, k9e_21_51, k9e_21_62, k9e_21_70, k9e_21_77, k9e_21_84, k9e_21_90, Nat.reduceEqDiff, Int.reduceEq, Int.reduceLT, Int.reduceLE, k9_ps_s, k9_ps_n, k9_ur, false_and, and_false, true_and, and_true, true_or, or_true, false_or, or_false, eq_self, ↓reduceIte, not_true_eq_false, not_false_eq_true, n_toInt, n_cl, nI_1, nI_add, n_a0, n_p2, n_p3, n_p4, n_x2, n_x3, n_x4, n_x60, n_x100, n_pm1, k9L_m2, k9L_m1, k9L_0, k9L_1, k9L_2, k9L_3, k9L_4, k9L_5, k9L_6, k9L_7, k9L_8, k9L_9, k9L_10, k9L_20, k9L_23, k9L_24, k9L_30, k9L_40, k9L_50, k9L_60, k9L_99, k9L_100, k9L_120, k9L_255, k9L_999, k9L_1000, k9_bs, k9_ba, a5, a6, a7, a8, a9, a10, a11, a12, a13])
        refine ih (D + 1) _ (by omega) (by repeat (first | exact hW | apply k9_Wk_u rfl)) ?_ ?_
        · unfold k9_Wl
          simp (disch := omega) only [k9_ur, Nat.reduceEqDiff, false_and, and_false, true_and, and_true, eq_self, ↓reduceIte, a5, a6, a7, a8, a9, a10, a11, a12, a13]
          exact ⟨fun _ => rfl, rfl, rfl⟩
        · exact k9_fx_u (k9_fx_u (k9_fx_u (k9_fx_u (k9_fx_u hx (k9_Fk_t _)) (k9_Fk_t _)) (k9_Fk_t _)) (k9_Fk_t _)) (k9_Fk_t _)
      · simp (disch := omega) only [k9e_21_5, k9e_21_9, k9e_21_17, k9e_21_27, k9e_21_42, k9e_21_51, k9e_21_62, k9e_21_70, k9e_21_77, k9e_21_84, k9e_21_90, Nat.reduceEqDiff, Int.reduceEq, Int.reduceLT, Int.reduceLE, k9_ps_s, k9_ps_n, k9_ur, false_and, and_false, true_and, and_true, true_or, or_true, false_or, or_false, eq_self, ↓reduceIte, not_true_eq_false, not_false_eq_true, n_toInt, n_cl, nI_1, nI_add, n_a0, n_p2, n_p3, n_p4, n_x2, n_x3, n_x4, n_x60, n_x100, n_pm1, k9L_m2, k9L_m1, k9L_0, k9L_1, k9L_2, k9L_3, k9L_4, k9L_5, k9L_6, k9L_7, k9L_8, k9L_9, k9L_10, k9L_20, k9L_23, k9L_24, k9L_30, k9L_40, k9L_50, k9L_60, k9L_99, k9L_100, k9L_120, k9L_255, k9L_999, k9L_1000, k9_bs, k9_ba, a5, a6, a7, a8, a9, a10, a11, a12, a13]
        repeat (first | ((with_reducible refine k9q_T ?_ ?_); · omega) | ((with_reducible refine k9q_F ?_ ?_); · omega) | ((with_reducible refine k9q_Tb ?_ ?_); · omega) | ((with_reducible refine k9q_Fb ?_ ?_); · omega) | (refine k9o_call (k9s_5 (q := 0) (by repeat (first | exact hW | apply k9_Wk_u rfl)) hf hh0) ?_; simp (disch := omega) only [k9e_21_5, k9e_21_9, k9e_21_17, k9e_21_27, k9e_21_42, k9e_21_51, k9e_21_62, k9e_21_70, k9e_21_77, k9e_21_84, k9e_21_90, Nat.reduceEqDiff, Int.reduceEq, Int.reduceLT, Int.reduceLE, k9_ps_s, k9_ps_n, k9_ur, false_and, and_false, true_and, and_true, true_or, or_true, false_or, or_false, eq_self, ↓reduceIte, not_true_eq_false, not_false_eq_true, n_toInt, n_cl, nI_1, nI_add, n_a0, n_p2, n_p3, n_p4, n_x2, n_x3, n_x4, n_x60, n_x100, n_pm1, k9L_m2, k9L_m1, k9L_0, k9L_1, k9L_2, k9L_3, k9L_4, k9L_5, k9L_6, k9L_7, k9L_8, k9L_9, k9L_10, k9L_20, k9L_23, k9L_24, k9L_30, k9L_40, k9L_50, k9L_60, k9L_99, k9L_100, k9L_120, k9L_255, k9L_999, k9L_1000, k9_bs, k9_ba, a5, a6, a7, a8, a9, a10, a11, a12, a13]) | (refine k9o_call (k9s_5 (q := 3) (by repeat (first | exact hW | apply k9_Wk_u rfl)) hf hh3) ?_; simp (disch := omega) only [k9e_21_5, k9e_21_9, k9e_21_17, k9e_21_27, k9e_21_42, k9e_21_51, k9e_21_62, k9e_21_70, k9e_21_77, k9e_21_84, k9e_21_90, Nat.reduceEqDiff, Int.reduceEq, Int.reduceLT, Int.reduceLE, k9_ps_s, k9_ps_n, k9_ur, false_and, and_false, true_and, and_true, true_or, or_true, false_or, or_false, eq_self, ↓reduceIte, not_true_eq_false, not_false_eq_true, n_toInt, n_cl, nI_1, nI_add, n_a0, n_p2, n_p3, n_p4, n_x2, n_x3, n_x4, n_x60, n_x100, n_pm1, k9L_m2, k9L_m1, k9L_0, k9L_1, k9L_2, k9L_3, k9L_4, k9L_5, k9L_6, k9L_7, k9L_8, k9L_9, k9L_10, k9L_20, k9L_23, k9L_24, k9L_30, k9L_40, k9L_50, k9L_60, k9L_99, k9L_100, k9L_120, k9L_255, k9L_999, k9L_1000, k9_bs, k9_ba, a5, a6, a7, a8, a9, a10, a11, a12, a13]) | (refine k9o_call (k9s_9x (by repeat (first | exact hW | apply k9_Wk_u rfl)) hf h (by omega)) ?_; simp (disch := omega) only [k9e_21_5, k9e_21_9, k9e_21_17, k9e_21_27, k9e_21_42, k9e_21_51, k9e_21_62, k9e_21_70, k9e_21_77, k9e_21_84, k9e_21_90, Nat.reduceEqDiff, Int.reduceEq, Int.reduceLT, Int.reduceLE, k9_ps_s, k9_ps_n, k9_ur, false_and, and_false, true_and, and_true, true_or, or_true, false_or, or_false, eq_self, ↓reduceIte, not_true_eq_false, not_false_eq_true, n_toInt, n_cl, nI_1, nI_add, n_a0, n_p2, n_p3, n_p4, n_x2, n_x3, n_x4, n_x60, n_x100, n_pm1, k9L_m2, k9L_m1, k9L_0, k9L_1, k9L_2, k9L_3, k9L_4, k9L_5, k9L_6, k9L_7, k9L_8, k9L_9, k9L_10, k9L_20, k9L_23, k9L_24, k9L_30, k9L_40, k9L_50, k9L_60, k9L_99, k9L_100, k9L_120, k9L_255, k9L_999, k9L_1000, k9_bs, k9_ba, a5, a6, a7, a8, a9, a10, a11, a12, a13]) | simp (disch := omega) only [k9e_21_5, k9e_21_9, k9e_21_17, k9e_21_27, k9e_21_42, k9e_21_51, k9e_21_62, k9e_21_70, k9e_21_77, k9e_21_84, k9e_21_90, Nat.reduceEqDiff, Int.reduceEq, Int.reduceLT, Int.reduceLE, k9_ps_s, k9_ps_n, k9_ur, false_and, and_false, true_and, and_true, true_or, or_true, false_or, or_false, eq_self, ↓reduceIte, not_true_eq_false, not_false_eq_true, n_toInt, n_cl, nI_1, nI_add, n_a0, n_p2, n_p3, n_p4, n_x2, n_x3, n_x4, n_x60, n_x100, n_pm1, k9L_m2, k9L_m1, k9L_0, k9L_1, k9L_2, k9L_3, k9L_4, k9L_5, k9L_6, k9L_7, k9L_8, k9L_9, k9L_10, k9L_20, k9L_23, k9L_24, k9L_30, k9L_40, k9L_50, k9L_60, k9L_99, k9L_100, k9L_120, k9L_255, k9L_999, k9L_1000, k9_bs, k9_ba, a5, a6, a7, a8, a9, a10, a11, a12, a13])
        refine ih (D + 1) _ (by omega) (by repeat (first | exact hW | apply k9_Wk_u rfl)) ?_ ?_
        · unfold k9_Wl
          simp (disch := omega) only [k9_ur, Nat.reduceEqDiff, false_and, and_false, true_and, and_true, eq_self, ↓reduceIte, a5, a6, a7, a8, a9, a10, a11, a12, a13]
          exact ⟨fun z => absurd z h, rfl, rfl⟩
        · exact k9_fx_u (k9_fx_u (k9_fx_u (k9_fx_u (k9_fx_u hx (k9_Fk_t _)) (k9_Fk_t _)) (k9_Fk_t _)) (k9_Fk_t _)) (k9_Fk_t _)
  obtain ⟨q, e, I', rfl, h⟩ := key (p_dn w t - D) D I (by omega) hW hl (k9_fx_rf _ _)
  exact ⟨I', e, h⟩
/-! what is shown -/
def p_cl (x : Int32) : Nat := if x.toInt < 0 then 0 else if 100 < x.toInt then 100 else x.toInt.toNat
def p_ne (w : Nat → Nat → Nat) (c a : Nat) : Nat := if w 6 0 = 1 ∧ c < a then a else c
def p_li (w : Nat → Nat → Nat) (c a : Nat) : Nat := if 0 < w 5 0 ∧ a + w 5 0 < p_ne w c a then a + w 5 0 else p_ne w c a
def p_env (w : Nat → Nat → Nat) (T : Nat → Nat) (t a : Nat) : Nat → Int32 := fun k => if k < 4 then nI (p_ce w T t k) else if k = 4 then nI a else nI (w 7 0)
def p_rw (w : Nat → Nat → Nat) (T : Nat → Nat) (V : (Nat → Int32) → Int32) (t a : Nat) : Int32 := if w 4 0 = 4 then V (p_env w T t a) else nI (p_ce w T t (w 4 0))
def p_sn (w : Nat → Nat → Nat) (T : Nat → Nat) (V : (Nat → Int32) → Int32) (t a : Nat) : Nat := p_li w (p_cl (p_rw w T V t a)) a
def p_sh (w : Nat → Nat → Nat) (T : Nat → Nat) (V : (Nat → Int32) → Int32) : Nat → Nat
  | 0 => p_sn w T V 0 0
  | t + 1 => p_sn w T V (t + 1) (p_sh w T V t)
theorem p_cl_b (x : Int32) : p_cl x ≤ 100 := by
  unfold p_cl
  repeat' split
  all_goals omega
theorem p_ne_b {c a : Nat} (hc : c ≤ 100) (ha : a ≤ 100) : p_ne w c a ≤ 100 := by
  unfold p_ne
  split <;> omega
theorem p_li_b {c a : Nat} (hc : c ≤ 100) (ha : a ≤ 100) : p_li w c a ≤ 100 := by
  have h := p_ne_b (w := w) hc ha
  unfold p_li
  split <;> omega
theorem p_sn_b {T : Nat → Nat} {V : (Nat → Int32) → Int32} {t a : Nat} (ha : a ≤ 100) : p_sn w T V t a ≤ 100 := p_li_b (p_cl_b _) ha
theorem p_sh_b {T : Nat → Nat} {V : (Nat → Int32) → Int32} : ∀ t, p_sh w T V t ≤ 100
  | 0 => p_sn_b (Nat.zero_le _)
  | t + 1 => p_sn_b (p_sh_b t)
theorem k9s_55 {x : Int32} {a : Nat} (hW : k9_Wk I i0 w) (hf : k9_wf w) (ha : a ≤ 100) : k9_R S d 55 0 [some (k9_r 2 i0), some (k9_i x), some (k9_i (nI a)), none] [] I J = some (some (k9_i (nI (p_li w (p_cl x) a))), I, J) := by
  have key : ∀ c : Nat, c ≤ 100 → k9_ok (k9_R S d 55 10 [some (k9_r 2 i0), some (k9_i x), some (k9_i (nI a)), none] [k9_i (nI c)] I J) (fun q => q = (some (k9_i (nI (p_li w c a))), I, J)) := by
    intro c hc
    have h5 := hf.2.2.1
    have h7 := hf.2.2.2.1
    have k2 : ∀ c' : Nat, c' ≤ 100 → c' = p_ne w c a → k9_ok (k9_R S d 55 21 [some (k9_r 2 i0), some (k9_i x), some (k9_i (nI a)), some (k9_i (nI c'))] [] I J) (fun q => q = (some (k9_i (nI (p_li w c a))), I, J)) := by
      intro c' hc' e
      unfold p_li
      rw [← e]
      by_cases h : 0 < w 5 0 ∧ a + w 5 0 < c'
      · rw [if_pos h]
        simp (disch := omega) only [k9e_55_0, k9e_55_2, k9e_55_4, k9e_55_7, k9e_55_9, k9e_55_10, k9e_55_16, k9e_55_19, k9e_55_21, k9e_55_25, k9e_55_32, k9e_55_38, Nat.reduceEqDiff, Int.reduceEq, Int.reduceLT, Int.reduceLE, k9_ps_s, k9_ps_n, k9_ur, false_and, and_false, true_and, and_true, true_or, or_true, false_or, or_false, eq_self, ↓reduceIte, not_true_eq_false, not_false_eq_true, n_toInt, n_cl, nI_1, nI_add, n_a0, n_p2, n_p3, n_p4, n_x2, n_x3, n_x4, n_x60, n_x100, n_pm1, k9L_m2, k9L_m1, k9L_0, k9L_1, k9L_2, k9L_3, k9L_4, k9L_5, k9L_6, k9L_7, k9L_8, k9L_9, k9L_10, k9L_20, k9L_23, k9L_24, k9L_30, k9L_40, k9L_50, k9L_60, k9L_99, k9L_100, k9L_120, k9L_255, k9L_999, k9L_1000, k9_bs, k9_ba, hW.2.2.1]
        repeat (first | ((with_reducible refine k9q_T ?_ ?_); · omega) | ((with_reducible refine k9q_F ?_ ?_); · omega) | ((with_reducible refine k9q_Tb ?_ ?_); · omega) | ((with_reducible refine k9q_Fb ?_ ?_); · omega) | simp (disch := omega) only [k9e_55_0, k9e_55_2, k9e_55_4, k9e_55_7, k9e_55_9, k9e_55_10, k9e_55_16, k9e_55_19, k9e_55_21, k9e_55_25, k9e_55_32, k9e_55_38, Nat.reduceEqDiff, Int.reduceEq, Int.reduceLT, Int.reduceLE, k9_ps_s, k9_ps_n, k9_ur, false_and, and_false, true_and, and_true, true_or, or_true, false_or, or_false, eq_self, ↓reduceIte, not_true_eq_false, not_false_eq_true, n_toInt, n_cl, nI_1, nI_add, n_a0, n_p2, n_p3, n_p4, n_x2, n_x3, n_x4, n_x60, n_x100, n_pm1, k9L_m2, k9L_m1, k9L_0, k9L_1, k9L_2, k9L_3, k9L_4, k9L_5, k9L_6, k9L_7, k9L_8, k9L_9, k9L_10, k9L_20, k9L_23, k9L_24, k9L_30, k9L_40, k9L_50, k9L_60, k9L_99, k9L_100, k9L_120, k9L_255, k9L_999, k9L_1000, k9_bs, k9_ba, hW.2.2.1])
        exact k9o_ret rfl
      · rw [if_neg h]
        by_cases h0 : 0 < w 5 0
        · simp (disch := omega) only [k9e_55_0, k9e_55_2, k9e_55_4, k9e_55_7, k9e_55_9, k9e_55_10, k9e_55_16, k9e_55_19, k9e_55_21, k9e_55_25, k9e_55_32, k9e_55_38, Nat.reduceEqDiff, Int.reduceEq, Int.reduceLT, Int.reduceLE, k9_ps_s, k9_ps_n, k9_ur, false_and, and_false, true_and, and_true, true_or, or_true, false_or, or_false, eq_self, ↓reduceIte, not_true_eq_false, not_false_eq_true, n_toInt, n_cl, nI_1, nI_add, n_a0, n_p2, n_p3, n_p4, n_x2, n_x3, n_x4, n_x60, n_x100, n_pm1, k9L_m2, k9L_m1, k9L_0, k9L_1, k9L_2, k9L_3, k9L_4, k9L_5, k9L_6, k9L_7, k9L_8, k9L_9, k9L_10, k9L_20, k9L_23, k9L_24, k9L_30, k9L_40, k9L_50, k9L_60, k9L_99, k9L_100, k9L_120, k9L_255, k9L_999, k9L_1000, k9_bs, k9_ba, hW.2.2.1]
          repeat (first | ((with_reducible refine k9q_T ?_ ?_); · omega) | ((with_reducible refine k9q_F ?_ ?_); · omega) | ((with_reducible refine k9q_Tb ?_ ?_); · omega) | ((with_reducible refine k9q_Fb ?_ ?_); · omega) | simp (disch := omega) only [k9e_55_0, k9e_55_2, k9e_55_4, k9e_55_7, k9e_55_9, k9e_55_10, k9e_55_16, k9e_55_19, k9e_55_21, k9e_55_25, k9e_55_32, k9e_55_38, Nat.reduceEqDiff, Int.reduceEq, Int.reduceLT, Int.reduceLE, k9_ps_s, k9_ps_n, k9_ur, false_and, and_false, true_and, and_true, true_or, or_true, false_or, or_false, eq_self, ↓reduceIte, not_true_eq_false, not_false_eq_true, n_toInt, n_cl, nI_1, nI_add, n_a0, n_p2, n_p3, n_p4, n_x2, n_x3, n_x4, n_x60, n_x100, n_pm1, k9L_m2, k9L_m1, k9L_0, k9L_1, k9L_2, k9L_3, k9L_4, k9L_5, k9L_6, k9L_7, k9L_8, k9L_9, k9L_10, k9L_20, k9L_23, k9L_24, k9L_30, k9L_40, k9L_50, k9L_60, k9L_99, k9L_100, k9L_120, k9L_255, k9L_999, k9L_1000, k9_bs, k9_ba, hW.2.2.1])
          exact k9o_ret rfl
        · simp (disch := omega) only [k9e_55_0, k9e_55_2, k9e_55_4, k9e_55_7, k9e_55_9, k9e_55_10, k9e_55_16, k9e_55_19, k9e_55_21, k9e_55_25, k9e_55_32, k9e_55_38, Nat.reduceEqDiff, Int.reduceEq, Int.reduceLT, Int.reduceLE, k9_ps_s, k9_ps_n, k9_ur, false_and, and_false, true_and, and_true, true_or, or_true, false_or, or_false, eq_self, ↓reduceIte, not_true_eq_false, not_false_eq_true, n_toInt, n_cl, nI_1, nI_add, n_a0, n_p2, n_p3, n_p4, n_x2, n_x3, n_x4, n_x60, n_x100, n_pm1, k9L_m2, k9L_m1, k9L_0, k9L_1, k9L_2, k9L_3, k9L_4, k9L_5, k9L_6, k9L_7, k9L_8, k9L_9, k9L_10, k9L_20, k9L_23, k9L_24, k9L_30, k9L_40, k9L_50, k9L_60, k9L_99, k9L_100, k9L_120, k9L_255, k9L_999, k9L_1000, k9_bs, k9_ba, hW.2.2.1]
          repeat (first | ((with_reducible refine k9q_T ?_ ?_); · omega) | ((with_reducible refine k9q_F ?_ ?_); · omega) | ((with_reducible refine k9q_Tb ?_ ?_); · omega) | ((with_reducible refine k9q_Fb ?_ ?_); · omega) | simp (disch := omega) only [k9e_55_0, k9e_55_2, k9e_55_4, k9e_55_7, k9e_55_9, k9e_55_10, k9e_55_16, k9e_55_19, k9e_55_21, k9e_55_25, k9e_55_32, k9e_55_38, Nat.reduceEqDiff, Int.reduceEq, Int.reduceLT, Int.reduceLE, k9_ps_s, k9_ps_n, k9_ur, false_and, and_false, true_and, and_true, true_or, or_true, false_or, or_false, eq_self, ↓reduceIte, not_true_eq_false, not_false_eq_true, n_toInt, n_cl, nI_1, nI_add, n_a0, n_p2, n_p3, n_p4, n_x2, n_x3, n_x4, n_x60, n_x100, n_pm1, k9L_m2, k9L_m1, k9L_0, k9L_1, k9L_2, k9L_3, k9L_4, k9L_5, k9L_6, k9L_7, k9L_8, k9L_9, k9L_10, k9L_20, k9L_23, k9L_24, k9L_30, k9L_40, k9L_50, k9L_60, k9L_99, k9L_100, k9L_120, k9L_255, k9L_999, k9L_1000, k9_bs, k9_ba, hW.2.2.1])
          exact k9o_ret rfl
    refine k9o_eq k9e_55_10 ?_
    by_cases h1 : w 6 0 = 1
    · by_cases h2 : c < a
      · refine k9o_T (by rw [hW.2.2.2.1, n_toInt (by omega)]; omega) ?_
        refine k9o_eq k9e_55_16 ?_
        refine k9o_F (by rw [n_toInt (by omega), n_toInt (by omega)]; omega) ?_
        refine k9o_eq k9e_55_19 ?_
        exact k2 a ha (by rw [p_ne, if_pos ⟨h1, h2⟩])
      · refine k9o_T (by rw [hW.2.2.2.1, n_toInt (by omega)]; omega) ?_
        refine k9o_eq k9e_55_16 ?_
        refine k9o_T (by rw [n_toInt (by omega), n_toInt (by omega)]; omega) ?_
        exact k2 c hc (by rw [p_ne, if_neg (fun z => h2 z.2)])
    · refine k9o_F (by rw [hW.2.2.2.1, n_toInt (by omega)]; omega) ?_
      exact k2 c hc (by rw [p_ne, if_neg (fun z => h1 z.1)])
  refine k9o_of (k9o_eq k9e_55_0 ?_)
  unfold p_cl
  by_cases h0 : x.toInt < 0
  · rw [if_pos h0]
    refine k9o_F (by omega) (k9o_eq k9e_55_2 ?_)
    exact key 0 (by omega)
  · rw [if_neg h0]
    refine k9o_T (by omega) (k9o_eq k9e_55_4 ?_)
    by_cases h1 : 100 < x.toInt
    · rw [if_pos h1]
      refine k9o_F (by omega) (k9o_eq k9e_55_7 ?_)
      exact key 100 (by omega)
    · rw [if_neg h1]
      refine k9o_T (by omega) (k9o_eq k9e_55_9 ?_)
      obtain ⟨n, rfl, hn, -⟩ := n_of (x := x) (by omega)
      rw [show (nI n).toInt.toNat = n by omega]
      exact key n (by omega)
end KB
