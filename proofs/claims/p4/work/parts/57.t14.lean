/-! IN DEED: begin, pass, cancel, led, image, back -/
section KT14
variable {S : k9_S} {d : Nat} {I I' : k9_I} {J J' : k9_J} {w : Nat → Nat → Nat} {V : (Nat → Int32) → Int32} {b : Nat} {x1 x2 x3 : Int32}
theorem k9s_148w (v1 : k9_vW I w) (v3 : k9_vL I V) (v8 : k9_vR I w V) : ∃ I1, k9_R S (d + 6) 148 0 [some (k9_r 1 0)] [] I J = some (some (k9_r 2 0), I1, J) ∧ k9_Br I1 0 (p_len w) (p_tt w 0) (p_sh w (p_tt w) V) (p_co w) 0 1000 ∧ k9_vR I1 w V ∧ k9_fp (k9_Xs [8]) I I1 := by
  have v8' := v8
  rcases v8 with v8 | ⟨v8, hB⟩
  · obtain ⟨I1, e1, r1, x1⟩ := k9s_54 (S := S) (d := d + 1) (I := I) (J := J) (i0 := 0) (w := w) (V := V) (f := 0) (L := 1000) (x := 999) v1.1 v1.2.2.1 v3.1 k9L_999 (by omega) (by omega) (Or.inl rfl)
    have hB : k9_Br (k9_u I1 1 0 12 1) 0 (p_len w) (p_tt w 0) (p_sh w (p_tt w) V) (p_co w) 0 1000 := by
      refine ⟨?_, ?_, fun t h1 h2 => ?_⟩
      · simp only [k9_ur, Nat.reduceEqDiff, false_and, ↓reduceIte]; exact r1.1
      · simp only [k9_ur, Nat.reduceEqDiff, false_and, ↓reduceIte]; exact r1.2.1
      · simp only [k9_ur, Nat.reduceEqDiff, false_and, ↓reduceIte]; exact r1.2.2 t h1 h2
    refine ⟨k9_u I1 1 0 12 1, k9o_of ?_, hB, Or.inr ⟨by simp [k9_ur], hB⟩, k9_fp_u (k9_fp_x x1 (k9_Fb0_X rfl rfl)) rfl⟩
    simp (disch := omega) only [k9e_148_0, k9e_148_3, k9e_148_10, k9e_148_13, Nat.reduceEqDiff, Int.reduceEq, Int.reduceLT, Int.reduceLE, k9_ps_s, k9_ps_n, k9_ur, false_and, and_false, true_and, and_true, true_or, or_true, false_or, or_false, eq_self, ↓reduceIte, not_true_eq_false, not_false_eq_true, n_toInt, n_cl, nI_1, nI_add, n_a0, n_p2, n_p3, n_p4, n_x2, n_x3, n_x4, n_x60, n_x100, n_pm1, k9L_m2, k9L_m1, k9L_0, k9L_1, k9L_2, k9L_3, k9L_4, k9L_5, k9L_6, k9L_7, k9L_8, k9L_9, k9L_10, k9L_20, k9L_23, k9L_24, k9L_30, k9L_40, k9L_50, k9L_60, k9L_99, k9L_100, k9L_120, k9L_255, k9L_999, k9L_1000, k9_bs, k9_ba, v8]
    repeat (first | ((with_reducible refine k9q_T ?_ ?_); · omega) | ((with_reducible refine k9q_F ?_ ?_); · omega) | ((with_reducible refine k9q_Tb ?_ ?_); · omega) | ((with_reducible refine k9q_Fb ?_ ?_); · omega) | (refine k9o_call (e1) ?_; simp (disch := omega) only [k9e_148_0, k9e_148_3, k9e_148_10, k9e_148_13, Nat.reduceEqDiff, Int.reduceEq, Int.reduceLT, Int.reduceLE, k9_ps_s, k9_ps_n, k9_ur, false_and, and_false, true_and, and_true, true_or, or_true, false_or, or_false, eq_self, ↓reduceIte, not_true_eq_false, not_false_eq_true, n_toInt, n_cl, nI_1, nI_add, n_a0, n_p2, n_p3, n_p4, n_x2, n_x3, n_x4, n_x60, n_x100, n_pm1, k9L_m2, k9L_m1, k9L_0, k9L_1, k9L_2, k9L_3, k9L_4, k9L_5, k9L_6, k9L_7, k9L_8, k9L_9, k9L_10, k9L_20, k9L_23, k9L_24, k9L_30, k9L_40, k9L_50, k9L_60, k9L_99, k9L_100, k9L_120, k9L_255, k9L_999, k9L_1000, k9_bs, k9_ba, v8]) | simp (disch := omega) only [k9e_148_0, k9e_148_3, k9e_148_10, k9e_148_13, Nat.reduceEqDiff, Int.reduceEq, Int.reduceLT, Int.reduceLE, k9_ps_s, k9_ps_n, k9_ur, false_and, and_false, true_and, and_true, true_or, or_true, false_or, or_false, eq_self, ↓reduceIte, not_true_eq_false, not_false_eq_true, n_toInt, n_cl, nI_1, nI_add, n_a0, n_p2, n_p3, n_p4, n_x2, n_x3, n_x4, n_x60, n_x100, n_pm1, k9L_m2, k9L_m1, k9L_0, k9L_1, k9L_2, k9L_3, k9L_4, k9L_5, k9L_6, k9L_7, k9L_8, k9L_9, k9L_10, k9L_20, k9L_23, k9L_24, k9L_30, k9L_40, k9L_50, k9L_60, k9L_99, k9L_100, k9L_120, k9L_255, k9L_999, k9L_1000, k9_bs, k9_ba, v8])
    exact k9o_ret rfl
  · refine ⟨I, k9o_of ?_, hB, v8', k9_fp_rf _ _⟩
    simp (disch := omega) only [k9e_148_0, k9e_148_3, k9e_148_10, k9e_148_13, Nat.reduceEqDiff, Int.reduceEq, Int.reduceLT, Int.reduceLE, k9_ps_s, k9_ps_n, k9_ur, false_and, and_false, true_and, and_true, true_or, or_true, false_or, or_false, eq_self, ↓reduceIte, not_true_eq_false, not_false_eq_true, n_toInt, n_cl, nI_1, nI_add, n_a0, n_p2, n_p3, n_p4, n_x2, n_x3, n_x4, n_x60, n_x100, n_pm1, k9L_m2, k9L_m1, k9L_0, k9L_1, k9L_2, k9L_3, k9L_4, k9L_5, k9L_6, k9L_7, k9L_8, k9L_9, k9L_10, k9L_20, k9L_23, k9L_24, k9L_30, k9L_40, k9L_50, k9L_60, k9L_99, k9L_100, k9L_120, k9L_255, k9L_999, k9L_1000, k9_bs, k9_ba, v8]
    repeat (first | ((with_reducible refine k9q_T ?_ ?_); · omega) | ((with_reducible refine k9q_F ?_ ?_); · omega) | ((with_reducible refine k9q_Tb ?_ ?_); · omega) | ((with_reducible refine k9q_Fb ?_ ?_); · omega) | simp (disch := omega) only [k9e_148_0, k9e_148_3, k9e_148_10, k9e_148_13, Nat.reduceEqDiff, Int.reduceEq, Int.reduceLT, Int.reduceLE, k9_ps_s, k9_ps_n, k9_ur, false_and, and_false, true_and, and_true, true_or, or_true, false_or, or_false, eq_self, ↓reduceIte, not_true_eq_false, not_false_eq_true, n_toInt, n_cl, nI_1, nI_add, n_a0, n_p2, n_p3, n_p4, n_x2, n_x3, n_x4, n_x60, n_x100, n_pm1, k9L_m2, k9L_m1, k9L_0, k9L_1, k9L_2, k9L_3, k9L_4, k9L_5, k9L_6, k9L_7, k9L_8, k9L_9, k9L_10, k9L_20, k9L_23, k9L_24, k9L_30, k9L_40, k9L_50, k9L_60, k9L_99, k9L_100, k9L_120, k9L_255, k9L_999, k9L_1000, k9_bs, k9_ba, v8])
    exact k9o_ret rfl
/-- the waits alone have changed, and perhaps what was rolled -/
theorem k9_Inv_7 (h : k9_fp (k9_Xs [7, 8]) I I') (v : k9_Iv I J w V b) (v7 : k9_vD I') (v8 : k9_vR I' w V) : k9_Inv I' J := by
  obtain ⟨v1, v2, v3, v4, v5, v6, -, -, v9⟩ := v
  exact ⟨w, V, b, k9_vW_c (k9_fp_c h rfl) v1, k9_vT_c (k9_fp_c h rfl) v2, k9_vL_c (k9_fp_c h rfl) v3, k9_vC_c (k9_fp_c h rfl) v4, k9_vB_c (k9_fp_c h rfl) v5, k9_vS_c (k9_fp_c h rfl) v6, v7, v8, k9_vO_c (k9_fp_c h rfl) v9⟩
theorem k9_Xs_7 : ∀ c, k9_Xs [7, 8] c = false → k9_Xs [7] c = false := by
  intro c h
  simp only [k9_Xs, List.any_cons, List.any_nil, Bool.or_false, Bool.or_eq_false_iff] at h ⊢
  exact ⟨h.1, h.2.1⟩
theorem k9_Xs_8 : ∀ c, k9_Xs [7, 8] c = false → k9_Xs [8] c = false := by
  intro c h
  simp only [k9_Xs, List.any_cons, List.any_nil, Bool.or_false, Bool.or_eq_false_iff] at h ⊢
  exact ⟨h.1, h.2.2⟩
theorem k9_Xs_0 {l : List Nat} : ∀ c, k9_Xs l c = false → k9_Xs [] c = false := by
  intro c h
  simp only [k9_Xs, List.any_nil, Bool.or_false, Bool.or_eq_false_iff] at h ⊢
  exact h.1
theorem t_led (hI : k9_Inv I J) : k9_P S (d + 20) 129 226 [some (k9_r 1 0), some (k9_i x1)] [some (k9_r 12 0), some (k9_i x1)] I J k9_Inv := by
  have hI' := hI
  obtain ⟨w, V, b, v1, v2, v3, v4, v5, v6, v7, v8, v9⟩ := hI
  obtain ⟨d1, d2, d3⟩ := v7
  refine k9P_of ?_
  by_cases h1 : 0 ≤ x1.toInt ∧ x1.toInt ≤ 4
  · obtain ⟨q, rfl, hq, -⟩ := n_of (x := x1) (by omega)
    have hq5 : q = 0 ∨ q = 1 ∨ q = 2 ∨ q = 3 ∨ q = 4 := by omega
    have a0 := d2 0 (by omega)
    have a1 := d2 1 (by omega)
    have a2 := d2 2 (by omega)
    have a3 := d2 3 (by omega)
    have a4 := d2 4 (by omega)
    simp only [Nat.zero_add, Nat.reduceAdd] at a0 a1 a2 a3 a4
    rcases hq5 with rfl | rfl | rfl | rfl | rfl
    all_goals simp (disch := omega) only [k9e_129_0, k9e_129_2, k9e_129_5, k9e_129_7, k9e_129_11, k9e_75_0, k9e_75_2, k9e_75_5, k9e_75_8, k9e_75_11, k9e_75_14, k9e_75_17, k9e_75_20, k9e_75_23, k9e_75_24, Nat.reduceEqDiff, Int.reduceEq, Int.reduceLT, Int.reduceLE, k9_ps_s, k9_ps_n, k9_ur, false_and, and_false, true_and, and_true, true_or, or_true, false_or, or_false, eq_self, ↓reduceIte, not_true_eq_false, not_false_eq_true, n_toInt, n_cl, nI_1, nI_add, n_a0, n_p2, n_p3, n_p4, n_x2, n_x3, n_x4, n_x60, n_x100, n_pm1, k9L_m2, k9L_m1, k9L_0, k9L_1, k9L_2, k9L_3, k9L_4, k9L_5, k9L_6, k9L_7, k9L_8, k9L_9, k9L_10, k9L_20, k9L_23, k9L_24, k9L_30, k9L_40, k9L_50, k9L_60, k9L_99, k9L_100, k9L_120, k9L_255, k9L_999, k9L_1000, k9_bs, k9_ba, a0, a1, a2, a3, a4]
    all_goals repeat (first | ((with_reducible refine k9q_T ?_ ?_); · omega) | ((with_reducible refine k9q_F ?_ ?_); · omega) | ((with_reducible refine k9q_Tb ?_ ?_); · omega) | ((with_reducible refine k9q_Fb ?_ ?_); · omega) | simp (disch := omega) only [k9e_129_0, k9e_129_2, k9e_129_5, k9e_129_7, k9e_129_11, k9e_75_0, k9e_75_2, k9e_75_5, k9e_75_8, k9e_75_11, k9e_75_14, k9e_75_17, k9e_75_20, k9e_75_23, k9e_75_24, Nat.reduceEqDiff, Int.reduceEq, Int.reduceLT, Int.reduceLE, k9_ps_s, k9_ps_n, k9_ur, false_and, and_false, true_and, and_true, true_or, or_true, false_or, or_false, eq_self, ↓reduceIte, not_true_eq_false, not_false_eq_true, n_toInt, n_cl, nI_1, nI_add, n_a0, n_p2, n_p3, n_p4, n_x2, n_x3, n_x4, n_x60, n_x100, n_pm1, k9L_m2, k9L_m1, k9L_0, k9L_1, k9L_2, k9L_3, k9L_4, k9L_5, k9L_6, k9L_7, k9L_8, k9L_9, k9L_10, k9L_20, k9L_23, k9L_24, k9L_30, k9L_40, k9L_50, k9L_60, k9L_99, k9L_100, k9L_120, k9L_255, k9L_999, k9L_1000, k9_bs, k9_ba, a0, a1, a2, a3, a4])
    all_goals refine k9o_ret ⟨_, _, _, rfl, ?_⟩
    all_goals simp (disch := omega) only [k9e_226_0, k9e_226_3, k9e_226_6, k9e_226_10, k9e_226_11, k9e_226_15, k9e_226_16, k9e_226_17, Nat.reduceEqDiff, Int.reduceEq, Int.reduceLT, Int.reduceLE, k9_ps_s, k9_ps_n, k9_ur, false_and, and_false, true_and, and_true, true_or, or_true, false_or, or_false, eq_self, ↓reduceIte, not_true_eq_false, not_false_eq_true, n_toInt, n_cl, nI_1, nI_add, n_a0, n_p2, n_p3, n_p4, n_x2, n_x3, n_x4, n_x60, n_x100, n_pm1, k9L_m2, k9L_m1, k9L_0, k9L_1, k9L_2, k9L_3, k9L_4, k9L_5, k9L_6, k9L_7, k9L_8, k9L_9, k9L_10, k9L_20, k9L_23, k9L_24, k9L_30, k9L_40, k9L_50, k9L_60, k9L_99, k9L_100, k9L_120, k9L_255, k9L_999, k9L_1000, k9_bs, k9_ba]
    all_goals repeat (first | ((with_reducible refine k9q_T ?_ ?_); · omega) | ((with_reducible refine k9q_F ?_ ?_); · omega) | ((with_reducible refine k9q_Tb ?_ ?_); · omega) | ((with_reducible refine k9q_Fb ?_ ?_); · omega) | (refine k9o_call (k9s_153 (by first | omega | (simp (disch := omega) only [n_toInt, n_pm1, k9L_m2, k9L_m1, k9L_0, k9L_1, k9L_2, k9L_3, k9L_4, k9L_5, k9L_6, k9L_7, k9L_8, k9L_9, k9L_10, k9L_20, k9L_23, k9L_24, k9L_30, k9L_40, k9L_50, k9L_60, k9L_99, k9L_100, k9L_120, k9L_255, k9L_999, k9L_1000]; omega))) ?_; simp (disch := omega) only [k9e_226_0, k9e_226_3, k9e_226_6, k9e_226_10, k9e_226_11, k9e_226_15, k9e_226_16, k9e_226_17, Nat.reduceEqDiff, Int.reduceEq, Int.reduceLT, Int.reduceLE, k9_ps_s, k9_ps_n, k9_ur, false_and, and_false, true_and, and_true, true_or, or_true, false_or, or_false, eq_self, ↓reduceIte, not_true_eq_false, not_false_eq_true, n_toInt, n_cl, nI_1, nI_add, n_a0, n_p2, n_p3, n_p4, n_x2, n_x3, n_x4, n_x60, n_x100, n_pm1, k9L_m2, k9L_m1, k9L_0, k9L_1, k9L_2, k9L_3, k9L_4, k9L_5, k9L_6, k9L_7, k9L_8, k9L_9, k9L_10, k9L_20, k9L_23, k9L_24, k9L_30, k9L_40, k9L_50, k9L_60, k9L_99, k9L_100, k9L_120, k9L_255, k9L_999, k9L_1000, k9_bs, k9_ba]) | (refine k9o_call (k9s_153x (by first | omega | (simp (disch := omega) only [n_toInt, n_pm1, k9L_m2, k9L_m1, k9L_0, k9L_1, k9L_2, k9L_3, k9L_4, k9L_5, k9L_6, k9L_7, k9L_8, k9L_9, k9L_10, k9L_20, k9L_23, k9L_24, k9L_30, k9L_40, k9L_50, k9L_60, k9L_99, k9L_100, k9L_120, k9L_255, k9L_999, k9L_1000]; omega))) ?_; simp (disch := omega) only [k9e_226_0, k9e_226_3, k9e_226_6, k9e_226_10, k9e_226_11, k9e_226_15, k9e_226_16, k9e_226_17, Nat.reduceEqDiff, Int.reduceEq, Int.reduceLT, Int.reduceLE, k9_ps_s, k9_ps_n, k9_ur, false_and, and_false, true_and, and_true, true_or, or_true, false_or, or_false, eq_self, ↓reduceIte, not_true_eq_false, not_false_eq_true, n_toInt, n_cl, nI_1, nI_add, n_a0, n_p2, n_p3, n_p4, n_x2, n_x3, n_x4, n_x60, n_x100, n_pm1, k9L_m2, k9L_m1, k9L_0, k9L_1, k9L_2, k9L_3, k9L_4, k9L_5, k9L_6, k9L_7, k9L_8, k9L_9, k9L_10, k9L_20, k9L_23, k9L_24, k9L_30, k9L_40, k9L_50, k9L_60, k9L_99, k9L_100, k9L_120, k9L_255, k9L_999, k9L_1000, k9_bs, k9_ba]) | simp (disch := omega) only [k9e_226_0, k9e_226_3, k9e_226_6, k9e_226_10, k9e_226_11, k9e_226_15, k9e_226_16, k9e_226_17, Nat.reduceEqDiff, Int.reduceEq, Int.reduceLT, Int.reduceLE, k9_ps_s, k9_ps_n, k9_ur, false_and, and_false, true_and, and_true, true_or, or_true, false_or, or_false, eq_self, ↓reduceIte, not_true_eq_false, not_false_eq_true, n_toInt, n_cl, nI_1, nI_add, n_a0, n_p2, n_p3, n_p4, n_x2, n_x3, n_x4, n_x60, n_x100, n_pm1, k9L_m2, k9L_m1, k9L_0, k9L_1, k9L_2, k9L_3, k9L_4, k9L_5, k9L_6, k9L_7, k9L_8, k9L_9, k9L_10, k9L_20, k9L_23, k9L_24, k9L_30, k9L_40, k9L_50, k9L_60, k9L_99, k9L_100, k9L_120, k9L_255, k9L_999, k9L_1000, k9_bs, k9_ba])
    all_goals exact k9o_ret ⟨_, _, rfl, hI'⟩
  · by_cases h5 : x1.toInt = 5
    · rcases d1 with ⟨e1, z, hz, e2, e3⟩ | ⟨e1, e3⟩
      · simp (disch := omega) only [k9e_129_0, k9e_129_2, k9e_129_5, k9e_129_7, k9e_129_11, k9e_75_0, k9e_75_2, k9e_75_5, k9e_75_8, k9e_75_11, k9e_75_14, k9e_75_17, k9e_75_20, k9e_75_23, k9e_75_24, Nat.reduceEqDiff, Int.reduceEq, Int.reduceLT, Int.reduceLE, k9_ps_s, k9_ps_n, k9_ur, false_and, and_false, true_and, and_true, true_or, or_true, false_or, or_false, eq_self, ↓reduceIte, not_true_eq_false, not_false_eq_true, n_toInt, n_cl, nI_1, nI_add, n_a0, n_p2, n_p3, n_p4, n_x2, n_x3, n_x4, n_x60, n_x100, n_pm1, k9L_m2, k9L_m1, k9L_0, k9L_1, k9L_2, k9L_3, k9L_4, k9L_5, k9L_6, k9L_7, k9L_8, k9L_9, k9L_10, k9L_20, k9L_23, k9L_24, k9L_30, k9L_40, k9L_50, k9L_60, k9L_99, k9L_100, k9L_120, k9L_255, k9L_999, k9L_1000, k9_bs, k9_ba, e1, e2]
        repeat (first | ((with_reducible refine k9q_T ?_ ?_); · omega) | ((with_reducible refine k9q_F ?_ ?_); · omega) | ((with_reducible refine k9q_Tb ?_ ?_); · omega) | ((with_reducible refine k9q_Fb ?_ ?_); · omega) | simp (disch := omega) only [k9e_129_0, k9e_129_2, k9e_129_5, k9e_129_7, k9e_129_11, k9e_75_0, k9e_75_2, k9e_75_5, k9e_75_8, k9e_75_11, k9e_75_14, k9e_75_17, k9e_75_20, k9e_75_23, k9e_75_24, Nat.reduceEqDiff, Int.reduceEq, Int.reduceLT, Int.reduceLE, k9_ps_s, k9_ps_n, k9_ur, false_and, and_false, true_and, and_true, true_or, or_true, false_or, or_false, eq_self, ↓reduceIte, not_true_eq_false, not_false_eq_true, n_toInt, n_cl, nI_1, nI_add, n_a0, n_p2, n_p3, n_p4, n_x2, n_x3, n_x4, n_x60, n_x100, n_pm1, k9L_m2, k9L_m1, k9L_0, k9L_1, k9L_2, k9L_3, k9L_4, k9L_5, k9L_6, k9L_7, k9L_8, k9L_9, k9L_10, k9L_20, k9L_23, k9L_24, k9L_30, k9L_40, k9L_50, k9L_60, k9L_99, k9L_100, k9L_120, k9L_255, k9L_999, k9L_1000, k9_bs, k9_ba, e1, e2])
        refine k9o_ret ⟨_, _, _, rfl, ?_⟩
        simp (disch := omega) only [k9e_226_0, k9e_226_3, k9e_226_6, k9e_226_10, k9e_226_11, k9e_226_15, k9e_226_16, k9e_226_17, Nat.reduceEqDiff, Int.reduceEq, Int.reduceLT, Int.reduceLE, k9_ps_s, k9_ps_n, k9_ur, false_and, and_false, true_and, and_true, true_or, or_true, false_or, or_false, eq_self, ↓reduceIte, not_true_eq_false, not_false_eq_true, n_toInt, n_cl, nI_1, nI_add, n_a0, n_p2, n_p3, n_p4, n_x2, n_x3, n_x4, n_x60, n_x100, n_pm1, k9L_m2, k9L_m1, k9L_0, k9L_1, k9L_2, k9L_3, k9L_4, k9L_5, k9L_6, k9L_7, k9L_8, k9L_9, k9L_10, k9L_20, k9L_23, k9L_24, k9L_30, k9L_40, k9L_50, k9L_60, k9L_99, k9L_100, k9L_120, k9L_255, k9L_999, k9L_1000, k9_bs, k9_ba, e3]
        repeat (first | ((with_reducible refine k9q_T ?_ ?_); · omega) | ((with_reducible refine k9q_F ?_ ?_); · omega) | ((with_reducible refine k9q_Tb ?_ ?_); · omega) | ((with_reducible refine k9q_Fb ?_ ?_); · omega) | simp (disch := omega) only [k9e_226_0, k9e_226_3, k9e_226_6, k9e_226_10, k9e_226_11, k9e_226_15, k9e_226_16, k9e_226_17, Nat.reduceEqDiff, Int.reduceEq, Int.reduceLT, Int.reduceLE, k9_ps_s, k9_ps_n, k9_ur, false_and, and_false, true_and, and_true, true_or, or_true, false_or, or_false, eq_self, ↓reduceIte, not_true_eq_false, not_false_eq_true, n_toInt, n_cl, nI_1, nI_add, n_a0, n_p2, n_p3, n_p4, n_x2, n_x3, n_x4, n_x60, n_x100, n_pm1, k9L_m2, k9L_m1, k9L_0, k9L_1, k9L_2, k9L_3, k9L_4, k9L_5, k9L_6, k9L_7, k9L_8, k9L_9, k9L_10, k9L_20, k9L_23, k9L_24, k9L_30, k9L_40, k9L_50, k9L_60, k9L_99, k9L_100, k9L_120, k9L_255, k9L_999, k9L_1000, k9_bs, k9_ba, e3])
        exact k9o_ret ⟨_, _, rfl, hI'⟩
      · simp (disch := omega) only [k9e_129_0, k9e_129_2, k9e_129_5, k9e_129_7, k9e_129_11, k9e_75_0, k9e_75_2, k9e_75_5, k9e_75_8, k9e_75_11, k9e_75_14, k9e_75_17, k9e_75_20, k9e_75_23, k9e_75_24, Nat.reduceEqDiff, Int.reduceEq, Int.reduceLT, Int.reduceLE, k9_ps_s, k9_ps_n, k9_ur, false_and, and_false, true_and, and_true, true_or, or_true, false_or, or_false, eq_self, ↓reduceIte, not_true_eq_false, not_false_eq_true, n_toInt, n_cl, nI_1, nI_add, n_a0, n_p2, n_p3, n_p4, n_x2, n_x3, n_x4, n_x60, n_x100, n_pm1, k9L_m2, k9L_m1, k9L_0, k9L_1, k9L_2, k9L_3, k9L_4, k9L_5, k9L_6, k9L_7, k9L_8, k9L_9, k9L_10, k9L_20, k9L_23, k9L_24, k9L_30, k9L_40, k9L_50, k9L_60, k9L_99, k9L_100, k9L_120, k9L_255, k9L_999, k9L_1000, k9_bs, k9_ba, e1]
        repeat (first | ((with_reducible refine k9q_T ?_ ?_); · omega) | ((with_reducible refine k9q_F ?_ ?_); · omega) | ((with_reducible refine k9q_Tb ?_ ?_); · omega) | ((with_reducible refine k9q_Fb ?_ ?_); · omega) | simp (disch := omega) only [k9e_129_0, k9e_129_2, k9e_129_5, k9e_129_7, k9e_129_11, k9e_75_0, k9e_75_2, k9e_75_5, k9e_75_8, k9e_75_11, k9e_75_14, k9e_75_17, k9e_75_20, k9e_75_23, k9e_75_24, Nat.reduceEqDiff, Int.reduceEq, Int.reduceLT, Int.reduceLE, k9_ps_s, k9_ps_n, k9_ur, false_and, and_false, true_and, and_true, true_or, or_true, false_or, or_false, eq_self, ↓reduceIte, not_true_eq_false, not_false_eq_true, n_toInt, n_cl, nI_1, nI_add, n_a0, n_p2, n_p3, n_p4, n_x2, n_x3, n_x4, n_x60, n_x100, n_pm1, k9L_m2, k9L_m1, k9L_0, k9L_1, k9L_2, k9L_3, k9L_4, k9L_5, k9L_6, k9L_7, k9L_8, k9L_9, k9L_10, k9L_20, k9L_23, k9L_24, k9L_30, k9L_40, k9L_50, k9L_60, k9L_99, k9L_100, k9L_120, k9L_255, k9L_999, k9L_1000, k9_bs, k9_ba, e1])
        refine k9o_ret ⟨_, _, _, rfl, ?_⟩
        simp (disch := omega) only [k9e_226_0, k9e_226_3, k9e_226_6, k9e_226_10, k9e_226_11, k9e_226_15, k9e_226_16, k9e_226_17, Nat.reduceEqDiff, Int.reduceEq, Int.reduceLT, Int.reduceLE, k9_ps_s, k9_ps_n, k9_ur, false_and, and_false, true_and, and_true, true_or, or_true, false_or, or_false, eq_self, ↓reduceIte, not_true_eq_false, not_false_eq_true, n_toInt, n_cl, nI_1, nI_add, n_a0, n_p2, n_p3, n_p4, n_x2, n_x3, n_x4, n_x60, n_x100, n_pm1, k9L_m2, k9L_m1, k9L_0, k9L_1, k9L_2, k9L_3, k9L_4, k9L_5, k9L_6, k9L_7, k9L_8, k9L_9, k9L_10, k9L_20, k9L_23, k9L_24, k9L_30, k9L_40, k9L_50, k9L_60, k9L_99, k9L_100, k9L_120, k9L_255, k9L_999, k9L_1000, k9_bs, k9_ba, e3]
        repeat (first | ((with_reducible refine k9q_T ?_ ?_); · omega) | ((with_reducible refine k9q_F ?_ ?_); · omega) | ((with_reducible refine k9q_Tb ?_ ?_); · omega) | ((with_reducible refine k9q_Fb ?_ ?_); · omega) | simp (disch := omega) only [k9e_226_0, k9e_226_3, k9e_226_6, k9e_226_10, k9e_226_11, k9e_226_15, k9e_226_16, k9e_226_17, Nat.reduceEqDiff, Int.reduceEq, Int.reduceLT, Int.reduceLE, k9_ps_s, k9_ps_n, k9_ur, false_and, and_false, true_and, and_true, true_or, or_true, false_or, or_false, eq_self, ↓reduceIte, not_true_eq_false, not_false_eq_true, n_toInt, n_cl, nI_1, nI_add, n_a0, n_p2, n_p3, n_p4, n_x2, n_x3, n_x4, n_x60, n_x100, n_pm1, k9L_m2, k9L_m1, k9L_0, k9L_1, k9L_2, k9L_3, k9L_4, k9L_5, k9L_6, k9L_7, k9L_8, k9L_9, k9L_10, k9L_20, k9L_23, k9L_24, k9L_30, k9L_40, k9L_50, k9L_60, k9L_99, k9L_100, k9L_120, k9L_255, k9L_999, k9L_1000, k9_bs, k9_ba, e3])
        exact k9o_ret ⟨_, _, rfl, hI'⟩
    · repeat' (first | ((with_reducible refine k9q_T ?_ ?_); · omega) | ((with_reducible refine k9q_F ?_ ?_); · omega) | ((with_reducible refine k9q_Tb ?_ ?_); · omega) | ((with_reducible refine k9q_Fb ?_ ?_); · omega) | simp (disch := omega) only [k9e_129_0, k9e_129_2, k9e_129_5, k9e_129_7, k9e_129_11, Nat.reduceEqDiff, Int.reduceEq, Int.reduceLT, Int.reduceLE, k9_ps_s, k9_ps_n, k9_ur, false_and, and_false, true_and, and_true, true_or, or_true, false_or, or_false, eq_self, ↓reduceIte, not_true_eq_false, not_false_eq_true, n_toInt, n_cl, nI_1, nI_add, n_a0, n_p2, n_p3, n_p4, n_x2, n_x3, n_x4, n_x60, n_x100, n_pm1, k9L_m2, k9L_m1, k9L_0, k9L_1, k9L_2, k9L_3, k9L_4, k9L_5, k9L_6, k9L_7, k9L_8, k9L_9, k9L_10, k9L_20, k9L_23, k9L_24, k9L_30, k9L_40, k9L_50, k9L_60, k9L_99, k9L_100, k9L_120, k9L_255, k9L_999, k9L_1000, k9_bs, k9_ba] | (with_reducible refine k9q_if (fun _ => ?_) (fun _ => ?_)) | (with_reducible refine k9q_ifb (fun _ => ?_) (fun _ => ?_)))
      all_goals refine k9o_ret ⟨_, _, _, rfl, ?_⟩
      all_goals repeat' (first | ((with_reducible refine k9q_T ?_ ?_); · omega) | ((with_reducible refine k9q_F ?_ ?_); · omega) | ((with_reducible refine k9q_Tb ?_ ?_); · omega) | ((with_reducible refine k9q_Fb ?_ ?_); · omega) | (refine k9o_call (k9s_153 (by first | omega | (simp (disch := omega) only [n_toInt, n_pm1, k9L_m2, k9L_m1, k9L_0, k9L_1, k9L_2, k9L_3, k9L_4, k9L_5, k9L_6, k9L_7, k9L_8, k9L_9, k9L_10, k9L_20, k9L_23, k9L_24, k9L_30, k9L_40, k9L_50, k9L_60, k9L_99, k9L_100, k9L_120, k9L_255, k9L_999, k9L_1000]; omega))) ?_; simp (disch := omega) only [k9e_226_0, k9e_226_3, k9e_226_6, k9e_226_10, k9e_226_11, k9e_226_15, k9e_226_16, k9e_226_17, Nat.reduceEqDiff, Int.reduceEq, Int.reduceLT, Int.reduceLE, k9_ps_s, k9_ps_n, k9_ur, false_and, and_false, true_and, and_true, true_or, or_true, false_or, or_false, eq_self, ↓reduceIte, not_true_eq_false, not_false_eq_true, n_toInt, n_cl, nI_1, nI_add, n_a0, n_p2, n_p3, n_p4, n_x2, n_x3, n_x4, n_x60, n_x100, n_pm1, k9L_m2, k9L_m1, k9L_0, k9L_1, k9L_2, k9L_3, k9L_4, k9L_5, k9L_6, k9L_7, k9L_8, k9L_9, k9L_10, k9L_20, k9L_23, k9L_24, k9L_30, k9L_40, k9L_50, k9L_60, k9L_99, k9L_100, k9L_120, k9L_255, k9L_999, k9L_1000, k9_bs, k9_ba]) | (refine k9o_call (k9s_153x (by first | omega | (simp (disch := omega) only [n_toInt, n_pm1, k9L_m2, k9L_m1, k9L_0, k9L_1, k9L_2, k9L_3, k9L_4, k9L_5, k9L_6, k9L_7, k9L_8, k9L_9, k9L_10, k9L_20, k9L_23, k9L_24, k9L_30, k9L_40, k9L_50, k9L_60, k9L_99, k9L_100, k9L_120, k9L_255, k9L_999, k9L_1000]; omega))) ?_; simp (disch := omega) only [k9e_226_0, k9e_226_3, k9e_226_6, k9e_226_10, k9e_226_11, k9e_226_15, k9e_226_16, k9e_226_17, Nat.reduceEqDiff, Int.reduceEq, Int.reduceLT, Int.reduceLE, k9_ps_s, k9_ps_n, k9_ur, false_and, and_false, true_and, and_true, true_or, or_true, false_or, or_false, eq_self, ↓reduceIte, not_true_eq_false, not_false_eq_true, n_toInt, n_cl, nI_1, nI_add, n_a0, n_p2, n_p3, n_p4, n_x2, n_x3, n_x4, n_x60, n_x100, n_pm1, k9L_m2, k9L_m1, k9L_0, k9L_1, k9L_2, k9L_3, k9L_4, k9L_5, k9L_6, k9L_7, k9L_8, k9L_9, k9L_10, k9L_20, k9L_23, k9L_24, k9L_30, k9L_40, k9L_50, k9L_60, k9L_99, k9L_100, k9L_120, k9L_255, k9L_999, k9L_1000, k9_bs, k9_ba]) | simp (disch := omega) only [k9e_226_0, k9e_226_3, k9e_226_6, k9e_226_10, k9e_226_11, k9e_226_15, k9e_226_16, k9e_226_17, Nat.reduceEqDiff, Int.reduceEq, Int.reduceLT, Int.reduceLE, k9_ps_s, k9_ps_n, k9_ur, false_and, and_false, true_and, and_true, true_or, or_true, false_or, or_false, eq_self, ↓reduceIte, not_true_eq_false, not_false_eq_true, n_toInt, n_cl, nI_1, nI_add, n_a0, n_p2, n_p3, n_p4, n_x2, n_x3, n_x4, n_x60, n_x100, n_pm1, k9L_m2, k9L_m1, k9L_0, k9L_1, k9L_2, k9L_3, k9L_4, k9L_5, k9L_6, k9L_7, k9L_8, k9L_9, k9L_10, k9L_20, k9L_23, k9L_24, k9L_30, k9L_40, k9L_50, k9L_60, k9L_99, k9L_100, k9L_120, k9L_255, k9L_999, k9L_1000, k9_bs, k9_ba] | (with_reducible refine k9q_if (fun _ => ?_) (fun _ => ?_)) | (with_reducible refine k9q_ifb (fun _ => ?_) (fun _ => ?_)))
      all_goals exact k9o_ret ⟨_, _, rfl, hI'⟩
theorem t_begin (hI : k9_Inv I J) : k9_P S (d + 20) 126 223 [some (k9_r 1 0)] [some (k9_r 12 0)] I J k9_Inv := by
  have hI' := hI
  obtain ⟨w, V, b, v⟩ := hI
  have v : k9_Iv I J w V b := v
  have hf := v.1.2.2.1
  have v' := v
  obtain ⟨v1, v2, v3, v4, v5, v6, v7, v8, v9⟩ := v'
  obtain ⟨d1, d2, d3⟩ := v7
  refine k9P_of ?_
  rcases d1 with ⟨e1, z, hz, e2, e3⟩ | ⟨e1, e3⟩
  · simp (disch := omega) only [k9e_126_0, k9e_126_4, k9e_126_6, k9e_126_9, k9e_126_13, Nat.reduceEqDiff, Int.reduceEq, Int.reduceLT, Int.reduceLE, k9_ps_s, k9_ps_n, k9_ur, false_and, and_false, true_and, and_true, true_or, or_true, false_or, or_false, eq_self, ↓reduceIte, not_true_eq_false, not_false_eq_true, n_toInt, n_cl, nI_1, nI_add, n_a0, n_p2, n_p3, n_p4, n_x2, n_x3, n_x4, n_x60, n_x100, n_pm1, k9L_m2, k9L_m1, k9L_0, k9L_1, k9L_2, k9L_3, k9L_4, k9L_5, k9L_6, k9L_7, k9L_8, k9L_9, k9L_10, k9L_20, k9L_23, k9L_24, k9L_30, k9L_40, k9L_50, k9L_60, k9L_99, k9L_100, k9L_120, k9L_255, k9L_999, k9L_1000, k9_bs, k9_ba, e1]
    repeat (first | ((with_reducible refine k9q_T ?_ ?_); · omega) | ((with_reducible refine k9q_F ?_ ?_); · omega) | ((with_reducible refine k9q_Tb ?_ ?_); · omega) | ((with_reducible refine k9q_Fb ?_ ?_); · omega) | simp (disch := omega) only [k9e_126_0, k9e_126_4, k9e_126_6, k9e_126_9, k9e_126_13, Nat.reduceEqDiff, Int.reduceEq, Int.reduceLT, Int.reduceLE, k9_ps_s, k9_ps_n, k9_ur, false_and, and_false, true_and, and_true, true_or, or_true, false_or, or_false, eq_self, ↓reduceIte, not_true_eq_false, not_false_eq_true, n_toInt, n_cl, nI_1, nI_add, n_a0, n_p2, n_p3, n_p4, n_x2, n_x3, n_x4, n_x60, n_x100, n_pm1, k9L_m2, k9L_m1, k9L_0, k9L_1, k9L_2, k9L_3, k9L_4, k9L_5, k9L_6, k9L_7, k9L_8, k9L_9, k9L_10, k9L_20, k9L_23, k9L_24, k9L_30, k9L_40, k9L_50, k9L_60, k9L_99, k9L_100, k9L_120, k9L_255, k9L_999, k9L_1000, k9_bs, k9_ba, e1])
    refine k9o_ret ⟨_, _, _, rfl, ?_⟩
    simp (disch := omega) only [k9e_223_0, k9e_223_4, k9e_223_6, k9e_223_19, Nat.reduceEqDiff, Int.reduceEq, Int.reduceLT, Int.reduceLE, k9_ps_s, k9_ps_n, k9_ur, false_and, and_false, true_and, and_true, true_or, or_true, false_or, or_false, eq_self, ↓reduceIte, not_true_eq_false, not_false_eq_true, n_toInt, n_cl, nI_1, nI_add, n_a0, n_p2, n_p3, n_p4, n_x2, n_x3, n_x4, n_x60, n_x100, n_pm1, k9L_m2, k9L_m1, k9L_0, k9L_1, k9L_2, k9L_3, k9L_4, k9L_5, k9L_6, k9L_7, k9L_8, k9L_9, k9L_10, k9L_20, k9L_23, k9L_24, k9L_30, k9L_40, k9L_50, k9L_60, k9L_99, k9L_100, k9L_120, k9L_255, k9L_999, k9L_1000, k9_bs, k9_ba, e3]
    repeat (first | ((with_reducible refine k9q_T ?_ ?_); · omega) | ((with_reducible refine k9q_F ?_ ?_); · omega) | ((with_reducible refine k9q_Tb ?_ ?_); · omega) | ((with_reducible refine k9q_Fb ?_ ?_); · omega) | simp (disch := omega) only [k9e_223_0, k9e_223_4, k9e_223_6, k9e_223_19, Nat.reduceEqDiff, Int.reduceEq, Int.reduceLT, Int.reduceLE, k9_ps_s, k9_ps_n, k9_ur, false_and, and_false, true_and, and_true, true_or, or_true, false_or, or_false, eq_self, ↓reduceIte, not_true_eq_false, not_false_eq_true, n_toInt, n_cl, nI_1, nI_add, n_a0, n_p2, n_p3, n_p4, n_x2, n_x3, n_x4, n_x60, n_x100, n_pm1, k9L_m2, k9L_m1, k9L_0, k9L_1, k9L_2, k9L_3, k9L_4, k9L_5, k9L_6, k9L_7, k9L_8, k9L_9, k9L_10, k9L_20, k9L_23, k9L_24, k9L_30, k9L_40, k9L_50, k9L_60, k9L_99, k9L_100, k9L_120, k9L_255, k9L_999, k9L_1000, k9_bs, k9_ba, e3])
    exact k9o_ret ⟨_, _, rfl, hI'⟩
  · obtain ⟨Ia, hIa⟩ : ∃ Ia, Ia = k9_u (k9_u (k9_u I 9 0 0 1) 9 0 1 0) 9 0 2 (I 9 0 2 + 1) := ⟨_, rfl⟩
    have fa : k9_fp (k9_Xs [7]) I Ia := by rw [hIa]; exact k9_fp_u (k9_fp_u (k9_fp_u (k9_fp_rf _ _) rfl) rfl) rfl
    have w1 := k9_vW_c (k9_fp_c fa rfl) v1
    have e71 : k9_R S (d + 19) 71 0 [some (k9_r 9 0)] [] I J = some (none, Ia, J) := by
      refine k9o_of ?_
      simp (disch := omega) only [k9e_71_0, Nat.reduceEqDiff, Int.reduceEq, Int.reduceLT, Int.reduceLE, k9_ps_s, k9_ps_n, k9_ur, false_and, and_false, true_and, and_true, true_or, or_true, false_or, or_false, eq_self, ↓reduceIte, not_true_eq_false, not_false_eq_true, n_toInt, n_cl, nI_1, nI_add, n_a0, n_p2, n_p3, n_p4, n_x2, n_x3, n_x4, n_x60, n_x100, n_pm1, k9L_m2, k9L_m1, k9L_0, k9L_1, k9L_2, k9L_3, k9L_4, k9L_5, k9L_6, k9L_7, k9L_8, k9L_9, k9L_10, k9L_20, k9L_23, k9L_24, k9L_30, k9L_40, k9L_50, k9L_60, k9L_99, k9L_100, k9L_120, k9L_255, k9L_999, k9L_1000, k9_bs, k9_ba]
      rw [hIa]
      exact k9o_ret rfl
    simp (disch := omega) only [k9e_126_0, k9e_126_4, k9e_126_6, k9e_126_9, k9e_126_13, Nat.reduceEqDiff, Int.reduceEq, Int.reduceLT, Int.reduceLE, k9_ps_s, k9_ps_n, k9_ur, false_and, and_false, true_and, and_true, true_or, or_true, false_or, or_false, eq_self, ↓reduceIte, not_true_eq_false, not_false_eq_true, n_toInt, n_cl, nI_1, nI_add, n_a0, n_p2, n_p3, n_p4, n_x2, n_x3, n_x4, n_x60, n_x100, n_pm1, k9L_m2, k9L_m1, k9L_0, k9L_1, k9L_2, k9L_3, k9L_4, k9L_5, k9L_6, k9L_7, k9L_8, k9L_9, k9L_10, k9L_20, k9L_23, k9L_24, k9L_30, k9L_40, k9L_50, k9L_60, k9L_99, k9L_100, k9L_120, k9L_255, k9L_999, k9L_1000, k9_bs, k9_ba, e1]
    repeat (first | ((with_reducible refine k9q_T ?_ ?_); · omega) | ((with_reducible refine k9q_F ?_ ?_); · omega) | ((with_reducible refine k9q_Tb ?_ ?_); · omega) | ((with_reducible refine k9q_Fb ?_ ?_); · omega) | (refine k9o_call (e71) ?_; simp (disch := omega) only [k9e_126_0, k9e_126_4, k9e_126_6, k9e_126_9, k9e_126_13, Nat.reduceEqDiff, Int.reduceEq, Int.reduceLT, Int.reduceLE, k9_ps_s, k9_ps_n, k9_ur, false_and, and_false, true_and, and_true, true_or, or_true, false_or, or_false, eq_self, ↓reduceIte, not_true_eq_false, not_false_eq_true, n_toInt, n_cl, nI_1, nI_add, n_a0, n_p2, n_p3, n_p4, n_x2, n_x3, n_x4, n_x60, n_x100, n_pm1, k9L_m2, k9L_m1, k9L_0, k9L_1, k9L_2, k9L_3, k9L_4, k9L_5, k9L_6, k9L_7, k9L_8, k9L_9, k9L_10, k9L_20, k9L_23, k9L_24, k9L_30, k9L_40, k9L_50, k9L_60, k9L_99, k9L_100, k9L_120, k9L_255, k9L_999, k9L_1000, k9_bs, k9_ba, e1]) | (refine k9o_call (k9s_10 (d := d + 17) w1.1 hf) ?_; simp (disch := omega) only [k9e_126_0, k9e_126_4, k9e_126_6, k9e_126_9, k9e_126_13, Nat.reduceEqDiff, Int.reduceEq, Int.reduceLT, Int.reduceLE, k9_ps_s, k9_ps_n, k9_ur, false_and, and_false, true_and, and_true, true_or, or_true, false_or, or_false, eq_self, ↓reduceIte, not_true_eq_false, not_false_eq_true, n_toInt, n_cl, nI_1, nI_add, n_a0, n_p2, n_p3, n_p4, n_x2, n_x3, n_x4, n_x60, n_x100, n_pm1, k9L_m2, k9L_m1, k9L_0, k9L_1, k9L_2, k9L_3, k9L_4, k9L_5, k9L_6, k9L_7, k9L_8, k9L_9, k9L_10, k9L_20, k9L_23, k9L_24, k9L_30, k9L_40, k9L_50, k9L_60, k9L_99, k9L_100, k9L_120, k9L_255, k9L_999, k9L_1000, k9_bs, k9_ba, e1]) | simp (disch := omega) only [k9e_126_0, k9e_126_4, k9e_126_6, k9e_126_9, k9e_126_13, Nat.reduceEqDiff, Int.reduceEq, Int.reduceLT, Int.reduceLE, k9_ps_s, k9_ps_n, k9_ur, false_and, and_false, true_and, and_true, true_or, or_true, false_or, or_false, eq_self, ↓reduceIte, not_true_eq_false, not_false_eq_true, n_toInt, n_cl, nI_1, nI_add, n_a0, n_p2, n_p3, n_p4, n_x2, n_x3, n_x4, n_x60, n_x100, n_pm1, k9L_m2, k9L_m1, k9L_0, k9L_1, k9L_2, k9L_3, k9L_4, k9L_5, k9L_6, k9L_7, k9L_8, k9L_9, k9L_10, k9L_20, k9L_23, k9L_24, k9L_30, k9L_40, k9L_50, k9L_60, k9L_99, k9L_100, k9L_120, k9L_255, k9L_999, k9L_1000, k9_bs, k9_ba, e1])
    refine k9o_ret ⟨_, _, _, rfl, ?_⟩
    obtain ⟨Ib, hIb⟩ : ∃ Ib, Ib = k9_u (k9_u Ia 12 0 23 0) 55 0 0 (Ia 55 0 0 + 1) := ⟨_, rfl⟩
    have fb : k9_fp (k9_Xs [7]) I Ib := by rw [hIb]; exact k9_fp_u (k9_fp_u fa rfl) rfl
    have w2 := k9_vW_c (k9_fp_c fb rfl) v1
    have e185 := k9s_185 (S := S) (d := d + 18) (J := J) w2.2.1 hf
    rw [hIb] at e185
    have c3 : Ia 12 0 23 = -2 := by rw [hIa]; simp [k9_ur, e3]
    simp (disch := omega) only [k9e_223_0, k9e_223_4, k9e_223_6, k9e_223_19, Nat.reduceEqDiff, Int.reduceEq, Int.reduceLT, Int.reduceLE, k9_ps_s, k9_ps_n, k9_ur, false_and, and_false, true_and, and_true, true_or, or_true, false_or, or_false, eq_self, ↓reduceIte, not_true_eq_false, not_false_eq_true, n_toInt, n_cl, nI_1, nI_add, n_a0, n_p2, n_p3, n_p4, n_x2, n_x3, n_x4, n_x60, n_x100, n_pm1, k9L_m2, k9L_m1, k9L_0, k9L_1, k9L_2, k9L_3, k9L_4, k9L_5, k9L_6, k9L_7, k9L_8, k9L_9, k9L_10, k9L_20, k9L_23, k9L_24, k9L_30, k9L_40, k9L_50, k9L_60, k9L_99, k9L_100, k9L_120, k9L_255, k9L_999, k9L_1000, k9_bs, k9_ba, c3]
    repeat (first | ((with_reducible refine k9q_T ?_ ?_); · omega) | ((with_reducible refine k9q_F ?_ ?_); · omega) | ((with_reducible refine k9q_Tb ?_ ?_); · omega) | ((with_reducible refine k9q_Fb ?_ ?_); · omega) | (refine k9o_call (e185) ?_; simp (disch := omega) only [k9e_223_0, k9e_223_4, k9e_223_6, k9e_223_19, Nat.reduceEqDiff, Int.reduceEq, Int.reduceLT, Int.reduceLE, k9_ps_s, k9_ps_n, k9_ur, false_and, and_false, true_and, and_true, true_or, or_true, false_or, or_false, eq_self, ↓reduceIte, not_true_eq_false, not_false_eq_true, n_toInt, n_cl, nI_1, nI_add, n_a0, n_p2, n_p3, n_p4, n_x2, n_x3, n_x4, n_x60, n_x100, n_pm1, k9L_m2, k9L_m1, k9L_0, k9L_1, k9L_2, k9L_3, k9L_4, k9L_5, k9L_6, k9L_7, k9L_8, k9L_9, k9L_10, k9L_20, k9L_23, k9L_24, k9L_30, k9L_40, k9L_50, k9L_60, k9L_99, k9L_100, k9L_120, k9L_255, k9L_999, k9L_1000, k9_bs, k9_ba, c3]) | simp (disch := omega) only [k9e_223_0, k9e_223_4, k9e_223_6, k9e_223_19, Nat.reduceEqDiff, Int.reduceEq, Int.reduceLT, Int.reduceLE, k9_ps_s, k9_ps_n, k9_ur, false_and, and_false, true_and, and_true, true_or, or_true, false_or, or_false, eq_self, ↓reduceIte, not_true_eq_false, not_false_eq_true, n_toInt, n_cl, nI_1, nI_add, n_a0, n_p2, n_p3, n_p4, n_x2, n_x3, n_x4, n_x60, n_x100, n_pm1, k9L_m2, k9L_m1, k9L_0, k9L_1, k9L_2, k9L_3, k9L_4, k9L_5, k9L_6, k9L_7, k9L_8, k9L_9, k9L_10, k9L_20, k9L_23, k9L_24, k9L_30, k9L_40, k9L_50, k9L_60, k9L_99, k9L_100, k9L_120, k9L_255, k9L_999, k9L_1000, k9_bs, k9_ba, c3])
    rw [← hIb]
    refine k9o_ret ⟨_, _, rfl, k9_Inv_7 (k9_fp_w fb k9_Xs_7) v ⟨?_, ?_, ?_⟩ (k9_vR_c (k9_fp_c fb rfl) v8)⟩
    · rw [hIb, hIa]
      refine Or.inl ⟨by simp [k9_ur], 0, by omega, ?_, ?_⟩ <;> simp [k9_ur] <;> rfl
    · intro k hk
      have a := d2 k hk
      rw [hIb, hIa]
      by_cases e : k = 0
      · subst e
        simp only [Nat.zero_add] at a
        simp [k9_ur, a]
      · simp [k9_ur, e, a]
    · rw [hIb, hIa]
      simpa [k9_ur] using d3
theorem t_image (hI : k9_Inv I J) : k9_P S (d + 20) 130 227 [some (k9_r 1 0)] [some (k9_r 12 0), none] I J k9_Inv := by
  have hI' := hI
  obtain ⟨w, V, b, v⟩ := hI
  have v : k9_Iv I J w V b := v
  have v' := v
  obtain ⟨v1, v2, v3, v4, v5, v6, v7, v8, v9⟩ := v'
  obtain ⟨d1, d2, d3⟩ := v7
  have hon : (I 9 0 0).toInt = 0 ∨ (I 9 0 0).toInt = 1 := by
    rcases d1 with ⟨e, -⟩ | ⟨e, -⟩ <;> rw [e] <;> decide
  obtain ⟨Ia, hIa⟩ : ∃ Ia, Ia = k9_u (k9_u (k9_u (k9_u (k9_u (k9_u (k9_u I 9 1 0 (I 9 0 0)) 9 1 1 (I 9 0 1)) 9 1 2 (I 9 0 2)) 9 1 3 (I 9 0 3)) 9 1 4 (I 9 0 4)) 9 1 5 (I 9 0 5)) 9 1 6 (I 9 0 6) := ⟨_, rfl⟩
  have e76 : k9_R S (d + 19) 76 0 [some (k9_r 9 1), some (k9_r 9 0)] [] I J = some (none, Ia, J) := by
    refine k9o_of ?_
    refine k9o_eq k9e_76_0 (k9o_T hon ?_)
    simp (disch := omega) only [k9e_76_0, k9e_76_4, Nat.reduceEqDiff, Int.reduceEq, Int.reduceLT, Int.reduceLE, k9_ps_s, k9_ps_n, k9_ur, false_and, and_false, true_and, and_true, true_or, or_true, false_or, or_false, eq_self, ↓reduceIte, not_true_eq_false, not_false_eq_true, n_toInt, n_cl, nI_1, nI_add, n_a0, n_p2, n_p3, n_p4, n_x2, n_x3, n_x4, n_x60, n_x100, n_pm1, k9L_m2, k9L_m1, k9L_0, k9L_1, k9L_2, k9L_3, k9L_4, k9L_5, k9L_6, k9L_7, k9L_8, k9L_9, k9L_10, k9L_20, k9L_23, k9L_24, k9L_30, k9L_40, k9L_50, k9L_60, k9L_99, k9L_100, k9L_120, k9L_255, k9L_999, k9L_1000, k9_bs, k9_ba]
    rw [hIa]
    exact k9o_ret rfl
  have fa : k9_fp (k9_Xs [7]) I (k9_u Ia 1 0 11 1) := by rw [hIa]; exact k9_fp_u (k9_fp_u (k9_fp_u (k9_fp_u (k9_fp_u (k9_fp_u (k9_fp_u (k9_fp_u (k9_fp_rf _ _) rfl) rfl) rfl) rfl) rfl) rfl) rfl) rfl
  have ra : ∀ p, Ia 9 0 p = I 9 0 p := fun p => by rw [hIa]; simp [k9_ur]
  have rb : ∀ k, k < 7 → Ia 9 1 k = I 9 0 k := fun k hk => by
    have hk7 : k = 0 ∨ k = 1 ∨ k = 2 ∨ k = 3 ∨ k = 4 ∨ k = 5 ∨ k = 6 := by omega
    rw [hIa]
    rcases hk7 with rfl | rfl | rfl | rfl | rfl | rfl | rfl <;> simp [k9_ur]
  have rc : ∀ p, Ia 55 0 p = I 55 0 p ∧ Ia 12 0 p = I 12 0 p := fun p => by rw [hIa]; simp [k9_ur]
  refine k9P_of ?_
  simp (disch := omega) only [k9e_130_0, k9e_130_5, Nat.reduceEqDiff, Int.reduceEq, Int.reduceLT, Int.reduceLE, k9_ps_s, k9_ps_n, k9_ur, false_and, and_false, true_and, and_true, true_or, or_true, false_or, or_false, eq_self, ↓reduceIte, not_true_eq_false, not_false_eq_true, n_toInt, n_cl, nI_1, nI_add, n_a0, n_p2, n_p3, n_p4, n_x2, n_x3, n_x4, n_x60, n_x100, n_pm1, k9L_m2, k9L_m1, k9L_0, k9L_1, k9L_2, k9L_3, k9L_4, k9L_5, k9L_6, k9L_7, k9L_8, k9L_9, k9L_10, k9L_20, k9L_23, k9L_24, k9L_30, k9L_40, k9L_50, k9L_60, k9L_99, k9L_100, k9L_120, k9L_255, k9L_999, k9L_1000, k9_bs, k9_ba, ra]
  repeat (first | ((with_reducible refine k9q_T ?_ ?_); · omega) | ((with_reducible refine k9q_F ?_ ?_); · omega) | ((with_reducible refine k9q_Tb ?_ ?_); · omega) | ((with_reducible refine k9q_Fb ?_ ?_); · omega) | (refine k9o_call (e76) ?_; simp (disch := omega) only [k9e_130_0, k9e_130_5, Nat.reduceEqDiff, Int.reduceEq, Int.reduceLT, Int.reduceLE, k9_ps_s, k9_ps_n, k9_ur, false_and, and_false, true_and, and_true, true_or, or_true, false_or, or_false, eq_self, ↓reduceIte, not_true_eq_false, not_false_eq_true, n_toInt, n_cl, nI_1, nI_add, n_a0, n_p2, n_p3, n_p4, n_x2, n_x3, n_x4, n_x60, n_x100, n_pm1, k9L_m2, k9L_m1, k9L_0, k9L_1, k9L_2, k9L_3, k9L_4, k9L_5, k9L_6, k9L_7, k9L_8, k9L_9, k9L_10, k9L_20, k9L_23, k9L_24, k9L_30, k9L_40, k9L_50, k9L_60, k9L_99, k9L_100, k9L_120, k9L_255, k9L_999, k9L_1000, k9_bs, k9_ba, ra]) | simp (disch := omega) only [k9e_130_0, k9e_130_5, Nat.reduceEqDiff, Int.reduceEq, Int.reduceLT, Int.reduceLE, k9_ps_s, k9_ps_n, k9_ur, false_and, and_false, true_and, and_true, true_or, or_true, false_or, or_false, eq_self, ↓reduceIte, not_true_eq_false, not_false_eq_true, n_toInt, n_cl, nI_1, nI_add, n_a0, n_p2, n_p3, n_p4, n_x2, n_x3, n_x4, n_x60, n_x100, n_pm1, k9L_m2, k9L_m1, k9L_0, k9L_1, k9L_2, k9L_3, k9L_4, k9L_5, k9L_6, k9L_7, k9L_8, k9L_9, k9L_10, k9L_20, k9L_23, k9L_24, k9L_30, k9L_40, k9L_50, k9L_60, k9L_99, k9L_100, k9L_120, k9L_255, k9L_999, k9L_1000, k9_bs, k9_ba, ra])
  refine k9o_ret ⟨_, _, _, rfl, ?_⟩
  have key : ∀ n i I1, i + n = 5 → k9_fp (k9_Xs [7]) I I1 → (∀ p, I1 9 0 p = I 9 0 p ∧ I1 55 0 p = I 55 0 p) → (∀ k, k < 7 → I1 9 1 k = I 9 0 k) → I1 1 0 11 = 1 → I1 12 0 25 = 1 → I1 12 0 26 = I 12 0 23 → I1 12 0 23 = I 12 0 23 → (∀ k, k < i → I1 56 0 k = I 55 0 k) → k9_ok (k9_R S (d + 20) 227 9 [some (k9_r 12 0), some (k9_i (nI i))] [] I1 J) (fun q => ∃ I2 J2, q = (some (k9_i (I 9 0 2)), I2, J2) ∧ k9_Inv I2 J2) := by
    intro n
    induction n with
    | zero =>
      intro i I1 hi f1 g1 g2 g3 g4 g5 g6 g7
      obtain rfl : i = 5 := by omega
      refine k9o_eq k9e_227_9 (k9o_T (by decide) (k9o_eq k9e_227_22 ?_))
      rw [(g1 0).2, ← d2 0 (by omega)]
      refine k9o_ret ⟨_, _, rfl, k9_Inv_7 (k9_fp_w f1 k9_Xs_7) v ⟨?_, fun k hk => ?_, Or.inr ⟨g3, g4, ?_, fun k hk => ?_⟩⟩ (k9_vR_c (k9_fp_c f1 rfl) v8)⟩
      · rw [(g1 0).1, (g1 1).1, g6]
        exact d1
      · rw [(g1 _).1, (g1 _).2]
        exact d2 k hk
      · rw [g2 0 (by omega), g2 1 (by omega), g5]
        exact d1
      · rw [g2 _ (by omega), g7 k hk]
        exact d2 k hk
    | succ n ih =>
      intro i I1 hi f1 g1 g2 g3 g4 g5 g6 g7
      refine k9o_eq k9e_227_9 (k9o_F (by rw [n_toInt (by omega)]; omega) (k9o_eq k9e_227_12 (k9o_T (by rw [n_toInt (by omega)]; omega) (k9o_eq k9e_227_19 (k9o_T (by rw [n_toInt (by omega)]; omega) (k9o_eq k9e_227_20 ?_))))))
      rw [n_cl (by omega), nI_1]
      refine ih (i + 1) _ (by omega) (k9_fp_u f1 rfl) (fun p => by simpa [k9_ur] using g1 p) (fun k hk => by simpa [k9_ur] using g2 k hk) (by simpa [k9_ur] using g3) (by simpa [k9_ur] using g4) (by simpa [k9_ur] using g5) (by simpa [k9_ur] using g6) (fun k hk => ?_)
      by_cases e : k = i
      · subst e
        simp [k9_ur]
        exact (g1 _).2
      · simpa [k9_ur, e] using g7 k (by omega)
  rw [k9e_227_0]
  refine key 5 0 _ (by omega) (k9_fp_u (k9_fp_u fa rfl) rfl) (fun p => ?_) (fun k hk => ?_) ?_ ?_ ?_ ?_ (fun k hk => by omega)
  · simp [k9_ur, ra, rc]
  · simpa [k9_ur] using rb k hk
  · simp [k9_ur]
  · simp [k9_ur]
  · simp [k9_ur, rc]
  · simp [k9_ur, rc]
theorem t_back (hI : k9_Inv I J) : k9_P S (d + 20) 131 228 [some (k9_r 1 0)] [some (k9_r 12 0), none] I J k9_Inv := by
  have hI' := hI
  obtain ⟨w, V, b, v⟩ := hI
  have v : k9_Iv I J w V b := v
  have v' := v
  obtain ⟨v1, v2, v3, v4, v5, v6, v7, v8, v9⟩ := v'
  obtain ⟨d1, d2, d3⟩ := v7
  refine k9P_of ?_
  rcases d3 with ⟨e1, e2⟩ | ⟨e1, e2, e3, e4⟩
  · simp (disch := omega) only [k9e_131_0, k9e_131_3, k9e_131_5, k9e_131_10, Nat.reduceEqDiff, Int.reduceEq, Int.reduceLT, Int.reduceLE, k9_ps_s, k9_ps_n, k9_ur, false_and, and_false, true_and, and_true, true_or, or_true, false_or, or_false, eq_self, ↓reduceIte, not_true_eq_false, not_false_eq_true, n_toInt, n_cl, nI_1, nI_add, n_a0, n_p2, n_p3, n_p4, n_x2, n_x3, n_x4, n_x60, n_x100, n_pm1, k9L_m2, k9L_m1, k9L_0, k9L_1, k9L_2, k9L_3, k9L_4, k9L_5, k9L_6, k9L_7, k9L_8, k9L_9, k9L_10, k9L_20, k9L_23, k9L_24, k9L_30, k9L_40, k9L_50, k9L_60, k9L_99, k9L_100, k9L_120, k9L_255, k9L_999, k9L_1000, k9_bs, k9_ba, e1]
    repeat (first | ((with_reducible refine k9q_T ?_ ?_); · omega) | ((with_reducible refine k9q_F ?_ ?_); · omega) | ((with_reducible refine k9q_Tb ?_ ?_); · omega) | ((with_reducible refine k9q_Fb ?_ ?_); · omega) | simp (disch := omega) only [k9e_131_0, k9e_131_3, k9e_131_5, k9e_131_10, Nat.reduceEqDiff, Int.reduceEq, Int.reduceLT, Int.reduceLE, k9_ps_s, k9_ps_n, k9_ur, false_and, and_false, true_and, and_true, true_or, or_true, false_or, or_false, eq_self, ↓reduceIte, not_true_eq_false, not_false_eq_true, n_toInt, n_cl, nI_1, nI_add, n_a0, n_p2, n_p3, n_p4, n_x2, n_x3, n_x4, n_x60, n_x100, n_pm1, k9L_m2, k9L_m1, k9L_0, k9L_1, k9L_2, k9L_3, k9L_4, k9L_5, k9L_6, k9L_7, k9L_8, k9L_9, k9L_10, k9L_20, k9L_23, k9L_24, k9L_30, k9L_40, k9L_50, k9L_60, k9L_99, k9L_100, k9L_120, k9L_255, k9L_999, k9L_1000, k9_bs, k9_ba, e1])
    refine k9o_ret ⟨_, _, _, rfl, ?_⟩
    simp (disch := omega) only [k9e_228_0, k9e_228_3, k9e_228_5, k9e_228_14, k9e_228_21, k9e_228_22, k9e_228_24, Nat.reduceEqDiff, Int.reduceEq, Int.reduceLT, Int.reduceLE, k9_ps_s, k9_ps_n, k9_ur, false_and, and_false, true_and, and_true, true_or, or_true, false_or, or_false, eq_self, ↓reduceIte, not_true_eq_false, not_false_eq_true, n_toInt, n_cl, nI_1, nI_add, n_a0, n_p2, n_p3, n_p4, n_x2, n_x3, n_x4, n_x60, n_x100, n_pm1, k9L_m2, k9L_m1, k9L_0, k9L_1, k9L_2, k9L_3, k9L_4, k9L_5, k9L_6, k9L_7, k9L_8, k9L_9, k9L_10, k9L_20, k9L_23, k9L_24, k9L_30, k9L_40, k9L_50, k9L_60, k9L_99, k9L_100, k9L_120, k9L_255, k9L_999, k9L_1000, k9_bs, k9_ba, e2]
    repeat (first | ((with_reducible refine k9q_T ?_ ?_); · omega) | ((with_reducible refine k9q_F ?_ ?_); · omega) | ((with_reducible refine k9q_Tb ?_ ?_); · omega) | ((with_reducible refine k9q_Fb ?_ ?_); · omega) | simp (disch := omega) only [k9e_228_0, k9e_228_3, k9e_228_5, k9e_228_14, k9e_228_21, k9e_228_22, k9e_228_24, Nat.reduceEqDiff, Int.reduceEq, Int.reduceLT, Int.reduceLE, k9_ps_s, k9_ps_n, k9_ur, false_and, and_false, true_and, and_true, true_or, or_true, false_or, or_false, eq_self, ↓reduceIte, not_true_eq_false, not_false_eq_true, n_toInt, n_cl, nI_1, nI_add, n_a0, n_p2, n_p3, n_p4, n_x2, n_x3, n_x4, n_x60, n_x100, n_pm1, k9L_m2, k9L_m1, k9L_0, k9L_1, k9L_2, k9L_3, k9L_4, k9L_5, k9L_6, k9L_7, k9L_8, k9L_9, k9L_10, k9L_20, k9L_23, k9L_24, k9L_30, k9L_40, k9L_50, k9L_60, k9L_99, k9L_100, k9L_120, k9L_255, k9L_999, k9L_1000, k9_bs, k9_ba, e2])
    exact k9o_ret ⟨_, _, rfl, hI'⟩
  · have hon : (I 9 1 0).toInt = 0 ∨ (I 9 1 0).toInt = 1 := by
      rcases e3 with ⟨e, -⟩ | ⟨e, -⟩ <;> rw [e] <;> decide
    obtain ⟨Ia, hIa⟩ : ∃ Ia, Ia = k9_u (k9_u (k9_u (k9_u (k9_u (k9_u (k9_u I 9 0 0 (I 9 1 0)) 9 0 1 (I 9 1 1)) 9 0 2 (I 9 1 2)) 9 0 3 (I 9 1 3)) 9 0 4 (I 9 1 4)) 9 0 5 (I 9 1 5)) 9 0 6 (I 9 1 6) := ⟨_, rfl⟩
    have e76 : k9_R S (d + 19) 76 0 [some (k9_r 9 0), some (k9_r 9 1)] [] I J = some (none, Ia, J) := by
      refine k9o_of ?_
      refine k9o_eq k9e_76_0 (k9o_T hon ?_)
      simp (disch := omega) only [k9e_76_0, k9e_76_4, Nat.reduceEqDiff, Int.reduceEq, Int.reduceLT, Int.reduceLE, k9_ps_s, k9_ps_n, k9_ur, false_and, and_false, true_and, and_true, true_or, or_true, false_or, or_false, eq_self, ↓reduceIte, not_true_eq_false, not_false_eq_true, n_toInt, n_cl, nI_1, nI_add, n_a0, n_p2, n_p3, n_p4, n_x2, n_x3, n_x4, n_x60, n_x100, n_pm1, k9L_m2, k9L_m1, k9L_0, k9L_1, k9L_2, k9L_3, k9L_4, k9L_5, k9L_6, k9L_7, k9L_8, k9L_9, k9L_10, k9L_20, k9L_23, k9L_24, k9L_30, k9L_40, k9L_50, k9L_60, k9L_99, k9L_100, k9L_120, k9L_255, k9L_999, k9L_1000, k9_bs, k9_ba]
      rw [hIa]
      exact k9o_ret rfl
    have fa : k9_fp (k9_Xs [7]) I Ia := by rw [hIa]; exact k9_fp_u (k9_fp_u (k9_fp_u (k9_fp_u (k9_fp_u (k9_fp_u (k9_fp_u (k9_fp_rf _ _) rfl) rfl) rfl) rfl) rfl) rfl) rfl
    have ra : ∀ p, Ia 9 1 p = I 9 1 p := fun p => by rw [hIa]; simp [k9_ur]
    have rb : ∀ k, k < 7 → Ia 9 0 k = I 9 1 k := fun k hk => by
      have hk7 : k = 0 ∨ k = 1 ∨ k = 2 ∨ k = 3 ∨ k = 4 ∨ k = 5 ∨ k = 6 := by omega
      rw [hIa]
      rcases hk7 with rfl | rfl | rfl | rfl | rfl | rfl | rfl <;> simp [k9_ur]
    have rc : ∀ p, Ia 56 0 p = I 56 0 p ∧ Ia 12 0 p = I 12 0 p ∧ Ia 1 0 p = I 1 0 p := fun p => by rw [hIa]; simp [k9_ur]
    have rb2 := rb 2 (by omega)
    simp (disch := omega) only [k9e_131_0, k9e_131_3, k9e_131_5, k9e_131_10, Nat.reduceEqDiff, Int.reduceEq, Int.reduceLT, Int.reduceLE, k9_ps_s, k9_ps_n, k9_ur, false_and, and_false, true_and, and_true, true_or, or_true, false_or, or_false, eq_self, ↓reduceIte, not_true_eq_false, not_false_eq_true, n_toInt, n_cl, nI_1, nI_add, n_a0, n_p2, n_p3, n_p4, n_x2, n_x3, n_x4, n_x60, n_x100, n_pm1, k9L_m2, k9L_m1, k9L_0, k9L_1, k9L_2, k9L_3, k9L_4, k9L_5, k9L_6, k9L_7, k9L_8, k9L_9, k9L_10, k9L_20, k9L_23, k9L_24, k9L_30, k9L_40, k9L_50, k9L_60, k9L_99, k9L_100, k9L_120, k9L_255, k9L_999, k9L_1000, k9_bs, k9_ba, e1, rb2]
    repeat (first | ((with_reducible refine k9q_T ?_ ?_); · omega) | ((with_reducible refine k9q_F ?_ ?_); · omega) | ((with_reducible refine k9q_Tb ?_ ?_); · omega) | ((with_reducible refine k9q_Fb ?_ ?_); · omega) | (refine k9o_call (e76) ?_; simp (disch := omega) only [k9e_131_0, k9e_131_3, k9e_131_5, k9e_131_10, Nat.reduceEqDiff, Int.reduceEq, Int.reduceLT, Int.reduceLE, k9_ps_s, k9_ps_n, k9_ur, false_and, and_false, true_and, and_true, true_or, or_true, false_or, or_false, eq_self, ↓reduceIte, not_true_eq_false, not_false_eq_true, n_toInt, n_cl, nI_1, nI_add, n_a0, n_p2, n_p3, n_p4, n_x2, n_x3, n_x4, n_x60, n_x100, n_pm1, k9L_m2, k9L_m1, k9L_0, k9L_1, k9L_2, k9L_3, k9L_4, k9L_5, k9L_6, k9L_7, k9L_8, k9L_9, k9L_10, k9L_20, k9L_23, k9L_24, k9L_30, k9L_40, k9L_50, k9L_60, k9L_99, k9L_100, k9L_120, k9L_255, k9L_999, k9L_1000, k9_bs, k9_ba, e1, rb2]) | simp (disch := omega) only [k9e_131_0, k9e_131_3, k9e_131_5, k9e_131_10, Nat.reduceEqDiff, Int.reduceEq, Int.reduceLT, Int.reduceLE, k9_ps_s, k9_ps_n, k9_ur, false_and, and_false, true_and, and_true, true_or, or_true, false_or, or_false, eq_self, ↓reduceIte, not_true_eq_false, not_false_eq_true, n_toInt, n_cl, nI_1, nI_add, n_a0, n_p2, n_p3, n_p4, n_x2, n_x3, n_x4, n_x60, n_x100, n_pm1, k9L_m2, k9L_m1, k9L_0, k9L_1, k9L_2, k9L_3, k9L_4, k9L_5, k9L_6, k9L_7, k9L_8, k9L_9, k9L_10, k9L_20, k9L_23, k9L_24, k9L_30, k9L_40, k9L_50, k9L_60, k9L_99, k9L_100, k9L_120, k9L_255, k9L_999, k9L_1000, k9_bs, k9_ba, e1, rb2])
    refine k9o_ret ⟨_, _, _, rfl, ?_⟩
    have key : ∀ n i I1, i + n = 5 → k9_fp (k9_Xs [7]) I I1 → (∀ k, k < 7 → I1 9 0 k = I 9 1 k ∧ I1 9 1 k = I 9 1 k) → (∀ p, I1 56 0 p = I 56 0 p) → I1 1 0 11 = 1 → I1 12 0 25 = 1 → I1 12 0 26 = I 12 0 26 → I1 12 0 23 = I 12 0 26 → (∀ k, k < i → I1 55 0 k = I 56 0 k) → k9_ok (k9_R S (d + 20) 228 11 [some (k9_r 12 0), some (k9_i (nI i))] [] I1 J) (fun q => ∃ I2 J2, q = (some (k9_i (I 9 1 2)), I2, J2) ∧ k9_Inv I2 J2) := by
      intro n
      induction n with
      | zero =>
        intro i I1 hi f1 g1 g2 g3 g4 g5 g6 g7
        obtain rfl : i = 5 := by omega
        refine k9o_eq k9e_228_11 (k9o_T (by decide) (k9o_eq k9e_228_24 ?_))
        rw [g7 0 (by omega), ← e4 0 (by omega)]
        refine k9o_ret ⟨_, _, rfl, k9_Inv_7 (k9_fp_w f1 k9_Xs_7) v ⟨?_, fun k hk => ?_, Or.inr ⟨g3, g4, ?_, fun k hk => ?_⟩⟩ (k9_vR_c (k9_fp_c f1 rfl) v8)⟩
        · rw [(g1 0 (by omega)).1, (g1 1 (by omega)).1, g6]
          exact e3
        · rw [(g1 _ (by omega)).1, g7 k hk]
          exact e4 k hk
        · rw [(g1 0 (by omega)).2, (g1 1 (by omega)).2, g5]
          exact e3
        · rw [(g1 _ (by omega)).2, g2]
          exact e4 k hk
      | succ n ih =>
        intro i I1 hi f1 g1 g2 g3 g4 g5 g6 g7
        refine k9o_eq k9e_228_11 (k9o_F (by rw [n_toInt (by omega)]; omega) (k9o_eq k9e_228_14 (k9o_T (by rw [n_toInt (by omega)]; omega) (k9o_eq k9e_228_21 (k9o_T (by rw [n_toInt (by omega)]; omega) (k9o_eq k9e_228_22 ?_))))))
        rw [n_cl (by omega), nI_1]
        refine ih (i + 1) _ (by omega) (k9_fp_u f1 rfl) (fun k hk => by simpa [k9_ur] using g1 k hk) (fun k => by simpa [k9_ur] using g2 k) (by simpa [k9_ur] using g3) (by simpa [k9_ur] using g4) (by simpa [k9_ur] using g5) (by simpa [k9_ur] using g6) (fun k hk => ?_)
        by_cases e : k = i
        · subst e
          simp [k9_ur]
          exact g2 _
        · simpa [k9_ur, e] using g7 k (by omega)
    have c25 : Ia 12 0 25 = 1 := (rc 25).2.1.trans e2
    refine k9o_eq k9e_228_0 (k9o_F (by rw [c25]; decide) (k9o_eq k9e_228_5 ?_))
    refine key 5 0 _ (by omega) (k9_fp_u fa rfl) (fun k hk => ?_) (fun k => ?_) ?_ ?_ ?_ ?_ (fun k hk => by omega)
    · simp [k9_ur, ra, rb k hk]
    · simp [k9_ur, rc]
    · simp [k9_ur, rc, e1]
    · simp [k9_ur, c25]
    · simp [k9_ur, rc]
    · simp [k9_ur, rc]
end KT14
