/-! IN DEED: pass, cancel; SHOWING: trust, patience -/
section KT15
variable {S : k9_S} {d : Nat} {I I' : k9_I} {J J' : k9_J} {w : Nat → Nat → Nat} {V : (Nat → Int32) → Int32} {b : Nat} {x1 x2 x3 : Int32}
theorem t_cancel (hI : k9_Inv I J) : k9_P S (d + 20) 128 225 [some (k9_r 1 0), none] [some (k9_r 12 0), none] I J k9_Inv := by
  have hI' := hI
  obtain ⟨w, V, b, v⟩ := hI
  have v : k9_Iv I J w V b := v
  have hf := v.1.2.2.1
  have hlen := p_len_b hf
  have v' := v
  obtain ⟨v1, v2, v3, v4, v5, v6, v7, v8, v9⟩ := v'
  obtain ⟨d1, d2, d3⟩ := v7
  refine k9P_of ?_
  rcases d1 with ⟨e1, z, hz, e2, e3⟩ | ⟨e1, e3⟩
  · obtain ⟨I1, c1, b1, r1, f1⟩ := k9s_148w (S := S) (d := d + 13) (J := J) v1 v3 v8
    have g91 : I1 9 0 1 = nI z := (f1 9 0 1 rfl).trans e2
    obtain ⟨Ia, hIa⟩ : ∃ Ia, Ia = k9_u (k9_u (k9_u I1 9 0 0 0) 9 0 4 (I1 9 0 4 + 1)) 9 0 6 (I1 9 0 6 + nI (p_co w z)) := ⟨_, rfl⟩
    have e74 : k9_R S (d + 19) 74 0 [some (k9_r 9 0), some (k9_i (nI (p_co w z)))] [] I1 J = some (none, Ia, J) := by
      refine k9o_of ?_
      simp (disch := omega) only [k9e_74_0, Nat.reduceEqDiff, Int.reduceEq, Int.reduceLT, Int.reduceLE, k9_ps_s, k9_ps_n, k9_ur, false_and, and_false, true_and, and_true, true_or, or_true, false_or, or_false, eq_self, ↓reduceIte, not_true_eq_false, not_false_eq_true, n_toInt, n_cl, nI_1, nI_add, n_a0, n_p2, n_p3, n_p4, n_x2, n_x3, n_x4, n_x60, n_x100, n_pm1, k9L_m2, k9L_m1, k9L_0, k9L_1, k9L_2, k9L_3, k9L_4, k9L_5, k9L_6, k9L_7, k9L_8, k9L_9, k9L_10, k9L_20, k9L_23, k9L_24, k9L_30, k9L_40, k9L_50, k9L_60, k9L_99, k9L_100, k9L_120, k9L_255, k9L_999, k9L_1000, k9_bs, k9_ba]
      rw [hIa]
      exact k9o_ret rfl
    have fa : k9_fp (k9_Xs [7, 8]) I Ia := by
      rw [hIa]
      exact k9_fp_u (k9_fp_u (k9_fp_u (k9_fp_w f1 k9_Xs_8) rfl) rfl) rfl
    simp (disch := omega) only [k9e_128_0, k9e_128_4, k9e_128_6, k9e_128_8, k9e_128_12, k9e_128_17, Nat.reduceEqDiff, Int.reduceEq, Int.reduceLT, Int.reduceLE, k9_ps_s, k9_ps_n, k9_ur, false_and, and_false, true_and, and_true, true_or, or_true, false_or, or_false, eq_self, ↓reduceIte, not_true_eq_false, not_false_eq_true, n_toInt, n_cl, nI_1, nI_add, n_a0, n_p2, n_p3, n_p4, n_x2, n_x3, n_x4, n_x60, n_x100, n_pm1, k9L_m2, k9L_m1, k9L_0, k9L_1, k9L_2, k9L_3, k9L_4, k9L_5, k9L_6, k9L_7, k9L_8, k9L_9, k9L_10, k9L_20, k9L_23, k9L_24, k9L_30, k9L_40, k9L_50, k9L_60, k9L_99, k9L_100, k9L_120, k9L_255, k9L_999, k9L_1000, k9_bs, k9_ba, e1, g91]
    repeat (first | ((with_reducible refine k9q_T ?_ ?_); · omega) | ((with_reducible refine k9q_F ?_ ?_); · omega) | ((with_reducible refine k9q_Tb ?_ ?_); · omega) | ((with_reducible refine k9q_Fb ?_ ?_); · omega) | (refine k9o_call (c1) ?_; simp (disch := omega) only [k9e_128_0, k9e_128_4, k9e_128_6, k9e_128_8, k9e_128_12, k9e_128_17, Nat.reduceEqDiff, Int.reduceEq, Int.reduceLT, Int.reduceLE, k9_ps_s, k9_ps_n, k9_ur, false_and, and_false, true_and, and_true, true_or, or_true, false_or, or_false, eq_self, ↓reduceIte, not_true_eq_false, not_false_eq_true, n_toInt, n_cl, nI_1, nI_add, n_a0, n_p2, n_p3, n_p4, n_x2, n_x3, n_x4, n_x60, n_x100, n_pm1, k9L_m2, k9L_m1, k9L_0, k9L_1, k9L_2, k9L_3, k9L_4, k9L_5, k9L_6, k9L_7, k9L_8, k9L_9, k9L_10, k9L_20, k9L_23, k9L_24, k9L_30, k9L_40, k9L_50, k9L_60, k9L_99, k9L_100, k9L_120, k9L_255, k9L_999, k9L_1000, k9_bs, k9_ba, e1, g91]) | (refine k9o_call (k9s_57 b1 (Nat.zero_le _) (by omega : z < 1000) (by omega)) ?_; simp (disch := omega) only [k9e_128_0, k9e_128_4, k9e_128_6, k9e_128_8, k9e_128_12, k9e_128_17, Nat.reduceEqDiff, Int.reduceEq, Int.reduceLT, Int.reduceLE, k9_ps_s, k9_ps_n, k9_ur, false_and, and_false, true_and, and_true, true_or, or_true, false_or, or_false, eq_self, ↓reduceIte, not_true_eq_false, not_false_eq_true, n_toInt, n_cl, nI_1, nI_add, n_a0, n_p2, n_p3, n_p4, n_x2, n_x3, n_x4, n_x60, n_x100, n_pm1, k9L_m2, k9L_m1, k9L_0, k9L_1, k9L_2, k9L_3, k9L_4, k9L_5, k9L_6, k9L_7, k9L_8, k9L_9, k9L_10, k9L_20, k9L_23, k9L_24, k9L_30, k9L_40, k9L_50, k9L_60, k9L_99, k9L_100, k9L_120, k9L_255, k9L_999, k9L_1000, k9_bs, k9_ba, e1, g91]) | (refine k9o_call (e74) ?_; simp (disch := omega) only [k9e_128_0, k9e_128_4, k9e_128_6, k9e_128_8, k9e_128_12, k9e_128_17, Nat.reduceEqDiff, Int.reduceEq, Int.reduceLT, Int.reduceLE, k9_ps_s, k9_ps_n, k9_ur, false_and, and_false, true_and, and_true, true_or, or_true, false_or, or_false, eq_self, ↓reduceIte, not_true_eq_false, not_false_eq_true, n_toInt, n_cl, nI_1, nI_add, n_a0, n_p2, n_p3, n_p4, n_x2, n_x3, n_x4, n_x60, n_x100, n_pm1, k9L_m2, k9L_m1, k9L_0, k9L_1, k9L_2, k9L_3, k9L_4, k9L_5, k9L_6, k9L_7, k9L_8, k9L_9, k9L_10, k9L_20, k9L_23, k9L_24, k9L_30, k9L_40, k9L_50, k9L_60, k9L_99, k9L_100, k9L_120, k9L_255, k9L_999, k9L_1000, k9_bs, k9_ba, e1, g91]) | simp (disch := omega) only [k9e_128_0, k9e_128_4, k9e_128_6, k9e_128_8, k9e_128_12, k9e_128_17, Nat.reduceEqDiff, Int.reduceEq, Int.reduceLT, Int.reduceLE, k9_ps_s, k9_ps_n, k9_ur, false_and, and_false, true_and, and_true, true_or, or_true, false_or, or_false, eq_self, ↓reduceIte, not_true_eq_false, not_false_eq_true, n_toInt, n_cl, nI_1, nI_add, n_a0, n_p2, n_p3, n_p4, n_x2, n_x3, n_x4, n_x60, n_x100, n_pm1, k9L_m2, k9L_m1, k9L_0, k9L_1, k9L_2, k9L_3, k9L_4, k9L_5, k9L_6, k9L_7, k9L_8, k9L_9, k9L_10, k9L_20, k9L_23, k9L_24, k9L_30, k9L_40, k9L_50, k9L_60, k9L_99, k9L_100, k9L_120, k9L_255, k9L_999, k9L_1000, k9_bs, k9_ba, e1, g91])
    refine k9o_ret ⟨_, _, _, rfl, ?_⟩
    have wa := k9_vW_c (k9_fp_c fa rfl) v1
    have la := k9_vL_c (k9_fp_c fa rfl) v3
    obtain ⟨I2, c2, m2, x2⟩ := k9s_190 (S := S) (d := d + 14) (J := J) wa.2.1 hf la.2
    have f2 : k9_fp (k9_Xs []) Ia I2 := k9_fp_x x2 (k9_Fq_X rfl)
    have i23 : ∀ p, I 12 0 p = I 12 0 p := fun _ => rfl
    have a23 : Ia 12 0 23 = nI z := by
      rw [hIa]
      simp only [k9_ur, Nat.reduceEqDiff, false_and, ↓reduceIte]
      exact (f1 12 0 23 rfl).trans e3
    have g23 : I2 12 0 23 = nI z := (f2 12 0 23 rfl).trans a23
    have m64 := (m2.2 z (by omega)).1
    simp (disch := omega) only [k9e_225_0, k9e_225_4, k9e_225_6, k9e_225_8, k9e_225_13, Nat.reduceEqDiff, Int.reduceEq, Int.reduceLT, Int.reduceLE, k9_ps_s, k9_ps_n, k9_ur, false_and, and_false, true_and, and_true, true_or, or_true, false_or, or_false, eq_self, ↓reduceIte, not_true_eq_false, not_false_eq_true, n_toInt, n_cl, nI_1, nI_add, n_a0, n_p2, n_p3, n_p4, n_x2, n_x3, n_x4, n_x60, n_x100, n_pm1, k9L_m2, k9L_m1, k9L_0, k9L_1, k9L_2, k9L_3, k9L_4, k9L_5, k9L_6, k9L_7, k9L_8, k9L_9, k9L_10, k9L_20, k9L_23, k9L_24, k9L_30, k9L_40, k9L_50, k9L_60, k9L_99, k9L_100, k9L_120, k9L_255, k9L_999, k9L_1000, k9_bs, k9_ba, a23, g23, m64]
    repeat (first | ((with_reducible refine k9q_T ?_ ?_); · omega) | ((with_reducible refine k9q_F ?_ ?_); · omega) | ((with_reducible refine k9q_Tb ?_ ?_); · omega) | ((with_reducible refine k9q_Fb ?_ ?_); · omega) | (refine k9o_call (c2) ?_; simp (disch := omega) only [k9e_225_0, k9e_225_4, k9e_225_6, k9e_225_8, k9e_225_13, Nat.reduceEqDiff, Int.reduceEq, Int.reduceLT, Int.reduceLE, k9_ps_s, k9_ps_n, k9_ur, false_and, and_false, true_and, and_true, true_or, or_true, false_or, or_false, eq_self, ↓reduceIte, not_true_eq_false, not_false_eq_true, n_toInt, n_cl, nI_1, nI_add, n_a0, n_p2, n_p3, n_p4, n_x2, n_x3, n_x4, n_x60, n_x100, n_pm1, k9L_m2, k9L_m1, k9L_0, k9L_1, k9L_2, k9L_3, k9L_4, k9L_5, k9L_6, k9L_7, k9L_8, k9L_9, k9L_10, k9L_20, k9L_23, k9L_24, k9L_30, k9L_40, k9L_50, k9L_60, k9L_99, k9L_100, k9L_120, k9L_255, k9L_999, k9L_1000, k9_bs, k9_ba, a23, g23, m64]) | simp (disch := omega) only [k9e_225_0, k9e_225_4, k9e_225_6, k9e_225_8, k9e_225_13, Nat.reduceEqDiff, Int.reduceEq, Int.reduceLT, Int.reduceLE, k9_ps_s, k9_ps_n, k9_ur, false_and, and_false, true_and, and_true, true_or, or_true, false_or, or_false, eq_self, ↓reduceIte, not_true_eq_false, not_false_eq_true, n_toInt, n_cl, nI_1, nI_add, n_a0, n_p2, n_p3, n_p4, n_x2, n_x3, n_x4, n_x60, n_x100, n_pm1, k9L_m2, k9L_m1, k9L_0, k9L_1, k9L_2, k9L_3, k9L_4, k9L_5, k9L_6, k9L_7, k9L_8, k9L_9, k9L_10, k9L_20, k9L_23, k9L_24, k9L_30, k9L_40, k9L_50, k9L_60, k9L_99, k9L_100, k9L_120, k9L_255, k9L_999, k9L_1000, k9_bs, k9_ba, a23, g23, m64])
    have g55 : ∀ k, k < 5 → I2 55 0 k = I 55 0 k := fun k hk => by
      rw [f2 55 0 k rfl, hIa]
      simp only [k9_ur, Nat.reduceEqDiff, false_and, ↓reduceIte]
      exact f1 55 0 k rfl
    have ff : k9_fp (k9_Xs [7, 8]) I I2 := k9_fp_tr fa (k9_fp_w f2 k9_Xs_0)
    have g9 : ∀ i k, I2 9 i k = Ia 9 i k := fun i k => f2 9 i k rfl
    have h9 : ∀ i k, I1 9 i k = I 9 i k := fun i k => f1 9 i k rfl
    refine k9o_ret ⟨_, _, rfl, k9_Inv_7 (k9_fp_u (k9_fp_u (k9_fp_u ff rfl) rfl) rfl) v ⟨?_, fun k hk => ?_, ?_⟩ ?_⟩
    · refine Or.inr ⟨?_, ?_⟩
      · simp only [k9_ur, Nat.reduceEqDiff, false_and, ↓reduceIte]
        rw [g9, hIa]
        simp [k9_ur]
      · simp [k9_ur]
    · have a := d2 k hk
      simp only [k9_ur, Nat.reduceEqDiff, false_and, true_and, ↓reduceIte]
      rw [g9, hIa, g55 k hk, g55 4 (by omega)]
      have hk5 : k = 0 ∨ k = 1 ∨ k = 2 ∨ k = 3 ∨ k = 4 := by omega
      rcases hk5 with rfl | rfl | rfl | rfl | rfl <;> simp [k9_ur, h9] at a ⊢ <;> (try rw [a]) <;> (try rw [g55 _ (by omega)])
    · simp only [k9_ur, Nat.reduceEqDiff, false_and, and_false, ↓reduceIte]
      rw [f2 1 0 11 rfl, f2 12 0 25 rfl, f2 12 0 26 rfl, g9, g9, hIa]
      simp only [k9_ur, Nat.reduceEqDiff, false_and, and_false, true_and, ↓reduceIte]
      rw [f1 1 0 11 rfl, f1 12 0 25 rfl, f1 12 0 26 rfl, h9, h9]
      rcases d3 with d3 | ⟨p1, p2, p3, p4⟩
      · exact Or.inl d3
      · refine Or.inr ⟨p1, p2, p3, fun k hk => ?_⟩
        rw [g9, f2 56 0 k rfl, hIa]
        simp only [k9_ur, Nat.reduceEqDiff, false_and, and_false, true_and, ↓reduceIte]
        rw [h9, f1 56 0 k rfl]
        exact p4 k hk
    · refine k9_vR_c (I := I1) (fun k i p hk => ?_) r1
      have : k9_fp (k9_Xs [7]) I1 (k9_u (k9_u (k9_u I2 55 0 2 (I 55 0 2 + 1)) 55 0 4 (I 55 0 4 + nI (p_co w z))) 12 0 23 (-2)) := by
        refine k9_fp_u (k9_fp_u (k9_fp_u (k9_fp_tr ?_ (k9_fp_w f2 k9_Xs_0)) rfl) rfl) rfl
        rw [hIa]
        exact k9_fp_u (k9_fp_u (k9_fp_u (k9_fp_rf _ _) rfl) rfl) rfl
      have h8 := k9_fp_c this (c := 8) rfl k i p hk
      rw [← h8]
      simp only [k9_ur, g55 2 (by omega), g55 4 (by omega), Nat.reduceEqDiff, and_false, ↓reduceIte]
  · simp (disch := omega) only [k9e_128_0, k9e_128_4, k9e_128_6, k9e_128_8, k9e_128_12, k9e_128_17, Nat.reduceEqDiff, Int.reduceEq, Int.reduceLT, Int.reduceLE, k9_ps_s, k9_ps_n, k9_ur, false_and, and_false, true_and, and_true, true_or, or_true, false_or, or_false, eq_self, ↓reduceIte, not_true_eq_false, not_false_eq_true, n_toInt, n_cl, nI_1, nI_add, n_a0, n_p2, n_p3, n_p4, n_x2, n_x3, n_x4, n_x60, n_x100, n_pm1, k9L_m2, k9L_m1, k9L_0, k9L_1, k9L_2, k9L_3, k9L_4, k9L_5, k9L_6, k9L_7, k9L_8, k9L_9, k9L_10, k9L_20, k9L_23, k9L_24, k9L_30, k9L_40, k9L_50, k9L_60, k9L_99, k9L_100, k9L_120, k9L_255, k9L_999, k9L_1000, k9_bs, k9_ba, e1]
    repeat (first | ((with_reducible refine k9q_T ?_ ?_); · omega) | ((with_reducible refine k9q_F ?_ ?_); · omega) | ((with_reducible refine k9q_Tb ?_ ?_); · omega) | ((with_reducible refine k9q_Fb ?_ ?_); · omega) | simp (disch := omega) only [k9e_128_0, k9e_128_4, k9e_128_6, k9e_128_8, k9e_128_12, k9e_128_17, Nat.reduceEqDiff, Int.reduceEq, Int.reduceLT, Int.reduceLE, k9_ps_s, k9_ps_n, k9_ur, false_and, and_false, true_and, and_true, true_or, or_true, false_or, or_false, eq_self, ↓reduceIte, not_true_eq_false, not_false_eq_true, n_toInt, n_cl, nI_1, nI_add, n_a0, n_p2, n_p3, n_p4, n_x2, n_x3, n_x4, n_x60, n_x100, n_pm1, k9L_m2, k9L_m1, k9L_0, k9L_1, k9L_2, k9L_3, k9L_4, k9L_5, k9L_6, k9L_7, k9L_8, k9L_9, k9L_10, k9L_20, k9L_23, k9L_24, k9L_30, k9L_40, k9L_50, k9L_60, k9L_99, k9L_100, k9L_120, k9L_255, k9L_999, k9L_1000, k9_bs, k9_ba, e1])
    refine k9o_ret ⟨_, _, _, rfl, ?_⟩
    simp (disch := omega) only [k9e_225_0, k9e_225_4, k9e_225_6, k9e_225_8, k9e_225_13, Nat.reduceEqDiff, Int.reduceEq, Int.reduceLT, Int.reduceLE, k9_ps_s, k9_ps_n, k9_ur, false_and, and_false, true_and, and_true, true_or, or_true, false_or, or_false, eq_self, ↓reduceIte, not_true_eq_false, not_false_eq_true, n_toInt, n_cl, nI_1, nI_add, n_a0, n_p2, n_p3, n_p4, n_x2, n_x3, n_x4, n_x60, n_x100, n_pm1, k9L_m2, k9L_m1, k9L_0, k9L_1, k9L_2, k9L_3, k9L_4, k9L_5, k9L_6, k9L_7, k9L_8, k9L_9, k9L_10, k9L_20, k9L_23, k9L_24, k9L_30, k9L_40, k9L_50, k9L_60, k9L_99, k9L_100, k9L_120, k9L_255, k9L_999, k9L_1000, k9_bs, k9_ba, e3]
    repeat (first | ((with_reducible refine k9q_T ?_ ?_); · omega) | ((with_reducible refine k9q_F ?_ ?_); · omega) | ((with_reducible refine k9q_Tb ?_ ?_); · omega) | ((with_reducible refine k9q_Fb ?_ ?_); · omega) | simp (disch := omega) only [k9e_225_0, k9e_225_4, k9e_225_6, k9e_225_8, k9e_225_13, Nat.reduceEqDiff, Int.reduceEq, Int.reduceLT, Int.reduceLE, k9_ps_s, k9_ps_n, k9_ur, false_and, and_false, true_and, and_true, true_or, or_true, false_or, or_false, eq_self, ↓reduceIte, not_true_eq_false, not_false_eq_true, n_toInt, n_cl, nI_1, nI_add, n_a0, n_p2, n_p3, n_p4, n_x2, n_x3, n_x4, n_x60, n_x100, n_pm1, k9L_m2, k9L_m1, k9L_0, k9L_1, k9L_2, k9L_3, k9L_4, k9L_5, k9L_6, k9L_7, k9L_8, k9L_9, k9L_10, k9L_20, k9L_23, k9L_24, k9L_30, k9L_40, k9L_50, k9L_60, k9L_99, k9L_100, k9L_120, k9L_255, k9L_999, k9L_1000, k9_bs, k9_ba, e3])
    exact k9o_ret ⟨_, _, rfl, hI'⟩
/-- held within 0 .. 100 -/
theorem n_cp (x : Int32) : (if (0 : Int32) < (if x < 100 then x else 100) then (if x < 100 then x else 100) else 0) = nI (min 100 x.toInt.toNat) := by
  by_cases h : x < 100
  · rw [if_pos h]
    rw [Int32.lt_iff_toInt_lt, k9L_100] at h
    by_cases h0 : (0 : Int32) < x
    · rw [if_pos h0]
      rw [Int32.lt_iff_toInt_lt, k9L_0] at h0
      apply n_ext
      rw [n_toInt (by omega)]
      omega
    · rw [if_neg h0]
      rw [Int32.lt_iff_toInt_lt, k9L_0] at h0
      rw [show min 100 x.toInt.toNat = 0 by omega]
      rfl
  · rw [if_neg h, if_pos (by decide)]
    rw [Int32.lt_iff_toInt_lt, k9L_100] at h
    rw [show min 100 x.toInt.toNat = 100 by omega]
    rfl
def p_tr (m : Nat) : Nat → Nat
  | 0 => 50
  | i + 1 => min 100 (p_tr m i + 10 - m)
def p_tf (m : Nat) : Nat → Int32
  | 0 => -2
  | i + 1 => if p_tr m (i + 1) < 20 ∧ p_tf m i = -2 then nI (i + 1) else p_tf m i
theorem p_tr_b (m i : Nat) : p_tr m i ≤ 100 := by
  cases i with
  | zero => exact (by decide : (50 : Nat) ≤ 100)
  | succ i => exact Nat.min_le_left _ _
theorem t_trust (hI : k9_Inv I J) : k9_P S (d + 20) 119 215 [some (k9_r 1 0), some (k9_i x1), some (k9_i x2), none, none, none, none] [some (k9_r 12 0), some (k9_i x1), some (k9_i x2), none, none, none] I J k9_Inv := by
  have hI' := hI
  obtain ⟨w, V, b, v⟩ := hI
  have v : k9_Iv I J w V b := v
  have hf := v.1.2.2.1
  have hlen := p_len_b hf
  refine k9P_of ?_
  by_cases h1 : 1 ≤ x1.toInt ∧ x1.toInt ≤ 20
  · by_cases h2 : 0 ≤ x2.toInt ∧ x2.toInt ≤ 1
    · obtain ⟨n, rfl, hn, -⟩ := n_of (x := x1) (by omega)
      obtain ⟨q, rfl, hq, -⟩ := n_of (x := x2) (by omega)
      obtain ⟨I1, e1, b1, i1⟩ := k9s_148 (S := S) (d := d + 13) v
      have e61 := k9s_61 (S := S) (d := d + 17) (J := J) (q := 0) b1 (by omega) (by omega) (fun t => p_sh_b t) (by omega)
      rw [if_pos rfl] at e61
      obtain ⟨I2, e2, m2, i2⟩ := k9_run (S := S) (d := d + 14) i1
      obtain ⟨I3, e3, k3, m3, i3⟩ := k9_looks (S := S) (d := d + 19) i2 m2
      obtain ⟨f44, -, -, -, -⟩ := k3
      have ho := (p_of_b (h := p_sh w (p_tt w) V) (fun t => p_sh_b t) (fun t => p_ct_b (Nat.min_le_right t (p_len w))) (p_len w + 1)).1
      obtain ⟨g, hg⟩ : ∃ g, g = (p_of (p_sh w (p_tt w) V) (fun t => p_ct (p_len w) (min t (p_len w))) (p_len w + 1)).1 := ⟨_, rfl⟩
      rw [← hg] at e61 f44 ho
      have hdiv : nI g / 2 = nI (g / 2) := n_div (d := 2) (by omega) (by omega) (by omega)
      have T1 : ∀ i, (nI (p_tr (g / 2) i) + (10 - nI (g / 2))).toInt = (p_tr (g / 2) i : Int) + 10 - (g / 2 : Nat) := by
        intro i
        have hb := p_tr_b (g / 2) i
        have e : nI (p_tr (g / 2) i) + (10 - nI (g / 2)) = nI (p_tr (g / 2) i + 10) - nI (g / 2) := by
          rw [Int32.sub_eq_add_neg, Int32.sub_eq_add_neg, ← Int32.add_assoc, ← nI_add]
          rfl
        rw [e, pk_sub_toInt (by omega) (by omega)]
        omega
      have T2 : ∀ i, (nI (p_tr (g / 2) i) - nI (g / 2) + 10).toInt = (p_tr (g / 2) i : Int) + 10 - (g / 2 : Nat) := by
        intro i
        have e : nI (p_tr (g / 2) i) - nI (g / 2) + 10 = nI (p_tr (g / 2) i) + (10 - nI (g / 2)) := by
          rw [Int32.sub_eq_add_neg, Int32.sub_eq_add_neg, Int32.add_assoc, Int32.add_comm (-nI (g / 2)) 10]
        rw [e]
        exact T1 i
      have nt : ∀ (x : Int32) (i : Nat), x.toInt = (p_tr (g / 2) i : Int) + 10 - (g / 2 : Nat) → min 100 x.toInt.toNat = p_tr (g / 2) (i + 1) := by
        intro x i hx
        rw [hx, p_tr]
        omega
      have fb : ∀ i, p_tf (g / 2) i = -2 ∨ ∃ j : Nat, j ≤ i ∧ p_tf (g / 2) i = nI j := by
        intro i
        induction i with
        | zero => exact Or.inl rfl
        | succ i ih =>
          rw [p_tf]
          split
          · exact Or.inr ⟨i + 1, Nat.le_refl _, rfl⟩
          · rcases ih with ih | ⟨j, a, c⟩
            · exact Or.inl ih
            · exact Or.inr ⟨j, by omega, c⟩
      have kc : ∀ k i, i + k = n → k9_ok (k9_R S (d + 20) 119 28 [some (k9_r 1 0), some (k9_i (nI n)), some (k9_i (nI q)), some (k9_i (10 - nI (g / 2))), some (k9_i (nI (p_tr (g / 2) i))), some (k9_i (p_tf (g / 2) i)), some (k9_i (nI (i + 1)))] [] I1 J) (fun q' => q' = (some (k9_i (if q = 0 then nI (p_tr (g / 2) n) else p_tf (g / 2) n)), I1, J)) := by
        intro k
        induction k with
        | zero =>
          intro i hi
          obtain rfl : i = n := by omega
          refine k9o_eq k9e_119_28 (k9o_T (by rw [n_toInt (by omega), n_toInt (by omega)]; omega) ?_)
          by_cases h0 : q = 0
          · rw [if_pos h0]
            simp (disch := omega) only [k9e_119_49, k9e_119_51, k9e_119_53, k9e_119_54, Nat.reduceEqDiff, Int.reduceEq, Int.reduceLT, Int.reduceLE, k9_ps_s, k9_ps_n, k9_ur, false_and, and_false, true_and, and_true, true_or, or_true, false_or, or_false, eq_self, ↓reduceIte, not_true_eq_false, not_false_eq_true, n_toInt, n_cl, nI_1, nI_add, n_a0, n_p2, n_p3, n_p4, n_x2, n_x3, n_x4, n_x60, n_x100, n_pm1, k9L_m2, k9L_m1, k9L_0, k9L_1, k9L_2, k9L_3, k9L_4, k9L_5, k9L_6, k9L_7, k9L_8, k9L_9, k9L_10, k9L_20, k9L_23, k9L_24, k9L_30, k9L_40, k9L_50, k9L_60, k9L_99, k9L_100, k9L_120, k9L_255, k9L_999, k9L_1000, k9_bs, k9_ba]
            repeat (first | ((with_reducible refine k9q_T ?_ ?_); · omega) | ((with_reducible refine k9q_F ?_ ?_); · omega) | ((with_reducible refine k9q_Tb ?_ ?_); · omega) | ((with_reducible refine k9q_Fb ?_ ?_); · omega) | simp (disch := omega) only [k9e_119_49, k9e_119_51, k9e_119_53, k9e_119_54, Nat.reduceEqDiff, Int.reduceEq, Int.reduceLT, Int.reduceLE, k9_ps_s, k9_ps_n, k9_ur, false_and, and_false, true_and, and_true, true_or, or_true, false_or, or_false, eq_self, ↓reduceIte, not_true_eq_false, not_false_eq_true, n_toInt, n_cl, nI_1, nI_add, n_a0, n_p2, n_p3, n_p4, n_x2, n_x3, n_x4, n_x60, n_x100, n_pm1, k9L_m2, k9L_m1, k9L_0, k9L_1, k9L_2, k9L_3, k9L_4, k9L_5, k9L_6, k9L_7, k9L_8, k9L_9, k9L_10, k9L_20, k9L_23, k9L_24, k9L_30, k9L_40, k9L_50, k9L_60, k9L_99, k9L_100, k9L_120, k9L_255, k9L_999, k9L_1000, k9_bs, k9_ba])
            exact k9o_ret rfl
          · rw [if_neg h0]
            simp (disch := omega) only [k9e_119_49, k9e_119_51, k9e_119_53, k9e_119_54, Nat.reduceEqDiff, Int.reduceEq, Int.reduceLT, Int.reduceLE, k9_ps_s, k9_ps_n, k9_ur, false_and, and_false, true_and, and_true, true_or, or_true, false_or, or_false, eq_self, ↓reduceIte, not_true_eq_false, not_false_eq_true, n_toInt, n_cl, nI_1, nI_add, n_a0, n_p2, n_p3, n_p4, n_x2, n_x3, n_x4, n_x60, n_x100, n_pm1, k9L_m2, k9L_m1, k9L_0, k9L_1, k9L_2, k9L_3, k9L_4, k9L_5, k9L_6, k9L_7, k9L_8, k9L_9, k9L_10, k9L_20, k9L_23, k9L_24, k9L_30, k9L_40, k9L_50, k9L_60, k9L_99, k9L_100, k9L_120, k9L_255, k9L_999, k9L_1000, k9_bs, k9_ba]
            repeat (first | ((with_reducible refine k9q_T ?_ ?_); · omega) | ((with_reducible refine k9q_F ?_ ?_); · omega) | ((with_reducible refine k9q_Tb ?_ ?_); · omega) | ((with_reducible refine k9q_Fb ?_ ?_); · omega) | simp (disch := omega) only [k9e_119_49, k9e_119_51, k9e_119_53, k9e_119_54, Nat.reduceEqDiff, Int.reduceEq, Int.reduceLT, Int.reduceLE, k9_ps_s, k9_ps_n, k9_ur, false_and, and_false, true_and, and_true, true_or, or_true, false_or, or_false, eq_self, ↓reduceIte, not_true_eq_false, not_false_eq_true, n_toInt, n_cl, nI_1, nI_add, n_a0, n_p2, n_p3, n_p4, n_x2, n_x3, n_x4, n_x60, n_x100, n_pm1, k9L_m2, k9L_m1, k9L_0, k9L_1, k9L_2, k9L_3, k9L_4, k9L_5, k9L_6, k9L_7, k9L_8, k9L_9, k9L_10, k9L_20, k9L_23, k9L_24, k9L_30, k9L_40, k9L_50, k9L_60, k9L_99, k9L_100, k9L_120, k9L_255, k9L_999, k9L_1000, k9_bs, k9_ba])
            exact k9o_ret rfl
        | succ k ih =>
          intro i hi
          have e := ih (i + 1) (by omega)
          have hb := p_tr_b (g / 2) (i + 1)
          refine k9o_eq k9e_119_28 (k9o_F (by rw [n_toInt (by omega), n_toInt (by omega)]; omega) (k9o_eq k9e_119_31 ?_))
          rw [n_cp, nt _ i (T1 i)]
          rw [p_tf] at e
          by_cases c1 : p_tr (g / 2) (i + 1) < 20
          · refine k9o_F (by rw [n_toInt (by omega)]; omega) (k9o_eq k9e_119_42 ?_)
            by_cases c2 : p_tf (g / 2) i = -2
            · rw [if_pos ⟨c1, c2⟩] at e
              refine k9o_T (by rw [c2]; decide) (k9o_eq k9e_119_45 (k9o_eq k9e_119_47 ?_))
              rw [nI_1]
              exact e
            · rw [if_neg (fun z => c2 z.2)] at e
              refine k9o_F (fun z => c2 (n_ext (by rw [z]; decide))) (k9o_eq k9e_119_47 ?_)
              rw [nI_1]
              exact e
          · rw [if_neg (fun z => c1 z.1)] at e
            refine k9o_T (by rw [n_toInt (by omega)]; omega) (k9o_eq k9e_119_47 ?_)
            rw [nI_1]
            exact e
      have km : ∀ k i, i + k = n → k9_ok (k9_R S (d + 20) 215 22 [some (k9_r 12 0), some (k9_i (nI n)), some (k9_i (nI q)), some (k9_i (nI (p_tr (g / 2) i))), some (k9_i (p_tf (g / 2) i)), some (k9_i (nI (i + 1)))] [] I3 J) (fun q' => q' = (some (k9_i (if q = 0 then nI (p_tr (g / 2) n) else p_tf (g / 2) n)), I3, J)) := by
        intro k
        induction k with
        | zero =>
          intro i hi
          obtain rfl : i = n := by omega
          refine k9o_eq k9e_215_22 (k9o_T (by rw [n_toInt (by omega), n_toInt (by omega)]; omega) ?_)
          by_cases h0 : q = 0
          · rw [if_pos h0]
            simp (disch := omega) only [k9e_215_48, k9e_215_50, k9e_215_52, k9e_215_53, Nat.reduceEqDiff, Int.reduceEq, Int.reduceLT, Int.reduceLE, k9_ps_s, k9_ps_n, k9_ur, false_and, and_false, true_and, and_true, true_or, or_true, false_or, or_false, eq_self, ↓reduceIte, not_true_eq_false, not_false_eq_true, n_toInt, n_cl, nI_1, nI_add, n_a0, n_p2, n_p3, n_p4, n_x2, n_x3, n_x4, n_x60, n_x100, n_pm1, k9L_m2, k9L_m1, k9L_0, k9L_1, k9L_2, k9L_3, k9L_4, k9L_5, k9L_6, k9L_7, k9L_8, k9L_9, k9L_10, k9L_20, k9L_23, k9L_24, k9L_30, k9L_40, k9L_50, k9L_60, k9L_99, k9L_100, k9L_120, k9L_255, k9L_999, k9L_1000, k9_bs, k9_ba]
            repeat (first | ((with_reducible refine k9q_T ?_ ?_); · omega) | ((with_reducible refine k9q_F ?_ ?_); · omega) | ((with_reducible refine k9q_Tb ?_ ?_); · omega) | ((with_reducible refine k9q_Fb ?_ ?_); · omega) | simp (disch := omega) only [k9e_215_48, k9e_215_50, k9e_215_52, k9e_215_53, Nat.reduceEqDiff, Int.reduceEq, Int.reduceLT, Int.reduceLE, k9_ps_s, k9_ps_n, k9_ur, false_and, and_false, true_and, and_true, true_or, or_true, false_or, or_false, eq_self, ↓reduceIte, not_true_eq_false, not_false_eq_true, n_toInt, n_cl, nI_1, nI_add, n_a0, n_p2, n_p3, n_p4, n_x2, n_x3, n_x4, n_x60, n_x100, n_pm1, k9L_m2, k9L_m1, k9L_0, k9L_1, k9L_2, k9L_3, k9L_4, k9L_5, k9L_6, k9L_7, k9L_8, k9L_9, k9L_10, k9L_20, k9L_23, k9L_24, k9L_30, k9L_40, k9L_50, k9L_60, k9L_99, k9L_100, k9L_120, k9L_255, k9L_999, k9L_1000, k9_bs, k9_ba])
            exact k9o_ret rfl
          · rw [if_neg h0]
            simp (disch := omega) only [k9e_215_48, k9e_215_50, k9e_215_52, k9e_215_53, Nat.reduceEqDiff, Int.reduceEq, Int.reduceLT, Int.reduceLE, k9_ps_s, k9_ps_n, k9_ur, false_and, and_false, true_and, and_true, true_or, or_true, false_or, or_false, eq_self, ↓reduceIte, not_true_eq_false, not_false_eq_true, n_toInt, n_cl, nI_1, nI_add, n_a0, n_p2, n_p3, n_p4, n_x2, n_x3, n_x4, n_x60, n_x100, n_pm1, k9L_m2, k9L_m1, k9L_0, k9L_1, k9L_2, k9L_3, k9L_4, k9L_5, k9L_6, k9L_7, k9L_8, k9L_9, k9L_10, k9L_20, k9L_23, k9L_24, k9L_30, k9L_40, k9L_50, k9L_60, k9L_99, k9L_100, k9L_120, k9L_255, k9L_999, k9L_1000, k9_bs, k9_ba]
            repeat (first | ((with_reducible refine k9q_T ?_ ?_); · omega) | ((with_reducible refine k9q_F ?_ ?_); · omega) | ((with_reducible refine k9q_Tb ?_ ?_); · omega) | ((with_reducible refine k9q_Fb ?_ ?_); · omega) | simp (disch := omega) only [k9e_215_48, k9e_215_50, k9e_215_52, k9e_215_53, Nat.reduceEqDiff, Int.reduceEq, Int.reduceLT, Int.reduceLE, k9_ps_s, k9_ps_n, k9_ur, false_and, and_false, true_and, and_true, true_or, or_true, false_or, or_false, eq_self, ↓reduceIte, not_true_eq_false, not_false_eq_true, n_toInt, n_cl, nI_1, nI_add, n_a0, n_p2, n_p3, n_p4, n_x2, n_x3, n_x4, n_x60, n_x100, n_pm1, k9L_m2, k9L_m1, k9L_0, k9L_1, k9L_2, k9L_3, k9L_4, k9L_5, k9L_6, k9L_7, k9L_8, k9L_9, k9L_10, k9L_20, k9L_23, k9L_24, k9L_30, k9L_40, k9L_50, k9L_60, k9L_99, k9L_100, k9L_120, k9L_255, k9L_999, k9L_1000, k9_bs, k9_ba])
            exact k9o_ret rfl
        | succ k ih =>
          intro i hi
          have e := ih (i + 1) (by omega)
          have hb := p_tr_b (g / 2) (i + 1)
          refine k9o_eq k9e_215_22 (k9o_F (by rw [n_toInt (by omega), n_toInt (by omega)]; omega) (k9o_eq k9e_215_25 ?_))
          rw [f44, hdiv]
          refine k9o_eq k9e_215_32 ?_
          rw [n_cp, nt _ i (T2 i)]
          rw [p_tf] at e
          by_cases c1 : p_tr (g / 2) (i + 1) < 20
          · refine k9o_F (by rw [n_toInt (by omega)]; omega) (k9o_eq k9e_215_41 ?_)
            by_cases c2 : p_tf (g / 2) i = -2
            · rw [if_pos ⟨c1, c2⟩] at e
              refine k9o_T (by rw [c2]; decide) (k9o_eq k9e_215_44 (k9o_eq k9e_215_46 ?_))
              rw [nI_1]
              exact e
            · rw [if_neg (fun z => c2 z.2)] at e
              refine k9o_F (fun z => c2 (n_ext (by rw [z]; decide))) (k9o_eq k9e_215_46 ?_)
              rw [nI_1]
              exact e
          · rw [if_neg (fun z => c1 z.1)] at e
            refine k9o_T (by rw [n_toInt (by omega)]; omega) (k9o_eq k9e_215_46 ?_)
            rw [nI_1]
            exact e
      simp (disch := omega) only [k9e_119_0, k9e_119_3, k9e_119_6, k9e_119_8, k9e_119_11, k9e_119_13, k9e_119_16, k9e_119_18, k9e_119_20, Nat.reduceEqDiff, Int.reduceEq, Int.reduceLT, Int.reduceLE, k9_ps_s, k9_ps_n, k9_ur, false_and, and_false, true_and, and_true, true_or, or_true, false_or, or_false, eq_self, ↓reduceIte, not_true_eq_false, not_false_eq_true, n_toInt, n_cl, nI_1, nI_add, n_a0, n_p2, n_p3, n_p4, n_x2, n_x3, n_x4, n_x60, n_x100, n_pm1, k9L_m2, k9L_m1, k9L_0, k9L_1, k9L_2, k9L_3, k9L_4, k9L_5, k9L_6, k9L_7, k9L_8, k9L_9, k9L_10, k9L_20, k9L_23, k9L_24, k9L_30, k9L_40, k9L_50, k9L_60, k9L_99, k9L_100, k9L_120, k9L_255, k9L_999, k9L_1000, k9_bs, k9_ba, hdiv]
      repeat (first | ((with_reducible refine k9q_T ?_ ?_); · omega) | ((with_reducible refine k9q_F ?_ ?_); · omega) | ((with_reducible refine k9q_Tb ?_ ?_); · omega) | ((with_reducible refine k9q_Fb ?_ ?_); · omega) | (refine k9o_call (e1) ?_; simp (disch := omega) only [k9e_119_0, k9e_119_3, k9e_119_6, k9e_119_8, k9e_119_11, k9e_119_13, k9e_119_16, k9e_119_18, k9e_119_20, Nat.reduceEqDiff, Int.reduceEq, Int.reduceLT, Int.reduceLE, k9_ps_s, k9_ps_n, k9_ur, false_and, and_false, true_and, and_true, true_or, or_true, false_or, or_false, eq_self, ↓reduceIte, not_true_eq_false, not_false_eq_true, n_toInt, n_cl, nI_1, nI_add, n_a0, n_p2, n_p3, n_p4, n_x2, n_x3, n_x4, n_x60, n_x100, n_pm1, k9L_m2, k9L_m1, k9L_0, k9L_1, k9L_2, k9L_3, k9L_4, k9L_5, k9L_6, k9L_7, k9L_8, k9L_9, k9L_10, k9L_20, k9L_23, k9L_24, k9L_30, k9L_40, k9L_50, k9L_60, k9L_99, k9L_100, k9L_120, k9L_255, k9L_999, k9L_1000, k9_bs, k9_ba, hdiv]) | (refine k9o_call (e61) ?_; simp (disch := omega) only [k9e_119_0, k9e_119_3, k9e_119_6, k9e_119_8, k9e_119_11, k9e_119_13, k9e_119_16, k9e_119_18, k9e_119_20, Nat.reduceEqDiff, Int.reduceEq, Int.reduceLT, Int.reduceLE, k9_ps_s, k9_ps_n, k9_ur, false_and, and_false, true_and, and_true, true_or, or_true, false_or, or_false, eq_self, ↓reduceIte, not_true_eq_false, not_false_eq_true, n_toInt, n_cl, nI_1, nI_add, n_a0, n_p2, n_p3, n_p4, n_x2, n_x3, n_x4, n_x60, n_x100, n_pm1, k9L_m2, k9L_m1, k9L_0, k9L_1, k9L_2, k9L_3, k9L_4, k9L_5, k9L_6, k9L_7, k9L_8, k9L_9, k9L_10, k9L_20, k9L_23, k9L_24, k9L_30, k9L_40, k9L_50, k9L_60, k9L_99, k9L_100, k9L_120, k9L_255, k9L_999, k9L_1000, k9_bs, k9_ba, hdiv]) | simp (disch := omega) only [k9e_119_0, k9e_119_3, k9e_119_6, k9e_119_8, k9e_119_11, k9e_119_13, k9e_119_16, k9e_119_18, k9e_119_20, Nat.reduceEqDiff, Int.reduceEq, Int.reduceLT, Int.reduceLE, k9_ps_s, k9_ps_n, k9_ur, false_and, and_false, true_and, and_true, true_or, or_true, false_or, or_false, eq_self, ↓reduceIte, not_true_eq_false, not_false_eq_true, n_toInt, n_cl, nI_1, nI_add, n_a0, n_p2, n_p3, n_p4, n_x2, n_x3, n_x4, n_x60, n_x100, n_pm1, k9L_m2, k9L_m1, k9L_0, k9L_1, k9L_2, k9L_3, k9L_4, k9L_5, k9L_6, k9L_7, k9L_8, k9L_9, k9L_10, k9L_20, k9L_23, k9L_24, k9L_30, k9L_40, k9L_50, k9L_60, k9L_99, k9L_100, k9L_120, k9L_255, k9L_999, k9L_1000, k9_bs, k9_ba, hdiv])
      obtain ⟨q1, c1, rfl⟩ := kc n 0 (by omega)
      refine k9o_to c1 ⟨_, _, _, rfl, ?_⟩
      simp (disch := omega) only [k9e_215_0, k9e_215_4, k9e_215_5, k9e_215_9, k9e_215_10, k9e_215_12, k9e_215_14, k9e_215_16, Nat.reduceEqDiff, Int.reduceEq, Int.reduceLT, Int.reduceLE, k9_ps_s, k9_ps_n, k9_ur, false_and, and_false, true_and, and_true, true_or, or_true, false_or, or_false, eq_self, ↓reduceIte, not_true_eq_false, not_false_eq_true, n_toInt, n_cl, nI_1, nI_add, n_a0, n_p2, n_p3, n_p4, n_x2, n_x3, n_x4, n_x60, n_x100, n_pm1, k9L_m2, k9L_m1, k9L_0, k9L_1, k9L_2, k9L_3, k9L_4, k9L_5, k9L_6, k9L_7, k9L_8, k9L_9, k9L_10, k9L_20, k9L_23, k9L_24, k9L_30, k9L_40, k9L_50, k9L_60, k9L_99, k9L_100, k9L_120, k9L_255, k9L_999, k9L_1000, k9_bs, k9_ba]
      repeat (first | ((with_reducible refine k9q_T ?_ ?_); · omega) | ((with_reducible refine k9q_F ?_ ?_); · omega) | ((with_reducible refine k9q_Tb ?_ ?_); · omega) | ((with_reducible refine k9q_Fb ?_ ?_); · omega) | (refine k9o_call (k9s_153 (by first | omega | (simp (disch := omega) only [n_toInt, n_pm1, k9L_m2, k9L_m1, k9L_0, k9L_1, k9L_2, k9L_3, k9L_4, k9L_5, k9L_6, k9L_7, k9L_8, k9L_9, k9L_10, k9L_20, k9L_23, k9L_24, k9L_30, k9L_40, k9L_50, k9L_60, k9L_99, k9L_100, k9L_120, k9L_255, k9L_999, k9L_1000]; omega))) ?_; simp (disch := omega) only [k9e_215_0, k9e_215_4, k9e_215_5, k9e_215_9, k9e_215_10, k9e_215_12, k9e_215_14, k9e_215_16, Nat.reduceEqDiff, Int.reduceEq, Int.reduceLT, Int.reduceLE, k9_ps_s, k9_ps_n, k9_ur, false_and, and_false, true_and, and_true, true_or, or_true, false_or, or_false, eq_self, ↓reduceIte, not_true_eq_false, not_false_eq_true, n_toInt, n_cl, nI_1, nI_add, n_a0, n_p2, n_p3, n_p4, n_x2, n_x3, n_x4, n_x60, n_x100, n_pm1, k9L_m2, k9L_m1, k9L_0, k9L_1, k9L_2, k9L_3, k9L_4, k9L_5, k9L_6, k9L_7, k9L_8, k9L_9, k9L_10, k9L_20, k9L_23, k9L_24, k9L_30, k9L_40, k9L_50, k9L_60, k9L_99, k9L_100, k9L_120, k9L_255, k9L_999, k9L_1000, k9_bs, k9_ba]) | (refine k9o_call (k9s_153x (by first | omega | (simp (disch := omega) only [n_toInt, n_pm1, k9L_m2, k9L_m1, k9L_0, k9L_1, k9L_2, k9L_3, k9L_4, k9L_5, k9L_6, k9L_7, k9L_8, k9L_9, k9L_10, k9L_20, k9L_23, k9L_24, k9L_30, k9L_40, k9L_50, k9L_60, k9L_99, k9L_100, k9L_120, k9L_255, k9L_999, k9L_1000]; omega))) ?_; simp (disch := omega) only [k9e_215_0, k9e_215_4, k9e_215_5, k9e_215_9, k9e_215_10, k9e_215_12, k9e_215_14, k9e_215_16, Nat.reduceEqDiff, Int.reduceEq, Int.reduceLT, Int.reduceLE, k9_ps_s, k9_ps_n, k9_ur, false_and, and_false, true_and, and_true, true_or, or_true, false_or, or_false, eq_self, ↓reduceIte, not_true_eq_false, not_false_eq_true, n_toInt, n_cl, nI_1, nI_add, n_a0, n_p2, n_p3, n_p4, n_x2, n_x3, n_x4, n_x60, n_x100, n_pm1, k9L_m2, k9L_m1, k9L_0, k9L_1, k9L_2, k9L_3, k9L_4, k9L_5, k9L_6, k9L_7, k9L_8, k9L_9, k9L_10, k9L_20, k9L_23, k9L_24, k9L_30, k9L_40, k9L_50, k9L_60, k9L_99, k9L_100, k9L_120, k9L_255, k9L_999, k9L_1000, k9_bs, k9_ba]) | (refine k9o_call (e2) ?_; simp (disch := omega) only [k9e_215_0, k9e_215_4, k9e_215_5, k9e_215_9, k9e_215_10, k9e_215_12, k9e_215_14, k9e_215_16, Nat.reduceEqDiff, Int.reduceEq, Int.reduceLT, Int.reduceLE, k9_ps_s, k9_ps_n, k9_ur, false_and, and_false, true_and, and_true, true_or, or_true, false_or, or_false, eq_self, ↓reduceIte, not_true_eq_false, not_false_eq_true, n_toInt, n_cl, nI_1, nI_add, n_a0, n_p2, n_p3, n_p4, n_x2, n_x3, n_x4, n_x60, n_x100, n_pm1, k9L_m2, k9L_m1, k9L_0, k9L_1, k9L_2, k9L_3, k9L_4, k9L_5, k9L_6, k9L_7, k9L_8, k9L_9, k9L_10, k9L_20, k9L_23, k9L_24, k9L_30, k9L_40, k9L_50, k9L_60, k9L_99, k9L_100, k9L_120, k9L_255, k9L_999, k9L_1000, k9_bs, k9_ba]) | (refine k9o_call (e3) ?_; simp (disch := omega) only [k9e_215_0, k9e_215_4, k9e_215_5, k9e_215_9, k9e_215_10, k9e_215_12, k9e_215_14, k9e_215_16, Nat.reduceEqDiff, Int.reduceEq, Int.reduceLT, Int.reduceLE, k9_ps_s, k9_ps_n, k9_ur, false_and, and_false, true_and, and_true, true_or, or_true, false_or, or_false, eq_self, ↓reduceIte, not_true_eq_false, not_false_eq_true, n_toInt, n_cl, nI_1, nI_add, n_a0, n_p2, n_p3, n_p4, n_x2, n_x3, n_x4, n_x60, n_x100, n_pm1, k9L_m2, k9L_m1, k9L_0, k9L_1, k9L_2, k9L_3, k9L_4, k9L_5, k9L_6, k9L_7, k9L_8, k9L_9, k9L_10, k9L_20, k9L_23, k9L_24, k9L_30, k9L_40, k9L_50, k9L_60, k9L_99, k9L_100, k9L_120, k9L_255, k9L_999, k9L_1000, k9_bs, k9_ba]) | simp (disch := omega) only [k9e_215_0, k9e_215_4, k9e_215_5, k9e_215_9, k9e_215_10, k9e_215_12, k9e_215_14, k9e_215_16, Nat.reduceEqDiff, Int.reduceEq, Int.reduceLT, Int.reduceLE, k9_ps_s, k9_ps_n, k9_ur, false_and, and_false, true_and, and_true, true_or, or_true, false_or, or_false, eq_self, ↓reduceIte, not_true_eq_false, not_false_eq_true, n_toInt, n_cl, nI_1, nI_add, n_a0, n_p2, n_p3, n_p4, n_x2, n_x3, n_x4, n_x60, n_x100, n_pm1, k9L_m2, k9L_m1, k9L_0, k9L_1, k9L_2, k9L_3, k9L_4, k9L_5, k9L_6, k9L_7, k9L_8, k9L_9, k9L_10, k9L_20, k9L_23, k9L_24, k9L_30, k9L_40, k9L_50, k9L_60, k9L_99, k9L_100, k9L_120, k9L_255, k9L_999, k9L_1000, k9_bs, k9_ba])
      obtain ⟨q2, c2, rfl⟩ := km n 0 (by omega)
      exact k9o_to c2 ⟨_, _, rfl, k9_Iv_e i3⟩
    · repeat' (first | ((with_reducible refine k9q_T ?_ ?_); · omega) | ((with_reducible refine k9q_F ?_ ?_); · omega) | ((with_reducible refine k9q_Tb ?_ ?_); · omega) | ((with_reducible refine k9q_Fb ?_ ?_); · omega) | simp (disch := omega) only [k9e_119_0, k9e_119_3, k9e_119_6, k9e_119_8, k9e_119_11, Nat.reduceEqDiff, Int.reduceEq, Int.reduceLT, Int.reduceLE, k9_ps_s, k9_ps_n, k9_ur, false_and, and_false, true_and, and_true, true_or, or_true, false_or, or_false, eq_self, ↓reduceIte, not_true_eq_false, not_false_eq_true, n_toInt, n_cl, nI_1, nI_add, n_a0, n_p2, n_p3, n_p4, n_x2, n_x3, n_x4, n_x60, n_x100, n_pm1, k9L_m2, k9L_m1, k9L_0, k9L_1, k9L_2, k9L_3, k9L_4, k9L_5, k9L_6, k9L_7, k9L_8, k9L_9, k9L_10, k9L_20, k9L_23, k9L_24, k9L_30, k9L_40, k9L_50, k9L_60, k9L_99, k9L_100, k9L_120, k9L_255, k9L_999, k9L_1000, k9_bs, k9_ba] | (with_reducible refine k9q_if (fun _ => ?_) (fun _ => ?_)) | (with_reducible refine k9q_ifb (fun _ => ?_) (fun _ => ?_)))
      all_goals refine k9o_ret ⟨_, _, _, rfl, ?_⟩
      all_goals repeat' (first | ((with_reducible refine k9q_T ?_ ?_); · omega) | ((with_reducible refine k9q_F ?_ ?_); · omega) | ((with_reducible refine k9q_Tb ?_ ?_); · omega) | ((with_reducible refine k9q_Fb ?_ ?_); · omega) | (refine k9o_call (k9s_153 (by first | omega | (simp (disch := omega) only [n_toInt, n_pm1, k9L_m2, k9L_m1, k9L_0, k9L_1, k9L_2, k9L_3, k9L_4, k9L_5, k9L_6, k9L_7, k9L_8, k9L_9, k9L_10, k9L_20, k9L_23, k9L_24, k9L_30, k9L_40, k9L_50, k9L_60, k9L_99, k9L_100, k9L_120, k9L_255, k9L_999, k9L_1000]; omega))) ?_; simp (disch := omega) only [k9e_215_0, k9e_215_4, k9e_215_5, k9e_215_9, k9e_215_10, Nat.reduceEqDiff, Int.reduceEq, Int.reduceLT, Int.reduceLE, k9_ps_s, k9_ps_n, k9_ur, false_and, and_false, true_and, and_true, true_or, or_true, false_or, or_false, eq_self, ↓reduceIte, not_true_eq_false, not_false_eq_true, n_toInt, n_cl, nI_1, nI_add, n_a0, n_p2, n_p3, n_p4, n_x2, n_x3, n_x4, n_x60, n_x100, n_pm1, k9L_m2, k9L_m1, k9L_0, k9L_1, k9L_2, k9L_3, k9L_4, k9L_5, k9L_6, k9L_7, k9L_8, k9L_9, k9L_10, k9L_20, k9L_23, k9L_24, k9L_30, k9L_40, k9L_50, k9L_60, k9L_99, k9L_100, k9L_120, k9L_255, k9L_999, k9L_1000, k9_bs, k9_ba]) | (refine k9o_call (k9s_153x (by first | omega | (simp (disch := omega) only [n_toInt, n_pm1, k9L_m2, k9L_m1, k9L_0, k9L_1, k9L_2, k9L_3, k9L_4, k9L_5, k9L_6, k9L_7, k9L_8, k9L_9, k9L_10, k9L_20, k9L_23, k9L_24, k9L_30, k9L_40, k9L_50, k9L_60, k9L_99, k9L_100, k9L_120, k9L_255, k9L_999, k9L_1000]; omega))) ?_; simp (disch := omega) only [k9e_215_0, k9e_215_4, k9e_215_5, k9e_215_9, k9e_215_10, Nat.reduceEqDiff, Int.reduceEq, Int.reduceLT, Int.reduceLE, k9_ps_s, k9_ps_n, k9_ur, false_and, and_false, true_and, and_true, true_or, or_true, false_or, or_false, eq_self, ↓reduceIte, not_true_eq_false, not_false_eq_true, n_toInt, n_cl, nI_1, nI_add, n_a0, n_p2, n_p3, n_p4, n_x2, n_x3, n_x4, n_x60, n_x100, n_pm1, k9L_m2, k9L_m1, k9L_0, k9L_1, k9L_2, k9L_3, k9L_4, k9L_5, k9L_6, k9L_7, k9L_8, k9L_9, k9L_10, k9L_20, k9L_23, k9L_24, k9L_30, k9L_40, k9L_50, k9L_60, k9L_99, k9L_100, k9L_120, k9L_255, k9L_999, k9L_1000, k9_bs, k9_ba]) | simp (disch := omega) only [k9e_215_0, k9e_215_4, k9e_215_5, k9e_215_9, k9e_215_10, Nat.reduceEqDiff, Int.reduceEq, Int.reduceLT, Int.reduceLE, k9_ps_s, k9_ps_n, k9_ur, false_and, and_false, true_and, and_true, true_or, or_true, false_or, or_false, eq_self, ↓reduceIte, not_true_eq_false, not_false_eq_true, n_toInt, n_cl, nI_1, nI_add, n_a0, n_p2, n_p3, n_p4, n_x2, n_x3, n_x4, n_x60, n_x100, n_pm1, k9L_m2, k9L_m1, k9L_0, k9L_1, k9L_2, k9L_3, k9L_4, k9L_5, k9L_6, k9L_7, k9L_8, k9L_9, k9L_10, k9L_20, k9L_23, k9L_24, k9L_30, k9L_40, k9L_50, k9L_60, k9L_99, k9L_100, k9L_120, k9L_255, k9L_999, k9L_1000, k9_bs, k9_ba] | (with_reducible refine k9q_if (fun _ => ?_) (fun _ => ?_)) | (with_reducible refine k9q_ifb (fun _ => ?_) (fun _ => ?_)))
      all_goals exact k9o_ret ⟨_, _, rfl, hI'⟩
  · repeat' (first | ((with_reducible refine k9q_T ?_ ?_); · omega) | ((with_reducible refine k9q_F ?_ ?_); · omega) | ((with_reducible refine k9q_Tb ?_ ?_); · omega) | ((with_reducible refine k9q_Fb ?_ ?_); · omega) | simp (disch := omega) only [k9e_119_0, k9e_119_3, k9e_119_6, k9e_119_8, k9e_119_11, Nat.reduceEqDiff, Int.reduceEq, Int.reduceLT, Int.reduceLE, k9_ps_s, k9_ps_n, k9_ur, false_and, and_false, true_and, and_true, true_or, or_true, false_or, or_false, eq_self, ↓reduceIte, not_true_eq_false, not_false_eq_true, n_toInt, n_cl, nI_1, nI_add, n_a0, n_p2, n_p3, n_p4, n_x2, n_x3, n_x4, n_x60, n_x100, n_pm1, k9L_m2, k9L_m1, k9L_0, k9L_1, k9L_2, k9L_3, k9L_4, k9L_5, k9L_6, k9L_7, k9L_8, k9L_9, k9L_10, k9L_20, k9L_23, k9L_24, k9L_30, k9L_40, k9L_50, k9L_60, k9L_99, k9L_100, k9L_120, k9L_255, k9L_999, k9L_1000, k9_bs, k9_ba] | (with_reducible refine k9q_if (fun _ => ?_) (fun _ => ?_)) | (with_reducible refine k9q_ifb (fun _ => ?_) (fun _ => ?_)))
    all_goals refine k9o_ret ⟨_, _, _, rfl, ?_⟩
    all_goals repeat' (first | ((with_reducible refine k9q_T ?_ ?_); · omega) | ((with_reducible refine k9q_F ?_ ?_); · omega) | ((with_reducible refine k9q_Tb ?_ ?_); · omega) | ((with_reducible refine k9q_Fb ?_ ?_); · omega) | (refine k9o_call (k9s_153 (by first | omega | (simp (disch := omega) only [n_toInt, n_pm1, k9L_m2, k9L_m1, k9L_0, k9L_1, k9L_2, k9L_3, k9L_4, k9L_5, k9L_6, k9L_7, k9L_8, k9L_9, k9L_10, k9L_20, k9L_23, k9L_24, k9L_30, k9L_40, k9L_50, k9L_60, k9L_99, k9L_100, k9L_120, k9L_255, k9L_999, k9L_1000]; omega))) ?_; simp (disch := omega) only [k9e_215_0, k9e_215_4, k9e_215_5, k9e_215_9, k9e_215_10, Nat.reduceEqDiff, Int.reduceEq, Int.reduceLT, Int.reduceLE, k9_ps_s, k9_ps_n, k9_ur, false_and, and_false, true_and, and_true, true_or, or_true, false_or, or_false, eq_self, ↓reduceIte, not_true_eq_false, not_false_eq_true, n_toInt, n_cl, nI_1, nI_add, n_a0, n_p2, n_p3, n_p4, n_x2, n_x3, n_x4, n_x60, n_x100, n_pm1, k9L_m2, k9L_m1, k9L_0, k9L_1, k9L_2, k9L_3, k9L_4, k9L_5, k9L_6, k9L_7, k9L_8, k9L_9, k9L_10, k9L_20, k9L_23, k9L_24, k9L_30, k9L_40, k9L_50, k9L_60, k9L_99, k9L_100, k9L_120, k9L_255, k9L_999, k9L_1000, k9_bs, k9_ba]) | (refine k9o_call (k9s_153x (by first | omega | (simp (disch := omega) only [n_toInt, n_pm1, k9L_m2, k9L_m1, k9L_0, k9L_1, k9L_2, k9L_3, k9L_4, k9L_5, k9L_6, k9L_7, k9L_8, k9L_9, k9L_10, k9L_20, k9L_23, k9L_24, k9L_30, k9L_40, k9L_50, k9L_60, k9L_99, k9L_100, k9L_120, k9L_255, k9L_999, k9L_1000]; omega))) ?_; simp (disch := omega) only [k9e_215_0, k9e_215_4, k9e_215_5, k9e_215_9, k9e_215_10, Nat.reduceEqDiff, Int.reduceEq, Int.reduceLT, Int.reduceLE, k9_ps_s, k9_ps_n, k9_ur, false_and, and_false, true_and, and_true, true_or, or_true, false_or, or_false, eq_self, ↓reduceIte, not_true_eq_false, not_false_eq_true, n_toInt, n_cl, nI_1, nI_add, n_a0, n_p2, n_p3, n_p4, n_x2, n_x3, n_x4, n_x60, n_x100, n_pm1, k9L_m2, k9L_m1, k9L_0, k9L_1, k9L_2, k9L_3, k9L_4, k9L_5, k9L_6, k9L_7, k9L_8, k9L_9, k9L_10, k9L_20, k9L_23, k9L_24, k9L_30, k9L_40, k9L_50, k9L_60, k9L_99, k9L_100, k9L_120, k9L_255, k9L_999, k9L_1000, k9_bs, k9_ba]) | simp (disch := omega) only [k9e_215_0, k9e_215_4, k9e_215_5, k9e_215_9, k9e_215_10, Nat.reduceEqDiff, Int.reduceEq, Int.reduceLT, Int.reduceLE, k9_ps_s, k9_ps_n, k9_ur, false_and, and_false, true_and, and_true, true_or, or_true, false_or, or_false, eq_self, ↓reduceIte, not_true_eq_false, not_false_eq_true, n_toInt, n_cl, nI_1, nI_add, n_a0, n_p2, n_p3, n_p4, n_x2, n_x3, n_x4, n_x60, n_x100, n_pm1, k9L_m2, k9L_m1, k9L_0, k9L_1, k9L_2, k9L_3, k9L_4, k9L_5, k9L_6, k9L_7, k9L_8, k9L_9, k9L_10, k9L_20, k9L_23, k9L_24, k9L_30, k9L_40, k9L_50, k9L_60, k9L_99, k9L_100, k9L_120, k9L_255, k9L_999, k9L_1000, k9_bs, k9_ba] | (with_reducible refine k9q_if (fun _ => ?_) (fun _ => ?_)) | (with_reducible refine k9q_ifb (fun _ => ?_) (fun _ => ?_)))
    all_goals exact k9o_ret ⟨_, _, rfl, hI'⟩
end KT15
