/-! IN DEED: pass, cancel; SHOWING: trust, patience -/
section KT15
variable {S : k9_S} {d : Nat} {I I' : k9_I} {J J' : k9_J} {w : Nat → Nat → Nat} {V : (Nat → Int32) → Int32} {b : Nat} {x1 x2 x3 : Int32}
theorem t_cancel (hI : k9_Inv I J) : k9_P S (d + 20) 128 225 [some (k9_r 1 0), none] [some (k9_r 12 0), none] I J k9_Inv := by
  have hI' := hI
  obtain ⟨w, V, b, v⟩ := hI
  have v : k9_Iv I J w V b := v
  have hf := v.1.2.2.1
  have hlen := p_len_b hf
  have v' := v
  obtain ⟨v1, v2, v3, v4, v5, v6, v7, v8, v9⟩ := v'
  obtain ⟨d1, d2, d3⟩ := v7
  refine k9P_of ?_
  rcases d1 with ⟨e1, z, hz, e2, e3⟩ | ⟨e1, e3⟩
  · obtain ⟨I1, c1, b1, r1, f1⟩ := k9s_148w (S := S) (d := d + 13) (J := J) v1 v3 v8
    have g91 : I1 9 0 1 = nI z := (f1 9 0 1 rfl).trans e2
    obtain ⟨Ia, hIa⟩ : ∃ Ia, Ia = k9_u (k9_u (k9_u I1 9 0 0 0) 9 0 4 (I1 9 0 4 + 1)) 9 0 6 (I1 9 0 6 + nI (p_co w z)) := ⟨_, rfl⟩
    have e74 : k9_R S (d + 19) 74 0 [some (k9_r 9 0), some (k9_i (nI (p_co w z)))] [] I1 J = some (none, Ia, J) := by
      refine k9o_of ?_
      simp (disch := omega) only [k9e_74_0, Nat.reduceEqDiff, Int.reduceEq, Int.reduceLT, Int.reduceLE, k9_ps_s, k9_ps_n, k9_ur, false_and, and_false, true_and, and_true, true_or, or_true, false_or, or_false, eq_self, ↓reduceIte, not_true_eq_false, not_false_eq_true, n_toInt, n_cl, nI_1, nI_add, n_a0, n_p2, n_p3, n_p4, n_x2, n_x3, n_x4, n_x60, n_x100, n_pm1, k9L_m2, k9L_m1, k9L_0, k9L_1, k9L_2, k9L_3, k9L_4, k9L_5, k9L_6, k9L_7, k9L_8, k9L_9, k9L_10, k9L_20, k9L_23, k9L_24, k9L_30, k9L_40, k9L_50, k9L_60, k9L_99, k9L_100, k9L_120, k9L_255, k9L_999, k9L_1000, k9_bs, k9_ba]
      rw [hIa]
      exact k9o_ret rfl
    have fa : k9_fp (k9_Xs [7, 8]) I Ia := by
      rw [hIa]
      exact k9_fp_u (k9_fp_u (k9_fp_u (k9_fp_w f1 k9_Xs_8) rfl) rfl) rfl
    simp (disch := omega) only [k9e_128_0, k9e_128_4, k9e_128_6, k9e_128_8, k9e_128_12, k9e_128_17, Nat.reduceEqDiff, Int.reduceEq, Int.reduceLT, Int.reduceLE, k9_ps_s, k9_ps_n, k9_ur, false_and, and_false, true_and, and_true, true_or, or_true, false_or, or_false, eq_self, ↓reduceIte, not_true_eq_false, not_false_eq_true, n_toInt, n_cl, nI_1, nI_add, n_a0, n_p2, n_p3, n_p4, n_x2, n_x3, n_x4, n_x60, n_x100, n_pm1, k9L_m2, k9L_m1, k9L_0, k9L_1, k9L_2, k9L_3, k9L_4, k9L_5, k9L_6, k9L_7, k9L_8, k9L_9, k9L_10, k9L_20, k9L_23, k9L_24, k9L_30, k9L_40, k9L_50, k9L_60, k9L_99, k9L_100, k9L_120, k9L_255, k9L_999, k9L_1000, k9_bs, k9_ba, e1, g91]
    repeat (first | ((with_reducible refine k9q_T ?_ ?_); · omega) | ((with_reducible refine k9q_F ?_ ?_); · omega) | ((with_reducible refine k9q_Tb ?_ ?_); · omega) | ((with_reducible refine k9q_Fb ?_ ?_); · omega) | (refine k9o_call (c1) ?_; simp (disch := omega) only [k9e_128_0, k9e_128_4, k9e_128_6, k9e_128_8, k9e_128_12, k9e_128_17, Nat.reduceEqDiff, Int.reduceEq, Int.reduceLT, Int.reduceLE, k9_ps_s, k9_ps_n, k9_ur, false_and, and_false, true_and, and_true, true_or, or_true, false_or, or_false, eq_self, ↓reduceIte, not_true_eq_false, not_false_eq_true, n_toInt, n_cl, nI_1, nI_add, n_a0, n_p2, n_p3, n_p4, n_x2, n_x3, n_x4, n_x60, n_x100, n_pm1, k9L_m2, k9L_m1, k9L_0, k9L_1, k9L_2, k9L_3, k9L_4, k9L_5, k9L_6, k9L_7, k9L_8, k9L_9, k9L_10, k9L_20, k9L_23, k9L_24, k9L_30, k9L_40, k9L_50, k9L_60, k9L_99, k9L_100, k9L_120, k9L_255, k9L_999, k9L_1000, k9_bs, k9_ba, e1, g91]) | (refine k9o_call (k9s_57 b1 (Nat.zero_le _) (by omega : z < 1000) (by omega)) ?_; simp (disch := omega) only [k9e_128_0, k9e_128_4, k9e_128_6, k9e_128_8, k9e_128_12, k9e_128_17, Nat.reduceEqDiff, Int.reduceEq, Int.reduceLT, Int.reduceLE, k9_ps_s, k9_ps_n, k9_ur, false_and, and_false, true_and, and_true, true_or, or_true, false_or, or_false, eq_self, ↓reduceIte, not_true_eq_false, not_false_eq_true, n_toInt, n_cl, nI_1, nI_add, n_a0, n_p2, n_p3, n_p4, n_x2, n_x3, n_x4, n_x60, n_x100, n_pm1, k9L_m2, k9L_m1, k9L_0, k9L_1, k9L_2, k9L_3, k9L_4, k9L_5, k9L_6, k9L_7, k9L_8, k9L_9, k9L_10, k9L_20, k9L_23, k9L_24, k9L_30, k9L_40, k9L_50, k9L_60, k9L_99, k9L_100, k9L_120, k9L_255, k9L_999, k9L_1000, k9_bs, k9_ba, e1, g91]) | (refine k9o_call (e74) ?_; simp (disch := omega) only [k9e_128_0, k9e_128_4, k9e_128_6, k9e_128_8, k9e_128_12, k9e_128_17, Nat.reduceEqDiff, Int.reduceEq, Int.reduceLT, Int.reduceLE, k9_ps_s, k9_ps_n, k9_ur, false_and, and_false, true_and, and_true, true_or, or_true, false_or, or_false, eq_self, ↓reduceIte, not_true_eq_false, not_false_eq_true, n_toInt, n_cl, nI_1, nI_add, n_a0, n_p2, n_p3, n_p4, n_x2, n_x3, n_x4, n_x60, n_x100, n_pm1, k9L_m2, k9L_m1, k9L_0, k9L_1, k9L_2, k9L_3, k9L_4, k9L_5, k9L_6, k9L_7, k9L_8, k9L_9, k9L_10, k9L_20, k9L_23, k9L_24, k9L_30, k9L_40, k9L_50, k9L_60, k9L_99, k9L_100, k9L_120, k9L_255, k9L_999, k9L_1000, k9_bs, k9_ba, e1, g91]) | simp (disch := omega) only [k9e_128_0, k9e_128_4, k9e_128_6, k9e_128_8, k9e_128_12, k9e_128_17, Nat.reduceEqDiff, Int.reduceEq, Int.reduceLT, Int.reduceLE, k9_ps_s, k9_ps_n, k9_ur, false_and, and_false, true_and, and_true, true_or, or_true, false_or, or_false, eq_self, ↓reduceIte, not_true_eq_false, not_false_eq_true, n_toInt, n_cl, nI_1, nI_add, n_a0, n_p2, n_p3, n_p4, n_x2, n_x3, n_x4, n_x60, n_x100, n_pm1, k9L_m2, k9L_m1, k9L_0, k9L_1, k9L_2, k9L_3, k9L_4, k9L_5, k9L_6, k9L_7, k9L_8, k9L_9, k9L_10, k9L_20, k9L_23, k9L_24, k9L_30, k9L_40, k9L_50, k9L_60, k9L_99, k9L_100, k9L_120, k9L_255, k9L_999, k9L_1000, k9_bs, k9_ba, e1, g91])
    refine k9o_ret ⟨_, _, _, rfl, ?_⟩
    have wa := k9_vW_c (k9_fp_c fa rfl) v1
    have la := k9_vL_c (k9_fp_c fa rfl) v3
    obtain ⟨I2, c2, m2, x2⟩ := k9s_190 (S := S) (d := d + 14) (J := J) wa.2.1 hf la.2
    have f2 : k9_fp (k9_Xs []) Ia I2 := k9_fp_x x2 (k9_Fq_X rfl)
    have i23 : ∀ p, I 12 0 p = I 12 0 p := fun _ => rfl
    have a23 : Ia 12 0 23 = nI z := by
      rw [hIa]
      simp only [k9_ur, Nat.reduceEqDiff, false_and, ↓reduceIte]
      exact (f1 12 0 23 rfl).trans e3
    have g23 : I2 12 0 23 = nI z := (f2 12 0 23 rfl).trans a23
    have m64 := (m2.2 z (by omega)).1
    simp (disch := omega) only [k9e_225_0, k9e_225_4, k9e_225_6, k9e_225_8, k9e_225_13, Nat.reduceEqDiff, Int.reduceEq, Int.reduceLT, Int.reduceLE, k9_ps_s, k9_ps_n, k9_ur, false_and, and_false, true_and, and_true, true_or, or_true, false_or, or_false, eq_self, ↓reduceIte, not_true_eq_false, not_false_eq_true, n_toInt, n_cl, nI_1, nI_add, n_a0, n_p2, n_p3, n_p4, n_x2, n_x3, n_x4, n_x60, n_x100, n_pm1, k9L_m2, k9L_m1, k9L_0, k9L_1, k9L_2, k9L_3, k9L_4, k9L_5, k9L_6, k9L_7, k9L_8, k9L_9, k9L_10, k9L_20, k9L_23, k9L_24, k9L_30, k9L_40, k9L_50, k9L_60, k9L_99, k9L_100, k9L_120, k9L_255, k9L_999, k9L_1000, k9_bs, k9_ba, a23, g23, m64]
    repeat (first | ((with_reducible refine k9q_T ?_ ?_); · omega) | ((with_reducible refine k9q_F ?_ ?_); · omega) | ((with_reducible refine k9q_Tb ?_ ?_); · omega) | ((with_reducible refine k9q_Fb ?_ ?_); · omega) | (refine k9o_call (c2) ?_; simp (disch := omega) only [k9e_225_0, k9e_225_4, k9e_225_6, k9e_225_8, k9e_225_13, Nat.reduceEqDiff, Int.reduceEq, Int.reduceLT, Int.reduceLE, k9_ps_s, k9_ps_n, k9_ur, false_and, and_false, true_and, and_true, true_or, or_true, false_or, or_false, eq_self, ↓reduceIte, not_true_eq_false, not_false_eq_true, n_toInt, n_cl, nI_1, nI_add, n_a0, n_p2, n_p3, n_p4, n_x2, n_x3, n_x4, n_x60, n_x100, n_pm1, k9L_m2, k9L_m1, k9L_0, k9L_1, k9L_2, k9L_3, k9L_4, k9L_5, k9L_6, k9L_7, k9L_8, k9L_9, k9L_10, k9L_20, k9L_23, k9L_24, k9L_30, k9L_40, k9L_50, k9L_60, k9L_99, k9L_100, k9L_120, k9L_255, k9L_999, k9L_1000, k9_bs, k9_ba, a23, g23, m64]) | simp (disch := omega) only [k9e_225_0, k9e_225_4, k9e_225_6, k9e_225_8, k9e_225_13, Nat.reduceEqDiff, Int.reduceEq, Int.reduceLT, Int.reduceLE, k9_ps_s, k9_ps_n, k9_ur, false_and, and_false, true_and, and_true, true_or, or_true, false_or, or_false, eq_self, ↓reduceIte, not_true_eq_false, not_false_eq_true, n_toInt, n_cl, nI_1, nI_add, n_a0, n_p2, n_p3, n_p4, n_x2, n_x3, n_x4, n_x60, n_x100, n_pm1, k9L_m2, k9L_m1, k9L_0, k9L_1, k9L_2, k9L_3, k9L_4, k9L_5, k9L_6, k9L_7, k9L_8, k9L_9, k9L_10, k9L_20, k9L_23, k9L_24, k9L_30, k9L_40, k9L_50, k9L_60, k9L_99, k9L_100, k9L_120, k9L_255, k9L_999, k9L_1000, k9_bs, k9_ba, a23, g23, m64])
    have g55 : ∀ k, k < 5 → I2 55 0 k = I 55 0 k := fun k hk => by
      rw [f2 55 0 k rfl, hIa]
      simp only [k9_ur, Nat.reduceEqDiff, false_and, ↓reduceIte]
      exact f1 55 0 k rfl
    have ff : k9_fp (k9_Xs [7, 8]) I I2 := k9_fp_tr fa (k9_fp_w f2 k9_Xs_0)
    have g9 : ∀ i k, I2 9 i k = Ia 9 i k := fun i k => f2 9 i k rfl
    have h9 : ∀ i k, I1 9 i k = I 9 i k := fun i k => f1 9 i k rfl
    refine k9o_ret ⟨_, _, rfl, k9_Inv_7 (k9_fp_u (k9_fp_u (k9_fp_u ff rfl) rfl) rfl) v ⟨?_, fun k hk => ?_, ?_⟩ ?_⟩
    · refine Or.inr ⟨?_, ?_⟩
      · simp only [k9_ur, Nat.reduceEqDiff, false_and, ↓reduceIte]
        rw [g9, hIa]
        simp [k9_ur]
      · simp [k9_ur]
    · have a := d2 k hk
      simp only [k9_ur, Nat.reduceEqDiff, false_and, true_and, ↓reduceIte]
      rw [g9, hIa, g55 k hk, g55 4 (by omega)]
      have hk5 : k = 0 ∨ k = 1 ∨ k = 2 ∨ k = 3 ∨ k = 4 := by omega
      rcases hk5 with rfl | rfl | rfl | rfl | rfl <;> simp [k9_ur, h9] at a ⊢ <;> (try rw [a]) <;> (try rw [g55 _ (by omega)])
    · simp only [k9_ur, Nat.reduceEqDiff, false_and, and_false, ↓reduceIte]
      rw [f2 1 0 11 rfl, f2 12 0 25 rfl, f2 12 0 26 rfl, g9, g9, hIa]
      simp only [k9_ur, Nat.reduceEqDiff, false_and, and_false, true_and, ↓reduceIte]
      rw [f1 1 0 11 rfl, f1 12 0 25 rfl, f1 12 0 26 rfl, h9, h9]
      rcases d3 with d3 | ⟨p1, p2, p3, p4⟩
      · exact Or.inl d3
      · refine Or.inr ⟨p1, p2, p3, fun k hk => ?_⟩
        rw [g9, f2 56 0 k rfl, hIa]
        simp only [k9_ur, Nat.reduceEqDiff, false_and, and_false, true_and, ↓reduceIte]
        rw [h9, f1 56 0 k rfl]
        exact p4 k hk
    · refine k9_vR_c (I := I1) (fun k i p hk => ?_) r1
      have : k9_fp (k9_Xs [7]) I1 (k9_u (k9_u (k9_u I2 55 0 2 (I 55 0 2 + 1)) 55 0 4 (I 55 0 4 + nI (p_co w z))) 12 0 23 (-2)) := by
        refine k9_fp_u (k9_fp_u (k9_fp_u (k9_fp_tr ?_ (k9_fp_w f2 k9_Xs_0)) rfl) rfl) rfl
        rw [hIa]
        exact k9_fp_u (k9_fp_u (k9_fp_u (k9_fp_rf _ _) rfl) rfl) rfl
      have h8 := k9_fp_c this (c := 8) rfl k i p hk
      rw [← h8]
      simp only [k9_ur, g55 2 (by omega), g55 4 (by omega), Nat.reduceEqDiff, and_false, ↓reduceIte]
  · simp (disch := omega) only [k9e_128_0, k9e_128_4, k9e_128_6, k9e_128_8, k9e_128_12, k9e_128_17, Nat.reduceEqDiff, Int.reduceEq, Int.reduceLT, Int.reduceLE, k9_ps_s, k9_ps_n, k9_ur, false_and, and_false, true_and, and_true, true_or, or_true, false_or, or_false, eq_self, ↓reduceIte, not_true_eq_false, not_false_eq_true, n_toInt, n_cl, nI_1, nI_add, n_a0, n_p2, n_p3, n_p4, n_x2, n_x3, n_x4, n_x60, n_x100, n_pm1, k9L_m2, k9L_m1, k9L_0, k9L_1, k9L_2, k9L_3, k9L_4, k9L_5, k9L_6, k9L_7, k9L_8, k9L_9, k9L_10, k9L_20, k9L_23, k9L_24, k9L_30, k9L_40, k9L_50, k9L_60, k9L_99, k9L_100, k9L_120, k9L_255, k9L_999, k9L_1000, k9_bs, k9_ba, e1]
    repeat (first | ((with_reducible refine k9q_T ?_ ?_); · omega) | ((with_reducible refine k9q_F ?_ ?_); · omega) | ((with_reducible refine k9q_Tb ?_ ?_); · omega) | ((with_reducible refine k9q_Fb ?_ ?_); · omega) | simp (disch := omega) only [k9e_128_0, k9e_128_4, k9e_128_6, k9e_128_8, k9e_128_12, k9e_128_17, Nat.reduceEqDiff, Int.reduceEq, Int.reduceLT, Int.reduceLE, k9_ps_s, k9_ps_n, k9_ur, false_and, and_false, true_and, and_true, true_or, or_true, false_or, or_false, eq_self, ↓reduceIte, not_true_eq_false, not_false_eq_true, n_toInt, n_cl, nI_1, nI_add, n_a0, n_p2, n_p3, n_p4, n_x2, n_x3, n_x4, n_x60, n_x100, n_pm1, k9L_m2, k9L_m1, k9L_0, k9L_1, k9L_2, k9L_3, k9L_4, k9L_5, k9L_6, k9L_7, k9L_8, k9L_9, k9L_10, k9L_20, k9L_23, k9L_24, k9L_30, k9L_40, k9L_50, k9L_60, k9L_99, k9L_100, k9L_120, k9L_255, k9L_999, k9L_1000, k9_bs, k9_ba, e1])
    refine k9o_ret ⟨_, _, _, rfl, ?_⟩
    simp (disch := omega) only [k9e_225_0, k9e_225_4, k9e_225_6, k9e_225_8, k9e_225_13, Nat.reduceEqDiff, Int.reduceEq, Int.reduceLT, Int.reduceLE, k9_ps_s, k9_ps_n, k9_ur, false_and, and_false, true_and, and_true, true_or, or_true, false_or, or_false, eq_self, ↓reduceIte, not_true_eq_false, not_false_eq_true, n_toInt, n_cl, nI_1, nI_add, n_a0, n_p2, n_p3, n_p4, n_x2, n_x3, n_x4, n_x60, n_x100, n_pm1, k9L_m2, k9L_m1, k9L_0, k9L_1, k9L_2, k9L_3, k9L_4, k9L_5, k9L_6, k9L_7, k9L_8, k9L_9, k9L_10, k9L_20, k9L_23, k9L_24, k9L_30, k9L_40, k9L_50, k9L_60, k9L_99, k9L_100, k9L_120, k9L_255, k9L_999, k9L_1000, k9_bs, k9_ba, e3]
    repeat (first | ((with_reducible refine k9q_T ?_ ?_); · omega) | ((with_reducible refine k9q_F ?_ ?_); · omega) | ((with_reducible refine k9q_Tb ?_ ?_); · omega) | ((with_reducible refine k9q_Fb ?_ ?_); · omega) | simp (disch := omega) only [k9e_225_0, k9e_225_4, k9e_225_6, k9e_225_8, k9e_225_13, Nat.reduceEqDiff, Int.reduceEq, Int.reduceLT, Int.reduceLE, k9_ps_s, k9_ps_n, k9_ur, false_and, and_false, true_and, and_true, true_or, or_true, false_or, or_false, eq_self, ↓reduceIte, not_true_eq_false, not_false_eq_true, n_toInt, n_cl, nI_1, nI_add, n_a0, n_p2, n_p3, n_p4, n_x2, n_x3, n_x4, n_x60, n_x100, n_pm1, k9L_m2, k9L_m1, k9L_0, k9L_1, k9L_2, k9L_3, k9L_4, k9L_5, k9L_6, k9L_7, k9L_8, k9L_9, k9L_10, k9L_20, k9L_23, k9L_24, k9L_30, k9L_40, k9L_50, k9L_60, k9L_99, k9L_100, k9L_120, k9L_255, k9L_999, k9L_1000, k9_bs, k9_ba, e3])
    exact k9o_ret ⟨_, _, rfl, hI'⟩
/-- held within 0 .. 100 -/
theorem n_cp (x : Int32) : (if (0 : Int32) < (if x < 100 then x else 100) then (if x < 100 then x else 100) else 0) = nI (min 100 x.toInt.toNat) := by
  by_cases h : x < 100
  · rw [if_pos h]
    rw [Int32.lt_iff_toInt_lt, k9L_100] at h
    by_cases h0 : (0 : Int32) < x
    · rw [if_pos h0]
      rw [Int32.lt_iff_toInt_lt, k9L_0] at h0
      apply n_ext
      rw [n_toInt (by omega)]
      omega
    · rw [if_neg h0]
      rw [Int32.lt_iff_toInt_lt, k9L_0] at h0
      rw [show min 100 x.toInt.toNat = 0 by omega]
      rfl
  · rw [if_neg h, if_pos (by decide)]
    rw [Int32.lt_iff_toInt_lt, k9L_100] at h
    rw [show min 100 x.toInt.toNat = 100 by omega]
    rfl
def p_tr (m : Nat) : Nat → Nat
  | 0 => 50
  | i + 1 => min 100 (p_tr m i + 10 - m)
def p_tf (m : Nat) : Nat → Int32
  | 0 => -2
  | i + 1 => if p_tr m (i + 1) < 20 ∧ p_tf m i = -2 then nI (i + 1) else p_tf m i
theorem p_tr_b (m i : Nat) : p_tr m i ≤ 100 := by
  cases i with
  | zero => exact (by decide : (50 : Nat) ≤ 100)
  | succ i => exact Nat.min_le_left _ _
theorem t_trust (hI : k9_Inv I J) : k9_P S (d + 20) 119 215 [some (k9_r 1 0), some (k9_i x1), some (k9_i x2), none, none, none, none] [some (k9_r 12 0), some (k9_i x1), some (k9_i x2), none, none, none] I J k9_Inv := by
  have hI' := hI
  obtain ⟨w, V, b, v⟩ := hI
  have v : k9_Iv I J w V b := v
  have hf := v.1.2.2.1
  have hlen := p_len_b hf
  refine k9P_of ?_
  by_cases h1 : 1 ≤ x1.toInt ∧ x1.toInt ≤ 20
  · by_cases h2 : 0 ≤ x2.toInt ∧ x2.toInt ≤ 1
    · obtain ⟨n, rfl, hn, -⟩ := n_of (x := x1) (by omega)
      obtain ⟨q, rfl, hq, -⟩ := n_of (x := x2) (by omega)
      obtain ⟨I1, e1, b1, i1⟩ := k9s_148 (S := S) (d := d + 13) v
      have e61 := k9s_61 (S := S) (d := d + 17) (J := J) (q := 0) b1 (by omega) (by omega) (fun t => p_sh_b t) (by omega)
      rw [if_pos rfl] at e61
      obtain ⟨I2, e2, m2, i2⟩ := k9_run (S := S) (d := d + 14) i1
      obtain ⟨I3, e3, k3, m3, i3⟩ := k9_looks (S := S) (d := d + 19) i2 m2
      obtain ⟨f44, -, -, -, -⟩ := k3
      have ho := (p_of_b (h := p_sh w (p_tt w) V) (fun t => p_sh_b t) (fun t => p_ct_b (Nat.min_le_right t (p_len w))) (p_len w + 1)).1
      obtain ⟨g, hg⟩ : ∃ g, g = (p_of (p_sh w (p_tt w) V) (fun t => p_ct (p_len w) (min t (p_len w))) (p_len w + 1)).1 := ⟨_, rfl⟩
      rw [← hg] at e61 f44 ho
      have hdiv : nI g / 2 = nI (g / 2) := n_div (d := 2) (by omega) (by omega) (by omega)
      have T1 : ∀ i, (nI (p_tr (g / 2) i) + (10 - nI (g / 2))).toInt = (p_tr (g / 2) i : Int) + 10 - (g / 2 : Nat) := by
        intro i
        have hb := p_tr_b (g / 2) i
        have e : nI (p_tr (g / 2) i) + (10 - nI (g / 2)) = nI (p_tr (g / 2) i + 10) - nI (g / 2) := by
          rw [Int32.sub_eq_add_neg, Int32.sub_eq_add_neg, ← Int32.add_assoc, ← nI_add]
          rfl
        rw [e, pk_sub_toInt (by omega) (by omega)]
        omega
      have T2 : ∀ i, (nI (p_tr (g / 2) i) - nI (g / 2) + 10).toInt = (p_tr (g / 2) i : Int) + 10 - (g / 2 : Nat) := by
        intro i
        have e : nI (p_tr (g / 2) i) - nI (g / 2) + 10 = nI (p_tr (g / 2) i) + (10 - nI (g / 2)) := by
          rw [Int32.sub_eq_add_neg, Int32.sub_eq_add_neg, Int32.add_assoc, Int32.add_comm (-nI (g / 2)) 10]
        rw [e]
        exact T1 i
      have nt : ∀ (x : Int32) (i : Nat), x.toInt = (p_tr (g / 2) i : Int) + 10 - (g / 2 : Nat) → min 100 x.toInt.toNat = p_tr (g / 2) (i + 1) := by
        intro x i hx
        rw [hx, p_tr]
        omega
      have fb : ∀ i, p_tf (g / 2) i = -2 ∨ ∃ j : Nat, j ≤ i ∧ p_tf (g / 2) i = nI j := by
        intro i
        induction i with
        | zero => exact Or.inl rfl
        | succ i ih =>
          rw [p_tf]
          split
          · exact Or.inr ⟨i + 1, Nat.le_refl _, rfl⟩
          · rcases ih with ih | ⟨j, a, c⟩
            · exact Or.inl ih
            · exact Or.inr ⟨j, by omega, c⟩
      have kc : ∀ k i, i + k = n → k9_ok (k9_R S (d + 20) 119 28 [some (k9_r 1 0), some (k9_i (nI n)), some (k9_i (nI q)), some (k9_i (10 - nI (g / 2))), some (k9_i (nI (p_tr (g / 2) i))), some (k9_i (p_tf (g / 2) i)), some (k9_i (nI (i + 1)))] [] I1 J) (fun q' => q' = (some (k9_i (if q = 0 then nI (p_tr (g / 2) n) else p_tf (g / 2) n)), I1, J)) := by
        intro k
        induction k with
        | zero =>
          intro i hi
          obtain rfl : i = n := by omega
          refine k9o_eq k9e_119_28 (k9o_T (by rw [n_toInt (by omega), n_toInt (by omega)]; omega) ?_)
          by_cases h0 : q = 0
          · rw [if_pos h0]
            simp (disch := omega) only [k9e_119_49, k9e_119_51, k9e_119_53, k9e_119_54, Nat.reduceEqDiff, Int.reduceEq, Int.reduceLT, Int.reduceLE, k9_ps_s, k9_ps_n, k9_ur, false_and, and_false, true_and, and_true, true_or, or_true, false_or, or_false, eq_self, ↓reduceIte, not_true_eq_false, not_false_eq_true, n_toInt, n_cl, nI_1, nI_add, n_a0, n_p2, n_p3, n_p4, n_x2, n_x3, n_x4, n_x60, n_x100, n_pm1, k9L_m2, k9L_m1, k9L_0, k9L_1, k9L_2, k9L_3, k9L_4, k9L_5, k9L_6, k9L_7, k9L_8, k9L_9, k9L_10, k9L_20, k9L_23, k9L_24, k9L_30, k9L_40, k9L_50, k9L_60, k9L_99, k9L_100, k9L_120, k9L_255, k9L_999, k9L_1000, k9_bs, k9_ba]
            repeat (first | ((with_reducible refine k9q_T ?_ ?_); · omega) | ((with_reducible refine k9q_F ?_ ?_); · omega) | ((with_reducible refine k9q_Tb ?_ ?_); · omega) | ((with_reducible refine k9q_Fb ?_ ?_); · omega) | simp (disch := omega) only [k9e_119_49, k9e_119_51, k9e_119_53, k9e_119_54, Nat.reduceEqDiff, Int.reduceEq, Int.reduceLT, Int.reduceLE, k9_ps_s, k9_ps_n, k9_ur, false_and, and_false, true_and, and_true, true_or, or_true, false_or, or_false, eq_self, ↓reduceIte, not_true_eq_false, not_false_eq_true, n_toInt, n_cl, nI_1, nI_add, n_a0, n_p2, n_p3, n_p4, n_x2, n_x3, n_x4, n_x60, n_x100, n_pm1, k9L_m2, k9L_m1, k9L_0, k9L_1, k9L_2, k9L_3, k9L_4, k9L_5, k9L_6, k9L_7, k9L_8, k9L_9, k9L_10, k9L_20, k9L_23, k9L_24, k9L_30, k9L_40, k9L_50, k9L_60, k9L_99, k9L_100, k9L_120, k9L_255, k9L_999, k9L_1000, k9_bs, k9_ba])
            exact k9o_ret rfl
          · rw [if_neg h0]
            simp (disch := omega) only [k9e_119_49, k9e_119_51, k9e_119_53, k9e_119_54, Nat.reduceEqDiff, Int.reduceEq, Int.reduceLT, Int.reduceLE, k9_ps_s, k9_ps_n, k9_ur, false_and, and_false, true_and, and_true, true_or, or_true, false_or, or_false, eq_self, ↓reduceIte, not_true_eq_false, not_false_eq_true, n_toInt, n_cl, nI_1, nI_add, n_a0, n_p2, n_p3, n_p4, n_x2, n_x3, n_x4, n_x60, n_x100, n_pm1, k9L_m2, k9L_m1, k9L_0, k9L_1, k9L_2, k9L_3, k9L_4, k9L_5, k9L_6, k9L_7, k9L_8, k9L_9, k9L_10, k9L_20, k9L_23, k9L_24, k9L_30, k9L_40, k9L_50, k9L_60, k9L_99, k9L_100, k9L_120, k9L_255, k9L_999, k9L_1000, k9_bs, k9_ba]
            repeat (first | ((with_reducible refine k9q_T ?_ ?_); · omega) | ((with_reducible refine k9q_F ?_ ?_); · omega) | ((with_reducible refine k9q_Tb ?_ ?_); · omega) | ((with_reducible refine k9q_Fb ?_ ?_); · omega) | simp (disch := omega) only [k9e_119_49, k9e_119_51, k9e_119_53, k9e_119_54, Nat.reduceEqDiff, Int.reduceEq, Int.reduceLT, Int.reduceLE, k9_ps_s, k9_ps_n, k9_ur, false_and, and_false, true_and, and_true, true_or, or_true, false_or, or_false, eq_self, ↓reduceIte, not_true_eq_false, not_false_eq_true, n_toInt, n_cl, nI_1, nI_add, n_a0, n_p2, n_p3, n_p4, n_x2, n_x3, n_x4, n_x60, n_x100, n_pm1, k9L_m2, k9L_m1, k9L_0, k9L_1, k9L_2, k9L_3, k9L_4, k9L_5, k9L_6, k9L_7, k9L_8, k9L_9, k9L_10, k9L_20, k9L_23, k9L_24, k9L_30, k9L_40, k9L_50, k9L_60, k9L_99, k9L_100, k9L_120, k9L_255, k9L_999, k9L_1000, k9_bs, k9_ba])
            exact k9o_ret rfl
        | succ k ih =>
          intro i hi
          have e := ih (i + 1) (by omega)
          have hb := p_tr_b (g / 2) (i + 1)
          refine k9o_eq k9e_119_28 (k9o_F (by rw [n_toInt (by omega), n_toInt (by omega)]; omega) (k9o_eq k9e_119_31 ?_))
          rw [n_cp, nt _ i (T1 i)]
          rw [p_tf] at e
          by_cases c1 : p_tr (g / 2) (i + 1) < 20
          · refine k9o_F (by rw [n_toInt (by omega)]; omega) (k9o_eq k9e_119_42 ?_)
            by_cases c2 : p_tf (g / 2) i = -2
            · rw [if_pos ⟨c1, c2⟩] at e
              refine k9o_T (by rw [c2]; decide) (k9o_eq k9e_119_45 (k9o_eq k9e_119_47 ?_))
              rw [nI_1]
              exact e
            · rw [if_neg (fun z => c2 z.2)] at e
              refine k9o_F (fun z => c2 (n_ext (by rw [z]; decide))) (k9o_eq k9e_119_47 ?_)
              rw [nI_1]
              exact e
          · rw [if_neg (fun z => c1 z.1)] at e
            refine k9o_T (by rw [n_toInt (by omega)]; omega) (k9o_eq k9e_119_47 ?_)
            rw [nI_1]
            exact e
      have km : ∀ k i, i + k = n → k9_ok (k9_R S (d + 20) 215 22 [some (k9_r 12 0), some (k9_i (nI n)), some (k9_i (nI q)), some (k9_i (nI (p_tr (g / 2) i))), some (k9_i (p_tf (g / 2) i)), some (k9_i (nI (i + 1)))] [] I3 J) (fun q' => q' = (some (k9_i (if q = 0 then nI (p_tr (g / 2) n) else p_tf (g / 2) n)), I3, J)) := by
        intro k
        induction k with
        | zero =>
          intro i hi
          obtain rfl : i = n := by omega
          refine k9o_eq k9e_215_22 (k9o_T (by rw [n_toInt (by omega), n_toInt (by omega)]; omega) ?_)
          by_cases h0 : q = 0
          · rw [if_pos h0]
            simp (disch := omega) only [k9e_215_48, k9e_215_50, k9e_215_52, k9e_215_53, Nat.reduceEqDiff, Int.reduceEq, Int.reduceLT, Int.reduceLE, k9_ps_s, k9_ps_n, k9_ur, false_and, and_false, true_and, and_true, true_or, or_true, false_or, or_false, eq_self, ↓reduceIte, not_true_eq_false, not_false_eq_true, n_toInt, n_cl, nI_1, nI_add, n_a0, n_p2, n_p3, n_p4, n_x2, n_x3, n_x4, n_x60, n_x100, n_pm1, k9L_m2, k9L_m1, k9L_0, k9L_1, k9L_2, k9L_3, k9L_4, k9L_5, k9L_6, k9L_7, k9L_8, k9L_9, k9L_10, k9L_20, k9L_23, k9L_24, k9L_30, k9L_40, k9L_50, k9L_60, k9L_99, k9L_100, k9L_120, k9L_255, k9L_999, k9L_1000, k9_bs, k9_ba]
            repeat (first | ((with_reducible refine k9q_T ?_ ?_); · omega) | ((with_reducible refine k9q_F ?_ ?_); · omega) | ((with_reducible refine k9q_Tb ?_ ?_); · omega) | ((with_reducible refine k9q_Fb ?_ ?_); · omega) | simp (disch := omega) only [k9e_215_48, k9e_215_50, k9e_215_52, k9e_215_53, Nat.reduceEqDiff, Int.reduceEq, Int.reduceLT, Int.reduceLE, k9_ps_s, k9_ps_n, k9_ur, false_and, and_false, true_and, and_true, true_or, or_true, false_or, or_false, eq_self, ↓reduceIte, not_true_eq_false, not_false_eq_true, n_toInt, n_cl, nI_1, nI_add, n_a0, n_p2, n_p3, n_p4, n_x2, n_x3, n_x4, n_x60, n_x100, n_pm1, k9L_m2, k9L_m1, k9L_0, k9L_1, k9L_2, k9L_3, k9L_4, k9L_5, k9L_6, k9L_7, k9L_8, k9L_9, k9L_10, k9L_20, k9L_23, k9L_24, k9L_30, k9L_40, k9L_50, k9L_60, k9L_99, k9L_100, k9L_120, k9L_255, k9L_999, k9L_1000, k9_bs, k9_ba])
            exact k9o_ret rfl
          · rw [if_neg h0]
            simp (disch := omega) only [k9e_215_48, k9e_215_50, k9e_215_52, k9e_215_53, Nat.reduceEqDiff, Int.reduceEq, Int.reduceLT, Int.reduceLE, k9_ps_s, k9_ps_n, k9_ur, false_and, and_false, true_and, and_true, true_or, or_true, false_or, or_false, eq_self, ↓reduceIte, not_true_eq_false, not_false_eq_true, n_toInt, n_cl, nI_1, nI_add, n_a0, n_p2, n_p3, n_p4, n_x2, n_x3, n_x4, n_x60, n_x100, n_pm1, k9L_m2, k9L_m1, k9L_0, k9L_1, k9L_2, k9L_3, k9L_4, k9L_5, k9L_6, k9L_7, k9L_8, k9L_9, k9L_10, k9L_20, k9L_23, k9L_24, k9L_30, k9L_40, k9L_50, k9L_60, k9L_99, k9L_100, k9L_120, k9L_255, k9L_999, k9L_1000, k9_bs, k9_ba]
            repeat (first | ((with_reducible refine k9q_T ?_ ?_); · omega) | ((with_reducible refine k9q_F ?_ ?_); · omega) | ((with_reducible refine k9q_Tb ?_ ?_); · omega) | ((with_reducible refine k9q_Fb ?_ ?_); · omega) | simp (disch := omega) only [k9e_215_48, k9e_215_50, k9e_215_52, k9e_215_53, Nat.reduceEqDiff, Int.reduceEq, Int.reduceLT, Int.reduceLE, k9_ps_s, k9_ps_n, k9_ur, false_and, and_false, true_and, and_true, true_or, or_true, false_or, or_false, eq_self, ↓reduceIte, not_true_eq_false, not_false_eq_true, n_toInt, n_cl, nI_1, nI_add, n_a0, n_p2, n_p3, n_p4, n_x2, n_x3, n_x4, n_x60, n_x100, n_pm1, k9L_m2, k9L_m1, k9L_0, k9L_1, k9L_2, k9L_3, k9L_4, k9L_5, k9L_6, k9L_7, k9L_8, k9L_9, k9L_10, k9L_20, k9L_23, k9L_24, k9L_30, k9L_40, k9L_50, k9L_60, k9L_99, k9L_100, k9L_120, k9L_255, k9L_999, k9L_1000, k9_bs, k9_ba])
            exact k9o_ret rfl
        | succ k ih =>
          intro i hi
          have e := ih (i + 1) (by omega)
          have hb := p_tr_b (g / 2) (i + 1)
          refine k9o_eq k9e_215_22 (k9o_F (by rw [n_toInt (by omega), n_toInt (by omega)]; omega) (k9o_eq k9e_215_25 ?_))
          rw [f44, hdiv]
          refine k9o_eq k9e_215_32 ?_
          rw [n_cp, nt _ i (T2 i)]
          rw [p_tf] at e
          by_cases c1 : p_tr (g / 2) (i + 1) < 20
          · refine k9o_F (by rw [n_toInt (by omega)]; omega) (k9o_eq k9e_215_41 ?_)
            by_cases c2 : p_tf (g / 2) i = -2
            · rw [if_pos ⟨c1, c2⟩] at e
              refine k9o_T (by rw [c2]; decide) (k9o_eq k9e_215_44 (k9o_eq k9e_215_46 ?_))
              rw [nI_1]
              exact e
            · rw [if_neg (fun z => c2 z.2)] at e
              refine k9o_F (fun z => c2 (n_ext (by rw [z]; decide))) (k9o_eq k9e_215_46 ?_)
              rw [nI_1]
              exact e
          · rw [if_neg (fun z => c1 z.1)] at e
            refine k9o_T (by rw [n_toInt (by omega)]; omega) (k9o_eq k9e_215_46 ?_)
            rw [nI_1]
            exact e
      simp (disch := omega) only [k9e_119_0, k9e_119_3, k9e_119_6, k9e_119_8, k9e_119_11, k9e_119_13, k9e_119_16, k9e_119_18, k9e_119_20, Nat.reduceEqDiff, Int.reduceEq, Int.reduceLT, Int.reduceLE, k9_ps_s, k9_ps_n, k9_ur, false_and, and_false, true_and, and_true, true_or, or_true, false_or, or_false, eq_self, ↓reduceIte, not_true_eq_false, not_false_eq_true, n_toInt, n_cl, nI_1, nI_add, n_a0, n_p2, n_p3, n_p4, n_x2, n_x3, n_x4, n_x60, n_x100, n_pm1, k9L_m2, k9L_m1, k9L_0, k9L_1, k9L_2, k9L_3, k9L_4, k9L_5, k9L_6, k9L_7, k9L_8, k9L_9, k9L_10, k9L_20, k9L_23, k9L_24, k9L_30, k9L_40, k9L_50, k9L_60, k9L_99, k9L_100, k9L_120, k9L_255, k9L_999, k9L_1000, k9_bs, k9_ba, hdiv]
      repeat (first | ((with_reducible refine k9q_T ?_ ?_); · omega) | ((with_reducible refine k9q_F ?_ ?_); · omega) | ((with_reducible refine k9q_Tb ?_ ?_); · omega) | ((with_reducible refine k9q_Fb ?_ ?_); · omega) | (refine k9o_call (e1) ?_; simp (disch := omega) only [k9e_119_0, k9e_119_3, k9e_119_6, k9e_119_8, k9e_119_11, k9e_119_13, k9e_119_16, k9e_119_18, k9e_119_20, Nat.reduceEqDiff, Int.reduceEq, Int.reduceLT, Int.reduceLE, k9_ps_s, k9_ps_n, k9_ur, false_and, and_false, true_and, and_true, true_or, or_true, false_or, or_false, eq_self, ↓reduceIte, not_true_eq_false, not_false_eq_true, n_toInt, n_cl, nI_1, nI_add, n_a0, n_p2, n_p3, n_p4, n_x2, n_x3, n_x4, n_x60, n_x100, n_pm1, k9L_m2, k9L_m1, k9L_0, k9L_1, k9L_2, k9L_3, k9L_4, k9L_5, k9L_6, k9L_7, k9L_8, k9L_9, k9L_10, k9L_20, k9L_23, k9L_24, k9L_30, k9L_40, k9L_50, k9L_60, k9L_99, k9L_100, k9L_120, k9L_255, k9L_999, k9L_1000, k9_bs, k9_ba, hdiv]) | (refine k9o_call (e61) ?_; simp (disch := omega) only [k9e_119_0, k9e_119_3, k9e_119_6, k9e_119_8, k9e_119_11, k9e_119_13, k9e_119_16, k9e_119_18, k9e_119_20, Nat.reduceEqDiff, Int.reduceEq, Int.reduceLT, Int.reduceLE, k9_ps_s, k9_ps_n, k9_ur, false_and, and_false, true_and, and_true, true_or, or_true, false_or, or_false, eq_self, ↓reduceIte, not_true_eq_false, not_false_eq_true, n_toInt, n_cl, nI_1, nI_add, n_a0, n_p2, n_p3, n_p4, n_x2, n_x3, n_x4, n_x60, n_x100, n_pm1, k9L_m2, k9L_m1, k9L_0, k9L_1, k9L_2, k9L_3, k9L_4, k9L_5, k9L_6, k9L_7, k9L_8, k9L_9, k9L_10, k9L_20, k9L_23, k9L_24, k9L_30, k9L_40, k9L_50, k9L_60, k9L_99, k9L_100, k9L_120, k9L_255, k9L_999, k9L_1000, k9_bs, k9_ba, hdiv]) | simp (disch := omega) only [k9e_119_0, k9e_119_3, k9e_119_6, k9e_119_8, k9e_119_11, k9e_119_13, k9e_119_16, k9e_119_18, k9e_119_20, Nat.reduceEqDiff, Int.reduceEq, Int.reduceLT, Int.reduceLE, k9_ps_s, k9_ps_n, k9_ur, false_and, and_false, true_and, and_true, true_or, or_true, false_or, or_false, eq_self, ↓reduceIte, not_true_eq_false, not_false_eq_true, n_toInt, n_cl, nI_1, nI_add, n_a0, n_p2, n_p3, n_p4, n_x2, n_x3, n_x4, n_x60, n_x100, n_pm1, k9L_m2, k9L_m1, k9L_0, k9L_1, k9L_2, k9L_3, k9L_4, k9L_5, k9L_6, k9L_7, k9L_8, k9L_9, k9L_10, k9L_20, k9L_23, k9L_24, k9L_30, k9L_40, k9L_50, k9L_60, k9L_99, k9L_100, k9L_120, k9L_255, k9L_999, k9L_1000, k9_bs, k9_ba, hdiv])
      obtain ⟨q1, c1, rfl⟩ := kc n 0 (by omega)
      refine k9o_to c1 ⟨_, _, _, rfl, ?_⟩
      simp (disch := omega) only [k9e_215_0, k9e_215_4, k9e_215_5, k9e_215_9, k9e_215_10, k9e_215_12, k9e_215_14, k9e_215_16, Nat.reduceEqDiff, Int.reduceEq, Int.reduceLT, Int.reduceLE, k9_ps_s, k9_ps_n, k9_ur, false_and, and_false, true_and, and_true, true_or, or_true, false_or, or_false, eq_self, ↓reduceIte, not_true_eq_false, not_false_eq_true, n_toInt, n_cl, nI_1, nI_add, n_a0, n_p2, n_p3, n_p4, n_x2, n_x3, n_x4, n_x60, n_x100, n_pm1, k9L_m2, k9L_m1, k9L_0, k9L_1, k9L_2, k9L_3, k9L_4, k9L_5, k9L_6, k9L_7, k9L_8, k9L_9, k9L_10, k9L_20, k9L_23, k9L_24, k9L_30, k9L_40, k9L_50, k9L_60, k9L_99, k9L_100, k9L_120, k9L_255, k9L_999, k9L_1000, k9_bs, k9_ba]
      repeat (first | ((with_reducible refine k9q_T ?_ ?_); · omega) | ((with_reducible refine k9q_F ?_ ?_); · omega) | ((with_reducible refine k9q_Tb ?_ ?_); · omega) | ((with_reducible refine k9q_Fb ?_ ?_); · omega) | (refine k9o_call (k9s_153 (by first | omega | (simp (disch := omega) only [n_toInt, n_pm1, k9L_m2, k9L_m1, k9L_0, k9L_1, k9L_2, k9L_3, k9L_4, k9L_5, k9L_6, k9L_7, k9L_8, k9L_9, k9L_10, k9L_20, k9L_23, k9L_24, k9L_30, k9L_40, k9L_50, k9L_60, k9L_99, k9L_100, k9L_120, k9L_255, k9L_999, k9L_1000]; omega))) ?_; simp (disch := omega) only [k9e_215_0, k9e_215_4, k9e_215_5, k9e_215_9, k9e_215_10, k9e_215_12, k9e_215_14, k9e_215_16, Nat.reduceEqDiff, Int.reduceEq, Int.reduceLT, Int.reduceLE, k9_ps_s, k9_ps_n, k9_ur, false_and, and_false, true_and, and_true, true_or, or_true, false_or, or_false, eq_self, ↓reduceIte, not_true_eq_false, not_false_eq_true, n_toInt, n_cl, nI_1, nI_add, n_a0, n_p2, n_p3, n_p4, n_x2, n_x3, n_x4, n_x60, n_x100, n_pm1, k9L_m2, k9L_m1, k9L_0, k9L_1, k9L_2, k9L_3, k9L_4, k9L_5, k9L_6, k9L_7, k9L_8, k9L_9, k9L_10, k9L_20, k9L_23, k9L_24, k9L_30, k9L_40, k9L_50, k9L_60, k9L_99, k9L_100, k9L_120, k9L_255, k9L_999, k9L_1000, k9_bs, k9_ba]) | (refine k9o_call (k9s_153x (by first | omega | (simp (disch := omega) only [n_toInt, n_pm1, k9L_m2, k9L_m1, k9L_0, k9L_1, k9L_2, k9L_3, k9L_4, k9L_5, k9L_6, k9L_7, k9L_8, k9L_9, k9L_10, k9L_20, k9L_23, k9L_24, k9L_30, k9L_40, k9L_50, k9L_60, k9L_99, k9L_100, k9L_120, k9L_255, k9L_999, k9L_1000]; omega))) ?_; simp (disch := omega) only [k9e_215_0, k9e_215_4, k9e_215_5, k9e_215_9, k9e_215_10, k9e_215_12, k9e_215_14, k9e_215_16, Nat.reduceEqDiff, Int.reduceEq, Int.reduceLT, Int.reduceLE, k9_ps_s, k9_ps_n, k9_ur, false_and, and_false, true_and, and_true, true_or, or_true, false_or, or_false, eq_self, ↓reduceIte, not_true_eq_false, not_false_eq_true, n_toInt, n_cl, nI_1, nI_add, n_a0, n_p2, n_p3, n_p4, n_x2, n_x3, n_x4, n_x60, n_x100, n_pm1, k9L_m2, k9L_m1, k9L_0, k9L_1, k9L_2, k9L_3, k9L_4, k9L_5, k9L_6, k9L_7, k9L_8, k9L_9, k9L_10, k9L_20, k9L_23, k9L_24, k9L_30, k9L_40, k9L_50, k9L_60, k9L_99, k9L_100, k9L_120, k9L_255, k9L_999, k9L_1000, k9_bs, k9_ba]) | (refine k9o_call (e2) ?_; simp (disch := omega) only [k9e_215_0, k9e_215_4, k9e_215_5, k9e_215_9, k9e_215_10, k9e_215_12, k9e_215_14, k9e_215_16, Nat.reduceEqDiff, Int.reduceEq, Int.reduceLT, Int.reduceLE, k9_ps_s, k9_ps_n, k9_ur, false_and, and_false, true_and, and_true, true_or, or_true, false_or, or_false, eq_self, ↓reduceIte, not_true_eq_false, not_false_eq_true, n_toInt, n_cl, nI_1, nI_add, n_a0, n_p2, n_p3, n_p4, n_x2, n_x3, n_x4, n_x60, n_x100, n_pm1, k9L_m2, k9L_m1, k9L_0, k9L_1, k9L_2, k9L_3, k9L_4, k9L_5, k9L_6, k9L_7, k9L_8, k9L_9, k9L_10, k9L_20, k9L_23, k9L_24, k9L_30, k9L_40, k9L_50, k9L_60, k9L_99, k9L_100, k9L_120, k9L_255, k9L_999, k9L_1000, k9_bs, k9_ba]) | (refine k9o_call (e3) ?_; simp (disch := omega) only [k9e_215_0, k9e_215_4, k9e_215_5, k9e_215_9, k9e_215_10, k9e_215_12, k9e_215_14, k9e_215_16, Nat.reduceEqDiff, Int.reduceEq, Int.reduceLT, Int.reduceLE, k9_ps_s, k9_ps_n, k9_ur, false_and, and_false, true_and, and_true, true_or, or_true, false_or, or_false, eq_self, ↓reduceIte, not_true_eq_false, not_false_eq_true, n_toInt, n_cl, nI_1, nI_add, n_a0, n_p2, n_p3, n_p4, n_x2, n_x3, n_x4, n_x60, n_x100, n_pm1, k9L_m2, k9L_m1, k9L_0, k9L_1, k9L_2, k9L_3, k9L_4, k9L_5, k9L_6, k9L_7, k9L_8, k9L_9, k9L_10, k9L_20, k9L_23, k9L_24, k9L_30, k9L_40, k9L_50, k9L_60, k9L_99, k9L_100, k9L_120, k9L_255, k9L_999, k9L_1000, k9_bs, k9_ba]) | simp (disch := omega) only [k9e_215_0, k9e_215_4, k9e_215_5, k9e_215_9, k9e_215_10, k9e_215_12, k9e_215_14, k9e_215_16, Nat.reduceEqDiff, Int.reduceEq, Int.reduceLT, Int.reduceLE, k9_ps_s, k9_ps_n, k9_ur, false_and, and_false, true_and, and_true, true_or, or_true, false_or, or_false, eq_self, ↓reduceIte, not_true_eq_false, not_false_eq_true, n_toInt, n_cl, nI_1, nI_add, n_a0, n_p2, n_p3, n_p4, n_x2, n_x3, n_x4, n_x60, n_x100, n_pm1, k9L_m2, k9L_m1, k9L_0, k9L_1, k9L_2, k9L_3, k9L_4, k9L_5, k9L_6, k9L_7, k9L_8, k9L_9, k9L_10, k9L_20, k9L_23, k9L_24, k9L_30, k9L_40, k9L_50, k9L_60, k9L_99, k9L_100, k9L_120, k9L_255, k9L_999, k9L_1000, k9_bs, k9_ba])
      obtain ⟨q2, c2, rfl⟩ := km n 0 (by omega)
      exact k9o_to c2 ⟨_, _, rfl, k9_Iv_e i3⟩
    · repeat' (first | ((with_reducible refine k9q_T ?_ ?_); · omega) | ((with_reducible refine k9q_F ?_ ?_); · omega) | ((with_reducible refine k9q_Tb ?_ ?_); · omega) | ((with_reducible refine k9q_Fb ?_ ?_); · omega) | simp (disch := omega) only [k9e_119_0, k9e_119_3, k9e_119_6, k9e_119_8, k9e_119_11, Nat.reduceEqDiff, Int.reduceEq, Int.reduceLT, Int.reduceLE, k9_ps_s, k9_ps_n, k9_ur, false_and, and_false, true_and, and_true, true_or, or_true, false_or, or_false, eq_self, ↓reduceIte, not_true_eq_false, not_false_eq_true, n_toInt, n_cl, nI_1, nI_add, n_a0, n_p2, n_p3, n_p4, n_x2, n_x3, n_x4, n_x60, n_x100, n_pm1, k9L_m2, k9L_m1, k9L_0, k9L_1, k9L_2, k9L_3, k9L_4, k9L_5, k9L_6, k9L_7, k9L_8, k9L_9, k9L_10, k9L_20, k9L_23, k9L_24, k9L_30, k9L_40, k9L_50, k9L_60, k9L_99, k9L_100, k9L_120, k9L_255, k9L_999, k9L_1000, k9_bs, k9_ba] | (with_reducible refine k9q_if (fun _ => ?_) (fun _ => ?_)) | (with_reducible refine k9q_ifb (fun _ => ?_) (fun _ => ?_)))
      all_goals refine k9o_ret ⟨_, _, _, rfl, ?_⟩
      all_goals repeat' (first | ((with_reducible refine k9q_T ?_ ?_); · omega) | ((with_reducible refine k9q_F ?_ ?_); · omega) | ((with_reducible refine k9q_Tb ?_ ?_); · omega) | ((with_reducible refine k9q_Fb ?_ ?_); · omega) | (refine k9o_call (k9s_153 (by first | omega | (simp (disch := omega) only [n_toInt, n_pm1, k9L_m2, k9L_m1, k9L_0, k9L_1, k9L_2, k9L_3, k9L_4, k9L_5, k9L_6, k9L_7, k9L_8, k9L_9, k9L_10, k9L_20, k9L_23, k9L_24, k9L_30, k9L_40, k9L_50, k9L_60, k9L_99, k9L_100, k9L_120, k9L_255, k9L_999, k9L_1000]; omega))) ?_; simp (disch := omega) only [k9e_215_0, k9e_215_4, k9e_215_5, k9e_215_9, k9e_215_10, Nat.reduceEqDiff, Int.reduceEq, Int.reduceLT, Int.reduceLE, k9_ps_s, k9_ps_n, k9_ur, false_and, and_false, true_and, and_true, true_or, or_true, false_or, or_false, eq_self, ↓reduceIte, not_true_eq_false, not_false_eq_true, n_toInt, n_cl, nI_1, nI_add, n_a0, n_p2, n_p3, n_p4, n_x2, n_x3, n_x4, n_x60, n_x100, n_pm1, k9L_m2, k9L_m1, k9L_0, k9L_1, k9L_2, k9L_3, k9L_4, k9L_5, k9L_6, k9L_7, k9L_8, k9L_9, k9L_10, k9L_20, k9L_23, k9L_24, k9L_30, k9L_40, k9L_50, k9L_60, k9L_99, k9L_100, k9L_120, k9L_255, k9L_999, k9L_1000, k9_bs, k9_ba]) | (refine k9o_call (k9s_153x (by first | omega | (simp (disch := omega) only [n_toInt, n_pm1, k9L_m2, k9L_m1, k9L_0, k9L_1, k9L_2, k9L_3, k9L_4, k9L_5, k9L_6, k9L_7, k9L_8, k9L_9, k9L_10, k9L_20, k9L_23, k9L_24, k9L_30, k9L_40, k9L_50, k9L_60, k9L_99, k9L_100, k9L_120, k9L_255, k9L_999, k9L_1000]; omega))) ?_; simp (disch := omega) only [k9e_215_0, k9e_215_4, k9e_215_5, k9e_215_9, k9e_215_10, Nat.reduceEqDiff, Int.reduceEq, Int.reduceLT, Int.reduceLE, k9_ps_s, k9_ps_n, k9_ur, false_and, and_false, true_and, and_true, true_or, or_true, false_or, or_false, eq_self, ↓reduceIte, not_true_eq_false, not_false_eq_true, n_toInt, n_cl, nI_1, nI_add, n_a0, n_p2, n_p3, n_p4, n_x2, n_x3, n_x4, n_x60, n_x100, n_pm1, k9L_m2, k9L_m1, k9L_0, k9L_1, k9L_2, k9L_3, k9L_4, k9L_5, k9L_6, k9L_7, k9L_8, k9L_9, k9L_10, k9L_20, k9L_23, k9L_24, k9L_30, k9L_40, k9L_50, k9L_60, k9L_99, k9L_100, k9L_120, k9L_255, k9L_999, k9L_1000, k9_bs, k9_ba]) | simp (disch := omega) only [k9e_215_0, k9e_215_4, k9e_215_5, k9e_215_9, k9e_215_10, Nat.reduceEqDiff, Int.reduceEq, Int.reduceLT, Int.reduceLE, k9_ps_s, k9_ps_n, k9_ur, false_and, and_false, true_and, and_true, true_or, or_true, false_or, or_false, eq_self, ↓reduceIte, not_true_eq_false, not_false_eq_true, n_toInt, n_cl, nI_1, nI_add, n_a0, n_p2, n_p3, n_p4, n_x2, n_x3, n_x4, n_x60, n_x100, n_pm1, k9L_m2, k9L_m1, k9L_0, k9L_1, k9L_2, k9L_3, k9L_4, k9L_5, k9L_6, k9L_7, k9L_8, k9L_9, k9L_10, k9L_20, k9L_23, k9L_24, k9L_30, k9L_40, k9L_50, k9L_60, k9L_99, k9L_100, k9L_120, k9L_255, k9L_999, k9L_1000, k9_bs, k9_ba] | (with_reducible refine k9q_if (fun _ => ?_) (fun _ => ?_)) | (with_reducible refine k9q_ifb (fun _ => ?_) (fun _ => ?_)))
      all_goals exact k9o_ret ⟨_, _, rfl, hI'⟩
  · repeat' (first | ((with_reducible refine k9q_T ?_ ?_); · omega) | ((with_reducible refine k9q_F ?_ ?_); · omega) | ((with_reducible refine k9q_Tb ?_ ?_); · omega) | ((with_reducible refine k9q_Fb ?_ ?_); · omega) | simp (disch := omega) only [k9e_119_0, k9e_119_3, k9e_119_6, k9e_119_8, k9e_119_11, Nat.reduceEqDiff, Int.reduceEq, Int.reduceLT, Int.reduceLE, k9_ps_s, k9_ps_n, k9_ur, false_and, and_false, true_and, and_true, true_or, or_true, false_or, or_false, eq_self, ↓reduceIte, not_true_eq_false, not_false_eq_true, n_toInt, n_cl, nI_1, nI_add, n_a0, n_p2, n_p3, n_p4, n_x2, n_x3, n_x4, n_x60, n_x100, n_pm1, k9L_m2, k9L_m1, k9L_0, k9L_1, k9L_2, k9L_3, k9L_4, k9L_5, k9L_6, k9L_7, k9L_8, k9L_9, k9L_10, k9L_20, k9L_23, k9L_24, k9L_30, k9L_40, k9L_50, k9L_60, k9L_99, k9L_100, k9L_120, k9L_255, k9L_999, k9L_1000, k9_bs, k9_ba] | (with_reducible refine k9q_if (fun _ => ?_) (fun _ => ?_)) | (with_reducible refine k9q_ifb (fun _ => ?_) (fun _ => ?_)))
    all_goals refine k9o_ret ⟨_, _, _, rfl, ?_⟩
    all_goals repeat' (first | ((with_reducible refine k9q_T ?_ ?_); · omega) | ((with_reducible refine k9q_F ?_ ?_); · omega) | ((with_reducible refine k9q_Tb ?_ ?_); · omega) | ((with_reducible refine k9q_Fb ?_ ?_); · omega) | (refine k9o_call (k9s_153 (by first | omega | (simp (disch := omega) only [n_toInt, n_pm1, k9L_m2, k9L_m1, k9L_0, k9L_1, k9L_2, k9L_3, k9L_4, k9L_5, k9L_6, k9L_7, k9L_8, k9L_9, k9L_10, k9L_20, k9L_23, k9L_24, k9L_30, k9L_40, k9L_50, k9L_60, k9L_99, k9L_100, k9L_120, k9L_255, k9L_999, k9L_1000]; omega))) ?_; simp (disch := omega) only [k9e_215_0, k9e_215_4, k9e_215_5, k9e_215_9, k9e_215_10, Nat.reduceEqDiff, Int.reduceEq, Int.reduceLT, Int.reduceLE, k9_ps_s, k9_ps_n, k9_ur, false_and, and_false, true_and, and_true, true_or, or_true, false_or, or_false, eq_self, ↓reduceIte, not_true_eq_false, not_false_eq_true, n_toInt, n_cl, nI_1, nI_add, n_a0, n_p2, n_p3, n_p4, n_x2, n_x3, n_x4, n_x60, n_x100, n_pm1, k9L_m2, k9L_m1, k9L_0, k9L_1, k9L_2, k9L_3, k9L_4, k9L_5, k9L_6, k9L_7, k9L_8, k9L_9, k9L_10, k9L_20, k9L_23, k9L_24, k9L_30, k9L_40, k9L_50, k9L_60, k9L_99, k9L_100, k9L_120, k9L_255, k9L_999, k9L_1000, k9_bs, k9_ba]) | (refine k9o_call (k9s_153x (by first | omega | (simp (disch := omega) only [n_toInt, n_pm1, k9L_m2, k9L_m1, k9L_0, k9L_1, k9L_2, k9L_3, k9L_4, k9L_5, k9L_6, k9L_7, k9L_8, k9L_9, k9L_10, k9L_20, k9L_23, k9L_24, k9L_30, k9L_40, k9L_50, k9L_60, k9L_99, k9L_100, k9L_120, k9L_255, k9L_999, k9L_1000]; omega))) ?_; simp (disch := omega) only [k9e_215_0, k9e_215_4, k9e_215_5, k9e_215_9, k9e_215_10, Nat.reduceEqDiff, Int.reduceEq, Int.reduceLT, Int.reduceLE, k9_ps_s, k9_ps_n, k9_ur, false_and, and_false, true_and, and_true, true_or, or_true, false_or, or_false, eq_self, ↓reduceIte, not_true_eq_false, not_false_eq_true, n_toInt, n_cl, nI_1, nI_add, n_a0, n_p2, n_p3, n_p4, n_x2, n_x3, n_x4, n_x60, n_x100, n_pm1, k9L_m2, k9L_m1, k9L_0, k9L_1, k9L_2, k9L_3, k9L_4, k9L_5, k9L_6, k9L_7, k9L_8, k9L_9, k9L_10, k9L_20, k9L_23, k9L_24, k9L_30, k9L_40, k9L_50, k9L_60, k9L_99, k9L_100, k9L_120, k9L_255, k9L_999, k9L_1000, k9_bs, k9_ba]) | simp (disch := omega) only [k9e_215_0, k9e_215_4, k9e_215_5, k9e_215_9, k9e_215_10, Nat.reduceEqDiff, Int.reduceEq, Int.reduceLT, Int.reduceLE, k9_ps_s, k9_ps_n, k9_ur, false_and, and_false, true_and, and_true, true_or, or_true, false_or, or_false, eq_self, ↓reduceIte, not_true_eq_false, not_false_eq_true, n_toInt, n_cl, nI_1, nI_add, n_a0, n_p2, n_p3, n_p4, n_x2, n_x3, n_x4, n_x60, n_x100, n_pm1, k9L_m2, k9L_m1, k9L_0, k9L_1, k9L_2, k9L_3, k9L_4, k9L_5, k9L_6, k9L_7, k9L_8, k9L_9, k9L_10, k9L_20, k9L_23, k9L_24, k9L_30, k9L_40, k9L_50, k9L_60, k9L_99, k9L_100, k9L_120, k9L_255, k9L_999, k9L_1000, k9_bs, k9_ba] | (with_reducible refine k9q_if (fun _ => ?_) (fun _ => ?_)) | (with_reducible refine k9q_ifb (fun _ => ?_) (fun _ => ?_)))
    all_goals exact k9o_ret ⟨_, _, rfl, hI'⟩
end KT15

/-! IN DEED: pass; SHOWING: patience -/
section KT16
variable {S : k9_S} {d : Nat} {I I' : k9_I} {J J' : k9_J} {w : Nat → Nat → Nat} {V : (Nat → Int32) → Int32} {b : Nat} {x1 x2 x3 : Int32}
theorem t_pass (hI : k9_Inv I J) : k9_P S (d + 20) 127 224 [some (k9_r 1 0), some (k9_i x1), none] [some (k9_r 12 0), some (k9_i x1), none, none] I J k9_Inv := by
  have hI' := hI
  obtain ⟨w, V, b, v⟩ := hI
  have v : k9_Iv I J w V b := v
  have hf := v.1.2.2.1
  have hlen := p_len_b hf
  have v' := v
  obtain ⟨v1, v2, v3, v4, v5, v6, v7, v8, v9⟩ := v'
  obtain ⟨d1, d2, d3⟩ := v7
  refine k9P_of ?_
  by_cases h1 : 1 ≤ x1.toInt ∧ x1.toInt ≤ 99
  · obtain ⟨s, rfl, hs, -⟩ := n_of (x := x1) (by omega)
    rcases d1 with ⟨e1, z, hz, e2, e3⟩ | ⟨e1, e3⟩
    · obtain ⟨m, hm⟩ : ∃ m, m = min s (999 - z) := ⟨_, rfl⟩
      have hm9 : z + m ≤ 999 := by omega
      obtain ⟨Ia, hIa⟩ : ∃ Ia, Ia = k9_u (k9_u I 9 0 1 (nI (z + m))) 9 0 5 (I 9 0 5 + nI m) := ⟨_, rfl⟩
      have e72 : k9_R S (d + 19) 72 0 [some (k9_r 9 0), some (k9_i (nI s)), none] [] I J = some (none, Ia, J) := by
        refine k9o_of ?_
        have e999 : (999 : Int32) - nI z = nI (999 - z) := n_sub (a := 999) (by omega)
        have mn : (if nI (999 - z) < nI s then nI (999 - z) else nI s) = nI m := by rw [hm]; exact n_min (a := s) (b := 999 - z) (by omega) (by omega)
        simp (disch := omega) only [k9e_72_0, Nat.reduceEqDiff, Int.reduceEq, Int.reduceLT, Int.reduceLE, k9_ps_s, k9_ps_n, k9_ur, false_and, and_false, true_and, and_true, true_or, or_true, false_or, or_false, eq_self, ↓reduceIte, not_true_eq_false, not_false_eq_true, n_toInt, n_cl, nI_1, nI_add, n_a0, n_p2, n_p3, n_p4, n_x2, n_x3, n_x4, n_x60, n_x100, n_pm1, k9L_m2, k9L_m1, k9L_0, k9L_1, k9L_2, k9L_3, k9L_4, k9L_5, k9L_6, k9L_7, k9L_8, k9L_9, k9L_10, k9L_20, k9L_23, k9L_24, k9L_30, k9L_40, k9L_50, k9L_60, k9L_99, k9L_100, k9L_120, k9L_255, k9L_999, k9L_1000, k9_bs, k9_ba, e2, e999, mn]
        rw [hIa]
        exact k9o_ret rfl
      have fa : k9_fp (k9_Xs [7]) I Ia := by rw [hIa]; exact k9_fp_u (k9_fp_u (k9_fp_rf _ _) rfl) rfl
      have va1 := k9_vW_c (k9_fp_c fa rfl) v1
      have va3 := k9_vL_c (k9_fp_c fa rfl) v3
      have va8 := k9_vR_c (k9_fp_c fa rfl) v8
      obtain ⟨I1, c1, b1, r1, f1⟩ := k9s_148w (S := S) (d := d + 13) (J := J) va1 va3 va8
      have wk1 := (k9_vW_c (k9_fp_c f1 rfl) va1).1
      have g91 : I1 9 0 1 = nI (z + m) := (f1 9 0 1 rfl).trans (by rw [hIa]; simp [k9_ur])
      have hsh := p_sh_b (w := w) (T := p_tt w) (V := V) (z + m)
      have ref : ∀ Ic : k9_I, k9_fp (k9_Xs [7]) I1 Ic → (∀ k, Ic 9 1 k = I1 9 1 k) → Ic 1 0 11 = I1 1 0 11 → (∀ p, Ic 12 0 p = I1 12 0 p) → (∀ p, Ic 55 0 p = I1 55 0 p) → (∀ p, Ic 56 0 p = I1 56 0 p) → Ic 9 0 2 = I1 9 0 2 → Ic 9 0 4 = I1 9 0 4 → Ic 9 0 5 = I1 9 0 5 → Ic 9 0 6 = I1 9 0 6 → Ic 9 0 1 = I1 9 0 1 →
          ((p_len w ≤ z + m ∧ p_sh w (p_tt w) V (z + m) = 100 ∧ Ic 9 0 0 = 0 ∧ Ic 9 0 3 = I1 9 0 3 + 1) ∨ (¬ (p_len w ≤ z + m ∧ p_sh w (p_tt w) V (z + m) = 100) ∧ Ic 9 0 0 = 1 ∧ Ic 9 0 3 = I1 9 0 3)) →
          k9_ok (k9_R S (d + 20) 224 0 [some (k9_r 12 0), some (k9_i (nI s)), none, none] [] Ic J) (fun q' => ∃ I2 J2, q' = (some (k9_i (nI (p_sh w (p_tt w) V (z + m)))), I2, J2) ∧ k9_Inv I2 J2) := by
        intro Ic fc k91 k111 k12 k55 k56 q2 q4 q5 q6 q1 hcase
        have f7 : k9_fp (k9_Xs [7, 8]) I Ic := k9_fp_tr (k9_fp_w fa k9_Xs_7) (k9_fp_tr (k9_fp_w f1 k9_Xs_8) (k9_fp_w fc k9_Xs_7))
        have c23 : Ic 12 0 23 = nI z := (k12 23).trans ((f1 12 0 23 rfl).trans ((by rw [hIa]; simp [k9_ur] : Ia 12 0 23 = I 12 0 23).trans e3))
        have c55 : ∀ k, Ic 55 0 k = I 55 0 k := fun k => (k55 k).trans ((f1 55 0 k rfl).trans (by rw [hIa]; simp [k9_ur]))
        have c56 : ∀ k, Ic 56 0 k = I 56 0 k := fun k => (k56 k).trans ((f1 56 0 k rfl).trans (by rw [hIa]; simp [k9_ur]))
        have mn : (if nI (z + s) < 999 then nI (z + s) else 999) = nI (z + m) := by
          have := n_min (a := 999) (b := z + s) (by omega) (by omega)
          rw [show z + m = min 999 (z + s) by omega]
          exact this
        have hsub : nI (z + m) - nI z = nI m := by rw [n_sub (by omega)]; congr 1; omega
        obtain ⟨Id, hId⟩ : ∃ Id, Id = k9_u (k9_u Ic 55 0 3 (I 55 0 3 + nI m)) 12 0 23 (nI (z + m)) := ⟨_, rfl⟩
        have fd : k9_fp (k9_Xs [7, 8]) I Id := by rw [hId]; exact k9_fp_u (k9_fp_u f7 rfl) rfl
        have wd := k9_vW_c (k9_fp_c fd rfl) v1
        have ld := k9_vL_c (k9_fp_c fd rfl) v3
        obtain ⟨I2, c2, m2, x2⟩ := k9s_190 (S := S) (d := d + 14) (J := J) wd.2.1 hf ld.2
        have f2 : k9_fp (k9_Xs []) Id I2 := k9_fp_x x2 (k9_Fq_X rfl)
        have g23 : I2 12 0 23 = nI (z + m) := (f2 12 0 23 rfl).trans (by rw [hId]; simp [k9_ur])
        have m67 := (m2.2 (z + m) (by omega)).2.2
        have g55 : ∀ k, I2 55 0 k = if k = 3 then I 55 0 3 + nI m else I 55 0 k := fun k => by
          rw [f2 55 0 k rfl, hId]
          by_cases e : k = 3
          · subst e; simp [k9_ur]
          · simp [k9_ur, e, c55]
        have g551 : I2 55 0 1 = I 55 0 1 := by rw [g55]; simp
        have ff : k9_fp (k9_Xs [7, 8]) I I2 := k9_fp_tr fd (k9_fp_w f2 k9_Xs_0)
        have g9 : ∀ i k, I2 9 i k = Ic 9 i k := fun i k => (f2 9 i k rfl).trans (by rw [hId]; simp [k9_ur])
        have a9 : ∀ k, I1 9 0 k = if k = 1 then nI (z + m) else if k = 5 then I 9 0 5 + nI m else I 9 0 k := fun k => by
          rw [f1 9 0 k rfl, hIa]
          by_cases x : k = 1
          · subst x; simp [k9_ur]
          · by_cases y : k = 5
            · subst y; simp [k9_ur]
            · simp [k9_ur, x, y]
        have a91 : ∀ k, I1 9 1 k = I 9 1 k := fun k => (f1 9 1 k rfl).trans (by rw [hIa]; simp [k9_ur])
        have g111 : I2 1 0 11 = I 1 0 11 := (f2 1 0 11 rfl).trans ((by rw [hId]; simp [k9_ur] : Id 1 0 11 = Ic 1 0 11).trans (k111.trans ((f1 1 0 11 rfl).trans (by rw [hIa]; simp [k9_ur]))))
        have g12 : ∀ p, p = 25 ∨ p = 26 → I2 12 0 p = I 12 0 p := fun p hp => by
          rcases hp with rfl | rfl
          · exact (f2 12 0 25 rfl).trans ((by rw [hId]; simp [k9_ur] : Id 12 0 25 = Ic 12 0 25).trans ((k12 25).trans ((f1 12 0 25 rfl).trans (by rw [hIa]; simp [k9_ur]))))
          · exact (f2 12 0 26 rfl).trans ((by rw [hId]; simp [k9_ur] : Id 12 0 26 = Ic 12 0 26).trans ((k12 26).trans ((f1 12 0 26 rfl).trans (by rw [hIa]; simp [k9_ur]))))
        have g56 : ∀ k, I2 56 0 k = I 56 0 k := fun k => (f2 56 0 k rfl).trans ((by rw [hId]; simp [k9_ur] : Id 56 0 k = Ic 56 0 k).trans (c56 k))
        have kept : (I 1 0 11 = 0 ∧ I 12 0 25 = 0) ∨ (I 1 0 11 = 1 ∧ I 12 0 25 = 1 ∧ k9_On (I 9 1 0) (I 9 1 1) (I 12 0 26) ∧ ∀ k, k < 5 → I 9 1 (k + 2) = I 56 0 k) := d3
        have r2 : k9_vR I2 w V := k9_vR_c (k9_fp_c (k9_fp_tr fc (k9_fp_tr (by rw [hId]; exact k9_fp_u (k9_fp_u (k9_fp_rf _ _) rfl) rfl) (k9_fp_w f2 k9_Xs_0)) : k9_fp (k9_Xs [7]) I1 I2) rfl) r1
        have k0 := d2 0 (by omega)
        have k1 := d2 1 (by omega)
        have k2 := d2 2 (by omega)
        have k3 := d2 3 (by omega)
        have k4 := d2 4 (by omega)
        simp only [Nat.zero_add, Nat.reduceAdd] at k0 k1 k2 k3 k4
        rcases hcase with ⟨hl, hc, p0, p3⟩ | ⟨hn, p0, p3⟩
        · rw [hc] at m67
          rw [hc]
          simp (disch := omega) only [k9e_224_0, k9e_224_4, k9e_224_5, k9e_224_7, k9e_224_11, k9e_224_13, k9e_224_36, Nat.reduceEqDiff, Int.reduceEq, Int.reduceLT, Int.reduceLE, k9_ps_s, k9_ps_n, k9_ur, false_and, and_false, true_and, and_true, true_or, or_true, false_or, or_false, eq_self, ↓reduceIte, not_true_eq_false, not_false_eq_true, n_toInt, n_cl, nI_1, nI_add, n_a0, n_p2, n_p3, n_p4, n_x2, n_x3, n_x4, n_x60, n_x100, n_pm1, k9L_m2, k9L_m1, k9L_0, k9L_1, k9L_2, k9L_3, k9L_4, k9L_5, k9L_6, k9L_7, k9L_8, k9L_9, k9L_10, k9L_20, k9L_23, k9L_24, k9L_30, k9L_40, k9L_50, k9L_60, k9L_99, k9L_100, k9L_120, k9L_255, k9L_999, k9L_1000, k9_bs, k9_ba, c23, mn, hsub, c55, n_c3]
          repeat (first | ((with_reducible refine k9q_T ?_ ?_); · omega) | ((with_reducible refine k9q_F ?_ ?_); · omega) | ((with_reducible refine k9q_Tb ?_ ?_); · omega) | ((with_reducible refine k9q_Fb ?_ ?_); · omega) | (refine k9o_call (k9s_153 (by first | omega | (simp (disch := omega) only [n_toInt, n_pm1, k9L_m2, k9L_m1, k9L_0, k9L_1, k9L_2, k9L_3, k9L_4, k9L_5, k9L_6, k9L_7, k9L_8, k9L_9, k9L_10, k9L_20, k9L_23, k9L_24, k9L_30, k9L_40, k9L_50, k9L_60, k9L_99, k9L_100, k9L_120, k9L_255, k9L_999, k9L_1000]; omega))) ?_; simp (disch := omega) only [k9e_224_0, k9e_224_4, k9e_224_5, k9e_224_7, k9e_224_11, k9e_224_13, k9e_224_36, Nat.reduceEqDiff, Int.reduceEq, Int.reduceLT, Int.reduceLE, k9_ps_s, k9_ps_n, k9_ur, false_and, and_false, true_and, and_true, true_or, or_true, false_or, or_false, eq_self, ↓reduceIte, not_true_eq_false, not_false_eq_true, n_toInt, n_cl, nI_1, nI_add, n_a0, n_p2, n_p3, n_p4, n_x2, n_x3, n_x4, n_x60, n_x100, n_pm1, k9L_m2, k9L_m1, k9L_0, k9L_1, k9L_2, k9L_3, k9L_4, k9L_5, k9L_6, k9L_7, k9L_8, k9L_9, k9L_10, k9L_20, k9L_23, k9L_24, k9L_30, k9L_40, k9L_50, k9L_60, k9L_99, k9L_100, k9L_120, k9L_255, k9L_999, k9L_1000, k9_bs, k9_ba, c23, mn, hsub, c55, n_c3]) | (refine k9o_call (k9s_153x (by first | omega | (simp (disch := omega) only [n_toInt, n_pm1, k9L_m2, k9L_m1, k9L_0, k9L_1, k9L_2, k9L_3, k9L_4, k9L_5, k9L_6, k9L_7, k9L_8, k9L_9, k9L_10, k9L_20, k9L_23, k9L_24, k9L_30, k9L_40, k9L_50, k9L_60, k9L_99, k9L_100, k9L_120, k9L_255, k9L_999, k9L_1000]; omega))) ?_; simp (disch := omega) only [k9e_224_0, k9e_224_4, k9e_224_5, k9e_224_7, k9e_224_11, k9e_224_13, k9e_224_36, Nat.reduceEqDiff, Int.reduceEq, Int.reduceLT, Int.reduceLE, k9_ps_s, k9_ps_n, k9_ur, false_and, and_false, true_and, and_true, true_or, or_true, false_or, or_false, eq_self, ↓reduceIte, not_true_eq_false, not_false_eq_true, n_toInt, n_cl, nI_1, nI_add, n_a0, n_p2, n_p3, n_p4, n_x2, n_x3, n_x4, n_x60, n_x100, n_pm1, k9L_m2, k9L_m1, k9L_0, k9L_1, k9L_2, k9L_3, k9L_4, k9L_5, k9L_6, k9L_7, k9L_8, k9L_9, k9L_10, k9L_20, k9L_23, k9L_24, k9L_30, k9L_40, k9L_50, k9L_60, k9L_99, k9L_100, k9L_120, k9L_255, k9L_999, k9L_1000, k9_bs, k9_ba, c23, mn, hsub, c55, n_c3]) | simp (disch := omega) only [k9e_224_0, k9e_224_4, k9e_224_5, k9e_224_7, k9e_224_11, k9e_224_13, k9e_224_36, Nat.reduceEqDiff, Int.reduceEq, Int.reduceLT, Int.reduceLE, k9_ps_s, k9_ps_n, k9_ur, false_and, and_false, true_and, and_true, true_or, or_true, false_or, or_false, eq_self, ↓reduceIte, not_true_eq_false, not_false_eq_true, n_toInt, n_cl, nI_1, nI_add, n_a0, n_p2, n_p3, n_p4, n_x2, n_x3, n_x4, n_x60, n_x100, n_pm1, k9L_m2, k9L_m1, k9L_0, k9L_1, k9L_2, k9L_3, k9L_4, k9L_5, k9L_6, k9L_7, k9L_8, k9L_9, k9L_10, k9L_20, k9L_23, k9L_24, k9L_30, k9L_40, k9L_50, k9L_60, k9L_99, k9L_100, k9L_120, k9L_255, k9L_999, k9L_1000, k9_bs, k9_ba, c23, mn, hsub, c55, n_c3])
          rw [← hId]
          refine k9o_call c2 ?_
          simp (disch := omega) only [k9e_224_36, k9e_224_41, k9e_224_47, k9e_224_50, k9e_224_61, Nat.reduceEqDiff, Int.reduceEq, Int.reduceLT, Int.reduceLE, k9_ps_s, k9_ps_n, k9_ur, false_and, and_false, true_and, and_true, true_or, or_true, false_or, or_false, eq_self, ↓reduceIte, not_true_eq_false, not_false_eq_true, n_toInt, n_cl, nI_1, nI_add, n_a0, n_p2, n_p3, n_p4, n_x2, n_x3, n_x4, n_x60, n_x100, n_pm1, k9L_m2, k9L_m1, k9L_0, k9L_1, k9L_2, k9L_3, k9L_4, k9L_5, k9L_6, k9L_7, k9L_8, k9L_9, k9L_10, k9L_20, k9L_23, k9L_24, k9L_30, k9L_40, k9L_50, k9L_60, k9L_99, k9L_100, k9L_120, k9L_255, k9L_999, k9L_1000, k9_bs, k9_ba, g23, m67, m2.1, g551]
          repeat (first | ((with_reducible refine k9q_T ?_ ?_); · omega) | ((with_reducible refine k9q_F ?_ ?_); · omega) | ((with_reducible refine k9q_Tb ?_ ?_); · omega) | ((with_reducible refine k9q_Fb ?_ ?_); · omega) | simp (disch := omega) only [k9e_224_36, k9e_224_41, k9e_224_47, k9e_224_50, k9e_224_61, Nat.reduceEqDiff, Int.reduceEq, Int.reduceLT, Int.reduceLE, k9_ps_s, k9_ps_n, k9_ur, false_and, and_false, true_and, and_true, true_or, or_true, false_or, or_false, eq_self, ↓reduceIte, not_true_eq_false, not_false_eq_true, n_toInt, n_cl, nI_1, nI_add, n_a0, n_p2, n_p3, n_p4, n_x2, n_x3, n_x4, n_x60, n_x100, n_pm1, k9L_m2, k9L_m1, k9L_0, k9L_1, k9L_2, k9L_3, k9L_4, k9L_5, k9L_6, k9L_7, k9L_8, k9L_9, k9L_10, k9L_20, k9L_23, k9L_24, k9L_30, k9L_40, k9L_50, k9L_60, k9L_99, k9L_100, k9L_120, k9L_255, k9L_999, k9L_1000, k9_bs, k9_ba, g23, m67, m2.1, g551])
          refine k9o_ret ⟨_, _, rfl, k9_Inv_7 (k9_fp_u (k9_fp_u ff rfl) rfl) v ⟨Or.inr ⟨?_, ?_⟩, fun k hk => ?_, ?_⟩ ?_⟩
          · simp only [k9_ur, Nat.reduceEqDiff, false_and, ↓reduceIte]
            rw [g9]
            exact p0
          · simp [k9_ur]
          · simp only [k9_ur, Nat.reduceEqDiff, false_and, true_and, ↓reduceIte]
            rw [g9]
            have hk5 : k = 0 ∨ k = 1 ∨ k = 2 ∨ k = 3 ∨ k = 4 := by omega
            rcases hk5 with rfl | rfl | rfl | rfl | rfl
            · simp only [Nat.zero_add]; rw [q2, a9]; simp [g55, k0]
            · simp only [Nat.reduceAdd, ↓reduceIte]; rw [p3, a9]; simp [k1]
            · simp only [Nat.reduceAdd]; rw [q4, a9]; simp [g55, k2]
            · simp only [Nat.reduceAdd]; rw [q5, a9]; simp [g55, k3]
            · simp only [Nat.reduceAdd]; rw [q6, a9]; simp [g55, k4]
          · simp only [k9_ur, Nat.reduceEqDiff, false_and, and_false, true_and, ↓reduceIte]
            rw [g111, g12 25 (Or.inl rfl), g12 26 (Or.inr rfl), g9, g9, k91, k91, a91, a91]
            rcases kept with t | ⟨t1, t2, t3, t4⟩
            · exact Or.inl t
            · refine Or.inr ⟨t1, t2, t3, fun k hk => ?_⟩
              rw [g9, k91, a91, g56]
              exact t4 k hk
          · exact k9_vR_c (k9_fp_c (k9_fp_u (k9_fp_u (k9_fp_rf _ _) rfl) rfl : k9_fp (k9_Xs [7]) I2 _) rfl) r2
        · have fin : k9_Inv I2 J := by
            refine k9_Inv_7 ff v ⟨Or.inl ⟨?_, z + m, hm9, ?_, g23⟩, fun k hk => ?_, ?_⟩ r2
            · rw [g9]
              exact p0
            · rw [g9, q1]
              exact g91
            · rw [g9]
              have hk5 : k = 0 ∨ k = 1 ∨ k = 2 ∨ k = 3 ∨ k = 4 := by omega
              rcases hk5 with rfl | rfl | rfl | rfl | rfl
              · simp only [Nat.zero_add]; rw [q2, a9]; simp [g55, k0]
              · simp only [Nat.reduceAdd]; rw [p3, a9]; simp [g55, k1]
              · simp only [Nat.reduceAdd]; rw [q4, a9]; simp [g55, k2]
              · simp only [Nat.reduceAdd]; rw [q5, a9]; simp [g55, k3]
              · simp only [Nat.reduceAdd]; rw [q6, a9]; simp [g55, k4]
            · rw [g111, g12 25 (Or.inl rfl), g12 26 (Or.inr rfl), g9, g9, k91, k91, a91, a91]
              rcases kept with t | ⟨t1, t2, t3, t4⟩
              · exact Or.inl t
              · refine Or.inr ⟨t1, t2, t3, fun k hk => ?_⟩
                rw [g9, k91, a91, g56]
                exact t4 k hk
          simp (disch := omega) only [k9e_224_0, k9e_224_4, k9e_224_5, k9e_224_7, k9e_224_11, k9e_224_13, k9e_224_36, Nat.reduceEqDiff, Int.reduceEq, Int.reduceLT, Int.reduceLE, k9_ps_s, k9_ps_n, k9_ur, false_and, and_false, true_and, and_true, true_or, or_true, false_or, or_false, eq_self, ↓reduceIte, not_true_eq_false, not_false_eq_true, n_toInt, n_cl, nI_1, nI_add, n_a0, n_p2, n_p3, n_p4, n_x2, n_x3, n_x4, n_x60, n_x100, n_pm1, k9L_m2, k9L_m1, k9L_0, k9L_1, k9L_2, k9L_3, k9L_4, k9L_5, k9L_6, k9L_7, k9L_8, k9L_9, k9L_10, k9L_20, k9L_23, k9L_24, k9L_30, k9L_40, k9L_50, k9L_60, k9L_99, k9L_100, k9L_120, k9L_255, k9L_999, k9L_1000, k9_bs, k9_ba, c23, mn, hsub, c55, n_c3]
          repeat (first | ((with_reducible refine k9q_T ?_ ?_); · omega) | ((with_reducible refine k9q_F ?_ ?_); · omega) | ((with_reducible refine k9q_Tb ?_ ?_); · omega) | ((with_reducible refine k9q_Fb ?_ ?_); · omega) | (refine k9o_call (k9s_153 (by first | omega | (simp (disch := omega) only [n_toInt, n_pm1, k9L_m2, k9L_m1, k9L_0, k9L_1, k9L_2, k9L_3, k9L_4, k9L_5, k9L_6, k9L_7, k9L_8, k9L_9, k9L_10, k9L_20, k9L_23, k9L_24, k9L_30, k9L_40, k9L_50, k9L_60, k9L_99, k9L_100, k9L_120, k9L_255, k9L_999, k9L_1000]; omega))) ?_; simp (disch := omega) only [k9e_224_0, k9e_224_4, k9e_224_5, k9e_224_7, k9e_224_11, k9e_224_13, k9e_224_36, Nat.reduceEqDiff, Int.reduceEq, Int.reduceLT, Int.reduceLE, k9_ps_s, k9_ps_n, k9_ur, false_and, and_false, true_and, and_true, true_or, or_true, false_or, or_false, eq_self, ↓reduceIte, not_true_eq_false, not_false_eq_true, n_toInt, n_cl, nI_1, nI_add, n_a0, n_p2, n_p3, n_p4, n_x2, n_x3, n_x4, n_x60, n_x100, n_pm1, k9L_m2, k9L_m1, k9L_0, k9L_1, k9L_2, k9L_3, k9L_4, k9L_5, k9L_6, k9L_7, k9L_8, k9L_9, k9L_10, k9L_20, k9L_23, k9L_24, k9L_30, k9L_40, k9L_50, k9L_60, k9L_99, k9L_100, k9L_120, k9L_255, k9L_999, k9L_1000, k9_bs, k9_ba, c23, mn, hsub, c55, n_c3]) | (refine k9o_call (k9s_153x (by first | omega | (simp (disch := omega) only [n_toInt, n_pm1, k9L_m2, k9L_m1, k9L_0, k9L_1, k9L_2, k9L_3, k9L_4, k9L_5, k9L_6, k9L_7, k9L_8, k9L_9, k9L_10, k9L_20, k9L_23, k9L_24, k9L_30, k9L_40, k9L_50, k9L_60, k9L_99, k9L_100, k9L_120, k9L_255, k9L_999, k9L_1000]; omega))) ?_; simp (disch := omega) only [k9e_224_0, k9e_224_4, k9e_224_5, k9e_224_7, k9e_224_11, k9e_224_13, k9e_224_36, Nat.reduceEqDiff, Int.reduceEq, Int.reduceLT, Int.reduceLE, k9_ps_s, k9_ps_n, k9_ur, false_and, and_false, true_and, and_true, true_or, or_true, false_or, or_false, eq_self, ↓reduceIte, not_true_eq_false, not_false_eq_true, n_toInt, n_cl, nI_1, nI_add, n_a0, n_p2, n_p3, n_p4, n_x2, n_x3, n_x4, n_x60, n_x100, n_pm1, k9L_m2, k9L_m1, k9L_0, k9L_1, k9L_2, k9L_3, k9L_4, k9L_5, k9L_6, k9L_7, k9L_8, k9L_9, k9L_10, k9L_20, k9L_23, k9L_24, k9L_30, k9L_40, k9L_50, k9L_60, k9L_99, k9L_100, k9L_120, k9L_255, k9L_999, k9L_1000, k9_bs, k9_ba, c23, mn, hsub, c55, n_c3]) | simp (disch := omega) only [k9e_224_0, k9e_224_4, k9e_224_5, k9e_224_7, k9e_224_11, k9e_224_13, k9e_224_36, Nat.reduceEqDiff, Int.reduceEq, Int.reduceLT, Int.reduceLE, k9_ps_s, k9_ps_n, k9_ur, false_and, and_false, true_and, and_true, true_or, or_true, false_or, or_false, eq_self, ↓reduceIte, not_true_eq_false, not_false_eq_true, n_toInt, n_cl, nI_1, nI_add, n_a0, n_p2, n_p3, n_p4, n_x2, n_x3, n_x4, n_x60, n_x100, n_pm1, k9L_m2, k9L_m1, k9L_0, k9L_1, k9L_2, k9L_3, k9L_4, k9L_5, k9L_6, k9L_7, k9L_8, k9L_9, k9L_10, k9L_20, k9L_23, k9L_24, k9L_30, k9L_40, k9L_50, k9L_60, k9L_99, k9L_100, k9L_120, k9L_255, k9L_999, k9L_1000, k9_bs, k9_ba, c23, mn, hsub, c55, n_c3])
          rw [← hId]
          refine k9o_call c2 ?_
          by_cases hl : p_len w ≤ z + m
          · have hc : ¬ p_sh w (p_tt w) V (z + m) = 100 := fun z => hn ⟨hl, z⟩
            simp (disch := omega) only [k9e_224_36, k9e_224_41, k9e_224_47, k9e_224_50, k9e_224_61, Nat.reduceEqDiff, Int.reduceEq, Int.reduceLT, Int.reduceLE, k9_ps_s, k9_ps_n, k9_ur, false_and, and_false, true_and, and_true, true_or, or_true, false_or, or_false, eq_self, ↓reduceIte, not_true_eq_false, not_false_eq_true, n_toInt, n_cl, nI_1, nI_add, n_a0, n_p2, n_p3, n_p4, n_x2, n_x3, n_x4, n_x60, n_x100, n_pm1, k9L_m2, k9L_m1, k9L_0, k9L_1, k9L_2, k9L_3, k9L_4, k9L_5, k9L_6, k9L_7, k9L_8, k9L_9, k9L_10, k9L_20, k9L_23, k9L_24, k9L_30, k9L_40, k9L_50, k9L_60, k9L_99, k9L_100, k9L_120, k9L_255, k9L_999, k9L_1000, k9_bs, k9_ba, g23, m67, m2.1, g551]
            repeat (first | ((with_reducible refine k9q_T ?_ ?_); · omega) | ((with_reducible refine k9q_F ?_ ?_); · omega) | ((with_reducible refine k9q_Tb ?_ ?_); · omega) | ((with_reducible refine k9q_Fb ?_ ?_); · omega) | simp (disch := omega) only [k9e_224_36, k9e_224_41, k9e_224_47, k9e_224_50, k9e_224_61, Nat.reduceEqDiff, Int.reduceEq, Int.reduceLT, Int.reduceLE, k9_ps_s, k9_ps_n, k9_ur, false_and, and_false, true_and, and_true, true_or, or_true, false_or, or_false, eq_self, ↓reduceIte, not_true_eq_false, not_false_eq_true, n_toInt, n_cl, nI_1, nI_add, n_a0, n_p2, n_p3, n_p4, n_x2, n_x3, n_x4, n_x60, n_x100, n_pm1, k9L_m2, k9L_m1, k9L_0, k9L_1, k9L_2, k9L_3, k9L_4, k9L_5, k9L_6, k9L_7, k9L_8, k9L_9, k9L_10, k9L_20, k9L_23, k9L_24, k9L_30, k9L_40, k9L_50, k9L_60, k9L_99, k9L_100, k9L_120, k9L_255, k9L_999, k9L_1000, k9_bs, k9_ba, g23, m67, m2.1, g551])
            exact k9o_ret ⟨_, _, rfl, fin⟩
          · simp (disch := omega) only [k9e_224_36, k9e_224_41, k9e_224_47, k9e_224_50, k9e_224_61, Nat.reduceEqDiff, Int.reduceEq, Int.reduceLT, Int.reduceLE, k9_ps_s, k9_ps_n, k9_ur, false_and, and_false, true_and, and_true, true_or, or_true, false_or, or_false, eq_self, ↓reduceIte, not_true_eq_false, not_false_eq_true, n_toInt, n_cl, nI_1, nI_add, n_a0, n_p2, n_p3, n_p4, n_x2, n_x3, n_x4, n_x60, n_x100, n_pm1, k9L_m2, k9L_m1, k9L_0, k9L_1, k9L_2, k9L_3, k9L_4, k9L_5, k9L_6, k9L_7, k9L_8, k9L_9, k9L_10, k9L_20, k9L_23, k9L_24, k9L_30, k9L_40, k9L_50, k9L_60, k9L_99, k9L_100, k9L_120, k9L_255, k9L_999, k9L_1000, k9_bs, k9_ba, g23, m67, m2.1, g551]
            repeat (first | ((with_reducible refine k9q_T ?_ ?_); · omega) | ((with_reducible refine k9q_F ?_ ?_); · omega) | ((with_reducible refine k9q_Tb ?_ ?_); · omega) | ((with_reducible refine k9q_Fb ?_ ?_); · omega) | simp (disch := omega) only [k9e_224_36, k9e_224_41, k9e_224_47, k9e_224_50, k9e_224_61, Nat.reduceEqDiff, Int.reduceEq, Int.reduceLT, Int.reduceLE, k9_ps_s, k9_ps_n, k9_ur, false_and, and_false, true_and, and_true, true_or, or_true, false_or, or_false, eq_self, ↓reduceIte, not_true_eq_false, not_false_eq_true, n_toInt, n_cl, nI_1, nI_add, n_a0, n_p2, n_p3, n_p4, n_x2, n_x3, n_x4, n_x60, n_x100, n_pm1, k9L_m2, k9L_m1, k9L_0, k9L_1, k9L_2, k9L_3, k9L_4, k9L_5, k9L_6, k9L_7, k9L_8, k9L_9, k9L_10, k9L_20, k9L_23, k9L_24, k9L_30, k9L_40, k9L_50, k9L_60, k9L_99, k9L_100, k9L_120, k9L_255, k9L_999, k9L_1000, k9_bs, k9_ba, g23, m67, m2.1, g551])
            exact k9o_ret ⟨_, _, rfl, fin⟩
      by_cases hcase : p_len w ≤ z + m ∧ p_sh w (p_tt w) V (z + m) = 100
      · obtain ⟨hl, hc⟩ := hcase
        have hc56 : (nI (p_sh w (p_tt w) V (z + m))).toInt = 100 := by rw [n_toInt (by omega), hc]; rfl
        simp (disch := omega) only [k9e_127_0, k9e_127_3, k9e_127_6, k9e_127_8, k9e_127_12, k9e_127_14, k9e_127_18, k9e_127_20, k9e_127_24, Nat.reduceEqDiff, Int.reduceEq, Int.reduceLT, Int.reduceLE, k9_ps_s, k9_ps_n, k9_ur, false_and, and_false, true_and, and_true, true_or, or_true, false_or, or_false, eq_self, ↓reduceIte, not_true_eq_false, not_false_eq_true, n_toInt, n_cl, nI_1, nI_add, n_a0, n_p2, n_p3, n_p4, n_x2, n_x3, n_x4, n_x60, n_x100, n_pm1, k9L_m2, k9L_m1, k9L_0, k9L_1, k9L_2, k9L_3, k9L_4, k9L_5, k9L_6, k9L_7, k9L_8, k9L_9, k9L_10, k9L_20, k9L_23, k9L_24, k9L_30, k9L_40, k9L_50, k9L_60, k9L_99, k9L_100, k9L_120, k9L_255, k9L_999, k9L_1000, k9_bs, k9_ba, e1, g91]
        repeat (first | ((with_reducible refine k9q_T ?_ ?_); · omega) | ((with_reducible refine k9q_F ?_ ?_); · omega) | ((with_reducible refine k9q_Tb ?_ ?_); · omega) | ((with_reducible refine k9q_Fb ?_ ?_); · omega) | (refine k9o_call (e72) ?_; simp (disch := omega) only [k9e_127_0, k9e_127_3, k9e_127_6, k9e_127_8, k9e_127_12, k9e_127_14, k9e_127_18, k9e_127_20, k9e_127_24, Nat.reduceEqDiff, Int.reduceEq, Int.reduceLT, Int.reduceLE, k9_ps_s, k9_ps_n, k9_ur, false_and, and_false, true_and, and_true, true_or, or_true, false_or, or_false, eq_self, ↓reduceIte, not_true_eq_false, not_false_eq_true, n_toInt, n_cl, nI_1, nI_add, n_a0, n_p2, n_p3, n_p4, n_x2, n_x3, n_x4, n_x60, n_x100, n_pm1, k9L_m2, k9L_m1, k9L_0, k9L_1, k9L_2, k9L_3, k9L_4, k9L_5, k9L_6, k9L_7, k9L_8, k9L_9, k9L_10, k9L_20, k9L_23, k9L_24, k9L_30, k9L_40, k9L_50, k9L_60, k9L_99, k9L_100, k9L_120, k9L_255, k9L_999, k9L_1000, k9_bs, k9_ba, e1, g91]) | (refine k9o_call (c1) ?_; simp (disch := omega) only [k9e_127_0, k9e_127_3, k9e_127_6, k9e_127_8, k9e_127_12, k9e_127_14, k9e_127_18, k9e_127_20, k9e_127_24, Nat.reduceEqDiff, Int.reduceEq, Int.reduceLT, Int.reduceLE, k9_ps_s, k9_ps_n, k9_ur, false_and, and_false, true_and, and_true, true_or, or_true, false_or, or_false, eq_self, ↓reduceIte, not_true_eq_false, not_false_eq_true, n_toInt, n_cl, nI_1, nI_add, n_a0, n_p2, n_p3, n_p4, n_x2, n_x3, n_x4, n_x60, n_x100, n_pm1, k9L_m2, k9L_m1, k9L_0, k9L_1, k9L_2, k9L_3, k9L_4, k9L_5, k9L_6, k9L_7, k9L_8, k9L_9, k9L_10, k9L_20, k9L_23, k9L_24, k9L_30, k9L_40, k9L_50, k9L_60, k9L_99, k9L_100, k9L_120, k9L_255, k9L_999, k9L_1000, k9_bs, k9_ba, e1, g91]) | (refine k9o_call (k9s_56 b1 (Nat.zero_le _) (by omega : z + m < 1000) (by omega)) ?_; simp (disch := omega) only [k9e_127_0, k9e_127_3, k9e_127_6, k9e_127_8, k9e_127_12, k9e_127_14, k9e_127_18, k9e_127_20, k9e_127_24, Nat.reduceEqDiff, Int.reduceEq, Int.reduceLT, Int.reduceLE, k9_ps_s, k9_ps_n, k9_ur, false_and, and_false, true_and, and_true, true_or, or_true, false_or, or_false, eq_self, ↓reduceIte, not_true_eq_false, not_false_eq_true, n_toInt, n_cl, nI_1, nI_add, n_a0, n_p2, n_p3, n_p4, n_x2, n_x3, n_x4, n_x60, n_x100, n_pm1, k9L_m2, k9L_m1, k9L_0, k9L_1, k9L_2, k9L_3, k9L_4, k9L_5, k9L_6, k9L_7, k9L_8, k9L_9, k9L_10, k9L_20, k9L_23, k9L_24, k9L_30, k9L_40, k9L_50, k9L_60, k9L_99, k9L_100, k9L_120, k9L_255, k9L_999, k9L_1000, k9_bs, k9_ba, e1, g91]) | (refine k9o_call (k9s_10 (d := d + 17) wk1 hf) ?_; simp (disch := omega) only [k9e_127_0, k9e_127_3, k9e_127_6, k9e_127_8, k9e_127_12, k9e_127_14, k9e_127_18, k9e_127_20, k9e_127_24, Nat.reduceEqDiff, Int.reduceEq, Int.reduceLT, Int.reduceLE, k9_ps_s, k9_ps_n, k9_ur, false_and, and_false, true_and, and_true, true_or, or_true, false_or, or_false, eq_self, ↓reduceIte, not_true_eq_false, not_false_eq_true, n_toInt, n_cl, nI_1, nI_add, n_a0, n_p2, n_p3, n_p4, n_x2, n_x3, n_x4, n_x60, n_x100, n_pm1, k9L_m2, k9L_m1, k9L_0, k9L_1, k9L_2, k9L_3, k9L_4, k9L_5, k9L_6, k9L_7, k9L_8, k9L_9, k9L_10, k9L_20, k9L_23, k9L_24, k9L_30, k9L_40, k9L_50, k9L_60, k9L_99, k9L_100, k9L_120, k9L_255, k9L_999, k9L_1000, k9_bs, k9_ba, e1, g91]) | simp (disch := omega) only [k9e_127_0, k9e_127_3, k9e_127_6, k9e_127_8, k9e_127_12, k9e_127_14, k9e_127_18, k9e_127_20, k9e_127_24, Nat.reduceEqDiff, Int.reduceEq, Int.reduceLT, Int.reduceLE, k9_ps_s, k9_ps_n, k9_ur, false_and, and_false, true_and, and_true, true_or, or_true, false_or, or_false, eq_self, ↓reduceIte, not_true_eq_false, not_false_eq_true, n_toInt, n_cl, nI_1, nI_add, n_a0, n_p2, n_p3, n_p4, n_x2, n_x3, n_x4, n_x60, n_x100, n_pm1, k9L_m2, k9L_m1, k9L_0, k9L_1, k9L_2, k9L_3, k9L_4, k9L_5, k9L_6, k9L_7, k9L_8, k9L_9, k9L_10, k9L_20, k9L_23, k9L_24, k9L_30, k9L_40, k9L_50, k9L_60, k9L_99, k9L_100, k9L_120, k9L_255, k9L_999, k9L_1000, k9_bs, k9_ba, e1, g91])
        refine k9o_eq k9e_127_32 (k9o_F (by rw [n_toInt (by omega), n_toInt (by omega)]; omega) (k9o_eq k9e_127_33 (k9o_T hc56 ?_)))
        simp (disch := omega) only [k9e_127_36, k9e_127_39, k9e_73_0, Nat.reduceEqDiff, Int.reduceEq, Int.reduceLT, Int.reduceLE, k9_ps_s, k9_ps_n, k9_ur, false_and, and_false, true_and, and_true, true_or, or_true, false_or, or_false, eq_self, ↓reduceIte, not_true_eq_false, not_false_eq_true, n_toInt, n_cl, nI_1, nI_add, n_a0, n_p2, n_p3, n_p4, n_x2, n_x3, n_x4, n_x60, n_x100, n_pm1, k9L_m2, k9L_m1, k9L_0, k9L_1, k9L_2, k9L_3, k9L_4, k9L_5, k9L_6, k9L_7, k9L_8, k9L_9, k9L_10, k9L_20, k9L_23, k9L_24, k9L_30, k9L_40, k9L_50, k9L_60, k9L_99, k9L_100, k9L_120, k9L_255, k9L_999, k9L_1000, k9_bs, k9_ba]
        repeat (first | ((with_reducible refine k9q_T ?_ ?_); · omega) | ((with_reducible refine k9q_F ?_ ?_); · omega) | ((with_reducible refine k9q_Tb ?_ ?_); · omega) | ((with_reducible refine k9q_Fb ?_ ?_); · omega) | simp (disch := omega) only [k9e_127_36, k9e_127_39, k9e_73_0, Nat.reduceEqDiff, Int.reduceEq, Int.reduceLT, Int.reduceLE, k9_ps_s, k9_ps_n, k9_ur, false_and, and_false, true_and, and_true, true_or, or_true, false_or, or_false, eq_self, ↓reduceIte, not_true_eq_false, not_false_eq_true, n_toInt, n_cl, nI_1, nI_add, n_a0, n_p2, n_p3, n_p4, n_x2, n_x3, n_x4, n_x60, n_x100, n_pm1, k9L_m2, k9L_m1, k9L_0, k9L_1, k9L_2, k9L_3, k9L_4, k9L_5, k9L_6, k9L_7, k9L_8, k9L_9, k9L_10, k9L_20, k9L_23, k9L_24, k9L_30, k9L_40, k9L_50, k9L_60, k9L_99, k9L_100, k9L_120, k9L_255, k9L_999, k9L_1000, k9_bs, k9_ba])
        refine k9o_ret ⟨_, _, _, rfl, ref _ (k9_fp_u (k9_fp_u (k9_fp_rf _ _) rfl) rfl) (fun k => by simp [k9_ur]) (by simp [k9_ur]) (fun p => by simp [k9_ur]) (fun p => by simp [k9_ur]) (fun p => by simp [k9_ur]) (by simp [k9_ur]) (by simp [k9_ur]) (by simp [k9_ur]) (by simp [k9_ur]) (by simp [k9_ur]) (Or.inl ⟨hl, hc, by simp [k9_ur], by simp [k9_ur]⟩)⟩
      · have on1 : I1 9 0 0 = 1 := (f1 9 0 0 rfl).trans ((by rw [hIa]; simp [k9_ur] : Ia 9 0 0 = I 9 0 0).trans e1)
        have rr := ref I1 (k9_fp_rf _ _) (fun _ => rfl) rfl (fun _ => rfl) (fun _ => rfl) (fun _ => rfl) rfl rfl rfl rfl rfl (Or.inr ⟨hcase, on1, rfl⟩)
        simp (disch := omega) only [k9e_127_0, k9e_127_3, k9e_127_6, k9e_127_8, k9e_127_12, k9e_127_14, k9e_127_18, k9e_127_20, k9e_127_24, Nat.reduceEqDiff, Int.reduceEq, Int.reduceLT, Int.reduceLE, k9_ps_s, k9_ps_n, k9_ur, false_and, and_false, true_and, and_true, true_or, or_true, false_or, or_false, eq_self, ↓reduceIte, not_true_eq_false, not_false_eq_true, n_toInt, n_cl, nI_1, nI_add, n_a0, n_p2, n_p3, n_p4, n_x2, n_x3, n_x4, n_x60, n_x100, n_pm1, k9L_m2, k9L_m1, k9L_0, k9L_1, k9L_2, k9L_3, k9L_4, k9L_5, k9L_6, k9L_7, k9L_8, k9L_9, k9L_10, k9L_20, k9L_23, k9L_24, k9L_30, k9L_40, k9L_50, k9L_60, k9L_99, k9L_100, k9L_120, k9L_255, k9L_999, k9L_1000, k9_bs, k9_ba, e1, g91]
        repeat (first | ((with_reducible refine k9q_T ?_ ?_); · omega) | ((with_reducible refine k9q_F ?_ ?_); · omega) | ((with_reducible refine k9q_Tb ?_ ?_); · omega) | ((with_reducible refine k9q_Fb ?_ ?_); · omega) | (refine k9o_call (e72) ?_; simp (disch := omega) only [k9e_127_0, k9e_127_3, k9e_127_6, k9e_127_8, k9e_127_12, k9e_127_14, k9e_127_18, k9e_127_20, k9e_127_24, Nat.reduceEqDiff, Int.reduceEq, Int.reduceLT, Int.reduceLE, k9_ps_s, k9_ps_n, k9_ur, false_and, and_false, true_and, and_true, true_or, or_true, false_or, or_false, eq_self, ↓reduceIte, not_true_eq_false, not_false_eq_true, n_toInt, n_cl, nI_1, nI_add, n_a0, n_p2, n_p3, n_p4, n_x2, n_x3, n_x4, n_x60, n_x100, n_pm1, k9L_m2, k9L_m1, k9L_0, k9L_1, k9L_2, k9L_3, k9L_4, k9L_5, k9L_6, k9L_7, k9L_8, k9L_9, k9L_10, k9L_20, k9L_23, k9L_24, k9L_30, k9L_40, k9L_50, k9L_60, k9L_99, k9L_100, k9L_120, k9L_255, k9L_999, k9L_1000, k9_bs, k9_ba, e1, g91]) | (refine k9o_call (c1) ?_; simp (disch := omega) only [k9e_127_0, k9e_127_3, k9e_127_6, k9e_127_8, k9e_127_12, k9e_127_14, k9e_127_18, k9e_127_20, k9e_127_24, Nat.reduceEqDiff, Int.reduceEq, Int.reduceLT, Int.reduceLE, k9_ps_s, k9_ps_n, k9_ur, false_and, and_false, true_and, and_true, true_or, or_true, false_or, or_false, eq_self, ↓reduceIte, not_true_eq_false, not_false_eq_true, n_toInt, n_cl, nI_1, nI_add, n_a0, n_p2, n_p3, n_p4, n_x2, n_x3, n_x4, n_x60, n_x100, n_pm1, k9L_m2, k9L_m1, k9L_0, k9L_1, k9L_2, k9L_3, k9L_4, k9L_5, k9L_6, k9L_7, k9L_8, k9L_9, k9L_10, k9L_20, k9L_23, k9L_24, k9L_30, k9L_40, k9L_50, k9L_60, k9L_99, k9L_100, k9L_120, k9L_255, k9L_999, k9L_1000, k9_bs, k9_ba, e1, g91]) | (refine k9o_call (k9s_56 b1 (Nat.zero_le _) (by omega : z + m < 1000) (by omega)) ?_; simp (disch := omega) only [k9e_127_0, k9e_127_3, k9e_127_6, k9e_127_8, k9e_127_12, k9e_127_14, k9e_127_18, k9e_127_20, k9e_127_24, Nat.reduceEqDiff, Int.reduceEq, Int.reduceLT, Int.reduceLE, k9_ps_s, k9_ps_n, k9_ur, false_and, and_false, true_and, and_true, true_or, or_true, false_or, or_false, eq_self, ↓reduceIte, not_true_eq_false, not_false_eq_true, n_toInt, n_cl, nI_1, nI_add, n_a0, n_p2, n_p3, n_p4, n_x2, n_x3, n_x4, n_x60, n_x100, n_pm1, k9L_m2, k9L_m1, k9L_0, k9L_1, k9L_2, k9L_3, k9L_4, k9L_5, k9L_6, k9L_7, k9L_8, k9L_9, k9L_10, k9L_20, k9L_23, k9L_24, k9L_30, k9L_40, k9L_50, k9L_60, k9L_99, k9L_100, k9L_120, k9L_255, k9L_999, k9L_1000, k9_bs, k9_ba, e1, g91]) | (refine k9o_call (k9s_10 (d := d + 17) wk1 hf) ?_; simp (disch := omega) only [k9e_127_0, k9e_127_3, k9e_127_6, k9e_127_8, k9e_127_12, k9e_127_14, k9e_127_18, k9e_127_20, k9e_127_24, Nat.reduceEqDiff, Int.reduceEq, Int.reduceLT, Int.reduceLE, k9_ps_s, k9_ps_n, k9_ur, false_and, and_false, true_and, and_true, true_or, or_true, false_or, or_false, eq_self, ↓reduceIte, not_true_eq_false, not_false_eq_true, n_toInt, n_cl, nI_1, nI_add, n_a0, n_p2, n_p3, n_p4, n_x2, n_x3, n_x4, n_x60, n_x100, n_pm1, k9L_m2, k9L_m1, k9L_0, k9L_1, k9L_2, k9L_3, k9L_4, k9L_5, k9L_6, k9L_7, k9L_8, k9L_9, k9L_10, k9L_20, k9L_23, k9L_24, k9L_30, k9L_40, k9L_50, k9L_60, k9L_99, k9L_100, k9L_120, k9L_255, k9L_999, k9L_1000, k9_bs, k9_ba, e1, g91]) | simp (disch := omega) only [k9e_127_0, k9e_127_3, k9e_127_6, k9e_127_8, k9e_127_12, k9e_127_14, k9e_127_18, k9e_127_20, k9e_127_24, Nat.reduceEqDiff, Int.reduceEq, Int.reduceLT, Int.reduceLE, k9_ps_s, k9_ps_n, k9_ur, false_and, and_false, true_and, and_true, true_or, or_true, false_or, or_false, eq_self, ↓reduceIte, not_true_eq_false, not_false_eq_true, n_toInt, n_cl, nI_1, nI_add, n_a0, n_p2, n_p3, n_p4, n_x2, n_x3, n_x4, n_x60, n_x100, n_pm1, k9L_m2, k9L_m1, k9L_0, k9L_1, k9L_2, k9L_3, k9L_4, k9L_5, k9L_6, k9L_7, k9L_8, k9L_9, k9L_10, k9L_20, k9L_23, k9L_24, k9L_30, k9L_40, k9L_50, k9L_60, k9L_99, k9L_100, k9L_120, k9L_255, k9L_999, k9L_1000, k9_bs, k9_ba, e1, g91])
        refine k9o_eq k9e_127_32 ?_
        by_cases hl : p_len w ≤ z + m
        · have hc : ¬ p_sh w (p_tt w) V (z + m) = 100 := fun z => hcase ⟨hl, z⟩
          refine k9o_F (by rw [n_toInt (by omega), n_toInt (by omega)]; omega) (k9o_eq k9e_127_33 (k9o_F (by rw [n_toInt (by omega)]; omega) (k9o_eq k9e_127_39 ?_)))
          exact k9o_ret ⟨_, _, _, rfl, rr⟩
        · refine k9o_T (by rw [n_toInt (by omega), n_toInt (by omega)]; omega) (k9o_eq k9e_127_39 ?_)
          exact k9o_ret ⟨_, _, _, rfl, rr⟩
    · simp (disch := omega) only [k9e_127_0, k9e_127_3, k9e_127_6, k9e_127_8, k9e_127_12, Nat.reduceEqDiff, Int.reduceEq, Int.reduceLT, Int.reduceLE, k9_ps_s, k9_ps_n, k9_ur, false_and, and_false, true_and, and_true, true_or, or_true, false_or, or_false, eq_self, ↓reduceIte, not_true_eq_false, not_false_eq_true, n_toInt, n_cl, nI_1, nI_add, n_a0, n_p2, n_p3, n_p4, n_x2, n_x3, n_x4, n_x60, n_x100, n_pm1, k9L_m2, k9L_m1, k9L_0, k9L_1, k9L_2, k9L_3, k9L_4, k9L_5, k9L_6, k9L_7, k9L_8, k9L_9, k9L_10, k9L_20, k9L_23, k9L_24, k9L_30, k9L_40, k9L_50, k9L_60, k9L_99, k9L_100, k9L_120, k9L_255, k9L_999, k9L_1000, k9_bs, k9_ba, e1]
      repeat (first | ((with_reducible refine k9q_T ?_ ?_); · omega) | ((with_reducible refine k9q_F ?_ ?_); · omega) | ((with_reducible refine k9q_Tb ?_ ?_); · omega) | ((with_reducible refine k9q_Fb ?_ ?_); · omega) | simp (disch := omega) only [k9e_127_0, k9e_127_3, k9e_127_6, k9e_127_8, k9e_127_12, Nat.reduceEqDiff, Int.reduceEq, Int.reduceLT, Int.reduceLE, k9_ps_s, k9_ps_n, k9_ur, false_and, and_false, true_and, and_true, true_or, or_true, false_or, or_false, eq_self, ↓reduceIte, not_true_eq_false, not_false_eq_true, n_toInt, n_cl, nI_1, nI_add, n_a0, n_p2, n_p3, n_p4, n_x2, n_x3, n_x4, n_x60, n_x100, n_pm1, k9L_m2, k9L_m1, k9L_0, k9L_1, k9L_2, k9L_3, k9L_4, k9L_5, k9L_6, k9L_7, k9L_8, k9L_9, k9L_10, k9L_20, k9L_23, k9L_24, k9L_30, k9L_40, k9L_50, k9L_60, k9L_99, k9L_100, k9L_120, k9L_255, k9L_999, k9L_1000, k9_bs, k9_ba, e1])
      refine k9o_ret ⟨_, _, _, rfl, ?_⟩
      simp (disch := omega) only [k9e_224_0, k9e_224_4, k9e_224_5, k9e_224_7, k9e_224_11, Nat.reduceEqDiff, Int.reduceEq, Int.reduceLT, Int.reduceLE, k9_ps_s, k9_ps_n, k9_ur, false_and, and_false, true_and, and_true, true_or, or_true, false_or, or_false, eq_self, ↓reduceIte, not_true_eq_false, not_false_eq_true, n_toInt, n_cl, nI_1, nI_add, n_a0, n_p2, n_p3, n_p4, n_x2, n_x3, n_x4, n_x60, n_x100, n_pm1, k9L_m2, k9L_m1, k9L_0, k9L_1, k9L_2, k9L_3, k9L_4, k9L_5, k9L_6, k9L_7, k9L_8, k9L_9, k9L_10, k9L_20, k9L_23, k9L_24, k9L_30, k9L_40, k9L_50, k9L_60, k9L_99, k9L_100, k9L_120, k9L_255, k9L_999, k9L_1000, k9_bs, k9_ba, e3]
      repeat (first | ((with_reducible refine k9q_T ?_ ?_); · omega) | ((with_reducible refine k9q_F ?_ ?_); · omega) | ((with_reducible refine k9q_Tb ?_ ?_); · omega) | ((with_reducible refine k9q_Fb ?_ ?_); · omega) | (refine k9o_call (k9s_153 (by first | omega | (simp (disch := omega) only [n_toInt, n_pm1, k9L_m2, k9L_m1, k9L_0, k9L_1, k9L_2, k9L_3, k9L_4, k9L_5, k9L_6, k9L_7, k9L_8, k9L_9, k9L_10, k9L_20, k9L_23, k9L_24, k9L_30, k9L_40, k9L_50, k9L_60, k9L_99, k9L_100, k9L_120, k9L_255, k9L_999, k9L_1000]; omega))) ?_; simp (disch := omega) only [k9e_224_0, k9e_224_4, k9e_224_5, k9e_224_7, k9e_224_11, Nat.reduceEqDiff, Int.reduceEq, Int.reduceLT, Int.reduceLE, k9_ps_s, k9_ps_n, k9_ur, false_and, and_false, true_and, and_true, true_or, or_true, false_or, or_false, eq_self, ↓reduceIte, not_true_eq_false, not_false_eq_true, n_toInt, n_cl, nI_1, nI_add, n_a0, n_p2, n_p3, n_p4, n_x2, n_x3, n_x4, n_x60, n_x100, n_pm1, k9L_m2, k9L_m1, k9L_0, k9L_1, k9L_2, k9L_3, k9L_4, k9L_5, k9L_6, k9L_7, k9L_8, k9L_9, k9L_10, k9L_20, k9L_23, k9L_24, k9L_30, k9L_40, k9L_50, k9L_60, k9L_99, k9L_100, k9L_120, k9L_255, k9L_999, k9L_1000, k9_bs, k9_ba, e3]) | (refine k9o_call (k9s_153x (by first | omega | (simp (disch := omega) only [n_toInt, n_pm1, k9L_m2, k9L_m1, k9L_0, k9L_1, k9L_2, k9L_3, k9L_4, k9L_5, k9L_6, k9L_7, k9L_8, k9L_9, k9L_10, k9L_20, k9L_23, k9L_24, k9L_30, k9L_40, k9L_50, k9L_60, k9L_99, k9L_100, k9L_120, k9L_255, k9L_999, k9L_1000]; omega))) ?_; simp (disch := omega) only [k9e_224_0, k9e_224_4, k9e_224_5, k9e_224_7, k9e_224_11, Nat.reduceEqDiff, Int.reduceEq, Int.reduceLT, Int.reduceLE, k9_ps_s, k9_ps_n, k9_ur, false_and, and_false, true_and, and_true, true_or, or_true, false_or, or_false, eq_self, ↓reduceIte, not_true_eq_false, not_false_eq_true, n_toInt, n_cl, nI_1, nI_add, n_a0, n_p2, n_p3, n_p4, n_x2, n_x3, n_x4, n_x60, n_x100, n_pm1, k9L_m2, k9L_m1, k9L_0, k9L_1, k9L_2, k9L_3, k9L_4, k9L_5, k9L_6, k9L_7, k9L_8, k9L_9, k9L_10, k9L_20, k9L_23, k9L_24, k9L_30, k9L_40, k9L_50, k9L_60, k9L_99, k9L_100, k9L_120, k9L_255, k9L_999, k9L_1000, k9_bs, k9_ba, e3]) | simp (disch := omega) only [k9e_224_0, k9e_224_4, k9e_224_5, k9e_224_7, k9e_224_11, Nat.reduceEqDiff, Int.reduceEq, Int.reduceLT, Int.reduceLE, k9_ps_s, k9_ps_n, k9_ur, false_and, and_false, true_and, and_true, true_or, or_true, false_or, or_false, eq_self, ↓reduceIte, not_true_eq_false, not_false_eq_true, n_toInt, n_cl, nI_1, nI_add, n_a0, n_p2, n_p3, n_p4, n_x2, n_x3, n_x4, n_x60, n_x100, n_pm1, k9L_m2, k9L_m1, k9L_0, k9L_1, k9L_2, k9L_3, k9L_4, k9L_5, k9L_6, k9L_7, k9L_8, k9L_9, k9L_10, k9L_20, k9L_23, k9L_24, k9L_30, k9L_40, k9L_50, k9L_60, k9L_99, k9L_100, k9L_120, k9L_255, k9L_999, k9L_1000, k9_bs, k9_ba, e3])
      exact k9o_ret ⟨_, _, rfl, hI'⟩
  · repeat' (first | ((with_reducible refine k9q_T ?_ ?_); · omega) | ((with_reducible refine k9q_F ?_ ?_); · omega) | ((with_reducible refine k9q_Tb ?_ ?_); · omega) | ((with_reducible refine k9q_Fb ?_ ?_); · omega) | simp (disch := omega) only [k9e_127_0, k9e_127_3, k9e_127_6, Nat.reduceEqDiff, Int.reduceEq, Int.reduceLT, Int.reduceLE, k9_ps_s, k9_ps_n, k9_ur, false_and, and_false, true_and, and_true, true_or, or_true, false_or, or_false, eq_self, ↓reduceIte, not_true_eq_false, not_false_eq_true, n_toInt, n_cl, nI_1, nI_add, n_a0, n_p2, n_p3, n_p4, n_x2, n_x3, n_x4, n_x60, n_x100, n_pm1, k9L_m2, k9L_m1, k9L_0, k9L_1, k9L_2, k9L_3, k9L_4, k9L_5, k9L_6, k9L_7, k9L_8, k9L_9, k9L_10, k9L_20, k9L_23, k9L_24, k9L_30, k9L_40, k9L_50, k9L_60, k9L_99, k9L_100, k9L_120, k9L_255, k9L_999, k9L_1000, k9_bs, k9_ba] | (with_reducible refine k9q_if (fun _ => ?_) (fun _ => ?_)) | (with_reducible refine k9q_ifb (fun _ => ?_) (fun _ => ?_)))
    all_goals refine k9o_ret ⟨_, _, _, rfl, ?_⟩
    all_goals repeat' (first | ((with_reducible refine k9q_T ?_ ?_); · omega) | ((with_reducible refine k9q_F ?_ ?_); · omega) | ((with_reducible refine k9q_Tb ?_ ?_); · omega) | ((with_reducible refine k9q_Fb ?_ ?_); · omega) | (refine k9o_call (k9s_153 (by first | omega | (simp (disch := omega) only [n_toInt, n_pm1, k9L_m2, k9L_m1, k9L_0, k9L_1, k9L_2, k9L_3, k9L_4, k9L_5, k9L_6, k9L_7, k9L_8, k9L_9, k9L_10, k9L_20, k9L_23, k9L_24, k9L_30, k9L_40, k9L_50, k9L_60, k9L_99, k9L_100, k9L_120, k9L_255, k9L_999, k9L_1000]; omega))) ?_; simp (disch := omega) only [k9e_224_0, k9e_224_4, k9e_224_5, Nat.reduceEqDiff, Int.reduceEq, Int.reduceLT, Int.reduceLE, k9_ps_s, k9_ps_n, k9_ur, false_and, and_false, true_and, and_true, true_or, or_true, false_or, or_false, eq_self, ↓reduceIte, not_true_eq_false, not_false_eq_true, n_toInt, n_cl, nI_1, nI_add, n_a0, n_p2, n_p3, n_p4, n_x2, n_x3, n_x4, n_x60, n_x100, n_pm1, k9L_m2, k9L_m1, k9L_0, k9L_1, k9L_2, k9L_3, k9L_4, k9L_5, k9L_6, k9L_7, k9L_8, k9L_9, k9L_10, k9L_20, k9L_23, k9L_24, k9L_30, k9L_40, k9L_50, k9L_60, k9L_99, k9L_100, k9L_120, k9L_255, k9L_999, k9L_1000, k9_bs, k9_ba]) | (refine k9o_call (k9s_153x (by first | omega | (simp (disch := omega) only [n_toInt, n_pm1, k9L_m2, k9L_m1, k9L_0, k9L_1, k9L_2, k9L_3, k9L_4, k9L_5, k9L_6, k9L_7, k9L_8, k9L_9, k9L_10, k9L_20, k9L_23, k9L_24, k9L_30, k9L_40, k9L_50, k9L_60, k9L_99, k9L_100, k9L_120, k9L_255, k9L_999, k9L_1000]; omega))) ?_; simp (disch := omega) only [k9e_224_0, k9e_224_4, k9e_224_5, Nat.reduceEqDiff, Int.reduceEq, Int.reduceLT, Int.reduceLE, k9_ps_s, k9_ps_n, k9_ur, false_and, and_false, true_and, and_true, true_or, or_true, false_or, or_false, eq_self, ↓reduceIte, not_true_eq_false, not_false_eq_true, n_toInt, n_cl, nI_1, nI_add, n_a0, n_p2, n_p3, n_p4, n_x2, n_x3, n_x4, n_x60, n_x100, n_pm1, k9L_m2, k9L_m1, k9L_0, k9L_1, k9L_2, k9L_3, k9L_4, k9L_5, k9L_6, k9L_7, k9L_8, k9L_9, k9L_10, k9L_20, k9L_23, k9L_24, k9L_30, k9L_40, k9L_50, k9L_60, k9L_99, k9L_100, k9L_120, k9L_255, k9L_999, k9L_1000, k9_bs, k9_ba]) | simp (disch := omega) only [k9e_224_0, k9e_224_4, k9e_224_5, Nat.reduceEqDiff, Int.reduceEq, Int.reduceLT, Int.reduceLE, k9_ps_s, k9_ps_n, k9_ur, false_and, and_false, true_and, and_true, true_or, or_true, false_or, or_false, eq_self, ↓reduceIte, not_true_eq_false, not_false_eq_true, n_toInt, n_cl, nI_1, nI_add, n_a0, n_p2, n_p3, n_p4, n_x2, n_x3, n_x4, n_x60, n_x100, n_pm1, k9L_m2, k9L_m1, k9L_0, k9L_1, k9L_2, k9L_3, k9L_4, k9L_5, k9L_6, k9L_7, k9L_8, k9L_9, k9L_10, k9L_20, k9L_23, k9L_24, k9L_30, k9L_40, k9L_50, k9L_60, k9L_99, k9L_100, k9L_120, k9L_255, k9L_999, k9L_1000, k9_bs, k9_ba] | (with_reducible refine k9q_if (fun _ => ?_) (fun _ => ?_)) | (with_reducible refine k9q_ifb (fun _ => ?_) (fun _ => ?_)))
    all_goals exact k9o_ret ⟨_, _, rfl, hI'⟩
end KT16

/-! SEEN: judge, since; what a trial shows -/
section KT17
variable {S : k9_S} {d : Nat} {I I' : k9_I} {J J' : k9_J} {w : Nat → Nat → Nat} {V : (Nat → Int32) → Int32} {b : Nat} {x1 x2 x3 : Int32} {h c : Nat → Nat} {L A f M : Nat}
def k9_byr (I : k9_I) (s z : Nat) : Prop := I 11 s 0 = nI 2 ∧ I 11 s 2 = nI 0 ∧ I 11 s 3 = nI z ∧ I 60 0 s = nI 0 ∧ I 61 0 s = nI z ∧ z ≤ 60
def k9_nb (I : k9_I) (s : Nat) (r : Int32) : Prop := (I 11 s 0 = nI 0 ∧ I 60 0 s = -1 ∧ r = -11) ∨ (r = -12 ∧ ((I 11 s 0 = nI 1 ∧ ∃ y : Nat, y < 50 ∧ I 60 0 s = nI (10 + y)) ∨ (I 11 s 0 = nI 2 ∧ ∃ q : Nat, 1 ≤ q ∧ q ≤ 4 ∧ I 11 s 2 = nI q ∧ I 60 0 s = nI q)))
theorem k9_byrs {s : Nat} (hb : b ≤ 50) (hs : k9_Sh I J b s) : (∃ z, k9_byr I s z) ∨ ∃ r, k9_nb I s r := by
  rcases hs with ⟨a1, a2⟩ | ⟨a1, y, a2, a3, a4⟩ | ⟨a1, q, z, a2, a3, a4, a5, a6, a7, a8⟩
  · exact Or.inr ⟨-11, Or.inl ⟨a1, a2, rfl⟩⟩
  · exact Or.inr ⟨-12, Or.inr ⟨rfl, Or.inl ⟨a1, y, by omega, a4⟩⟩⟩
  · by_cases hq : q = 0
    · subst hq
      exact Or.inl ⟨z, a1, a4, a5, a6, a7, a3⟩
    · exact Or.inr ⟨-12, Or.inr ⟨rfl, Or.inr ⟨a1, q, by omega, a2, a4, a6⟩⟩⟩
theorem k9_by_t {s z : Nat} (e11 : I' 11 s = I 11 s) (e60 : I' 60 0 s = I 60 0 s) (e61 : I' 61 0 s = I 61 0 s) (h : k9_byr I s z) : k9_byr I' s z := by
  unfold k9_byr
  rw [e11, e60, e61]
  exact h
theorem k9_nb_t {s : Nat} {r : Int32} (e11 : I' 11 s = I 11 s) (e60 : I' 60 0 s = I 60 0 s) (h : k9_nb I s r) : k9_nb I' s r := by
  unfold k9_nb
  rw [e11, e60]
  exact h
theorem k9s_91 {s z : Nat} (h : k9_byr I s z) : k9_R S d 91 0 [some (k9_r 11 s)] [] I J = some (some (k9_i 1), I, J) := by
  obtain ⟨h1, h2, -⟩ := h
  refine k9o_of ?_
  simp (disch := omega) only [k9e_91_0, k9e_91_4, k9e_91_7, k9e_91_9, k9e_91_10, Nat.reduceEqDiff, Int.reduceEq, Int.reduceLT, Int.reduceLE, k9_ps_s, k9_ps_n, k9_ur, false_and, and_false, true_and, and_true, true_or, or_true, false_or, or_false, eq_self, ↓reduceIte, not_true_eq_false, not_false_eq_true, n_toInt, n_cl, nI_1, nI_add, n_a0, n_p2, n_p3, n_p4, n_x2, n_x3, n_x4, n_x60, n_x100, n_pm1, k9L_m2, k9L_m1, k9L_0, k9L_1, k9L_2, k9L_3, k9L_4, k9L_5, k9L_6, k9L_7, k9L_8, k9L_9, k9L_10, k9L_20, k9L_23, k9L_24, k9L_30, k9L_40, k9L_50, k9L_60, k9L_99, k9L_100, k9L_120, k9L_255, k9L_999, k9L_1000, k9_bs, k9_ba, h1, h2]
  repeat (first | ((with_reducible refine k9q_T ?_ ?_); · omega) | ((with_reducible refine k9q_F ?_ ?_); · omega) | ((with_reducible refine k9q_Tb ?_ ?_); · omega) | ((with_reducible refine k9q_Fb ?_ ?_); · omega) | simp (disch := omega) only [k9e_91_0, k9e_91_4, k9e_91_7, k9e_91_9, k9e_91_10, Nat.reduceEqDiff, Int.reduceEq, Int.reduceLT, Int.reduceLE, k9_ps_s, k9_ps_n, k9_ur, false_and, and_false, true_and, and_true, true_or, or_true, false_or, or_false, eq_self, ↓reduceIte, not_true_eq_false, not_false_eq_true, n_toInt, n_cl, nI_1, nI_add, n_a0, n_p2, n_p3, n_p4, n_x2, n_x3, n_x4, n_x60, n_x100, n_pm1, k9L_m2, k9L_m1, k9L_0, k9L_1, k9L_2, k9L_3, k9L_4, k9L_5, k9L_6, k9L_7, k9L_8, k9L_9, k9L_10, k9L_20, k9L_23, k9L_24, k9L_30, k9L_40, k9L_50, k9L_60, k9L_99, k9L_100, k9L_120, k9L_255, k9L_999, k9L_1000, k9_bs, k9_ba, h1, h2])
  exact k9o_ret rfl
theorem k9s_91x {s : Nat} {r : Int32} (h : k9_nb I s r) : k9_R S d 91 0 [some (k9_r 11 s)] [] I J = some (some (k9_i 0), I, J) := by
  refine k9o_of ?_
  rcases h with ⟨h1, -⟩ | ⟨-, ⟨h1, -⟩ | ⟨h1, q, h2, h3, h4, -⟩⟩
  · simp (disch := omega) only [k9e_91_0, k9e_91_4, k9e_91_7, k9e_91_9, k9e_91_10, Nat.reduceEqDiff, Int.reduceEq, Int.reduceLT, Int.reduceLE, k9_ps_s, k9_ps_n, k9_ur, false_and, and_false, true_and, and_true, true_or, or_true, false_or, or_false, eq_self, ↓reduceIte, not_true_eq_false, not_false_eq_true, n_toInt, n_cl, nI_1, nI_add, n_a0, n_p2, n_p3, n_p4, n_x2, n_x3, n_x4, n_x60, n_x100, n_pm1, k9L_m2, k9L_m1, k9L_0, k9L_1, k9L_2, k9L_3, k9L_4, k9L_5, k9L_6, k9L_7, k9L_8, k9L_9, k9L_10, k9L_20, k9L_23, k9L_24, k9L_30, k9L_40, k9L_50, k9L_60, k9L_99, k9L_100, k9L_120, k9L_255, k9L_999, k9L_1000, k9_bs, k9_ba, h1]
    repeat (first | ((with_reducible refine k9q_T ?_ ?_); · omega) | ((with_reducible refine k9q_F ?_ ?_); · omega) | ((with_reducible refine k9q_Tb ?_ ?_); · omega) | ((with_reducible refine k9q_Fb ?_ ?_); · omega) | simp (disch := omega) only [k9e_91_0, k9e_91_4, k9e_91_7, k9e_91_9, k9e_91_10, Nat.reduceEqDiff, Int.reduceEq, Int.reduceLT, Int.reduceLE, k9_ps_s, k9_ps_n, k9_ur, false_and, and_false, true_and, and_true, true_or, or_true, false_or, or_false, eq_self, ↓reduceIte, not_true_eq_false, not_false_eq_true, n_toInt, n_cl, nI_1, nI_add, n_a0, n_p2, n_p3, n_p4, n_x2, n_x3, n_x4, n_x60, n_x100, n_pm1, k9L_m2, k9L_m1, k9L_0, k9L_1, k9L_2, k9L_3, k9L_4, k9L_5, k9L_6, k9L_7, k9L_8, k9L_9, k9L_10, k9L_20, k9L_23, k9L_24, k9L_30, k9L_40, k9L_50, k9L_60, k9L_99, k9L_100, k9L_120, k9L_255, k9L_999, k9L_1000, k9_bs, k9_ba, h1])
    exact k9o_ret rfl
  · simp (disch := omega) only [k9e_91_0, k9e_91_4, k9e_91_7, k9e_91_9, k9e_91_10, Nat.reduceEqDiff, Int.reduceEq, Int.reduceLT, Int.reduceLE, k9_ps_s, k9_ps_n, k9_ur, false_and, and_false, true_and, and_true, true_or, or_true, false_or, or_false, eq_self, ↓reduceIte, not_true_eq_false, not_false_eq_true, n_toInt, n_cl, nI_1, nI_add, n_a0, n_p2, n_p3, n_p4, n_x2, n_x3, n_x4, n_x60, n_x100, n_pm1, k9L_m2, k9L_m1, k9L_0, k9L_1, k9L_2, k9L_3, k9L_4, k9L_5, k9L_6, k9L_7, k9L_8, k9L_9, k9L_10, k9L_20, k9L_23, k9L_24, k9L_30, k9L_40, k9L_50, k9L_60, k9L_99, k9L_100, k9L_120, k9L_255, k9L_999, k9L_1000, k9_bs, k9_ba, h1]
    repeat (first | ((with_reducible refine k9q_T ?_ ?_); · omega) | ((with_reducible refine k9q_F ?_ ?_); · omega) | ((with_reducible refine k9q_Tb ?_ ?_); · omega) | ((with_reducible refine k9q_Fb ?_ ?_); · omega) | simp (disch := omega) only [k9e_91_0, k9e_91_4, k9e_91_7, k9e_91_9, k9e_91_10, Nat.reduceEqDiff, Int.reduceEq, Int.reduceLT, Int.reduceLE, k9_ps_s, k9_ps_n, k9_ur, false_and, and_false, true_and, and_true, true_or, or_true, false_or, or_false, eq_self, ↓reduceIte, not_true_eq_false, not_false_eq_true, n_toInt, n_cl, nI_1, nI_add, n_a0, n_p2, n_p3, n_p4, n_x2, n_x3, n_x4, n_x60, n_x100, n_pm1, k9L_m2, k9L_m1, k9L_0, k9L_1, k9L_2, k9L_3, k9L_4, k9L_5, k9L_6, k9L_7, k9L_8, k9L_9, k9L_10, k9L_20, k9L_23, k9L_24, k9L_30, k9L_40, k9L_50, k9L_60, k9L_99, k9L_100, k9L_120, k9L_255, k9L_999, k9L_1000, k9_bs, k9_ba, h1])
    exact k9o_ret rfl
  · simp (disch := omega) only [k9e_91_0, k9e_91_4, k9e_91_7, k9e_91_9, k9e_91_10, Nat.reduceEqDiff, Int.reduceEq, Int.reduceLT, Int.reduceLE, k9_ps_s, k9_ps_n, k9_ur, false_and, and_false, true_and, and_true, true_or, or_true, false_or, or_false, eq_self, ↓reduceIte, not_true_eq_false, not_false_eq_true, n_toInt, n_cl, nI_1, nI_add, n_a0, n_p2, n_p3, n_p4, n_x2, n_x3, n_x4, n_x60, n_x100, n_pm1, k9L_m2, k9L_m1, k9L_0, k9L_1, k9L_2, k9L_3, k9L_4, k9L_5, k9L_6, k9L_7, k9L_8, k9L_9, k9L_10, k9L_20, k9L_23, k9L_24, k9L_30, k9L_40, k9L_50, k9L_60, k9L_99, k9L_100, k9L_120, k9L_255, k9L_999, k9L_1000, k9_bs, k9_ba, h1, h4]
    repeat (first | ((with_reducible refine k9q_T ?_ ?_); · omega) | ((with_reducible refine k9q_F ?_ ?_); · omega) | ((with_reducible refine k9q_Tb ?_ ?_); · omega) | ((with_reducible refine k9q_Fb ?_ ?_); · omega) | simp (disch := omega) only [k9e_91_0, k9e_91_4, k9e_91_7, k9e_91_9, k9e_91_10, Nat.reduceEqDiff, Int.reduceEq, Int.reduceLT, Int.reduceLE, k9_ps_s, k9_ps_n, k9_ur, false_and, and_false, true_and, and_true, true_or, or_true, false_or, or_false, eq_self, ↓reduceIte, not_true_eq_false, not_false_eq_true, n_toInt, n_cl, nI_1, nI_add, n_a0, n_p2, n_p3, n_p4, n_x2, n_x3, n_x4, n_x60, n_x100, n_pm1, k9L_m2, k9L_m1, k9L_0, k9L_1, k9L_2, k9L_3, k9L_4, k9L_5, k9L_6, k9L_7, k9L_8, k9L_9, k9L_10, k9L_20, k9L_23, k9L_24, k9L_30, k9L_40, k9L_50, k9L_60, k9L_99, k9L_100, k9L_120, k9L_255, k9L_999, k9L_1000, k9_bs, k9_ba, h1, h4])
    exact k9o_ret rfl
theorem k9s_92 {s : Nat} {r : Int32} (h : k9_nb I s r) : k9_R S d 92 0 [some (k9_r 11 s)] [] I J = some (some (k9_i r), I, J) := by
  refine k9o_of ?_
  rcases h with ⟨h1, -, rfl⟩ | ⟨rfl, ⟨h1, -⟩ | ⟨h1, -⟩⟩
  · simp (disch := omega) only [k9e_92_0, k9e_92_3, k9e_92_5, k9e_92_6, Nat.reduceEqDiff, Int.reduceEq, Int.reduceLT, Int.reduceLE, k9_ps_s, k9_ps_n, k9_ur, false_and, and_false, true_and, and_true, true_or, or_true, false_or, or_false, eq_self, ↓reduceIte, not_true_eq_false, not_false_eq_true, n_toInt, n_cl, nI_1, nI_add, n_a0, n_p2, n_p3, n_p4, n_x2, n_x3, n_x4, n_x60, n_x100, n_pm1, k9L_m2, k9L_m1, k9L_0, k9L_1, k9L_2, k9L_3, k9L_4, k9L_5, k9L_6, k9L_7, k9L_8, k9L_9, k9L_10, k9L_20, k9L_23, k9L_24, k9L_30, k9L_40, k9L_50, k9L_60, k9L_99, k9L_100, k9L_120, k9L_255, k9L_999, k9L_1000, k9_bs, k9_ba, h1]
    repeat (first | ((with_reducible refine k9q_T ?_ ?_); · omega) | ((with_reducible refine k9q_F ?_ ?_); · omega) | ((with_reducible refine k9q_Tb ?_ ?_); · omega) | ((with_reducible refine k9q_Fb ?_ ?_); · omega) | simp (disch := omega) only [k9e_92_0, k9e_92_3, k9e_92_5, k9e_92_6, Nat.reduceEqDiff, Int.reduceEq, Int.reduceLT, Int.reduceLE, k9_ps_s, k9_ps_n, k9_ur, false_and, and_false, true_and, and_true, true_or, or_true, false_or, or_false, eq_self, ↓reduceIte, not_true_eq_false, not_false_eq_true, n_toInt, n_cl, nI_1, nI_add, n_a0, n_p2, n_p3, n_p4, n_x2, n_x3, n_x4, n_x60, n_x100, n_pm1, k9L_m2, k9L_m1, k9L_0, k9L_1, k9L_2, k9L_3, k9L_4, k9L_5, k9L_6, k9L_7, k9L_8, k9L_9, k9L_10, k9L_20, k9L_23, k9L_24, k9L_30, k9L_40, k9L_50, k9L_60, k9L_99, k9L_100, k9L_120, k9L_255, k9L_999, k9L_1000, k9_bs, k9_ba, h1])
    exact k9o_ret rfl
  · simp (disch := omega) only [k9e_92_0, k9e_92_3, k9e_92_5, k9e_92_6, Nat.reduceEqDiff, Int.reduceEq, Int.reduceLT, Int.reduceLE, k9_ps_s, k9_ps_n, k9_ur, false_and, and_false, true_and, and_true, true_or, or_true, false_or, or_false, eq_self, ↓reduceIte, not_true_eq_false, not_false_eq_true, n_toInt, n_cl, nI_1, nI_add, n_a0, n_p2, n_p3, n_p4, n_x2, n_x3, n_x4, n_x60, n_x100, n_pm1, k9L_m2, k9L_m1, k9L_0, k9L_1, k9L_2, k9L_3, k9L_4, k9L_5, k9L_6, k9L_7, k9L_8, k9L_9, k9L_10, k9L_20, k9L_23, k9L_24, k9L_30, k9L_40, k9L_50, k9L_60, k9L_99, k9L_100, k9L_120, k9L_255, k9L_999, k9L_1000, k9_bs, k9_ba, h1]
    repeat (first | ((with_reducible refine k9q_T ?_ ?_); · omega) | ((with_reducible refine k9q_F ?_ ?_); · omega) | ((with_reducible refine k9q_Tb ?_ ?_); · omega) | ((with_reducible refine k9q_Fb ?_ ?_); · omega) | simp (disch := omega) only [k9e_92_0, k9e_92_3, k9e_92_5, k9e_92_6, Nat.reduceEqDiff, Int.reduceEq, Int.reduceLT, Int.reduceLE, k9_ps_s, k9_ps_n, k9_ur, false_and, and_false, true_and, and_true, true_or, or_true, false_or, or_false, eq_self, ↓reduceIte, not_true_eq_false, not_false_eq_true, n_toInt, n_cl, nI_1, nI_add, n_a0, n_p2, n_p3, n_p4, n_x2, n_x3, n_x4, n_x60, n_x100, n_pm1, k9L_m2, k9L_m1, k9L_0, k9L_1, k9L_2, k9L_3, k9L_4, k9L_5, k9L_6, k9L_7, k9L_8, k9L_9, k9L_10, k9L_20, k9L_23, k9L_24, k9L_30, k9L_40, k9L_50, k9L_60, k9L_99, k9L_100, k9L_120, k9L_255, k9L_999, k9L_1000, k9_bs, k9_ba, h1])
    exact k9o_ret rfl
  · simp (disch := omega) only [k9e_92_0, k9e_92_3, k9e_92_5, k9e_92_6, Nat.reduceEqDiff, Int.reduceEq, Int.reduceLT, Int.reduceLE, k9_ps_s, k9_ps_n, k9_ur, false_and, and_false, true_and, and_true, true_or, or_true, false_or, or_false, eq_self, ↓reduceIte, not_true_eq_false, not_false_eq_true, n_toInt, n_cl, nI_1, nI_add, n_a0, n_p2, n_p3, n_p4, n_x2, n_x3, n_x4, n_x60, n_x100, n_pm1, k9L_m2, k9L_m1, k9L_0, k9L_1, k9L_2, k9L_3, k9L_4, k9L_5, k9L_6, k9L_7, k9L_8, k9L_9, k9L_10, k9L_20, k9L_23, k9L_24, k9L_30, k9L_40, k9L_50, k9L_60, k9L_99, k9L_100, k9L_120, k9L_255, k9L_999, k9L_1000, k9_bs, k9_ba, h1]
    repeat (first | ((with_reducible refine k9q_T ?_ ?_); · omega) | ((with_reducible refine k9q_F ?_ ?_); · omega) | ((with_reducible refine k9q_Tb ?_ ?_); · omega) | ((with_reducible refine k9q_Fb ?_ ?_); · omega) | simp (disch := omega) only [k9e_92_0, k9e_92_3, k9e_92_5, k9e_92_6, Nat.reduceEqDiff, Int.reduceEq, Int.reduceLT, Int.reduceLE, k9_ps_s, k9_ps_n, k9_ur, false_and, and_false, true_and, and_true, true_or, or_true, false_or, or_false, eq_self, ↓reduceIte, not_true_eq_false, not_false_eq_true, n_toInt, n_cl, nI_1, nI_add, n_a0, n_p2, n_p3, n_p4, n_x2, n_x3, n_x4, n_x60, n_x100, n_pm1, k9L_m2, k9L_m1, k9L_0, k9L_1, k9L_2, k9L_3, k9L_4, k9L_5, k9L_6, k9L_7, k9L_8, k9L_9, k9L_10, k9L_20, k9L_23, k9L_24, k9L_30, k9L_40, k9L_50, k9L_60, k9L_99, k9L_100, k9L_120, k9L_255, k9L_999, k9L_1000, k9_bs, k9_ba, h1])
    exact k9o_ret rfl
theorem k9s_208 {s z : Nat} (hs : s < 6) (h : k9_byr I s z) : k9_R S d 208 0 [some (k9_r 12 0), some (k9_i (nI s))] [] I J = some (some (k9_i 0), I, J) := by
  obtain ⟨-, -, -, h1, -⟩ := h
  refine k9o_of ?_
  simp (disch := omega) only [k9e_208_0, k9e_208_4, k9e_208_6, k9e_208_8, k9e_208_12, k9e_208_13, k9e_208_15, k9e_208_16, Nat.reduceEqDiff, Int.reduceEq, Int.reduceLT, Int.reduceLE, k9_ps_s, k9_ps_n, k9_ur, false_and, and_false, true_and, and_true, true_or, or_true, false_or, or_false, eq_self, ↓reduceIte, not_true_eq_false, not_false_eq_true, n_toInt, n_cl, nI_1, nI_add, n_a0, n_p2, n_p3, n_p4, n_x2, n_x3, n_x4, n_x60, n_x100, n_pm1, k9L_m2, k9L_m1, k9L_0, k9L_1, k9L_2, k9L_3, k9L_4, k9L_5, k9L_6, k9L_7, k9L_8, k9L_9, k9L_10, k9L_20, k9L_23, k9L_24, k9L_30, k9L_40, k9L_50, k9L_60, k9L_99, k9L_100, k9L_120, k9L_255, k9L_999, k9L_1000, k9_bs, k9_ba, h1]
  repeat (first | ((with_reducible refine k9q_T ?_ ?_); · omega) | ((with_reducible refine k9q_F ?_ ?_); · omega) | ((with_reducible refine k9q_Tb ?_ ?_); · omega) | ((with_reducible refine k9q_Fb ?_ ?_); · omega) | simp (disch := omega) only [k9e_208_0, k9e_208_4, k9e_208_6, k9e_208_8, k9e_208_12, k9e_208_13, k9e_208_15, k9e_208_16, Nat.reduceEqDiff, Int.reduceEq, Int.reduceLT, Int.reduceLE, k9_ps_s, k9_ps_n, k9_ur, false_and, and_false, true_and, and_true, true_or, or_true, false_or, or_false, eq_self, ↓reduceIte, not_true_eq_false, not_false_eq_true, n_toInt, n_cl, nI_1, nI_add, n_a0, n_p2, n_p3, n_p4, n_x2, n_x3, n_x4, n_x60, n_x100, n_pm1, k9L_m2, k9L_m1, k9L_0, k9L_1, k9L_2, k9L_3, k9L_4, k9L_5, k9L_6, k9L_7, k9L_8, k9L_9, k9L_10, k9L_20, k9L_23, k9L_24, k9L_30, k9L_40, k9L_50, k9L_60, k9L_99, k9L_100, k9L_120, k9L_255, k9L_999, k9L_1000, k9_bs, k9_ba, h1])
  exact k9o_ret rfl
theorem k9s_208x {s : Nat} {r : Int32} (hs : s < 6) (h : k9_nb I s r) : k9_R S d 208 0 [some (k9_r 12 0), some (k9_i (nI s))] [] I J = some (some (k9_i r), I, J) := by
  refine k9o_of ?_
  rcases h with ⟨-, h1, rfl⟩ | ⟨rfl, ⟨-, y, hy, h1⟩ | ⟨-, q, h2, h3, -, h1⟩⟩
  · simp (disch := omega) only [k9e_208_0, k9e_208_4, k9e_208_6, k9e_208_8, k9e_208_12, k9e_208_13, k9e_208_15, k9e_208_16, Nat.reduceEqDiff, Int.reduceEq, Int.reduceLT, Int.reduceLE, k9_ps_s, k9_ps_n, k9_ur, false_and, and_false, true_and, and_true, true_or, or_true, false_or, or_false, eq_self, ↓reduceIte, not_true_eq_false, not_false_eq_true, n_toInt, n_cl, nI_1, nI_add, n_a0, n_p2, n_p3, n_p4, n_x2, n_x3, n_x4, n_x60, n_x100, n_pm1, k9L_m2, k9L_m1, k9L_0, k9L_1, k9L_2, k9L_3, k9L_4, k9L_5, k9L_6, k9L_7, k9L_8, k9L_9, k9L_10, k9L_20, k9L_23, k9L_24, k9L_30, k9L_40, k9L_50, k9L_60, k9L_99, k9L_100, k9L_120, k9L_255, k9L_999, k9L_1000, k9_bs, k9_ba, h1]
    repeat (first | ((with_reducible refine k9q_T ?_ ?_); · omega) | ((with_reducible refine k9q_F ?_ ?_); · omega) | ((with_reducible refine k9q_Tb ?_ ?_); · omega) | ((with_reducible refine k9q_Fb ?_ ?_); · omega) | simp (disch := omega) only [k9e_208_0, k9e_208_4, k9e_208_6, k9e_208_8, k9e_208_12, k9e_208_13, k9e_208_15, k9e_208_16, Nat.reduceEqDiff, Int.reduceEq, Int.reduceLT, Int.reduceLE, k9_ps_s, k9_ps_n, k9_ur, false_and, and_false, true_and, and_true, true_or, or_true, false_or, or_false, eq_self, ↓reduceIte, not_true_eq_false, not_false_eq_true, n_toInt, n_cl, nI_1, nI_add, n_a0, n_p2, n_p3, n_p4, n_x2, n_x3, n_x4, n_x60, n_x100, n_pm1, k9L_m2, k9L_m1, k9L_0, k9L_1, k9L_2, k9L_3, k9L_4, k9L_5, k9L_6, k9L_7, k9L_8, k9L_9, k9L_10, k9L_20, k9L_23, k9L_24, k9L_30, k9L_40, k9L_50, k9L_60, k9L_99, k9L_100, k9L_120, k9L_255, k9L_999, k9L_1000, k9_bs, k9_ba, h1])
    exact k9o_ret rfl
  · simp (disch := omega) only [k9e_208_0, k9e_208_4, k9e_208_6, k9e_208_8, k9e_208_12, k9e_208_13, k9e_208_15, k9e_208_16, Nat.reduceEqDiff, Int.reduceEq, Int.reduceLT, Int.reduceLE, k9_ps_s, k9_ps_n, k9_ur, false_and, and_false, true_and, and_true, true_or, or_true, false_or, or_false, eq_self, ↓reduceIte, not_true_eq_false, not_false_eq_true, n_toInt, n_cl, nI_1, nI_add, n_a0, n_p2, n_p3, n_p4, n_x2, n_x3, n_x4, n_x60, n_x100, n_pm1, k9L_m2, k9L_m1, k9L_0, k9L_1, k9L_2, k9L_3, k9L_4, k9L_5, k9L_6, k9L_7, k9L_8, k9L_9, k9L_10, k9L_20, k9L_23, k9L_24, k9L_30, k9L_40, k9L_50, k9L_60, k9L_99, k9L_100, k9L_120, k9L_255, k9L_999, k9L_1000, k9_bs, k9_ba, h1]
    repeat (first | ((with_reducible refine k9q_T ?_ ?_); · omega) | ((with_reducible refine k9q_F ?_ ?_); · omega) | ((with_reducible refine k9q_Tb ?_ ?_); · omega) | ((with_reducible refine k9q_Fb ?_ ?_); · omega) | simp (disch := omega) only [k9e_208_0, k9e_208_4, k9e_208_6, k9e_208_8, k9e_208_12, k9e_208_13, k9e_208_15, k9e_208_16, Nat.reduceEqDiff, Int.reduceEq, Int.reduceLT, Int.reduceLE, k9_ps_s, k9_ps_n, k9_ur, false_and, and_false, true_and, and_true, true_or, or_true, false_or, or_false, eq_self, ↓reduceIte, not_true_eq_false, not_false_eq_true, n_toInt, n_cl, nI_1, nI_add, n_a0, n_p2, n_p3, n_p4, n_x2, n_x3, n_x4, n_x60, n_x100, n_pm1, k9L_m2, k9L_m1, k9L_0, k9L_1, k9L_2, k9L_3, k9L_4, k9L_5, k9L_6, k9L_7, k9L_8, k9L_9, k9L_10, k9L_20, k9L_23, k9L_24, k9L_30, k9L_40, k9L_50, k9L_60, k9L_99, k9L_100, k9L_120, k9L_255, k9L_999, k9L_1000, k9_bs, k9_ba, h1])
    exact k9o_ret rfl
  · simp (disch := omega) only [k9e_208_0, k9e_208_4, k9e_208_6, k9e_208_8, k9e_208_12, k9e_208_13, k9e_208_15, k9e_208_16, Nat.reduceEqDiff, Int.reduceEq, Int.reduceLT, Int.reduceLE, k9_ps_s, k9_ps_n, k9_ur, false_and, and_false, true_and, and_true, true_or, or_true, false_or, or_false, eq_self, ↓reduceIte, not_true_eq_false, not_false_eq_true, n_toInt, n_cl, nI_1, nI_add, n_a0, n_p2, n_p3, n_p4, n_x2, n_x3, n_x4, n_x60, n_x100, n_pm1, k9L_m2, k9L_m1, k9L_0, k9L_1, k9L_2, k9L_3, k9L_4, k9L_5, k9L_6, k9L_7, k9L_8, k9L_9, k9L_10, k9L_20, k9L_23, k9L_24, k9L_30, k9L_40, k9L_50, k9L_60, k9L_99, k9L_100, k9L_120, k9L_255, k9L_999, k9L_1000, k9_bs, k9_ba, h1]
    repeat (first | ((with_reducible refine k9q_T ?_ ?_); · omega) | ((with_reducible refine k9q_F ?_ ?_); · omega) | ((with_reducible refine k9q_Tb ?_ ?_); · omega) | ((with_reducible refine k9q_Fb ?_ ?_); · omega) | simp (disch := omega) only [k9e_208_0, k9e_208_4, k9e_208_6, k9e_208_8, k9e_208_12, k9e_208_13, k9e_208_15, k9e_208_16, Nat.reduceEqDiff, Int.reduceEq, Int.reduceLT, Int.reduceLE, k9_ps_s, k9_ps_n, k9_ur, false_and, and_false, true_and, and_true, true_or, or_true, false_or, or_false, eq_self, ↓reduceIte, not_true_eq_false, not_false_eq_true, n_toInt, n_cl, nI_1, nI_add, n_a0, n_p2, n_p3, n_p4, n_x2, n_x3, n_x4, n_x60, n_x100, n_pm1, k9L_m2, k9L_m1, k9L_0, k9L_1, k9L_2, k9L_3, k9L_4, k9L_5, k9L_6, k9L_7, k9L_8, k9L_9, k9L_10, k9L_20, k9L_23, k9L_24, k9L_30, k9L_40, k9L_50, k9L_60, k9L_99, k9L_100, k9L_120, k9L_255, k9L_999, k9L_1000, k9_bs, k9_ba, h1])
    exact k9o_ret rfl
theorem k9_nb_r {s : Nat} {r : Int32} (h : k9_nb I s r) : r.toInt < 0 := by
  rcases h with ⟨-, -, rfl⟩ | ⟨rfl, -⟩ <;> decide
theorem k9s_216 {s t z : Nat} (hR : k9_Mr I L h c) (hs : s < 6) (hz : z ≤ 60) (hn : I 61 0 s = nI z) (ht : t ≤ 999) (hJ : ∀ p, p < 60 → J 62 0 (60 * s + p) = J 37 s p) : k9_R S (d + 1) 216 0 [some (k9_r 12 0), some (k9_i (nI s)), some (k9_i (nI t)), none] [] I J = some (some (k9_i (p_fu h (fun i => (J 37 s i).toInt32) t z 0)), I, J) := by
  have key : ∀ k i, i + k = z → k9_R S (d + 1) 216 2 [some (k9_r 12 0), some (k9_i (nI s)), some (k9_i (nI t)), some (k9_i (nI i))] [] I J = some (some (k9_i (p_fu h (fun i => (J 37 s i).toInt32) t k i)), I, J) := by
    intro k
    induction k with
    | zero =>
      intro i hi
      refine k9o_of (k9o_eq k9e_216_2 ?_)
      simp (disch := omega) only [k9e_216_0, k9e_216_7, k9e_216_8, k9e_216_13, k9e_216_17, k9e_216_23, k9e_216_24, k9e_216_26, k9e_216_28, Nat.reduceEqDiff, Int.reduceEq, Int.reduceLT, Int.reduceLE, k9_ps_s, k9_ps_n, k9_ur, false_and, and_false, true_and, and_true, true_or, or_true, false_or, or_false, eq_self, ↓reduceIte, not_true_eq_false, not_false_eq_true, n_toInt, n_cl, nI_1, nI_add, n_a0, n_p2, n_p3, n_p4, n_x2, n_x3, n_x4, n_x60, n_x100, n_pm1, k9L_m2, k9L_m1, k9L_0, k9L_1, k9L_2, k9L_3, k9L_4, k9L_5, k9L_6, k9L_7, k9L_8, k9L_9, k9L_10, k9L_20, k9L_23, k9L_24, k9L_30, k9L_40, k9L_50, k9L_60, k9L_99, k9L_100, k9L_120, k9L_255, k9L_999, k9L_1000, k9_bs, k9_ba, hn]
      repeat (first | ((with_reducible refine k9q_T ?_ ?_); · omega) | ((with_reducible refine k9q_F ?_ ?_); · omega) | ((with_reducible refine k9q_Tb ?_ ?_); · omega) | ((with_reducible refine k9q_Fb ?_ ?_); · omega) | simp (disch := omega) only [k9e_216_0, k9e_216_7, k9e_216_8, k9e_216_13, k9e_216_17, k9e_216_23, k9e_216_24, k9e_216_26, k9e_216_28, Nat.reduceEqDiff, Int.reduceEq, Int.reduceLT, Int.reduceLE, k9_ps_s, k9_ps_n, k9_ur, false_and, and_false, true_and, and_true, true_or, or_true, false_or, or_false, eq_self, ↓reduceIte, not_true_eq_false, not_false_eq_true, n_toInt, n_cl, nI_1, nI_add, n_a0, n_p2, n_p3, n_p4, n_x2, n_x3, n_x4, n_x60, n_x100, n_pm1, k9L_m2, k9L_m1, k9L_0, k9L_1, k9L_2, k9L_3, k9L_4, k9L_5, k9L_6, k9L_7, k9L_8, k9L_9, k9L_10, k9L_20, k9L_23, k9L_24, k9L_30, k9L_40, k9L_50, k9L_60, k9L_99, k9L_100, k9L_120, k9L_255, k9L_999, k9L_1000, k9_bs, k9_ba, hn])
      exact k9o_ret rfl
    | succ k ih =>
      intro i hi
      have e := ih (i + 1) (by omega)
      have hj := hJ i (by omega)
      refine k9o_of (k9o_eq k9e_216_2 ?_)
      by_cases h9 : 999 < t + i
      · rw [p_fu_1 (Or.inl h9)]
        simp (disch := omega) only [k9e_216_0, k9e_216_7, k9e_216_8, k9e_216_13, k9e_216_17, k9e_216_23, k9e_216_24, k9e_216_26, k9e_216_28, Nat.reduceEqDiff, Int.reduceEq, Int.reduceLT, Int.reduceLE, k9_ps_s, k9_ps_n, k9_ur, false_and, and_false, true_and, and_true, true_or, or_true, false_or, or_false, eq_self, ↓reduceIte, not_true_eq_false, not_false_eq_true, n_toInt, n_cl, nI_1, nI_add, n_a0, n_p2, n_p3, n_p4, n_x2, n_x3, n_x4, n_x60, n_x100, n_pm1, k9L_m2, k9L_m1, k9L_0, k9L_1, k9L_2, k9L_3, k9L_4, k9L_5, k9L_6, k9L_7, k9L_8, k9L_9, k9L_10, k9L_20, k9L_23, k9L_24, k9L_30, k9L_40, k9L_50, k9L_60, k9L_99, k9L_100, k9L_120, k9L_255, k9L_999, k9L_1000, k9_bs, k9_ba, hn]
        repeat (first | ((with_reducible refine k9q_T ?_ ?_); · omega) | ((with_reducible refine k9q_F ?_ ?_); · omega) | ((with_reducible refine k9q_Tb ?_ ?_); · omega) | ((with_reducible refine k9q_Fb ?_ ?_); · omega) | simp (disch := omega) only [k9e_216_0, k9e_216_7, k9e_216_8, k9e_216_13, k9e_216_17, k9e_216_23, k9e_216_24, k9e_216_26, k9e_216_28, Nat.reduceEqDiff, Int.reduceEq, Int.reduceLT, Int.reduceLE, k9_ps_s, k9_ps_n, k9_ur, false_and, and_false, true_and, and_true, true_or, or_true, false_or, or_false, eq_self, ↓reduceIte, not_true_eq_false, not_false_eq_true, n_toInt, n_cl, nI_1, nI_add, n_a0, n_p2, n_p3, n_p4, n_x2, n_x3, n_x4, n_x60, n_x100, n_pm1, k9L_m2, k9L_m1, k9L_0, k9L_1, k9L_2, k9L_3, k9L_4, k9L_5, k9L_6, k9L_7, k9L_8, k9L_9, k9L_10, k9L_20, k9L_23, k9L_24, k9L_30, k9L_40, k9L_50, k9L_60, k9L_99, k9L_100, k9L_120, k9L_255, k9L_999, k9L_1000, k9_bs, k9_ba, hn])
        exact k9o_ret rfl
      · have a := (hR.2 (t + i) (by omega)).2.2
        by_cases hc : nI (h (t + i)) = (J 37 s i).toInt32
        · rw [p_fu_2 h9 hc]
          simp (disch := omega) only [k9e_216_0, k9e_216_7, k9e_216_8, k9e_216_13, k9e_216_17, k9e_209_0, k9e_209_8, Nat.reduceEqDiff, Int.reduceEq, Int.reduceLT, Int.reduceLE, k9_ps_s, k9_ps_n, k9_ur, false_and, and_false, true_and, and_true, true_or, or_true, false_or, or_false, eq_self, ↓reduceIte, not_true_eq_false, not_false_eq_true, n_toInt, n_cl, nI_1, nI_add, n_a0, n_p2, n_p3, n_p4, n_x2, n_x3, n_x4, n_x60, n_x100, n_pm1, k9L_m2, k9L_m1, k9L_0, k9L_1, k9L_2, k9L_3, k9L_4, k9L_5, k9L_6, k9L_7, k9L_8, k9L_9, k9L_10, k9L_20, k9L_23, k9L_24, k9L_30, k9L_40, k9L_50, k9L_60, k9L_99, k9L_100, k9L_120, k9L_255, k9L_999, k9L_1000, k9_bs, k9_ba, hn, hj, a]
          repeat (first | ((with_reducible refine k9q_T ?_ ?_); · omega) | ((with_reducible refine k9q_F ?_ ?_); · omega) | ((with_reducible refine k9q_Tb ?_ ?_); · omega) | ((with_reducible refine k9q_Fb ?_ ?_); · omega) | simp (disch := omega) only [k9e_216_0, k9e_216_7, k9e_216_8, k9e_216_13, k9e_216_17, k9e_209_0, k9e_209_8, Nat.reduceEqDiff, Int.reduceEq, Int.reduceLT, Int.reduceLE, k9_ps_s, k9_ps_n, k9_ur, false_and, and_false, true_and, and_true, true_or, or_true, false_or, or_false, eq_self, ↓reduceIte, not_true_eq_false, not_false_eq_true, n_toInt, n_cl, nI_1, nI_add, n_a0, n_p2, n_p3, n_p4, n_x2, n_x3, n_x4, n_x60, n_x100, n_pm1, k9L_m2, k9L_m1, k9L_0, k9L_1, k9L_2, k9L_3, k9L_4, k9L_5, k9L_6, k9L_7, k9L_8, k9L_9, k9L_10, k9L_20, k9L_23, k9L_24, k9L_30, k9L_40, k9L_50, k9L_60, k9L_99, k9L_100, k9L_120, k9L_255, k9L_999, k9L_1000, k9_bs, k9_ba, hn, hj, a])
          refine k9o_eq k9e_216_23 (k9o_T (by rw [hc]) ?_)
          simp (disch := omega) only [k9e_216_0, k9e_216_7, k9e_216_8, k9e_216_13, k9e_216_17, k9e_216_23, k9e_216_24, k9e_216_26, k9e_216_28, Nat.reduceEqDiff, Int.reduceEq, Int.reduceLT, Int.reduceLE, k9_ps_s, k9_ps_n, k9_ur, false_and, and_false, true_and, and_true, true_or, or_true, false_or, or_false, eq_self, ↓reduceIte, not_true_eq_false, not_false_eq_true, n_toInt, n_cl, nI_1, nI_add, n_a0, n_p2, n_p3, n_p4, n_x2, n_x3, n_x4, n_x60, n_x100, n_pm1, k9L_m2, k9L_m1, k9L_0, k9L_1, k9L_2, k9L_3, k9L_4, k9L_5, k9L_6, k9L_7, k9L_8, k9L_9, k9L_10, k9L_20, k9L_23, k9L_24, k9L_30, k9L_40, k9L_50, k9L_60, k9L_99, k9L_100, k9L_120, k9L_255, k9L_999, k9L_1000, k9_bs, k9_ba]
          exact k9o_to e rfl
        · rw [p_fu_1 (Or.inr hc)]
          simp (disch := omega) only [k9e_216_0, k9e_216_7, k9e_216_8, k9e_216_13, k9e_216_17, k9e_209_0, k9e_209_8, Nat.reduceEqDiff, Int.reduceEq, Int.reduceLT, Int.reduceLE, k9_ps_s, k9_ps_n, k9_ur, false_and, and_false, true_and, and_true, true_or, or_true, false_or, or_false, eq_self, ↓reduceIte, not_true_eq_false, not_false_eq_true, n_toInt, n_cl, nI_1, nI_add, n_a0, n_p2, n_p3, n_p4, n_x2, n_x3, n_x4, n_x60, n_x100, n_pm1, k9L_m2, k9L_m1, k9L_0, k9L_1, k9L_2, k9L_3, k9L_4, k9L_5, k9L_6, k9L_7, k9L_8, k9L_9, k9L_10, k9L_20, k9L_23, k9L_24, k9L_30, k9L_40, k9L_50, k9L_60, k9L_99, k9L_100, k9L_120, k9L_255, k9L_999, k9L_1000, k9_bs, k9_ba, hn, hj, a]
          repeat (first | ((with_reducible refine k9q_T ?_ ?_); · omega) | ((with_reducible refine k9q_F ?_ ?_); · omega) | ((with_reducible refine k9q_Tb ?_ ?_); · omega) | ((with_reducible refine k9q_Fb ?_ ?_); · omega) | simp (disch := omega) only [k9e_216_0, k9e_216_7, k9e_216_8, k9e_216_13, k9e_216_17, k9e_209_0, k9e_209_8, Nat.reduceEqDiff, Int.reduceEq, Int.reduceLT, Int.reduceLE, k9_ps_s, k9_ps_n, k9_ur, false_and, and_false, true_and, and_true, true_or, or_true, false_or, or_false, eq_self, ↓reduceIte, not_true_eq_false, not_false_eq_true, n_toInt, n_cl, nI_1, nI_add, n_a0, n_p2, n_p3, n_p4, n_x2, n_x3, n_x4, n_x60, n_x100, n_pm1, k9L_m2, k9L_m1, k9L_0, k9L_1, k9L_2, k9L_3, k9L_4, k9L_5, k9L_6, k9L_7, k9L_8, k9L_9, k9L_10, k9L_20, k9L_23, k9L_24, k9L_30, k9L_40, k9L_50, k9L_60, k9L_99, k9L_100, k9L_120, k9L_255, k9L_999, k9L_1000, k9_bs, k9_ba, hn, hj, a])
          refine k9o_eq k9e_216_23 (k9o_F (fun z => hc (n_ext z.symm)) ?_)
          simp (disch := omega) only [k9e_216_0, k9e_216_7, k9e_216_8, k9e_216_13, k9e_216_17, k9e_216_23, k9e_216_24, k9e_216_26, k9e_216_28, Nat.reduceEqDiff, Int.reduceEq, Int.reduceLT, Int.reduceLE, k9_ps_s, k9_ps_n, k9_ur, false_and, and_false, true_and, and_true, true_or, or_true, false_or, or_false, eq_self, ↓reduceIte, not_true_eq_false, not_false_eq_true, n_toInt, n_cl, nI_1, nI_add, n_a0, n_p2, n_p3, n_p4, n_x2, n_x3, n_x4, n_x60, n_x100, n_pm1, k9L_m2, k9L_m1, k9L_0, k9L_1, k9L_2, k9L_3, k9L_4, k9L_5, k9L_6, k9L_7, k9L_8, k9L_9, k9L_10, k9L_20, k9L_23, k9L_24, k9L_30, k9L_40, k9L_50, k9L_60, k9L_99, k9L_100, k9L_120, k9L_255, k9L_999, k9L_1000, k9_bs, k9_ba]
          exact k9o_ret rfl
  rw [k9e_216_0]
  exact key z 0 (by omega)
theorem t_judge (hI : k9_Inv I J) : k9_P S (d + 20) 120 217 [some (k9_r 1 0), some (k9_i x1), some (k9_i x2), none] [some (k9_r 12 0), some (k9_i x1), some (k9_i x2), none] I J k9_Inv := by
  have hI' := hI
  obtain ⟨w, V, b, v⟩ := hI
  have v : k9_Iv I J w V b := v
  have hf := v.1.2.2.1
  have hlen := p_len_b hf
  have hb := v.2.2.2.2.1.1
  have v6 := v.2.2.2.2.2.1
  refine k9P_of ?_
  by_cases h1 : 0 ≤ x1.toInt ∧ x1.toInt ≤ 5
  · by_cases h2 : 0 ≤ x2.toInt ∧ x2.toInt ≤ 999
    · obtain ⟨s, rfl, hs, -⟩ := n_of (x := x1) (by omega)
      obtain ⟨t, rfl, ht, -⟩ := n_of (x := x2) (by omega)
      have hs6 : s < 6 := by omega
      rcases k9_byrs hb (v6.1 s hs6) with ⟨z, hz⟩ | ⟨r, hr⟩
      · obtain ⟨I1, e1, b1, i1⟩ := k9s_148 (S := S) (d := d + 13) v
        have v61 := i1.2.2.2.2.2.1
        have same : ∀ I2 : k9_I, k9_Iv I2 J w V b → k9_vS I2 J b := fun I2 i2 => i2.2.2.2.2.2.1
        have k9b : ∀ I2 : k9_I, I2 11 s = I 11 s → I2 60 0 s = I 60 0 s → I2 61 0 s = I 61 0 s → k9_byr I2 s z := fun I2 a b c => k9_by_t a b c hz
        obtain ⟨I1', e1', b1', r1', f1'⟩ := k9s_148w (S := S) (d := d + 13) (J := J) v.1 v.2.2.1 v.2.2.2.2.2.2.2.1
        have hII : I1' = I1 := by
          rw [e1] at e1'
          exact ((Prod.mk.inj (Option.some.inj e1')).2 |> fun q => (Prod.mk.inj q).1).symm
        rw [hII] at f1'
        have by1 := k9b I1 (funext fun p => f1' 11 s p rfl) (f1' 60 0 s rfl) (f1' 61 0 s rfl)
        have e66 := k9s_66 (S := S) (d := d + 17) (J := J) (t := t) (n := z) (i1 := s) b1 (Nat.zero_le _) by1.2.2.1 hz.2.2.2.2.2 (by omega) (by omega) (Or.inr rfl)
        simp (disch := omega) only [k9e_120_0, k9e_120_3, k9e_120_3b, k9e_120_8, k9e_120_9, k9e_120_9b, k9e_120_11, k9e_120_13, k9e_120_14, k9e_120_16, k9e_120_19, k9e_120_20, k9e_120_22, k9e_144_0, k9e_144_2, k9e_144_5, k9e_144_9, k9e_144_10, k9e_144_11, k9e_144_11b, k9e_145_0, k9e_145_2, k9e_145_5, k9e_145_7, k9e_145_8, Nat.reduceEqDiff, Int.reduceEq, Int.reduceLT, Int.reduceLE, k9_ps_s, k9_ps_n, k9_ur, false_and, and_false, true_and, and_true, true_or, or_true, false_or, or_false, eq_self, ↓reduceIte, not_true_eq_false, not_false_eq_true, n_toInt, n_cl, nI_1, nI_add, n_a0, n_p2, n_p3, n_p4, n_x2, n_x3, n_x4, n_x60, n_x100, n_pm1, k9L_m2, k9L_m1, k9L_0, k9L_1, k9L_2, k9L_3, k9L_4, k9L_5, k9L_6, k9L_7, k9L_8, k9L_9, k9L_10, k9L_20, k9L_23, k9L_24, k9L_30, k9L_40, k9L_50, k9L_60, k9L_99, k9L_100, k9L_120, k9L_255, k9L_999, k9L_1000, k9_bs, k9_ba]
        repeat (first | ((with_reducible refine k9q_T ?_ ?_); · omega) | ((with_reducible refine k9q_F ?_ ?_); · omega) | ((with_reducible refine k9q_Tb ?_ ?_); · omega) | ((with_reducible refine k9q_Fb ?_ ?_); · omega) | (refine k9o_call (k9s_91 hz) ?_; simp (disch := omega) only [k9e_120_0, k9e_120_3, k9e_120_3b, k9e_120_8, k9e_120_9, k9e_120_9b, k9e_120_11, k9e_120_13, k9e_120_14, k9e_120_16, k9e_120_19, k9e_120_20, k9e_120_22, k9e_144_0, k9e_144_2, k9e_144_5, k9e_144_9, k9e_144_10, k9e_144_11, k9e_144_11b, k9e_145_0, k9e_145_2, k9e_145_5, k9e_145_7, k9e_145_8, Nat.reduceEqDiff, Int.reduceEq, Int.reduceLT, Int.reduceLE, k9_ps_s, k9_ps_n, k9_ur, false_and, and_false, true_and, and_true, true_or, or_true, false_or, or_false, eq_self, ↓reduceIte, not_true_eq_false, not_false_eq_true, n_toInt, n_cl, nI_1, nI_add, n_a0, n_p2, n_p3, n_p4, n_x2, n_x3, n_x4, n_x60, n_x100, n_pm1, k9L_m2, k9L_m1, k9L_0, k9L_1, k9L_2, k9L_3, k9L_4, k9L_5, k9L_6, k9L_7, k9L_8, k9L_9, k9L_10, k9L_20, k9L_23, k9L_24, k9L_30, k9L_40, k9L_50, k9L_60, k9L_99, k9L_100, k9L_120, k9L_255, k9L_999, k9L_1000, k9_bs, k9_ba]) | (refine k9o_call (e1) ?_; simp (disch := omega) only [k9e_120_0, k9e_120_3, k9e_120_3b, k9e_120_8, k9e_120_9, k9e_120_9b, k9e_120_11, k9e_120_13, k9e_120_14, k9e_120_16, k9e_120_19, k9e_120_20, k9e_120_22, k9e_144_0, k9e_144_2, k9e_144_5, k9e_144_9, k9e_144_10, k9e_144_11, k9e_144_11b, k9e_145_0, k9e_145_2, k9e_145_5, k9e_145_7, k9e_145_8, Nat.reduceEqDiff, Int.reduceEq, Int.reduceLT, Int.reduceLE, k9_ps_s, k9_ps_n, k9_ur, false_and, and_false, true_and, and_true, true_or, or_true, false_or, or_false, eq_self, ↓reduceIte, not_true_eq_false, not_false_eq_true, n_toInt, n_cl, nI_1, nI_add, n_a0, n_p2, n_p3, n_p4, n_x2, n_x3, n_x4, n_x60, n_x100, n_pm1, k9L_m2, k9L_m1, k9L_0, k9L_1, k9L_2, k9L_3, k9L_4, k9L_5, k9L_6, k9L_7, k9L_8, k9L_9, k9L_10, k9L_20, k9L_23, k9L_24, k9L_30, k9L_40, k9L_50, k9L_60, k9L_99, k9L_100, k9L_120, k9L_255, k9L_999, k9L_1000, k9_bs, k9_ba]) | (refine k9o_call (e66) ?_; simp (disch := omega) only [k9e_120_0, k9e_120_3, k9e_120_3b, k9e_120_8, k9e_120_9, k9e_120_9b, k9e_120_11, k9e_120_13, k9e_120_14, k9e_120_16, k9e_120_19, k9e_120_20, k9e_120_22, k9e_144_0, k9e_144_2, k9e_144_5, k9e_144_9, k9e_144_10, k9e_144_11, k9e_144_11b, k9e_145_0, k9e_145_2, k9e_145_5, k9e_145_7, k9e_145_8, Nat.reduceEqDiff, Int.reduceEq, Int.reduceLT, Int.reduceLE, k9_ps_s, k9_ps_n, k9_ur, false_and, and_false, true_and, and_true, true_or, or_true, false_or, or_false, eq_self, ↓reduceIte, not_true_eq_false, not_false_eq_true, n_toInt, n_cl, nI_1, nI_add, n_a0, n_p2, n_p3, n_p4, n_x2, n_x3, n_x4, n_x60, n_x100, n_pm1, k9L_m2, k9L_m1, k9L_0, k9L_1, k9L_2, k9L_3, k9L_4, k9L_5, k9L_6, k9L_7, k9L_8, k9L_9, k9L_10, k9L_20, k9L_23, k9L_24, k9L_30, k9L_40, k9L_50, k9L_60, k9L_99, k9L_100, k9L_120, k9L_255, k9L_999, k9L_1000, k9_bs, k9_ba]) | simp (disch := omega) only [k9e_120_0, k9e_120_3, k9e_120_3b, k9e_120_8, k9e_120_9, k9e_120_9b, k9e_120_11, k9e_120_13, k9e_120_14, k9e_120_16, k9e_120_19, k9e_120_20, k9e_120_22, k9e_144_0, k9e_144_2, k9e_144_5, k9e_144_9, k9e_144_10, k9e_144_11, k9e_144_11b, k9e_145_0, k9e_145_2, k9e_145_5, k9e_145_7, k9e_145_8, Nat.reduceEqDiff, Int.reduceEq, Int.reduceLT, Int.reduceLE, k9_ps_s, k9_ps_n, k9_ur, false_and, and_false, true_and, and_true, true_or, or_true, false_or, or_false, eq_self, ↓reduceIte, not_true_eq_false, not_false_eq_true, n_toInt, n_cl, nI_1, nI_add, n_a0, n_p2, n_p3, n_p4, n_x2, n_x3, n_x4, n_x60, n_x100, n_pm1, k9L_m2, k9L_m1, k9L_0, k9L_1, k9L_2, k9L_3, k9L_4, k9L_5, k9L_6, k9L_7, k9L_8, k9L_9, k9L_10, k9L_20, k9L_23, k9L_24, k9L_30, k9L_40, k9L_50, k9L_60, k9L_99, k9L_100, k9L_120, k9L_255, k9L_999, k9L_1000, k9_bs, k9_ba])
        refine k9o_ret ⟨_, _, _, rfl, ?_⟩
        obtain ⟨I2, e2, m2, x2⟩ := k9s_190 (S := S) (d := d + 14) (J := J) i1.1.2.1 hf i1.2.2.1.2
        have i2 : k9_Iv I2 J w V b := k9_Iv_0 (k9_fp_x x2 (k9_Fq_X rfl)) i1
        have e216 := k9s_216 (S := S) (d := d + 18) (J := J) (s := s) (t := t) (z := z) m2 hs6 hz.2.2.2.2.2 ((x2 61 0 s rfl).trans by1.2.2.2.2.1) (by omega) (fun p hp => v6.2 s hs6 p hp)
        simp (disch := omega) only [k9e_217_0, k9e_217_2, k9e_217_3, k9e_217_5, k9e_217_6, k9e_217_8, k9e_217_11, k9e_217_14, k9e_217_16, k9e_217_18, k9e_217_22, k9e_155_0, k9e_155_4, k9e_156_0, k9e_156_4, Nat.reduceEqDiff, Int.reduceEq, Int.reduceLT, Int.reduceLE, k9_ps_s, k9_ps_n, k9_ur, false_and, and_false, true_and, and_true, true_or, or_true, false_or, or_false, eq_self, ↓reduceIte, not_true_eq_false, not_false_eq_true, n_toInt, n_cl, nI_1, nI_add, n_a0, n_p2, n_p3, n_p4, n_x2, n_x3, n_x4, n_x60, n_x100, n_pm1, k9L_m2, k9L_m1, k9L_0, k9L_1, k9L_2, k9L_3, k9L_4, k9L_5, k9L_6, k9L_7, k9L_8, k9L_9, k9L_10, k9L_20, k9L_23, k9L_24, k9L_30, k9L_40, k9L_50, k9L_60, k9L_99, k9L_100, k9L_120, k9L_255, k9L_999, k9L_1000, k9_bs, k9_ba]
        repeat (first | ((with_reducible refine k9q_T ?_ ?_); · omega) | ((with_reducible refine k9q_F ?_ ?_); · omega) | ((with_reducible refine k9q_Tb ?_ ?_); · omega) | ((with_reducible refine k9q_Fb ?_ ?_); · omega) | (refine k9o_call (k9s_153 (by first | omega | (simp (disch := omega) only [n_toInt, n_pm1, k9L_m2, k9L_m1, k9L_0, k9L_1, k9L_2, k9L_3, k9L_4, k9L_5, k9L_6, k9L_7, k9L_8, k9L_9, k9L_10, k9L_20, k9L_23, k9L_24, k9L_30, k9L_40, k9L_50, k9L_60, k9L_99, k9L_100, k9L_120, k9L_255, k9L_999, k9L_1000]; omega))) ?_; simp (disch := omega) only [k9e_217_0, k9e_217_2, k9e_217_3, k9e_217_5, k9e_217_6, k9e_217_8, k9e_217_11, k9e_217_14, k9e_217_16, k9e_217_18, k9e_217_22, k9e_155_0, k9e_155_4, k9e_156_0, k9e_156_4, Nat.reduceEqDiff, Int.reduceEq, Int.reduceLT, Int.reduceLE, k9_ps_s, k9_ps_n, k9_ur, false_and, and_false, true_and, and_true, true_or, or_true, false_or, or_false, eq_self, ↓reduceIte, not_true_eq_false, not_false_eq_true, n_toInt, n_cl, nI_1, nI_add, n_a0, n_p2, n_p3, n_p4, n_x2, n_x3, n_x4, n_x60, n_x100, n_pm1, k9L_m2, k9L_m1, k9L_0, k9L_1, k9L_2, k9L_3, k9L_4, k9L_5, k9L_6, k9L_7, k9L_8, k9L_9, k9L_10, k9L_20, k9L_23, k9L_24, k9L_30, k9L_40, k9L_50, k9L_60, k9L_99, k9L_100, k9L_120, k9L_255, k9L_999, k9L_1000, k9_bs, k9_ba]) | (refine k9o_call (k9s_153x (by first | omega | (simp (disch := omega) only [n_toInt, n_pm1, k9L_m2, k9L_m1, k9L_0, k9L_1, k9L_2, k9L_3, k9L_4, k9L_5, k9L_6, k9L_7, k9L_8, k9L_9, k9L_10, k9L_20, k9L_23, k9L_24, k9L_30, k9L_40, k9L_50, k9L_60, k9L_99, k9L_100, k9L_120, k9L_255, k9L_999, k9L_1000]; omega))) ?_; simp (disch := omega) only [k9e_217_0, k9e_217_2, k9e_217_3, k9e_217_5, k9e_217_6, k9e_217_8, k9e_217_11, k9e_217_14, k9e_217_16, k9e_217_18, k9e_217_22, k9e_155_0, k9e_155_4, k9e_156_0, k9e_156_4, Nat.reduceEqDiff, Int.reduceEq, Int.reduceLT, Int.reduceLE, k9_ps_s, k9_ps_n, k9_ur, false_and, and_false, true_and, and_true, true_or, or_true, false_or, or_false, eq_self, ↓reduceIte, not_true_eq_false, not_false_eq_true, n_toInt, n_cl, nI_1, nI_add, n_a0, n_p2, n_p3, n_p4, n_x2, n_x3, n_x4, n_x60, n_x100, n_pm1, k9L_m2, k9L_m1, k9L_0, k9L_1, k9L_2, k9L_3, k9L_4, k9L_5, k9L_6, k9L_7, k9L_8, k9L_9, k9L_10, k9L_20, k9L_23, k9L_24, k9L_30, k9L_40, k9L_50, k9L_60, k9L_99, k9L_100, k9L_120, k9L_255, k9L_999, k9L_1000, k9_bs, k9_ba]) | (refine k9o_call (k9s_208 hs6 by1) ?_; simp (disch := omega) only [k9e_217_0, k9e_217_2, k9e_217_3, k9e_217_5, k9e_217_6, k9e_217_8, k9e_217_11, k9e_217_14, k9e_217_16, k9e_217_18, k9e_217_22, k9e_155_0, k9e_155_4, k9e_156_0, k9e_156_4, Nat.reduceEqDiff, Int.reduceEq, Int.reduceLT, Int.reduceLE, k9_ps_s, k9_ps_n, k9_ur, false_and, and_false, true_and, and_true, true_or, or_true, false_or, or_false, eq_self, ↓reduceIte, not_true_eq_false, not_false_eq_true, n_toInt, n_cl, nI_1, nI_add, n_a0, n_p2, n_p3, n_p4, n_x2, n_x3, n_x4, n_x60, n_x100, n_pm1, k9L_m2, k9L_m1, k9L_0, k9L_1, k9L_2, k9L_3, k9L_4, k9L_5, k9L_6, k9L_7, k9L_8, k9L_9, k9L_10, k9L_20, k9L_23, k9L_24, k9L_30, k9L_40, k9L_50, k9L_60, k9L_99, k9L_100, k9L_120, k9L_255, k9L_999, k9L_1000, k9_bs, k9_ba]) | (refine k9o_call (e2) ?_; simp (disch := omega) only [k9e_217_0, k9e_217_2, k9e_217_3, k9e_217_5, k9e_217_6, k9e_217_8, k9e_217_11, k9e_217_14, k9e_217_16, k9e_217_18, k9e_217_22, k9e_155_0, k9e_155_4, k9e_156_0, k9e_156_4, Nat.reduceEqDiff, Int.reduceEq, Int.reduceLT, Int.reduceLE, k9_ps_s, k9_ps_n, k9_ur, false_and, and_false, true_and, and_true, true_or, or_true, false_or, or_false, eq_self, ↓reduceIte, not_true_eq_false, not_false_eq_true, n_toInt, n_cl, nI_1, nI_add, n_a0, n_p2, n_p3, n_p4, n_x2, n_x3, n_x4, n_x60, n_x100, n_pm1, k9L_m2, k9L_m1, k9L_0, k9L_1, k9L_2, k9L_3, k9L_4, k9L_5, k9L_6, k9L_7, k9L_8, k9L_9, k9L_10, k9L_20, k9L_23, k9L_24, k9L_30, k9L_40, k9L_50, k9L_60, k9L_99, k9L_100, k9L_120, k9L_255, k9L_999, k9L_1000, k9_bs, k9_ba]) | (refine k9o_call (e216) ?_; simp (disch := omega) only [k9e_217_0, k9e_217_2, k9e_217_3, k9e_217_5, k9e_217_6, k9e_217_8, k9e_217_11, k9e_217_14, k9e_217_16, k9e_217_18, k9e_217_22, k9e_155_0, k9e_155_4, k9e_156_0, k9e_156_4, Nat.reduceEqDiff, Int.reduceEq, Int.reduceLT, Int.reduceLE, k9_ps_s, k9_ps_n, k9_ur, false_and, and_false, true_and, and_true, true_or, or_true, false_or, or_false, eq_self, ↓reduceIte, not_true_eq_false, not_false_eq_true, n_toInt, n_cl, nI_1, nI_add, n_a0, n_p2, n_p3, n_p4, n_x2, n_x3, n_x4, n_x60, n_x100, n_pm1, k9L_m2, k9L_m1, k9L_0, k9L_1, k9L_2, k9L_3, k9L_4, k9L_5, k9L_6, k9L_7, k9L_8, k9L_9, k9L_10, k9L_20, k9L_23, k9L_24, k9L_30, k9L_40, k9L_50, k9L_60, k9L_99, k9L_100, k9L_120, k9L_255, k9L_999, k9L_1000, k9_bs, k9_ba]) | simp (disch := omega) only [k9e_217_0, k9e_217_2, k9e_217_3, k9e_217_5, k9e_217_6, k9e_217_8, k9e_217_11, k9e_217_14, k9e_217_16, k9e_217_18, k9e_217_22, k9e_155_0, k9e_155_4, k9e_156_0, k9e_156_4, Nat.reduceEqDiff, Int.reduceEq, Int.reduceLT, Int.reduceLE, k9_ps_s, k9_ps_n, k9_ur, false_and, and_false, true_and, and_true, true_or, or_true, false_or, or_false, eq_self, ↓reduceIte, not_true_eq_false, not_false_eq_true, n_toInt, n_cl, nI_1, nI_add, n_a0, n_p2, n_p3, n_p4, n_x2, n_x3, n_x4, n_x60, n_x100, n_pm1, k9L_m2, k9L_m1, k9L_0, k9L_1, k9L_2, k9L_3, k9L_4, k9L_5, k9L_6, k9L_7, k9L_8, k9L_9, k9L_10, k9L_20, k9L_23, k9L_24, k9L_30, k9L_40, k9L_50, k9L_60, k9L_99, k9L_100, k9L_120, k9L_255, k9L_999, k9L_1000, k9_bs, k9_ba])
        exact k9o_ret ⟨_, _, rfl, k9_Iv_e i2⟩
      · have hrr := k9_nb_r hr
        simp (disch := omega) only [k9e_120_0, k9e_120_3, k9e_120_3b, k9e_120_8, k9e_120_9, k9e_120_9b, k9e_120_11, k9e_120_13, k9e_120_14, k9e_120_16, k9e_120_19, k9e_120_20, k9e_120_22, k9e_144_0, k9e_144_2, k9e_144_5, k9e_144_9, k9e_144_10, k9e_144_11, k9e_144_11b, k9e_145_0, k9e_145_2, k9e_145_5, k9e_145_7, k9e_145_8, Nat.reduceEqDiff, Int.reduceEq, Int.reduceLT, Int.reduceLE, k9_ps_s, k9_ps_n, k9_ur, false_and, and_false, true_and, and_true, true_or, or_true, false_or, or_false, eq_self, ↓reduceIte, not_true_eq_false, not_false_eq_true, n_toInt, n_cl, nI_1, nI_add, n_a0, n_p2, n_p3, n_p4, n_x2, n_x3, n_x4, n_x60, n_x100, n_pm1, k9L_m2, k9L_m1, k9L_0, k9L_1, k9L_2, k9L_3, k9L_4, k9L_5, k9L_6, k9L_7, k9L_8, k9L_9, k9L_10, k9L_20, k9L_23, k9L_24, k9L_30, k9L_40, k9L_50, k9L_60, k9L_99, k9L_100, k9L_120, k9L_255, k9L_999, k9L_1000, k9_bs, k9_ba]
        repeat (first | ((with_reducible refine k9q_T ?_ ?_); · omega) | ((with_reducible refine k9q_F ?_ ?_); · omega) | ((with_reducible refine k9q_Tb ?_ ?_); · omega) | ((with_reducible refine k9q_Fb ?_ ?_); · omega) | (refine k9o_call (k9s_91x hr) ?_; simp (disch := omega) only [k9e_120_0, k9e_120_3, k9e_120_3b, k9e_120_8, k9e_120_9, k9e_120_9b, k9e_120_11, k9e_120_13, k9e_120_14, k9e_120_16, k9e_120_19, k9e_120_20, k9e_120_22, k9e_144_0, k9e_144_2, k9e_144_5, k9e_144_9, k9e_144_10, k9e_144_11, k9e_144_11b, k9e_145_0, k9e_145_2, k9e_145_5, k9e_145_7, k9e_145_8, Nat.reduceEqDiff, Int.reduceEq, Int.reduceLT, Int.reduceLE, k9_ps_s, k9_ps_n, k9_ur, false_and, and_false, true_and, and_true, true_or, or_true, false_or, or_false, eq_self, ↓reduceIte, not_true_eq_false, not_false_eq_true, n_toInt, n_cl, nI_1, nI_add, n_a0, n_p2, n_p3, n_p4, n_x2, n_x3, n_x4, n_x60, n_x100, n_pm1, k9L_m2, k9L_m1, k9L_0, k9L_1, k9L_2, k9L_3, k9L_4, k9L_5, k9L_6, k9L_7, k9L_8, k9L_9, k9L_10, k9L_20, k9L_23, k9L_24, k9L_30, k9L_40, k9L_50, k9L_60, k9L_99, k9L_100, k9L_120, k9L_255, k9L_999, k9L_1000, k9_bs, k9_ba]) | (refine k9o_call (k9s_92 hr) ?_; simp (disch := omega) only [k9e_120_0, k9e_120_3, k9e_120_3b, k9e_120_8, k9e_120_9, k9e_120_9b, k9e_120_11, k9e_120_13, k9e_120_14, k9e_120_16, k9e_120_19, k9e_120_20, k9e_120_22, k9e_144_0, k9e_144_2, k9e_144_5, k9e_144_9, k9e_144_10, k9e_144_11, k9e_144_11b, k9e_145_0, k9e_145_2, k9e_145_5, k9e_145_7, k9e_145_8, Nat.reduceEqDiff, Int.reduceEq, Int.reduceLT, Int.reduceLE, k9_ps_s, k9_ps_n, k9_ur, false_and, and_false, true_and, and_true, true_or, or_true, false_or, or_false, eq_self, ↓reduceIte, not_true_eq_false, not_false_eq_true, n_toInt, n_cl, nI_1, nI_add, n_a0, n_p2, n_p3, n_p4, n_x2, n_x3, n_x4, n_x60, n_x100, n_pm1, k9L_m2, k9L_m1, k9L_0, k9L_1, k9L_2, k9L_3, k9L_4, k9L_5, k9L_6, k9L_7, k9L_8, k9L_9, k9L_10, k9L_20, k9L_23, k9L_24, k9L_30, k9L_40, k9L_50, k9L_60, k9L_99, k9L_100, k9L_120, k9L_255, k9L_999, k9L_1000, k9_bs, k9_ba]) | simp (disch := omega) only [k9e_120_0, k9e_120_3, k9e_120_3b, k9e_120_8, k9e_120_9, k9e_120_9b, k9e_120_11, k9e_120_13, k9e_120_14, k9e_120_16, k9e_120_19, k9e_120_20, k9e_120_22, k9e_144_0, k9e_144_2, k9e_144_5, k9e_144_9, k9e_144_10, k9e_144_11, k9e_144_11b, k9e_145_0, k9e_145_2, k9e_145_5, k9e_145_7, k9e_145_8, Nat.reduceEqDiff, Int.reduceEq, Int.reduceLT, Int.reduceLE, k9_ps_s, k9_ps_n, k9_ur, false_and, and_false, true_and, and_true, true_or, or_true, false_or, or_false, eq_self, ↓reduceIte, not_true_eq_false, not_false_eq_true, n_toInt, n_cl, nI_1, nI_add, n_a0, n_p2, n_p3, n_p4, n_x2, n_x3, n_x4, n_x60, n_x100, n_pm1, k9L_m2, k9L_m1, k9L_0, k9L_1, k9L_2, k9L_3, k9L_4, k9L_5, k9L_6, k9L_7, k9L_8, k9L_9, k9L_10, k9L_20, k9L_23, k9L_24, k9L_30, k9L_40, k9L_50, k9L_60, k9L_99, k9L_100, k9L_120, k9L_255, k9L_999, k9L_1000, k9_bs, k9_ba])
        refine k9o_ret ⟨_, _, _, rfl, ?_⟩
        simp (disch := omega) only [k9e_217_0, k9e_217_2, k9e_217_3, k9e_217_5, k9e_217_6, k9e_217_8, k9e_217_11, k9e_217_14, k9e_217_16, k9e_217_18, k9e_217_22, k9e_155_0, k9e_155_4, k9e_156_0, k9e_156_4, Nat.reduceEqDiff, Int.reduceEq, Int.reduceLT, Int.reduceLE, k9_ps_s, k9_ps_n, k9_ur, false_and, and_false, true_and, and_true, true_or, or_true, false_or, or_false, eq_self, ↓reduceIte, not_true_eq_false, not_false_eq_true, n_toInt, n_cl, nI_1, nI_add, n_a0, n_p2, n_p3, n_p4, n_x2, n_x3, n_x4, n_x60, n_x100, n_pm1, k9L_m2, k9L_m1, k9L_0, k9L_1, k9L_2, k9L_3, k9L_4, k9L_5, k9L_6, k9L_7, k9L_8, k9L_9, k9L_10, k9L_20, k9L_23, k9L_24, k9L_30, k9L_40, k9L_50, k9L_60, k9L_99, k9L_100, k9L_120, k9L_255, k9L_999, k9L_1000, k9_bs, k9_ba]
        repeat (first | ((with_reducible refine k9q_T ?_ ?_); · omega) | ((with_reducible refine k9q_F ?_ ?_); · omega) | ((with_reducible refine k9q_Tb ?_ ?_); · omega) | ((with_reducible refine k9q_Fb ?_ ?_); · omega) | (refine k9o_call (k9s_153 (by first | omega | (simp (disch := omega) only [n_toInt, n_pm1, k9L_m2, k9L_m1, k9L_0, k9L_1, k9L_2, k9L_3, k9L_4, k9L_5, k9L_6, k9L_7, k9L_8, k9L_9, k9L_10, k9L_20, k9L_23, k9L_24, k9L_30, k9L_40, k9L_50, k9L_60, k9L_99, k9L_100, k9L_120, k9L_255, k9L_999, k9L_1000]; omega))) ?_; simp (disch := omega) only [k9e_217_0, k9e_217_2, k9e_217_3, k9e_217_5, k9e_217_6, k9e_217_8, k9e_217_11, k9e_217_14, k9e_217_16, k9e_217_18, k9e_217_22, k9e_155_0, k9e_155_4, k9e_156_0, k9e_156_4, Nat.reduceEqDiff, Int.reduceEq, Int.reduceLT, Int.reduceLE, k9_ps_s, k9_ps_n, k9_ur, false_and, and_false, true_and, and_true, true_or, or_true, false_or, or_false, eq_self, ↓reduceIte, not_true_eq_false, not_false_eq_true, n_toInt, n_cl, nI_1, nI_add, n_a0, n_p2, n_p3, n_p4, n_x2, n_x3, n_x4, n_x60, n_x100, n_pm1, k9L_m2, k9L_m1, k9L_0, k9L_1, k9L_2, k9L_3, k9L_4, k9L_5, k9L_6, k9L_7, k9L_8, k9L_9, k9L_10, k9L_20, k9L_23, k9L_24, k9L_30, k9L_40, k9L_50, k9L_60, k9L_99, k9L_100, k9L_120, k9L_255, k9L_999, k9L_1000, k9_bs, k9_ba]) | (refine k9o_call (k9s_153x (by first | omega | (simp (disch := omega) only [n_toInt, n_pm1, k9L_m2, k9L_m1, k9L_0, k9L_1, k9L_2, k9L_3, k9L_4, k9L_5, k9L_6, k9L_7, k9L_8, k9L_9, k9L_10, k9L_20, k9L_23, k9L_24, k9L_30, k9L_40, k9L_50, k9L_60, k9L_99, k9L_100, k9L_120, k9L_255, k9L_999, k9L_1000]; omega))) ?_; simp (disch := omega) only [k9e_217_0, k9e_217_2, k9e_217_3, k9e_217_5, k9e_217_6, k9e_217_8, k9e_217_11, k9e_217_14, k9e_217_16, k9e_217_18, k9e_217_22, k9e_155_0, k9e_155_4, k9e_156_0, k9e_156_4, Nat.reduceEqDiff, Int.reduceEq, Int.reduceLT, Int.reduceLE, k9_ps_s, k9_ps_n, k9_ur, false_and, and_false, true_and, and_true, true_or, or_true, false_or, or_false, eq_self, ↓reduceIte, not_true_eq_false, not_false_eq_true, n_toInt, n_cl, nI_1, nI_add, n_a0, n_p2, n_p3, n_p4, n_x2, n_x3, n_x4, n_x60, n_x100, n_pm1, k9L_m2, k9L_m1, k9L_0, k9L_1, k9L_2, k9L_3, k9L_4, k9L_5, k9L_6, k9L_7, k9L_8, k9L_9, k9L_10, k9L_20, k9L_23, k9L_24, k9L_30, k9L_40, k9L_50, k9L_60, k9L_99, k9L_100, k9L_120, k9L_255, k9L_999, k9L_1000, k9_bs, k9_ba]) | (refine k9o_call (k9s_208x hs6 hr) ?_; simp (disch := omega) only [k9e_217_0, k9e_217_2, k9e_217_3, k9e_217_5, k9e_217_6, k9e_217_8, k9e_217_11, k9e_217_14, k9e_217_16, k9e_217_18, k9e_217_22, k9e_155_0, k9e_155_4, k9e_156_0, k9e_156_4, Nat.reduceEqDiff, Int.reduceEq, Int.reduceLT, Int.reduceLE, k9_ps_s, k9_ps_n, k9_ur, false_and, and_false, true_and, and_true, true_or, or_true, false_or, or_false, eq_self, ↓reduceIte, not_true_eq_false, not_false_eq_true, n_toInt, n_cl, nI_1, nI_add, n_a0, n_p2, n_p3, n_p4, n_x2, n_x3, n_x4, n_x60, n_x100, n_pm1, k9L_m2, k9L_m1, k9L_0, k9L_1, k9L_2, k9L_3, k9L_4, k9L_5, k9L_6, k9L_7, k9L_8, k9L_9, k9L_10, k9L_20, k9L_23, k9L_24, k9L_30, k9L_40, k9L_50, k9L_60, k9L_99, k9L_100, k9L_120, k9L_255, k9L_999, k9L_1000, k9_bs, k9_ba]) | simp (disch := omega) only [k9e_217_0, k9e_217_2, k9e_217_3, k9e_217_5, k9e_217_6, k9e_217_8, k9e_217_11, k9e_217_14, k9e_217_16, k9e_217_18, k9e_217_22, k9e_155_0, k9e_155_4, k9e_156_0, k9e_156_4, Nat.reduceEqDiff, Int.reduceEq, Int.reduceLT, Int.reduceLE, k9_ps_s, k9_ps_n, k9_ur, false_and, and_false, true_and, and_true, true_or, or_true, false_or, or_false, eq_self, ↓reduceIte, not_true_eq_false, not_false_eq_true, n_toInt, n_cl, nI_1, nI_add, n_a0, n_p2, n_p3, n_p4, n_x2, n_x3, n_x4, n_x60, n_x100, n_pm1, k9L_m2, k9L_m1, k9L_0, k9L_1, k9L_2, k9L_3, k9L_4, k9L_5, k9L_6, k9L_7, k9L_8, k9L_9, k9L_10, k9L_20, k9L_23, k9L_24, k9L_30, k9L_40, k9L_50, k9L_60, k9L_99, k9L_100, k9L_120, k9L_255, k9L_999, k9L_1000, k9_bs, k9_ba])
        exact k9o_ret ⟨_, _, rfl, hI'⟩
    · obtain ⟨s, rfl, hs, -⟩ := n_of (x := x1) (by omega)
      repeat' (first | ((with_reducible refine k9q_T ?_ ?_); · omega) | ((with_reducible refine k9q_F ?_ ?_); · omega) | ((with_reducible refine k9q_Tb ?_ ?_); · omega) | ((with_reducible refine k9q_Fb ?_ ?_); · omega) | simp (disch := omega) only [k9e_120_0, k9e_120_3, k9e_120_3b, k9e_120_8, k9e_120_9, k9e_120_9b, k9e_144_0, k9e_144_2, k9e_144_5, k9e_144_9, k9e_144_10, k9e_144_11, k9e_144_11b, k9e_145_0, k9e_145_2, k9e_145_5, k9e_145_7, k9e_145_8, Nat.reduceEqDiff, Int.reduceEq, Int.reduceLT, Int.reduceLE, k9_ps_s, k9_ps_n, k9_ur, false_and, and_false, true_and, and_true, true_or, or_true, false_or, or_false, eq_self, ↓reduceIte, not_true_eq_false, not_false_eq_true, n_toInt, n_cl, nI_1, nI_add, n_a0, n_p2, n_p3, n_p4, n_x2, n_x3, n_x4, n_x60, n_x100, n_pm1, k9L_m2, k9L_m1, k9L_0, k9L_1, k9L_2, k9L_3, k9L_4, k9L_5, k9L_6, k9L_7, k9L_8, k9L_9, k9L_10, k9L_20, k9L_23, k9L_24, k9L_30, k9L_40, k9L_50, k9L_60, k9L_99, k9L_100, k9L_120, k9L_255, k9L_999, k9L_1000, k9_bs, k9_ba] | (with_reducible refine k9q_if (fun _ => ?_) (fun _ => ?_)) | (with_reducible refine k9q_ifb (fun _ => ?_) (fun _ => ?_)))
      all_goals refine k9o_ret ⟨_, _, _, rfl, ?_⟩
      all_goals repeat' (first | ((with_reducible refine k9q_T ?_ ?_); · omega) | ((with_reducible refine k9q_F ?_ ?_); · omega) | ((with_reducible refine k9q_Tb ?_ ?_); · omega) | ((with_reducible refine k9q_Fb ?_ ?_); · omega) | (refine k9o_call (k9s_153 (by first | omega | (simp (disch := omega) only [n_toInt, n_pm1, k9L_m2, k9L_m1, k9L_0, k9L_1, k9L_2, k9L_3, k9L_4, k9L_5, k9L_6, k9L_7, k9L_8, k9L_9, k9L_10, k9L_20, k9L_23, k9L_24, k9L_30, k9L_40, k9L_50, k9L_60, k9L_99, k9L_100, k9L_120, k9L_255, k9L_999, k9L_1000]; omega))) ?_; simp (disch := omega) only [k9e_217_0, k9e_217_2, k9e_217_3, k9e_217_5, k9e_217_6, k9e_155_0, k9e_155_4, k9e_156_0, k9e_156_4, Nat.reduceEqDiff, Int.reduceEq, Int.reduceLT, Int.reduceLE, k9_ps_s, k9_ps_n, k9_ur, false_and, and_false, true_and, and_true, true_or, or_true, false_or, or_false, eq_self, ↓reduceIte, not_true_eq_false, not_false_eq_true, n_toInt, n_cl, nI_1, nI_add, n_a0, n_p2, n_p3, n_p4, n_x2, n_x3, n_x4, n_x60, n_x100, n_pm1, k9L_m2, k9L_m1, k9L_0, k9L_1, k9L_2, k9L_3, k9L_4, k9L_5, k9L_6, k9L_7, k9L_8, k9L_9, k9L_10, k9L_20, k9L_23, k9L_24, k9L_30, k9L_40, k9L_50, k9L_60, k9L_99, k9L_100, k9L_120, k9L_255, k9L_999, k9L_1000, k9_bs, k9_ba]) | (refine k9o_call (k9s_153x (by first | omega | (simp (disch := omega) only [n_toInt, n_pm1, k9L_m2, k9L_m1, k9L_0, k9L_1, k9L_2, k9L_3, k9L_4, k9L_5, k9L_6, k9L_7, k9L_8, k9L_9, k9L_10, k9L_20, k9L_23, k9L_24, k9L_30, k9L_40, k9L_50, k9L_60, k9L_99, k9L_100, k9L_120, k9L_255, k9L_999, k9L_1000]; omega))) ?_; simp (disch := omega) only [k9e_217_0, k9e_217_2, k9e_217_3, k9e_217_5, k9e_217_6, k9e_155_0, k9e_155_4, k9e_156_0, k9e_156_4, Nat.reduceEqDiff, Int.reduceEq, Int.reduceLT, Int.reduceLE, k9_ps_s, k9_ps_n, k9_ur, false_and, and_false, true_and, and_true, true_or, or_true, false_or, or_false, eq_self, ↓reduceIte, not_true_eq_false, not_false_eq_true, n_toInt, n_cl, nI_1, nI_add, n_a0, n_p2, n_p3, n_p4, n_x2, n_x3, n_x4, n_x60, n_x100, n_pm1, k9L_m2, k9L_m1, k9L_0, k9L_1, k9L_2, k9L_3, k9L_4, k9L_5, k9L_6, k9L_7, k9L_8, k9L_9, k9L_10, k9L_20, k9L_23, k9L_24, k9L_30, k9L_40, k9L_50, k9L_60, k9L_99, k9L_100, k9L_120, k9L_255, k9L_999, k9L_1000, k9_bs, k9_ba]) | simp (disch := omega) only [k9e_217_0, k9e_217_2, k9e_217_3, k9e_217_5, k9e_217_6, k9e_155_0, k9e_155_4, k9e_156_0, k9e_156_4, Nat.reduceEqDiff, Int.reduceEq, Int.reduceLT, Int.reduceLE, k9_ps_s, k9_ps_n, k9_ur, false_and, and_false, true_and, and_true, true_or, or_true, false_or, or_false, eq_self, ↓reduceIte, not_true_eq_false, not_false_eq_true, n_toInt, n_cl, nI_1, nI_add, n_a0, n_p2, n_p3, n_p4, n_x2, n_x3, n_x4, n_x60, n_x100, n_pm1, k9L_m2, k9L_m1, k9L_0, k9L_1, k9L_2, k9L_3, k9L_4, k9L_5, k9L_6, k9L_7, k9L_8, k9L_9, k9L_10, k9L_20, k9L_23, k9L_24, k9L_30, k9L_40, k9L_50, k9L_60, k9L_99, k9L_100, k9L_120, k9L_255, k9L_999, k9L_1000, k9_bs, k9_ba] | (with_reducible refine k9q_if (fun _ => ?_) (fun _ => ?_)) | (with_reducible refine k9q_ifb (fun _ => ?_) (fun _ => ?_)))
      all_goals exact k9o_ret ⟨_, _, rfl, hI'⟩
  · repeat' (first | ((with_reducible refine k9q_T ?_ ?_); · omega) | ((with_reducible refine k9q_F ?_ ?_); · omega) | ((with_reducible refine k9q_Tb ?_ ?_); · omega) | ((with_reducible refine k9q_Fb ?_ ?_); · omega) | simp (disch := omega) only [k9e_120_0, k9e_120_3, k9e_120_3b, k9e_120_8, k9e_120_9, k9e_120_9b, k9e_144_0, k9e_144_2, k9e_144_5, k9e_144_9, k9e_144_10, k9e_144_11, k9e_144_11b, k9e_145_0, k9e_145_2, k9e_145_5, k9e_145_7, k9e_145_8, Nat.reduceEqDiff, Int.reduceEq, Int.reduceLT, Int.reduceLE, k9_ps_s, k9_ps_n, k9_ur, false_and, and_false, true_and, and_true, true_or, or_true, false_or, or_false, eq_self, ↓reduceIte, not_true_eq_false, not_false_eq_true, n_toInt, n_cl, nI_1, nI_add, n_a0, n_p2, n_p3, n_p4, n_x2, n_x3, n_x4, n_x60, n_x100, n_pm1, k9L_m2, k9L_m1, k9L_0, k9L_1, k9L_2, k9L_3, k9L_4, k9L_5, k9L_6, k9L_7, k9L_8, k9L_9, k9L_10, k9L_20, k9L_23, k9L_24, k9L_30, k9L_40, k9L_50, k9L_60, k9L_99, k9L_100, k9L_120, k9L_255, k9L_999, k9L_1000, k9_bs, k9_ba] | (with_reducible refine k9q_if (fun _ => ?_) (fun _ => ?_)) | (with_reducible refine k9q_ifb (fun _ => ?_) (fun _ => ?_)))
    all_goals refine k9o_ret ⟨_, _, _, rfl, ?_⟩
    all_goals repeat' (first | ((with_reducible refine k9q_T ?_ ?_); · omega) | ((with_reducible refine k9q_F ?_ ?_); · omega) | ((with_reducible refine k9q_Tb ?_ ?_); · omega) | ((with_reducible refine k9q_Fb ?_ ?_); · omega) | (refine k9o_call (k9s_153 (by first | omega | (simp (disch := omega) only [n_toInt, n_pm1, k9L_m2, k9L_m1, k9L_0, k9L_1, k9L_2, k9L_3, k9L_4, k9L_5, k9L_6, k9L_7, k9L_8, k9L_9, k9L_10, k9L_20, k9L_23, k9L_24, k9L_30, k9L_40, k9L_50, k9L_60, k9L_99, k9L_100, k9L_120, k9L_255, k9L_999, k9L_1000]; omega))) ?_; simp (disch := omega) only [k9e_217_0, k9e_217_2, k9e_217_3, k9e_217_5, k9e_217_6, k9e_155_0, k9e_155_4, k9e_156_0, k9e_156_4, Nat.reduceEqDiff, Int.reduceEq, Int.reduceLT, Int.reduceLE, k9_ps_s, k9_ps_n, k9_ur, false_and, and_false, true_and, and_true, true_or, or_true, false_or, or_false, eq_self, ↓reduceIte, not_true_eq_false, not_false_eq_true, n_toInt, n_cl, nI_1, nI_add, n_a0, n_p2, n_p3, n_p4, n_x2, n_x3, n_x4, n_x60, n_x100, n_pm1, k9L_m2, k9L_m1, k9L_0, k9L_1, k9L_2, k9L_3, k9L_4, k9L_5, k9L_6, k9L_7, k9L_8, k9L_9, k9L_10, k9L_20, k9L_23, k9L_24, k9L_30, k9L_40, k9L_50, k9L_60, k9L_99, k9L_100, k9L_120, k9L_255, k9L_999, k9L_1000, k9_bs, k9_ba]) | (refine k9o_call (k9s_153x (by first | omega | (simp (disch := omega) only [n_toInt, n_pm1, k9L_m2, k9L_m1, k9L_0, k9L_1, k9L_2, k9L_3, k9L_4, k9L_5, k9L_6, k9L_7, k9L_8, k9L_9, k9L_10, k9L_20, k9L_23, k9L_24, k9L_30, k9L_40, k9L_50, k9L_60, k9L_99, k9L_100, k9L_120, k9L_255, k9L_999, k9L_1000]; omega))) ?_; simp (disch := omega) only [k9e_217_0, k9e_217_2, k9e_217_3, k9e_217_5, k9e_217_6, k9e_155_0, k9e_155_4, k9e_156_0, k9e_156_4, Nat.reduceEqDiff, Int.reduceEq, Int.reduceLT, Int.reduceLE, k9_ps_s, k9_ps_n, k9_ur, false_and, and_false, true_and, and_true, true_or, or_true, false_or, or_false, eq_self, ↓reduceIte, not_true_eq_false, not_false_eq_true, n_toInt, n_cl, nI_1, nI_add, n_a0, n_p2, n_p3, n_p4, n_x2, n_x3, n_x4, n_x60, n_x100, n_pm1, k9L_m2, k9L_m1, k9L_0, k9L_1, k9L_2, k9L_3, k9L_4, k9L_5, k9L_6, k9L_7, k9L_8, k9L_9, k9L_10, k9L_20, k9L_23, k9L_24, k9L_30, k9L_40, k9L_50, k9L_60, k9L_99, k9L_100, k9L_120, k9L_255, k9L_999, k9L_1000, k9_bs, k9_ba]) | simp (disch := omega) only [k9e_217_0, k9e_217_2, k9e_217_3, k9e_217_5, k9e_217_6, k9e_155_0, k9e_155_4, k9e_156_0, k9e_156_4, Nat.reduceEqDiff, Int.reduceEq, Int.reduceLT, Int.reduceLE, k9_ps_s, k9_ps_n, k9_ur, false_and, and_false, true_and, and_true, true_or, or_true, false_or, or_false, eq_self, ↓reduceIte, not_true_eq_false, not_false_eq_true, n_toInt, n_cl, nI_1, nI_add, n_a0, n_p2, n_p3, n_p4, n_x2, n_x3, n_x4, n_x60, n_x100, n_pm1, k9L_m2, k9L_m1, k9L_0, k9L_1, k9L_2, k9L_3, k9L_4, k9L_5, k9L_6, k9L_7, k9L_8, k9L_9, k9L_10, k9L_20, k9L_23, k9L_24, k9L_30, k9L_40, k9L_50, k9L_60, k9L_99, k9L_100, k9L_120, k9L_255, k9L_999, k9L_1000, k9_bs, k9_ba] | (with_reducible refine k9q_if (fun _ => ?_) (fun _ => ?_)) | (with_reducible refine k9q_ifb (fun _ => ?_) (fun _ => ?_)))
    all_goals exact k9o_ret ⟨_, _, rfl, hI'⟩
end KT17

/-! SEEN: since; SHOWING: patience -/
section KT18
variable {S : k9_S} {d : Nat} {I I' : k9_I} {J J' : k9_J} {w : Nat → Nat → Nat} {V : (Nat → Int32) → Int32} {b : Nat} {x1 x2 x3 : Int32} {h c : Nat → Nat} {L A f M : Nat}
theorem k9s_148u (v : k9_Iv I J w V b) : ∃ I1, k9_R S (d + 6) 148 0 [some (k9_r 1 0)] [] I J = some (some (k9_r 2 0), I1, J) ∧ k9_Br I1 0 (p_len w) (p_tt w 0) (p_sh w (p_tt w) V) (p_co w) 0 1000 ∧ k9_Iv I1 J w V b ∧ k9_fp (k9_Xs [8]) I I1 := by
  obtain ⟨I1, e1, b1, r1, f1⟩ := k9s_148w (S := S) (d := d) (J := J) v.1 v.2.2.1 v.2.2.2.2.2.2.2.1
  exact ⟨I1, e1, b1, k9_Iv_8 f1 v r1, f1⟩
def p_si (g : Nat → Int32) : Nat → Nat → Int32
  | 0, _ => -2
  | k + 1, t => if g t = -2 then nI t else p_si g k (t + 1)
theorem t_since (hI : k9_Inv I J) : k9_P S (d + 20) 122 219 [some (k9_r 1 0), some (k9_i x1), none, none, none] [some (k9_r 12 0), some (k9_i x1), none, none] I J k9_Inv := by
  have hI' := hI
  obtain ⟨w, V, b, v⟩ := hI
  have v : k9_Iv I J w V b := v
  have hf := v.1.2.2.1
  have hlen := p_len_b hf
  have hb := v.2.2.2.2.1.1
  have v6 := v.2.2.2.2.2.1
  refine k9P_of ?_
  by_cases h1 : 0 ≤ x1.toInt ∧ x1.toInt ≤ 5
  · obtain ⟨s, rfl, hs, -⟩ := n_of (x := x1) (by omega)
    have hs6 : s < 6 := by omega
    rcases k9_byrs hb (v6.1 s hs6) with ⟨z, hz⟩ | ⟨r, hr⟩
    · obtain ⟨I1, e1, b1, i1, f1⟩ := k9s_148u (S := S) (d := d + 13) v
      have by1 : k9_byr I1 s z := k9_by_t (funext fun p => f1 11 s p rfl) (f1 60 0 s rfl) (f1 61 0 s rfl) hz
      obtain ⟨g, hg⟩ : ∃ g : Nat → Int32, g = fun t => p_fu (p_sh w (p_tt w) V) (fun i => (J 37 s i).toInt32) t z 0 := ⟨_, rfl⟩
      have e66 : ∀ t, t ≤ 999 → k9_R S (d + 19) 66 0 [some (k9_r 2 0), some (k9_r 11 s), some (k9_i (nI t)), none] [] I1 J = some (some (k9_i (g t)), I1, J) := fun t ht => by
        rw [hg]
        exact k9s_66 (S := S) (d := d + 17) (J := J) (t := t) (n := z) (i1 := s) b1 (Nat.zero_le _) by1.2.2.1 hz.2.2.2.2.2 (by omega) (by omega) (Or.inr rfl)
      have kc : ∀ k t, t + k = 1000 → k9_ok (k9_R S (d + 20) 122 19 [some (k9_r 1 0), some (k9_i (nI s)), some (k9_r 11 s), some (k9_r 2 0), some (k9_i (nI t))] [] I1 J) (fun q => q = (some (k9_i (p_si g k t)), I1, J)) := by
        intro k
        induction k with
        | zero =>
          intro t ht
          obtain rfl : t = 1000 := by omega
          refine k9o_eq k9e_122_19 (k9o_T (by decide) (k9o_eq k9e_122_32 (k9o_ret rfl)))
        | succ k ih =>
          intro t ht
          refine k9o_eq k9e_122_19 (k9o_F (by rw [n_toInt (by omega)]; omega) (k9o_eq k9e_122_22 (k9o_call (e66 t (by omega)) ?_)))
          simp only [k9_ps_s]
          refine k9o_eq k9e_122_26 ?_
          rw [p_si]
          by_cases c : g t = -2
          · rw [if_pos c]
            refine k9o_T (by rw [c]; decide) (k9o_eq k9e_122_28 (k9o_ret rfl))
          · rw [if_neg c]
            refine k9o_F (fun z => c (n_ext (by rw [z]; decide))) (k9o_eq k9e_122_30 ?_)
            rw [nI_1]
            exact ih (t + 1) (by omega)
      obtain ⟨I2, e2, m2, x2⟩ := k9s_190 (S := S) (d := d + 14) (J := J) i1.1.2.1 hf i1.2.2.1.2
      have i2 : k9_Iv I2 J w V b := k9_Iv_0 (k9_fp_x x2 (k9_Fq_X rfl)) i1
      have e216 : ∀ t, t ≤ 999 → k9_R S (d + 19) 216 0 [some (k9_r 12 0), some (k9_i (nI s)), some (k9_i (nI t)), none] [] I2 J = some (some (k9_i (g t)), I2, J) := fun t ht => by
        rw [hg]
        exact k9s_216 (S := S) (d := d + 18) (J := J) (s := s) (t := t) (z := z) m2 hs6 hz.2.2.2.2.2 ((x2 61 0 s rfl).trans by1.2.2.2.2.1) (by omega) (fun p hp => v6.2 s hs6 p hp)
      have km : ∀ k t, t + k = 1000 → k9_ok (k9_R S (d + 20) 219 17 [some (k9_r 12 0), some (k9_i (nI s)), some (k9_i 0), some (k9_i (nI t))] [] I2 J) (fun q => q = (some (k9_i (p_si g k t)), I2, J)) := by
        intro k
        induction k with
        | zero =>
          intro t ht
          obtain rfl : t = 1000 := by omega
          refine k9o_eq k9e_219_17 (k9o_T (by decide) (k9o_eq k9e_219_30 (k9o_ret rfl)))
        | succ k ih =>
          intro t ht
          refine k9o_eq k9e_219_17 (k9o_F (by rw [n_toInt (by omega)]; omega) (k9o_eq k9e_219_20 (k9o_call (e216 t (by omega)) ?_)))
          simp only [k9_ps_s]
          refine k9o_eq k9e_219_24 ?_
          rw [p_si]
          by_cases c : g t = -2
          · rw [if_pos c]
            refine k9o_T (by rw [c]; decide) (k9o_eq k9e_219_26 (k9o_ret rfl))
          · rw [if_neg c]
            refine k9o_F (fun z => c (n_ext (by rw [z]; decide))) (k9o_eq k9e_219_28 ?_)
            rw [nI_1]
            exact ih (t + 1) (by omega)
      simp (disch := omega) only [k9e_122_0, k9e_122_3, k9e_122_3b, k9e_122_10, k9e_122_11, k9e_122_13, k9e_122_14, k9e_122_16, k9e_122_22, k9e_122_26, k9e_122_28, k9e_122_30, k9e_122_32, k9e_144_0, k9e_144_2, k9e_144_5, k9e_144_9, k9e_144_10, k9e_144_11, k9e_144_11b, Nat.reduceEqDiff, Int.reduceEq, Int.reduceLT, Int.reduceLE, k9_ps_s, k9_ps_n, k9_ur, false_and, and_false, true_and, and_true, true_or, or_true, false_or, or_false, eq_self, ↓reduceIte, not_true_eq_false, not_false_eq_true, n_toInt, n_cl, nI_1, nI_add, n_a0, n_p2, n_p3, n_p4, n_x2, n_x3, n_x4, n_x60, n_x100, n_pm1, k9L_m2, k9L_m1, k9L_0, k9L_1, k9L_2, k9L_3, k9L_4, k9L_5, k9L_6, k9L_7, k9L_8, k9L_9, k9L_10, k9L_20, k9L_23, k9L_24, k9L_30, k9L_40, k9L_50, k9L_60, k9L_99, k9L_100, k9L_120, k9L_255, k9L_999, k9L_1000, k9_bs, k9_ba]
      repeat (first | ((with_reducible refine k9q_T ?_ ?_); · omega) | ((with_reducible refine k9q_F ?_ ?_); · omega) | ((with_reducible refine k9q_Tb ?_ ?_); · omega) | ((with_reducible refine k9q_Fb ?_ ?_); · omega) | (refine k9o_call (k9s_91 hz) ?_; simp (disch := omega) only [k9e_122_0, k9e_122_3, k9e_122_3b, k9e_122_10, k9e_122_11, k9e_122_13, k9e_122_14, k9e_122_16, k9e_122_22, k9e_122_26, k9e_122_28, k9e_122_30, k9e_122_32, k9e_144_0, k9e_144_2, k9e_144_5, k9e_144_9, k9e_144_10, k9e_144_11, k9e_144_11b, Nat.reduceEqDiff, Int.reduceEq, Int.reduceLT, Int.reduceLE, k9_ps_s, k9_ps_n, k9_ur, false_and, and_false, true_and, and_true, true_or, or_true, false_or, or_false, eq_self, ↓reduceIte, not_true_eq_false, not_false_eq_true, n_toInt, n_cl, nI_1, nI_add, n_a0, n_p2, n_p3, n_p4, n_x2, n_x3, n_x4, n_x60, n_x100, n_pm1, k9L_m2, k9L_m1, k9L_0, k9L_1, k9L_2, k9L_3, k9L_4, k9L_5, k9L_6, k9L_7, k9L_8, k9L_9, k9L_10, k9L_20, k9L_23, k9L_24, k9L_30, k9L_40, k9L_50, k9L_60, k9L_99, k9L_100, k9L_120, k9L_255, k9L_999, k9L_1000, k9_bs, k9_ba]) | (refine k9o_call (e1) ?_; simp (disch := omega) only [k9e_122_0, k9e_122_3, k9e_122_3b, k9e_122_10, k9e_122_11, k9e_122_13, k9e_122_14, k9e_122_16, k9e_122_22, k9e_122_26, k9e_122_28, k9e_122_30, k9e_122_32, k9e_144_0, k9e_144_2, k9e_144_5, k9e_144_9, k9e_144_10, k9e_144_11, k9e_144_11b, Nat.reduceEqDiff, Int.reduceEq, Int.reduceLT, Int.reduceLE, k9_ps_s, k9_ps_n, k9_ur, false_and, and_false, true_and, and_true, true_or, or_true, false_or, or_false, eq_self, ↓reduceIte, not_true_eq_false, not_false_eq_true, n_toInt, n_cl, nI_1, nI_add, n_a0, n_p2, n_p3, n_p4, n_x2, n_x3, n_x4, n_x60, n_x100, n_pm1, k9L_m2, k9L_m1, k9L_0, k9L_1, k9L_2, k9L_3, k9L_4, k9L_5, k9L_6, k9L_7, k9L_8, k9L_9, k9L_10, k9L_20, k9L_23, k9L_24, k9L_30, k9L_40, k9L_50, k9L_60, k9L_99, k9L_100, k9L_120, k9L_255, k9L_999, k9L_1000, k9_bs, k9_ba]) | simp (disch := omega) only [k9e_122_0, k9e_122_3, k9e_122_3b, k9e_122_10, k9e_122_11, k9e_122_13, k9e_122_14, k9e_122_16, k9e_122_22, k9e_122_26, k9e_122_28, k9e_122_30, k9e_122_32, k9e_144_0, k9e_144_2, k9e_144_5, k9e_144_9, k9e_144_10, k9e_144_11, k9e_144_11b, Nat.reduceEqDiff, Int.reduceEq, Int.reduceLT, Int.reduceLE, k9_ps_s, k9_ps_n, k9_ur, false_and, and_false, true_and, and_true, true_or, or_true, false_or, or_false, eq_self, ↓reduceIte, not_true_eq_false, not_false_eq_true, n_toInt, n_cl, nI_1, nI_add, n_a0, n_p2, n_p3, n_p4, n_x2, n_x3, n_x4, n_x60, n_x100, n_pm1, k9L_m2, k9L_m1, k9L_0, k9L_1, k9L_2, k9L_3, k9L_4, k9L_5, k9L_6, k9L_7, k9L_8, k9L_9, k9L_10, k9L_20, k9L_23, k9L_24, k9L_30, k9L_40, k9L_50, k9L_60, k9L_99, k9L_100, k9L_120, k9L_255, k9L_999, k9L_1000, k9_bs, k9_ba])
      obtain ⟨q1, c1, rfl⟩ := kc 1000 0 (by omega)
      refine k9o_to c1 ⟨_, _, _, rfl, ?_⟩
      simp (disch := omega) only [k9e_219_0, k9e_219_2, k9e_219_3, k9e_219_5, k9e_219_8, k9e_219_11, k9e_219_13, k9e_219_15, k9e_219_20, k9e_219_24, k9e_219_26, k9e_219_28, k9e_219_30, k9e_156_0, k9e_156_4, Nat.reduceEqDiff, Int.reduceEq, Int.reduceLT, Int.reduceLE, k9_ps_s, k9_ps_n, k9_ur, false_and, and_false, true_and, and_true, true_or, or_true, false_or, or_false, eq_self, ↓reduceIte, not_true_eq_false, not_false_eq_true, n_toInt, n_cl, nI_1, nI_add, n_a0, n_p2, n_p3, n_p4, n_x2, n_x3, n_x4, n_x60, n_x100, n_pm1, k9L_m2, k9L_m1, k9L_0, k9L_1, k9L_2, k9L_3, k9L_4, k9L_5, k9L_6, k9L_7, k9L_8, k9L_9, k9L_10, k9L_20, k9L_23, k9L_24, k9L_30, k9L_40, k9L_50, k9L_60, k9L_99, k9L_100, k9L_120, k9L_255, k9L_999, k9L_1000, k9_bs, k9_ba]
      repeat (first | ((with_reducible refine k9q_T ?_ ?_); · omega) | ((with_reducible refine k9q_F ?_ ?_); · omega) | ((with_reducible refine k9q_Tb ?_ ?_); · omega) | ((with_reducible refine k9q_Fb ?_ ?_); · omega) | (refine k9o_call (k9s_153 (by first | omega | (simp (disch := omega) only [n_toInt, n_pm1, k9L_m2, k9L_m1, k9L_0, k9L_1, k9L_2, k9L_3, k9L_4, k9L_5, k9L_6, k9L_7, k9L_8, k9L_9, k9L_10, k9L_20, k9L_23, k9L_24, k9L_30, k9L_40, k9L_50, k9L_60, k9L_99, k9L_100, k9L_120, k9L_255, k9L_999, k9L_1000]; omega))) ?_; simp (disch := omega) only [k9e_219_0, k9e_219_2, k9e_219_3, k9e_219_5, k9e_219_8, k9e_219_11, k9e_219_13, k9e_219_15, k9e_219_20, k9e_219_24, k9e_219_26, k9e_219_28, k9e_219_30, k9e_156_0, k9e_156_4, Nat.reduceEqDiff, Int.reduceEq, Int.reduceLT, Int.reduceLE, k9_ps_s, k9_ps_n, k9_ur, false_and, and_false, true_and, and_true, true_or, or_true, false_or, or_false, eq_self, ↓reduceIte, not_true_eq_false, not_false_eq_true, n_toInt, n_cl, nI_1, nI_add, n_a0, n_p2, n_p3, n_p4, n_x2, n_x3, n_x4, n_x60, n_x100, n_pm1, k9L_m2, k9L_m1, k9L_0, k9L_1, k9L_2, k9L_3, k9L_4, k9L_5, k9L_6, k9L_7, k9L_8, k9L_9, k9L_10, k9L_20, k9L_23, k9L_24, k9L_30, k9L_40, k9L_50, k9L_60, k9L_99, k9L_100, k9L_120, k9L_255, k9L_999, k9L_1000, k9_bs, k9_ba]) | (refine k9o_call (k9s_153x (by first | omega | (simp (disch := omega) only [n_toInt, n_pm1, k9L_m2, k9L_m1, k9L_0, k9L_1, k9L_2, k9L_3, k9L_4, k9L_5, k9L_6, k9L_7, k9L_8, k9L_9, k9L_10, k9L_20, k9L_23, k9L_24, k9L_30, k9L_40, k9L_50, k9L_60, k9L_99, k9L_100, k9L_120, k9L_255, k9L_999, k9L_1000]; omega))) ?_; simp (disch := omega) only [k9e_219_0, k9e_219_2, k9e_219_3, k9e_219_5, k9e_219_8, k9e_219_11, k9e_219_13, k9e_219_15, k9e_219_20, k9e_219_24, k9e_219_26, k9e_219_28, k9e_219_30, k9e_156_0, k9e_156_4, Nat.reduceEqDiff, Int.reduceEq, Int.reduceLT, Int.reduceLE, k9_ps_s, k9_ps_n, k9_ur, false_and, and_false, true_and, and_true, true_or, or_true, false_or, or_false, eq_self, ↓reduceIte, not_true_eq_false, not_false_eq_true, n_toInt, n_cl, nI_1, nI_add, n_a0, n_p2, n_p3, n_p4, n_x2, n_x3, n_x4, n_x60, n_x100, n_pm1, k9L_m2, k9L_m1, k9L_0, k9L_1, k9L_2, k9L_3, k9L_4, k9L_5, k9L_6, k9L_7, k9L_8, k9L_9, k9L_10, k9L_20, k9L_23, k9L_24, k9L_30, k9L_40, k9L_50, k9L_60, k9L_99, k9L_100, k9L_120, k9L_255, k9L_999, k9L_1000, k9_bs, k9_ba]) | (refine k9o_call (k9s_208 hs6 by1) ?_; simp (disch := omega) only [k9e_219_0, k9e_219_2, k9e_219_3, k9e_219_5, k9e_219_8, k9e_219_11, k9e_219_13, k9e_219_15, k9e_219_20, k9e_219_24, k9e_219_26, k9e_219_28, k9e_219_30, k9e_156_0, k9e_156_4, Nat.reduceEqDiff, Int.reduceEq, Int.reduceLT, Int.reduceLE, k9_ps_s, k9_ps_n, k9_ur, false_and, and_false, true_and, and_true, true_or, or_true, false_or, or_false, eq_self, ↓reduceIte, not_true_eq_false, not_false_eq_true, n_toInt, n_cl, nI_1, nI_add, n_a0, n_p2, n_p3, n_p4, n_x2, n_x3, n_x4, n_x60, n_x100, n_pm1, k9L_m2, k9L_m1, k9L_0, k9L_1, k9L_2, k9L_3, k9L_4, k9L_5, k9L_6, k9L_7, k9L_8, k9L_9, k9L_10, k9L_20, k9L_23, k9L_24, k9L_30, k9L_40, k9L_50, k9L_60, k9L_99, k9L_100, k9L_120, k9L_255, k9L_999, k9L_1000, k9_bs, k9_ba]) | (refine k9o_call (e2) ?_; simp (disch := omega) only [k9e_219_0, k9e_219_2, k9e_219_3, k9e_219_5, k9e_219_8, k9e_219_11, k9e_219_13, k9e_219_15, k9e_219_20, k9e_219_24, k9e_219_26, k9e_219_28, k9e_219_30, k9e_156_0, k9e_156_4, Nat.reduceEqDiff, Int.reduceEq, Int.reduceLT, Int.reduceLE, k9_ps_s, k9_ps_n, k9_ur, false_and, and_false, true_and, and_true, true_or, or_true, false_or, or_false, eq_self, ↓reduceIte, not_true_eq_false, not_false_eq_true, n_toInt, n_cl, nI_1, nI_add, n_a0, n_p2, n_p3, n_p4, n_x2, n_x3, n_x4, n_x60, n_x100, n_pm1, k9L_m2, k9L_m1, k9L_0, k9L_1, k9L_2, k9L_3, k9L_4, k9L_5, k9L_6, k9L_7, k9L_8, k9L_9, k9L_10, k9L_20, k9L_23, k9L_24, k9L_30, k9L_40, k9L_50, k9L_60, k9L_99, k9L_100, k9L_120, k9L_255, k9L_999, k9L_1000, k9_bs, k9_ba]) | simp (disch := omega) only [k9e_219_0, k9e_219_2, k9e_219_3, k9e_219_5, k9e_219_8, k9e_219_11, k9e_219_13, k9e_219_15, k9e_219_20, k9e_219_24, k9e_219_26, k9e_219_28, k9e_219_30, k9e_156_0, k9e_156_4, Nat.reduceEqDiff, Int.reduceEq, Int.reduceLT, Int.reduceLE, k9_ps_s, k9_ps_n, k9_ur, false_and, and_false, true_and, and_true, true_or, or_true, false_or, or_false, eq_self, ↓reduceIte, not_true_eq_false, not_false_eq_true, n_toInt, n_cl, nI_1, nI_add, n_a0, n_p2, n_p3, n_p4, n_x2, n_x3, n_x4, n_x60, n_x100, n_pm1, k9L_m2, k9L_m1, k9L_0, k9L_1, k9L_2, k9L_3, k9L_4, k9L_5, k9L_6, k9L_7, k9L_8, k9L_9, k9L_10, k9L_20, k9L_23, k9L_24, k9L_30, k9L_40, k9L_50, k9L_60, k9L_99, k9L_100, k9L_120, k9L_255, k9L_999, k9L_1000, k9_bs, k9_ba])
      obtain ⟨q2, c2, rfl⟩ := km 1000 0 (by omega)
      exact k9o_to c2 ⟨_, _, rfl, k9_Iv_e i2⟩
    · have hrr := k9_nb_r hr
      simp (disch := omega) only [k9e_122_0, k9e_122_3, k9e_122_3b, k9e_122_10, k9e_122_11, k9e_122_13, k9e_122_14, k9e_122_16, k9e_122_22, k9e_122_26, k9e_122_28, k9e_122_30, k9e_122_32, k9e_144_0, k9e_144_2, k9e_144_5, k9e_144_9, k9e_144_10, k9e_144_11, k9e_144_11b, Nat.reduceEqDiff, Int.reduceEq, Int.reduceLT, Int.reduceLE, k9_ps_s, k9_ps_n, k9_ur, false_and, and_false, true_and, and_true, true_or, or_true, false_or, or_false, eq_self, ↓reduceIte, not_true_eq_false, not_false_eq_true, n_toInt, n_cl, nI_1, nI_add, n_a0, n_p2, n_p3, n_p4, n_x2, n_x3, n_x4, n_x60, n_x100, n_pm1, k9L_m2, k9L_m1, k9L_0, k9L_1, k9L_2, k9L_3, k9L_4, k9L_5, k9L_6, k9L_7, k9L_8, k9L_9, k9L_10, k9L_20, k9L_23, k9L_24, k9L_30, k9L_40, k9L_50, k9L_60, k9L_99, k9L_100, k9L_120, k9L_255, k9L_999, k9L_1000, k9_bs, k9_ba]
      repeat (first | ((with_reducible refine k9q_T ?_ ?_); · omega) | ((with_reducible refine k9q_F ?_ ?_); · omega) | ((with_reducible refine k9q_Tb ?_ ?_); · omega) | ((with_reducible refine k9q_Fb ?_ ?_); · omega) | (refine k9o_call (k9s_91x hr) ?_; simp (disch := omega) only [k9e_122_0, k9e_122_3, k9e_122_3b, k9e_122_10, k9e_122_11, k9e_122_13, k9e_122_14, k9e_122_16, k9e_122_22, k9e_122_26, k9e_122_28, k9e_122_30, k9e_122_32, k9e_144_0, k9e_144_2, k9e_144_5, k9e_144_9, k9e_144_10, k9e_144_11, k9e_144_11b, Nat.reduceEqDiff, Int.reduceEq, Int.reduceLT, Int.reduceLE, k9_ps_s, k9_ps_n, k9_ur, false_and, and_false, true_and, and_true, true_or, or_true, false_or, or_false, eq_self, ↓reduceIte, not_true_eq_false, not_false_eq_true, n_toInt, n_cl, nI_1, nI_add, n_a0, n_p2, n_p3, n_p4, n_x2, n_x3, n_x4, n_x60, n_x100, n_pm1, k9L_m2, k9L_m1, k9L_0, k9L_1, k9L_2, k9L_3, k9L_4, k9L_5, k9L_6, k9L_7, k9L_8, k9L_9, k9L_10, k9L_20, k9L_23, k9L_24, k9L_30, k9L_40, k9L_50, k9L_60, k9L_99, k9L_100, k9L_120, k9L_255, k9L_999, k9L_1000, k9_bs, k9_ba]) | (refine k9o_call (k9s_92 hr) ?_; simp (disch := omega) only [k9e_122_0, k9e_122_3, k9e_122_3b, k9e_122_10, k9e_122_11, k9e_122_13, k9e_122_14, k9e_122_16, k9e_122_22, k9e_122_26, k9e_122_28, k9e_122_30, k9e_122_32, k9e_144_0, k9e_144_2, k9e_144_5, k9e_144_9, k9e_144_10, k9e_144_11, k9e_144_11b, Nat.reduceEqDiff, Int.reduceEq, Int.reduceLT, Int.reduceLE, k9_ps_s, k9_ps_n, k9_ur, false_and, and_false, true_and, and_true, true_or, or_true, false_or, or_false, eq_self, ↓reduceIte, not_true_eq_false, not_false_eq_true, n_toInt, n_cl, nI_1, nI_add, n_a0, n_p2, n_p3, n_p4, n_x2, n_x3, n_x4, n_x60, n_x100, n_pm1, k9L_m2, k9L_m1, k9L_0, k9L_1, k9L_2, k9L_3, k9L_4, k9L_5, k9L_6, k9L_7, k9L_8, k9L_9, k9L_10, k9L_20, k9L_23, k9L_24, k9L_30, k9L_40, k9L_50, k9L_60, k9L_99, k9L_100, k9L_120, k9L_255, k9L_999, k9L_1000, k9_bs, k9_ba]) | simp (disch := omega) only [k9e_122_0, k9e_122_3, k9e_122_3b, k9e_122_10, k9e_122_11, k9e_122_13, k9e_122_14, k9e_122_16, k9e_122_22, k9e_122_26, k9e_122_28, k9e_122_30, k9e_122_32, k9e_144_0, k9e_144_2, k9e_144_5, k9e_144_9, k9e_144_10, k9e_144_11, k9e_144_11b, Nat.reduceEqDiff, Int.reduceEq, Int.reduceLT, Int.reduceLE, k9_ps_s, k9_ps_n, k9_ur, false_and, and_false, true_and, and_true, true_or, or_true, false_or, or_false, eq_self, ↓reduceIte, not_true_eq_false, not_false_eq_true, n_toInt, n_cl, nI_1, nI_add, n_a0, n_p2, n_p3, n_p4, n_x2, n_x3, n_x4, n_x60, n_x100, n_pm1, k9L_m2, k9L_m1, k9L_0, k9L_1, k9L_2, k9L_3, k9L_4, k9L_5, k9L_6, k9L_7, k9L_8, k9L_9, k9L_10, k9L_20, k9L_23, k9L_24, k9L_30, k9L_40, k9L_50, k9L_60, k9L_99, k9L_100, k9L_120, k9L_255, k9L_999, k9L_1000, k9_bs, k9_ba])
      refine k9o_ret ⟨_, _, _, rfl, ?_⟩
      simp (disch := omega) only [k9e_219_0, k9e_219_2, k9e_219_3, k9e_219_5, k9e_219_8, k9e_219_11, k9e_219_13, k9e_219_15, k9e_219_20, k9e_219_24, k9e_219_26, k9e_219_28, k9e_219_30, k9e_156_0, k9e_156_4, Nat.reduceEqDiff, Int.reduceEq, Int.reduceLT, Int.reduceLE, k9_ps_s, k9_ps_n, k9_ur, false_and, and_false, true_and, and_true, true_or, or_true, false_or, or_false, eq_self, ↓reduceIte, not_true_eq_false, not_false_eq_true, n_toInt, n_cl, nI_1, nI_add, n_a0, n_p2, n_p3, n_p4, n_x2, n_x3, n_x4, n_x60, n_x100, n_pm1, k9L_m2, k9L_m1, k9L_0, k9L_1, k9L_2, k9L_3, k9L_4, k9L_5, k9L_6, k9L_7, k9L_8, k9L_9, k9L_10, k9L_20, k9L_23, k9L_24, k9L_30, k9L_40, k9L_50, k9L_60, k9L_99, k9L_100, k9L_120, k9L_255, k9L_999, k9L_1000, k9_bs, k9_ba]
      repeat (first | ((with_reducible refine k9q_T ?_ ?_); · omega) | ((with_reducible refine k9q_F ?_ ?_); · omega) | ((with_reducible refine k9q_Tb ?_ ?_); · omega) | ((with_reducible refine k9q_Fb ?_ ?_); · omega) | (refine k9o_call (k9s_153 (by first | omega | (simp (disch := omega) only [n_toInt, n_pm1, k9L_m2, k9L_m1, k9L_0, k9L_1, k9L_2, k9L_3, k9L_4, k9L_5, k9L_6, k9L_7, k9L_8, k9L_9, k9L_10, k9L_20, k9L_23, k9L_24, k9L_30, k9L_40, k9L_50, k9L_60, k9L_99, k9L_100, k9L_120, k9L_255, k9L_999, k9L_1000]; omega))) ?_; simp (disch := omega) only [k9e_219_0, k9e_219_2, k9e_219_3, k9e_219_5, k9e_219_8, k9e_219_11, k9e_219_13, k9e_219_15, k9e_219_20, k9e_219_24, k9e_219_26, k9e_219_28, k9e_219_30, k9e_156_0, k9e_156_4, Nat.reduceEqDiff, Int.reduceEq, Int.reduceLT, Int.reduceLE, k9_ps_s, k9_ps_n, k9_ur, false_and, and_false, true_and, and_true, true_or, or_true, false_or, or_false, eq_self, ↓reduceIte, not_true_eq_false, not_false_eq_true, n_toInt, n_cl, nI_1, nI_add, n_a0, n_p2, n_p3, n_p4, n_x2, n_x3, n_x4, n_x60, n_x100, n_pm1, k9L_m2, k9L_m1, k9L_0, k9L_1, k9L_2, k9L_3, k9L_4, k9L_5, k9L_6, k9L_7, k9L_8, k9L_9, k9L_10, k9L_20, k9L_23, k9L_24, k9L_30, k9L_40, k9L_50, k9L_60, k9L_99, k9L_100, k9L_120, k9L_255, k9L_999, k9L_1000, k9_bs, k9_ba]) | (refine k9o_call (k9s_153x (by first | omega | (simp (disch := omega) only [n_toInt, n_pm1, k9L_m2, k9L_m1, k9L_0, k9L_1, k9L_2, k9L_3, k9L_4, k9L_5, k9L_6, k9L_7, k9L_8, k9L_9, k9L_10, k9L_20, k9L_23, k9L_24, k9L_30, k9L_40, k9L_50, k9L_60, k9L_99, k9L_100, k9L_120, k9L_255, k9L_999, k9L_1000]; omega))) ?_; simp (disch := omega) only [k9e_219_0, k9e_219_2, k9e_219_3, k9e_219_5, k9e_219_8, k9e_219_11, k9e_219_13, k9e_219_15, k9e_219_20, k9e_219_24, k9e_219_26, k9e_219_28, k9e_219_30, k9e_156_0, k9e_156_4, Nat.reduceEqDiff, Int.reduceEq, Int.reduceLT, Int.reduceLE, k9_ps_s, k9_ps_n, k9_ur, false_and, and_false, true_and, and_true, true_or, or_true, false_or, or_false, eq_self, ↓reduceIte, not_true_eq_false, not_false_eq_true, n_toInt, n_cl, nI_1, nI_add, n_a0, n_p2, n_p3, n_p4, n_x2, n_x3, n_x4, n_x60, n_x100, n_pm1, k9L_m2, k9L_m1, k9L_0, k9L_1, k9L_2, k9L_3, k9L_4, k9L_5, k9L_6, k9L_7, k9L_8, k9L_9, k9L_10, k9L_20, k9L_23, k9L_24, k9L_30, k9L_40, k9L_50, k9L_60, k9L_99, k9L_100, k9L_120, k9L_255, k9L_999, k9L_1000, k9_bs, k9_ba]) | (refine k9o_call (k9s_208x hs6 hr) ?_; simp (disch := omega) only [k9e_219_0, k9e_219_2, k9e_219_3, k9e_219_5, k9e_219_8, k9e_219_11, k9e_219_13, k9e_219_15, k9e_219_20, k9e_219_24, k9e_219_26, k9e_219_28, k9e_219_30, k9e_156_0, k9e_156_4, Nat.reduceEqDiff, Int.reduceEq, Int.reduceLT, Int.reduceLE, k9_ps_s, k9_ps_n, k9_ur, false_and, and_false, true_and, and_true, true_or, or_true, false_or, or_false, eq_self, ↓reduceIte, not_true_eq_false, not_false_eq_true, n_toInt, n_cl, nI_1, nI_add, n_a0, n_p2, n_p3, n_p4, n_x2, n_x3, n_x4, n_x60, n_x100, n_pm1, k9L_m2, k9L_m1, k9L_0, k9L_1, k9L_2, k9L_3, k9L_4, k9L_5, k9L_6, k9L_7, k9L_8, k9L_9, k9L_10, k9L_20, k9L_23, k9L_24, k9L_30, k9L_40, k9L_50, k9L_60, k9L_99, k9L_100, k9L_120, k9L_255, k9L_999, k9L_1000, k9_bs, k9_ba]) | simp (disch := omega) only [k9e_219_0, k9e_219_2, k9e_219_3, k9e_219_5, k9e_219_8, k9e_219_11, k9e_219_13, k9e_219_15, k9e_219_20, k9e_219_24, k9e_219_26, k9e_219_28, k9e_219_30, k9e_156_0, k9e_156_4, Nat.reduceEqDiff, Int.reduceEq, Int.reduceLT, Int.reduceLE, k9_ps_s, k9_ps_n, k9_ur, false_and, and_false, true_and, and_true, true_or, or_true, false_or, or_false, eq_self, ↓reduceIte, not_true_eq_false, not_false_eq_true, n_toInt, n_cl, nI_1, nI_add, n_a0, n_p2, n_p3, n_p4, n_x2, n_x3, n_x4, n_x60, n_x100, n_pm1, k9L_m2, k9L_m1, k9L_0, k9L_1, k9L_2, k9L_3, k9L_4, k9L_5, k9L_6, k9L_7, k9L_8, k9L_9, k9L_10, k9L_20, k9L_23, k9L_24, k9L_30, k9L_40, k9L_50, k9L_60, k9L_99, k9L_100, k9L_120, k9L_255, k9L_999, k9L_1000, k9_bs, k9_ba])
      exact k9o_ret ⟨_, _, rfl, hI'⟩
  · repeat' (first | ((with_reducible refine k9q_T ?_ ?_); · omega) | ((with_reducible refine k9q_F ?_ ?_); · omega) | ((with_reducible refine k9q_Tb ?_ ?_); · omega) | ((with_reducible refine k9q_Fb ?_ ?_); · omega) | simp (disch := omega) only [k9e_122_0, k9e_122_3, k9e_122_3b, k9e_144_0, k9e_144_2, k9e_144_5, k9e_144_9, k9e_144_10, k9e_144_11, k9e_144_11b, Nat.reduceEqDiff, Int.reduceEq, Int.reduceLT, Int.reduceLE, k9_ps_s, k9_ps_n, k9_ur, false_and, and_false, true_and, and_true, true_or, or_true, false_or, or_false, eq_self, ↓reduceIte, not_true_eq_false, not_false_eq_true, n_toInt, n_cl, nI_1, nI_add, n_a0, n_p2, n_p3, n_p4, n_x2, n_x3, n_x4, n_x60, n_x100, n_pm1, k9L_m2, k9L_m1, k9L_0, k9L_1, k9L_2, k9L_3, k9L_4, k9L_5, k9L_6, k9L_7, k9L_8, k9L_9, k9L_10, k9L_20, k9L_23, k9L_24, k9L_30, k9L_40, k9L_50, k9L_60, k9L_99, k9L_100, k9L_120, k9L_255, k9L_999, k9L_1000, k9_bs, k9_ba] | (with_reducible refine k9q_if (fun _ => ?_) (fun _ => ?_)) | (with_reducible refine k9q_ifb (fun _ => ?_) (fun _ => ?_)))
    all_goals refine k9o_ret ⟨_, _, _, rfl, ?_⟩
    all_goals repeat' (first | ((with_reducible refine k9q_T ?_ ?_); · omega) | ((with_reducible refine k9q_F ?_ ?_); · omega) | ((with_reducible refine k9q_Tb ?_ ?_); · omega) | ((with_reducible refine k9q_Fb ?_ ?_); · omega) | (refine k9o_call (k9s_153 (by first | omega | (simp (disch := omega) only [n_toInt, n_pm1, k9L_m2, k9L_m1, k9L_0, k9L_1, k9L_2, k9L_3, k9L_4, k9L_5, k9L_6, k9L_7, k9L_8, k9L_9, k9L_10, k9L_20, k9L_23, k9L_24, k9L_30, k9L_40, k9L_50, k9L_60, k9L_99, k9L_100, k9L_120, k9L_255, k9L_999, k9L_1000]; omega))) ?_; simp (disch := omega) only [k9e_219_0, k9e_219_2, k9e_219_3, k9e_156_0, k9e_156_4, Nat.reduceEqDiff, Int.reduceEq, Int.reduceLT, Int.reduceLE, k9_ps_s, k9_ps_n, k9_ur, false_and, and_false, true_and, and_true, true_or, or_true, false_or, or_false, eq_self, ↓reduceIte, not_true_eq_false, not_false_eq_true, n_toInt, n_cl, nI_1, nI_add, n_a0, n_p2, n_p3, n_p4, n_x2, n_x3, n_x4, n_x60, n_x100, n_pm1, k9L_m2, k9L_m1, k9L_0, k9L_1, k9L_2, k9L_3, k9L_4, k9L_5, k9L_6, k9L_7, k9L_8, k9L_9, k9L_10, k9L_20, k9L_23, k9L_24, k9L_30, k9L_40, k9L_50, k9L_60, k9L_99, k9L_100, k9L_120, k9L_255, k9L_999, k9L_1000, k9_bs, k9_ba]) | (refine k9o_call (k9s_153x (by first | omega | (simp (disch := omega) only [n_toInt, n_pm1, k9L_m2, k9L_m1, k9L_0, k9L_1, k9L_2, k9L_3, k9L_4, k9L_5, k9L_6, k9L_7, k9L_8, k9L_9, k9L_10, k9L_20, k9L_23, k9L_24, k9L_30, k9L_40, k9L_50, k9L_60, k9L_99, k9L_100, k9L_120, k9L_255, k9L_999, k9L_1000]; omega))) ?_; simp (disch := omega) only [k9e_219_0, k9e_219_2, k9e_219_3, k9e_156_0, k9e_156_4, Nat.reduceEqDiff, Int.reduceEq, Int.reduceLT, Int.reduceLE, k9_ps_s, k9_ps_n, k9_ur, false_and, and_false, true_and, and_true, true_or, or_true, false_or, or_false, eq_self, ↓reduceIte, not_true_eq_false, not_false_eq_true, n_toInt, n_cl, nI_1, nI_add, n_a0, n_p2, n_p3, n_p4, n_x2, n_x3, n_x4, n_x60, n_x100, n_pm1, k9L_m2, k9L_m1, k9L_0, k9L_1, k9L_2, k9L_3, k9L_4, k9L_5, k9L_6, k9L_7, k9L_8, k9L_9, k9L_10, k9L_20, k9L_23, k9L_24, k9L_30, k9L_40, k9L_50, k9L_60, k9L_99, k9L_100, k9L_120, k9L_255, k9L_999, k9L_1000, k9_bs, k9_ba]) | simp (disch := omega) only [k9e_219_0, k9e_219_2, k9e_219_3, k9e_156_0, k9e_156_4, Nat.reduceEqDiff, Int.reduceEq, Int.reduceLT, Int.reduceLE, k9_ps_s, k9_ps_n, k9_ur, false_and, and_false, true_and, and_true, true_or, or_true, false_or, or_false, eq_self, ↓reduceIte, not_true_eq_false, not_false_eq_true, n_toInt, n_cl, nI_1, nI_add, n_a0, n_p2, n_p3, n_p4, n_x2, n_x3, n_x4, n_x60, n_x100, n_pm1, k9L_m2, k9L_m1, k9L_0, k9L_1, k9L_2, k9L_3, k9L_4, k9L_5, k9L_6, k9L_7, k9L_8, k9L_9, k9L_10, k9L_20, k9L_23, k9L_24, k9L_30, k9L_40, k9L_50, k9L_60, k9L_99, k9L_100, k9L_120, k9L_255, k9L_999, k9L_1000, k9_bs, k9_ba] | (with_reducible refine k9q_if (fun _ => ?_) (fun _ => ?_)) | (with_reducible refine k9q_ifb (fun _ => ?_) (fun _ => ?_)))
    all_goals exact k9o_ret ⟨_, _, rfl, hI'⟩
/-! patience -/
theorem p_sd_se (h : Nat → Nat) : ∀ t, (p_sd h (t + 1)).2.2 + p_se h t = t ∧ (p_sd h (t + 1)).1 = max (p_sd h t).1 (p_se h t + 1)
  | 0 => by simp [p_sd, p_sg, p_se]
  | t + 1 => by
    obtain ⟨h1, h2⟩ := p_sd_se h t
    have hb := p_se_b h t
    have e : p_sg h (t + 1) (p_sd h (t + 1)).2.2 + p_se h (t + 1) = t + 1 := by
      rw [p_sg, p_se, Nat.add_sub_cancel]
      by_cases c : h (t + 1) = h t
      · rw [if_neg (fun z => z.2 c), if_pos c]
        omega
      · rw [if_pos ⟨by omega, c⟩, if_neg c]
    constructor
    · rw [p_sd]
      exact e
    · rw [p_sd]
      simp only []
      split <;> omega
theorem p_sd_max (h : Nat → Nat) : ∀ N, (∀ t, t < N → p_se h t + 1 ≤ (p_sd h N).1) ∧ (0 < N → ∃ t, t < N ∧ (p_sd h N).1 = p_se h t + 1)
  | 0 => ⟨fun t ht => by omega, fun h => by omega⟩
  | N + 1 => by
    obtain ⟨h1, h2⟩ := p_sd_max h N
    obtain ⟨-, e⟩ := p_sd_se h N
    constructor
    · intro t ht
      by_cases c : t = N
      · subst c
        omega
      · have := h1 t (by omega)
        omega
    · intro _
      by_cases c : (p_sd h N).1 ≤ p_se h N + 1
      · exact ⟨N, by omega, by omega⟩
      · by_cases hN : 0 < N
        · obtain ⟨t, a, b⟩ := h2 hN
          exact ⟨t, by omega, by omega⟩
        · obtain rfl : N = 0 := by omega
          exact absurd (show (p_sd h 0).1 ≤ p_se h 0 + 1 from Nat.zero_le _) c
theorem p_dd_no (h : Nat → Nat) (x : Nat) : ∀ k t, (∀ s, t ≤ s → s < t + k → p_se h s < x) → p_dd h x k t = -2
  | 0, _, _ => rfl
  | k + 1, t, hs => by
    have := hs t (Nat.le_refl _) (by omega)
    rw [p_dd, if_neg (by omega)]
    exact p_dd_no h x k (t + 1) (fun s a b => hs s (by omega) (by omega))
theorem p_dd_yes (h : Nat → Nat) (x : Nat) : ∀ k t, t + k < 2000 → (∃ s, t ≤ s ∧ s < t + k ∧ x ≤ p_se h s) → p_dd h x k t ≠ -2
  | 0, t, _, ⟨s, a, b, _⟩ => by omega
  | k + 1, t, hk, ⟨s, a, b, c⟩ => by
    rw [p_dd]
    by_cases e : x ≤ p_se h t
    · rw [if_pos e]
      intro z
      have := congrArg Int32.toInt z
      rw [n_toInt (by omega), k9L_m2] at this
      omega
    · rw [if_neg e]
      refine p_dd_yes h x k (t + 1) (by omega) ⟨s, ?_, by omega, c⟩
      by_cases z : s = t
      · subst z
        exact absurd c e
      · omega
theorem t_patience (hI : k9_Inv I J) : k9_P S (d + 20) 112 203 [some (k9_r 1 0)] [some (k9_r 12 0), none] I J k9_Inv := by
  obtain ⟨w, V, b, v⟩ := hI
  have v : k9_Iv I J w V b := v
  have hf := v.1.2.2.1
  have hlen := p_len_b hf
  obtain ⟨I1, e1, b1, i1⟩ := k9s_148 (S := S) (d := d + 13) v
  obtain ⟨h, hh⟩ : ∃ h, h = p_sh w (p_tt w) V := ⟨_, rfl⟩
  have hsd := p_sd_b h (p_len w)
  obtain ⟨mx1, mx2⟩ := p_sd_max h (p_len w)
  have e10 := k9s_10 (S := S) (d := d + 17) (J := J) i1.1.1 hf
  have e60 := k9s_60 (S := S) (d := d + 18) (J := J) (q := 0) (N := p_len w) (x := nI (p_len w) - 1) b1 (n_pm1 (by omega)) (by omega) (by omega) (by omega) (fun t => p_sh_b t) (by omega)
  rw [if_pos rfl, ← hh] at e60
  obtain ⟨m, hm⟩ : ∃ m, m = max 1 (p_sd h (p_len w)).1 := ⟨_, rfl⟩
  obtain ⟨I2, e2, m2, i2⟩ := k9_run (S := S) (d := d + 14) i1
  rw [← hh] at m2
  have e201 := fun (x : Nat) (h0 : 1 ≤ x) (h1 : x ≤ 1000) => k9s_201 (S := S) (d := d + 19) (J := J) (x := x) m2 hlen (fun t => by rw [hh]; exact p_sh_b t) h1 h0
  have mn : (if (1 : Int32) < nI (p_sd h (p_len w)).1 then nI (p_sd h (p_len w)).1 else 1) = nI m := by
    rw [hm]
    exact n_max (a := 1) (by omega) (by omega)
  have km : ∀ k x, x + k = m → 1 ≤ x → k9_ok (k9_R S (d + 20) 203 4 [some (k9_r 12 0), some (k9_i (nI x))] [] I2 J) (fun q => q = (some (k9_i (nI m)), I2, J)) := by
    intro k
    induction k with
    | zero =>
      intro x hx h1
      obtain rfl : x = m := by omega
      have e := e201 x h1 (by omega)
      rw [p_dd_no h x _ _ (fun s a b => by
        have := mx1 s (by omega)
        omega)] at e
      refine k9o_eq k9e_203_4 (k9o_F (by rw [n_toInt (by omega)]; omega) (k9o_eq k9e_203_7 (k9o_call e ?_)))
      simp only [k9_ps_s]
      exact k9o_eq k9e_203_10 (k9o_T (by decide) (k9o_eq k9e_203_12 (k9o_ret rfl)))
    | succ k ih =>
      intro x hx h1
      have e := e201 x h1 (by omega)
      have hpos : 0 < p_len w := by
        apply Nat.pos_of_ne_zero
        intro z
        rw [z] at hm
        have : (p_sd h 0).1 = 0 := rfl
        omega
      obtain ⟨t, t1, t2⟩ := mx2 hpos
      have hne := p_dd_yes h x (p_len w - 1) 1 (by omega) ⟨t, by
        apply Nat.pos_of_ne_zero
        intro z
        subst z
        have : p_se h 0 = 0 := rfl
        omega, by omega, by omega⟩
      refine k9o_eq k9e_203_4 (k9o_F (by rw [n_toInt (by omega)]; omega) (k9o_eq k9e_203_7 (k9o_call e ?_)))
      simp only [k9_ps_s]
      refine k9o_eq k9e_203_10 (k9o_F (fun z => hne (n_ext (by rw [z]; decide))) (k9o_eq k9e_203_14 ?_))
      rw [nI_1]
      exact ih (x + 1) (by omega) (by omega)
  refine k9P_of ?_
  simp (disch := omega) only [k9e_112_0, k9e_112_3, k9e_112_8, k9e_112_11, Nat.reduceEqDiff, Int.reduceEq, Int.reduceLT, Int.reduceLE, k9_ps_s, k9_ps_n, k9_ur, false_and, and_false, true_and, and_true, true_or, or_true, false_or, or_false, eq_self, ↓reduceIte, not_true_eq_false, not_false_eq_true, n_toInt, n_cl, nI_1, nI_add, n_a0, n_p2, n_p3, n_p4, n_x2, n_x3, n_x4, n_x60, n_x100, n_pm1, k9L_m2, k9L_m1, k9L_0, k9L_1, k9L_2, k9L_3, k9L_4, k9L_5, k9L_6, k9L_7, k9L_8, k9L_9, k9L_10, k9L_20, k9L_23, k9L_24, k9L_30, k9L_40, k9L_50, k9L_60, k9L_99, k9L_100, k9L_120, k9L_255, k9L_999, k9L_1000, k9_bs, k9_ba]
  repeat (first | ((with_reducible refine k9q_T ?_ ?_); · omega) | ((with_reducible refine k9q_F ?_ ?_); · omega) | ((with_reducible refine k9q_Tb ?_ ?_); · omega) | ((with_reducible refine k9q_Fb ?_ ?_); · omega) | (refine k9o_call (e1) ?_; simp (disch := omega) only [k9e_112_0, k9e_112_3, k9e_112_8, k9e_112_11, Nat.reduceEqDiff, Int.reduceEq, Int.reduceLT, Int.reduceLE, k9_ps_s, k9_ps_n, k9_ur, false_and, and_false, true_and, and_true, true_or, or_true, false_or, or_false, eq_self, ↓reduceIte, not_true_eq_false, not_false_eq_true, n_toInt, n_cl, nI_1, nI_add, n_a0, n_p2, n_p3, n_p4, n_x2, n_x3, n_x4, n_x60, n_x100, n_pm1, k9L_m2, k9L_m1, k9L_0, k9L_1, k9L_2, k9L_3, k9L_4, k9L_5, k9L_6, k9L_7, k9L_8, k9L_9, k9L_10, k9L_20, k9L_23, k9L_24, k9L_30, k9L_40, k9L_50, k9L_60, k9L_99, k9L_100, k9L_120, k9L_255, k9L_999, k9L_1000, k9_bs, k9_ba]) | (refine k9o_call (e10) ?_; simp (disch := omega) only [k9e_112_0, k9e_112_3, k9e_112_8, k9e_112_11, Nat.reduceEqDiff, Int.reduceEq, Int.reduceLT, Int.reduceLE, k9_ps_s, k9_ps_n, k9_ur, false_and, and_false, true_and, and_true, true_or, or_true, false_or, or_false, eq_self, ↓reduceIte, not_true_eq_false, not_false_eq_true, n_toInt, n_cl, nI_1, nI_add, n_a0, n_p2, n_p3, n_p4, n_x2, n_x3, n_x4, n_x60, n_x100, n_pm1, k9L_m2, k9L_m1, k9L_0, k9L_1, k9L_2, k9L_3, k9L_4, k9L_5, k9L_6, k9L_7, k9L_8, k9L_9, k9L_10, k9L_20, k9L_23, k9L_24, k9L_30, k9L_40, k9L_50, k9L_60, k9L_99, k9L_100, k9L_120, k9L_255, k9L_999, k9L_1000, k9_bs, k9_ba]) | (refine k9o_call (e60) ?_; simp (disch := omega) only [k9e_112_0, k9e_112_3, k9e_112_8, k9e_112_11, Nat.reduceEqDiff, Int.reduceEq, Int.reduceLT, Int.reduceLE, k9_ps_s, k9_ps_n, k9_ur, false_and, and_false, true_and, and_true, true_or, or_true, false_or, or_false, eq_self, ↓reduceIte, not_true_eq_false, not_false_eq_true, n_toInt, n_cl, nI_1, nI_add, n_a0, n_p2, n_p3, n_p4, n_x2, n_x3, n_x4, n_x60, n_x100, n_pm1, k9L_m2, k9L_m1, k9L_0, k9L_1, k9L_2, k9L_3, k9L_4, k9L_5, k9L_6, k9L_7, k9L_8, k9L_9, k9L_10, k9L_20, k9L_23, k9L_24, k9L_30, k9L_40, k9L_50, k9L_60, k9L_99, k9L_100, k9L_120, k9L_255, k9L_999, k9L_1000, k9_bs, k9_ba]) | simp (disch := omega) only [k9e_112_0, k9e_112_3, k9e_112_8, k9e_112_11, Nat.reduceEqDiff, Int.reduceEq, Int.reduceLT, Int.reduceLE, k9_ps_s, k9_ps_n, k9_ur, false_and, and_false, true_and, and_true, true_or, or_true, false_or, or_false, eq_self, ↓reduceIte, not_true_eq_false, not_false_eq_true, n_toInt, n_cl, nI_1, nI_add, n_a0, n_p2, n_p3, n_p4, n_x2, n_x3, n_x4, n_x60, n_x100, n_pm1, k9L_m2, k9L_m1, k9L_0, k9L_1, k9L_2, k9L_3, k9L_4, k9L_5, k9L_6, k9L_7, k9L_8, k9L_9, k9L_10, k9L_20, k9L_23, k9L_24, k9L_30, k9L_40, k9L_50, k9L_60, k9L_99, k9L_100, k9L_120, k9L_255, k9L_999, k9L_1000, k9_bs, k9_ba])
  rw [mn]
  refine k9o_ret ⟨_, _, _, rfl, ?_⟩
  simp (disch := omega) only [k9e_203_0, k9e_203_2, k9e_203_7, k9e_203_10, k9e_203_12, k9e_203_14, k9e_203_16, Nat.reduceEqDiff, Int.reduceEq, Int.reduceLT, Int.reduceLE, k9_ps_s, k9_ps_n, k9_ur, false_and, and_false, true_and, and_true, true_or, or_true, false_or, or_false, eq_self, ↓reduceIte, not_true_eq_false, not_false_eq_true, n_toInt, n_cl, nI_1, nI_add, n_a0, n_p2, n_p3, n_p4, n_x2, n_x3, n_x4, n_x60, n_x100, n_pm1, k9L_m2, k9L_m1, k9L_0, k9L_1, k9L_2, k9L_3, k9L_4, k9L_5, k9L_6, k9L_7, k9L_8, k9L_9, k9L_10, k9L_20, k9L_23, k9L_24, k9L_30, k9L_40, k9L_50, k9L_60, k9L_99, k9L_100, k9L_120, k9L_255, k9L_999, k9L_1000, k9_bs, k9_ba]
  repeat (first | ((with_reducible refine k9q_T ?_ ?_); · omega) | ((with_reducible refine k9q_F ?_ ?_); · omega) | ((with_reducible refine k9q_Tb ?_ ?_); · omega) | ((with_reducible refine k9q_Fb ?_ ?_); · omega) | (refine k9o_call (e2) ?_; simp (disch := omega) only [k9e_203_0, k9e_203_2, k9e_203_7, k9e_203_10, k9e_203_12, k9e_203_14, k9e_203_16, Nat.reduceEqDiff, Int.reduceEq, Int.reduceLT, Int.reduceLE, k9_ps_s, k9_ps_n, k9_ur, false_and, and_false, true_and, and_true, true_or, or_true, false_or, or_false, eq_self, ↓reduceIte, not_true_eq_false, not_false_eq_true, n_toInt, n_cl, nI_1, nI_add, n_a0, n_p2, n_p3, n_p4, n_x2, n_x3, n_x4, n_x60, n_x100, n_pm1, k9L_m2, k9L_m1, k9L_0, k9L_1, k9L_2, k9L_3, k9L_4, k9L_5, k9L_6, k9L_7, k9L_8, k9L_9, k9L_10, k9L_20, k9L_23, k9L_24, k9L_30, k9L_40, k9L_50, k9L_60, k9L_99, k9L_100, k9L_120, k9L_255, k9L_999, k9L_1000, k9_bs, k9_ba]) | simp (disch := omega) only [k9e_203_0, k9e_203_2, k9e_203_7, k9e_203_10, k9e_203_12, k9e_203_14, k9e_203_16, Nat.reduceEqDiff, Int.reduceEq, Int.reduceLT, Int.reduceLE, k9_ps_s, k9_ps_n, k9_ur, false_and, and_false, true_and, and_true, true_or, or_true, false_or, or_false, eq_self, ↓reduceIte, not_true_eq_false, not_false_eq_true, n_toInt, n_cl, nI_1, nI_add, n_a0, n_p2, n_p3, n_p4, n_x2, n_x3, n_x4, n_x60, n_x100, n_pm1, k9L_m2, k9L_m1, k9L_0, k9L_1, k9L_2, k9L_3, k9L_4, k9L_5, k9L_6, k9L_7, k9L_8, k9L_9, k9L_10, k9L_20, k9L_23, k9L_24, k9L_30, k9L_40, k9L_50, k9L_60, k9L_99, k9L_100, k9L_120, k9L_255, k9L_999, k9L_1000, k9_bs, k9_ba])
  obtain ⟨q2, c2, rfl⟩ := km (m - 1) 1 (by omega) (Nat.le_refl _)
  exact k9o_to c2 ⟨_, _, rfl, k9_Iv_e i2⟩
end KT18

/-! SEEN: what a trial shows; which -/
section KT19
variable {S : k9_S} {d : Nat} {I I' : k9_I} {J J' : k9_J} {w : Nat → Nat → Nat} {V : (Nat → Int32) → Int32} {b : Nat} {x1 x2 x3 : Int32} {h c : Nat → Nat} {L A f M : Nat}
def k9_Ft (k i p : Nat) : Bool := k9_Fw 1 k i p || k9_Fb 1 k i p
theorem k9_Ft_b {I1 I2 : k9_I} (h : k9_fx (k9_Fb 1) I1 I2) : k9_fx k9_Ft I1 I2 := k9_fx_w h (fun k i p e => by
  unfold k9_Ft at e
  exact (Bool.or_eq_false_iff.mp e).2)
theorem k9_Ft_w {I1 I2 : k9_I} (h : k9_fx (k9_Fw 1) I1 I2) : k9_fx k9_Ft I1 I2 := k9_fx_w h (fun k i p e => by
  unfold k9_Ft at e
  exact (Bool.or_eq_false_iff.mp e).1)
theorem k9_Fw1_X {X : Nat → Bool} (hX : X 0 = true) : ∀ k i p, k9_Fw 1 k i p = true → X (v_cl k i p) = true := by
  intro k i p e
  simp only [k9_Fw, Bool.or_eq_true, Bool.and_eq_true] at e
  obtain ⟨e, e0⟩ := e
  have e0 := k9_beq_of e0
  subst e0
  rcases e with (((e | e) | e) | e) | e <;> (rw [k9_beq_of e]; exact hX)
theorem k9_Ft_X {X : Nat → Bool} (hX : X 0 = true) : ∀ k i p, k9_Ft k i p = true → X (v_cl k i p) = true := by
  intro k i p e
  rcases Bool.or_eq_true_iff.mp e with e | e
  · exact k9_Fw1_X hX k i p e
  · exact k9_Fb1_X hX k i p e
theorem p_fu_ne (h : Nat → Nat) (g : Nat → Int32) (t : Nat) : ∀ k i, t ≤ 999 → i + k ≤ 1000 → (∃ j, i ≤ j ∧ j < i + k ∧ 999 < t + j) → p_fu h g t k i ≠ -2
  | 0, i, _, _, ⟨j, a, b, _⟩ => by omega
  | k + 1, i, ht, hi, ⟨j, a, b, c⟩ => by
    rw [p_fu]
    by_cases e : 999 < t + i ∨ ¬ nI (h (t + i)) = g i
    · rw [if_pos e]
      intro z
      have := congrArg Int32.toInt z
      rw [n_toInt (by omega), k9L_m2] at this
      omega
    · rw [if_neg e]
      refine p_fu_ne h g t k (i + 1) ht (by omega) ⟨j, ?_, by omega, c⟩
      by_cases z : j = i
      · subst z
        exact absurd (Or.inl c) e
      · omega
theorem k9s_53 (hW : k9_Wk I 1 w) (hf : k9_wf w) (hl : I 6 0 0 = 0 ∨ I 6 0 0 = 1) : k9_R S d 53 0 [some (k9_r 2 1), some (k9_r 6 0)] [] I J = some (some (k9_i (@ite _ (p_lb w (I 6 0 0)) (Classical.propDecidable _) 1 0)), I, J) := by
  have h4 := hf.2.1
  have h5 := hf.2.2.1
  have h7 := hf.2.2.2.1
  refine k9o_of ?_
  by_cases a : w 6 0 = 1
  · rw [if_pos (show p_lb w (I 6 0 0) from Or.inl a)]
    simp (disch := omega) only [k9e_53_0, k9e_53_5, k9e_53_9, k9e_53_14, k9e_53_17, k9e_53_19, k9e_53_20, Nat.reduceEqDiff, Int.reduceEq, Int.reduceLT, Int.reduceLE, k9_ps_s, k9_ps_n, k9_ur, false_and, and_false, true_and, and_true, true_or, or_true, false_or, or_false, eq_self, ↓reduceIte, not_true_eq_false, not_false_eq_true, n_toInt, n_cl, nI_1, nI_add, n_a0, n_p2, n_p3, n_p4, n_x2, n_x3, n_x4, n_x60, n_x100, n_pm1, k9L_m2, k9L_m1, k9L_0, k9L_1, k9L_2, k9L_3, k9L_4, k9L_5, k9L_6, k9L_7, k9L_8, k9L_9, k9L_10, k9L_20, k9L_23, k9L_24, k9L_30, k9L_40, k9L_50, k9L_60, k9L_99, k9L_100, k9L_120, k9L_255, k9L_999, k9L_1000, k9_bs, k9_ba, hW.2.2.2.1]
    repeat (first | ((with_reducible refine k9q_T ?_ ?_); · omega) | ((with_reducible refine k9q_F ?_ ?_); · omega) | ((with_reducible refine k9q_Tb ?_ ?_); · omega) | ((with_reducible refine k9q_Fb ?_ ?_); · omega) | simp (disch := omega) only [k9e_53_0, k9e_53_5, k9e_53_9, k9e_53_14, k9e_53_17, k9e_53_19, k9e_53_20, Nat.reduceEqDiff, Int.reduceEq, Int.reduceLT, Int.reduceLE, k9_ps_s, k9_ps_n, k9_ur, false_and, and_false, true_and, and_true, true_or, or_true, false_or, or_false, eq_self, ↓reduceIte, not_true_eq_false, not_false_eq_true, n_toInt, n_cl, nI_1, nI_add, n_a0, n_p2, n_p3, n_p4, n_x2, n_x3, n_x4, n_x60, n_x100, n_pm1, k9L_m2, k9L_m1, k9L_0, k9L_1, k9L_2, k9L_3, k9L_4, k9L_5, k9L_6, k9L_7, k9L_8, k9L_9, k9L_10, k9L_20, k9L_23, k9L_24, k9L_30, k9L_40, k9L_50, k9L_60, k9L_99, k9L_100, k9L_120, k9L_255, k9L_999, k9L_1000, k9_bs, k9_ba, hW.2.2.2.1])
    exact k9o_ret rfl
  · by_cases b : 0 < w 5 0
    · rw [if_pos (show p_lb w (I 6 0 0) from Or.inr (Or.inl b))]
      simp (disch := omega) only [k9e_53_0, k9e_53_5, k9e_53_9, k9e_53_14, k9e_53_17, k9e_53_19, k9e_53_20, Nat.reduceEqDiff, Int.reduceEq, Int.reduceLT, Int.reduceLE, k9_ps_s, k9_ps_n, k9_ur, false_and, and_false, true_and, and_true, true_or, or_true, false_or, or_false, eq_self, ↓reduceIte, not_true_eq_false, not_false_eq_true, n_toInt, n_cl, nI_1, nI_add, n_a0, n_p2, n_p3, n_p4, n_x2, n_x3, n_x4, n_x60, n_x100, n_pm1, k9L_m2, k9L_m1, k9L_0, k9L_1, k9L_2, k9L_3, k9L_4, k9L_5, k9L_6, k9L_7, k9L_8, k9L_9, k9L_10, k9L_20, k9L_23, k9L_24, k9L_30, k9L_40, k9L_50, k9L_60, k9L_99, k9L_100, k9L_120, k9L_255, k9L_999, k9L_1000, k9_bs, k9_ba, hW.2.2.2.1, hW.2.2.1]
      repeat (first | ((with_reducible refine k9q_T ?_ ?_); · omega) | ((with_reducible refine k9q_F ?_ ?_); · omega) | ((with_reducible refine k9q_Tb ?_ ?_); · omega) | ((with_reducible refine k9q_Fb ?_ ?_); · omega) | simp (disch := omega) only [k9e_53_0, k9e_53_5, k9e_53_9, k9e_53_14, k9e_53_17, k9e_53_19, k9e_53_20, Nat.reduceEqDiff, Int.reduceEq, Int.reduceLT, Int.reduceLE, k9_ps_s, k9_ps_n, k9_ur, false_and, and_false, true_and, and_true, true_or, or_true, false_or, or_false, eq_self, ↓reduceIte, not_true_eq_false, not_false_eq_true, n_toInt, n_cl, nI_1, nI_add, n_a0, n_p2, n_p3, n_p4, n_x2, n_x3, n_x4, n_x60, n_x100, n_pm1, k9L_m2, k9L_m1, k9L_0, k9L_1, k9L_2, k9L_3, k9L_4, k9L_5, k9L_6, k9L_7, k9L_8, k9L_9, k9L_10, k9L_20, k9L_23, k9L_24, k9L_30, k9L_40, k9L_50, k9L_60, k9L_99, k9L_100, k9L_120, k9L_255, k9L_999, k9L_1000, k9_bs, k9_ba, hW.2.2.2.1, hW.2.2.1])
      exact k9o_ret rfl
    · by_cases c : w 4 0 = 4
      · rcases hl with hl | hl
        · rw [if_neg (fun z => by
            rcases z with z | z | ⟨-, z⟩
            · exact a z
            · exact b z
            · rw [hl] at z
              exact absurd z (by decide))]
          simp (disch := omega) only [k9e_53_0, k9e_53_5, k9e_53_9, k9e_53_14, k9e_53_17, k9e_53_19, k9e_53_20, Nat.reduceEqDiff, Int.reduceEq, Int.reduceLT, Int.reduceLE, k9_ps_s, k9_ps_n, k9_ur, false_and, and_false, true_and, and_true, true_or, or_true, false_or, or_false, eq_self, ↓reduceIte, not_true_eq_false, not_false_eq_true, n_toInt, n_cl, nI_1, nI_add, n_a0, n_p2, n_p3, n_p4, n_x2, n_x3, n_x4, n_x60, n_x100, n_pm1, k9L_m2, k9L_m1, k9L_0, k9L_1, k9L_2, k9L_3, k9L_4, k9L_5, k9L_6, k9L_7, k9L_8, k9L_9, k9L_10, k9L_20, k9L_23, k9L_24, k9L_30, k9L_40, k9L_50, k9L_60, k9L_99, k9L_100, k9L_120, k9L_255, k9L_999, k9L_1000, k9_bs, k9_ba, hW.2.2.2.1, hW.2.2.1, hW.2.1, hl]
          repeat (first | ((with_reducible refine k9q_T ?_ ?_); · omega) | ((with_reducible refine k9q_F ?_ ?_); · omega) | ((with_reducible refine k9q_Tb ?_ ?_); · omega) | ((with_reducible refine k9q_Fb ?_ ?_); · omega) | simp (disch := omega) only [k9e_53_0, k9e_53_5, k9e_53_9, k9e_53_14, k9e_53_17, k9e_53_19, k9e_53_20, Nat.reduceEqDiff, Int.reduceEq, Int.reduceLT, Int.reduceLE, k9_ps_s, k9_ps_n, k9_ur, false_and, and_false, true_and, and_true, true_or, or_true, false_or, or_false, eq_self, ↓reduceIte, not_true_eq_false, not_false_eq_true, n_toInt, n_cl, nI_1, nI_add, n_a0, n_p2, n_p3, n_p4, n_x2, n_x3, n_x4, n_x60, n_x100, n_pm1, k9L_m2, k9L_m1, k9L_0, k9L_1, k9L_2, k9L_3, k9L_4, k9L_5, k9L_6, k9L_7, k9L_8, k9L_9, k9L_10, k9L_20, k9L_23, k9L_24, k9L_30, k9L_40, k9L_50, k9L_60, k9L_99, k9L_100, k9L_120, k9L_255, k9L_999, k9L_1000, k9_bs, k9_ba, hW.2.2.2.1, hW.2.2.1, hW.2.1, hl])
          exact k9o_ret rfl
        · rw [if_pos (show p_lb w (I 6 0 0) from Or.inr (Or.inr ⟨c, hl⟩))]
          simp (disch := omega) only [k9e_53_0, k9e_53_5, k9e_53_9, k9e_53_14, k9e_53_17, k9e_53_19, k9e_53_20, Nat.reduceEqDiff, Int.reduceEq, Int.reduceLT, Int.reduceLE, k9_ps_s, k9_ps_n, k9_ur, false_and, and_false, true_and, and_true, true_or, or_true, false_or, or_false, eq_self, ↓reduceIte, not_true_eq_false, not_false_eq_true, n_toInt, n_cl, nI_1, nI_add, n_a0, n_p2, n_p3, n_p4, n_x2, n_x3, n_x4, n_x60, n_x100, n_pm1, k9L_m2, k9L_m1, k9L_0, k9L_1, k9L_2, k9L_3, k9L_4, k9L_5, k9L_6, k9L_7, k9L_8, k9L_9, k9L_10, k9L_20, k9L_23, k9L_24, k9L_30, k9L_40, k9L_50, k9L_60, k9L_99, k9L_100, k9L_120, k9L_255, k9L_999, k9L_1000, k9_bs, k9_ba, hW.2.2.2.1, hW.2.2.1, hW.2.1, hl]
          repeat (first | ((with_reducible refine k9q_T ?_ ?_); · omega) | ((with_reducible refine k9q_F ?_ ?_); · omega) | ((with_reducible refine k9q_Tb ?_ ?_); · omega) | ((with_reducible refine k9q_Fb ?_ ?_); · omega) | simp (disch := omega) only [k9e_53_0, k9e_53_5, k9e_53_9, k9e_53_14, k9e_53_17, k9e_53_19, k9e_53_20, Nat.reduceEqDiff, Int.reduceEq, Int.reduceLT, Int.reduceLE, k9_ps_s, k9_ps_n, k9_ur, false_and, and_false, true_and, and_true, true_or, or_true, false_or, or_false, eq_self, ↓reduceIte, not_true_eq_false, not_false_eq_true, n_toInt, n_cl, nI_1, nI_add, n_a0, n_p2, n_p3, n_p4, n_x2, n_x3, n_x4, n_x60, n_x100, n_pm1, k9L_m2, k9L_m1, k9L_0, k9L_1, k9L_2, k9L_3, k9L_4, k9L_5, k9L_6, k9L_7, k9L_8, k9L_9, k9L_10, k9L_20, k9L_23, k9L_24, k9L_30, k9L_40, k9L_50, k9L_60, k9L_99, k9L_100, k9L_120, k9L_255, k9L_999, k9L_1000, k9_bs, k9_ba, hW.2.2.2.1, hW.2.2.1, hW.2.1, hl])
          exact k9o_ret rfl
      · rw [if_neg (fun z => by
          rcases z with z | z | ⟨z, -⟩
          · exact a z
          · exact b z
          · exact c z)]
        simp (disch := omega) only [k9e_53_0, k9e_53_5, k9e_53_9, k9e_53_14, k9e_53_17, k9e_53_19, k9e_53_20, Nat.reduceEqDiff, Int.reduceEq, Int.reduceLT, Int.reduceLE, k9_ps_s, k9_ps_n, k9_ur, false_and, and_false, true_and, and_true, true_or, or_true, false_or, or_false, eq_self, ↓reduceIte, not_true_eq_false, not_false_eq_true, n_toInt, n_cl, nI_1, nI_add, n_a0, n_p2, n_p3, n_p4, n_x2, n_x3, n_x4, n_x60, n_x100, n_pm1, k9L_m2, k9L_m1, k9L_0, k9L_1, k9L_2, k9L_3, k9L_4, k9L_5, k9L_6, k9L_7, k9L_8, k9L_9, k9L_10, k9L_20, k9L_23, k9L_24, k9L_30, k9L_40, k9L_50, k9L_60, k9L_99, k9L_100, k9L_120, k9L_255, k9L_999, k9L_1000, k9_bs, k9_ba, hW.2.2.2.1, hW.2.2.1, hW.2.1]
        repeat (first | ((with_reducible refine k9q_T ?_ ?_); · omega) | ((with_reducible refine k9q_F ?_ ?_); · omega) | ((with_reducible refine k9q_Tb ?_ ?_); · omega) | ((with_reducible refine k9q_Fb ?_ ?_); · omega) | simp (disch := omega) only [k9e_53_0, k9e_53_5, k9e_53_9, k9e_53_14, k9e_53_17, k9e_53_19, k9e_53_20, Nat.reduceEqDiff, Int.reduceEq, Int.reduceLT, Int.reduceLE, k9_ps_s, k9_ps_n, k9_ur, false_and, and_false, true_and, and_true, true_or, or_true, false_or, or_false, eq_self, ↓reduceIte, not_true_eq_false, not_false_eq_true, n_toInt, n_cl, nI_1, nI_add, n_a0, n_p2, n_p3, n_p4, n_x2, n_x3, n_x4, n_x60, n_x100, n_pm1, k9L_m2, k9L_m1, k9L_0, k9L_1, k9L_2, k9L_3, k9L_4, k9L_5, k9L_6, k9L_7, k9L_8, k9L_9, k9L_10, k9L_20, k9L_23, k9L_24, k9L_30, k9L_40, k9L_50, k9L_60, k9L_99, k9L_100, k9L_120, k9L_255, k9L_999, k9L_1000, k9_bs, k9_ba, hW.2.2.2.1, hW.2.2.1, hW.2.1])
        exact k9o_ret rfl
theorem k9s_151 {s z t : Nat} (hW : k9_Wk I 1 w) (hf : k9_wf w) (hC : k9_CL I V) (hz : k9_byr I s z) (ht : t ≤ 999) : ∃ I', k9_R S (d + 6) 151 0 [some (k9_r 1 0), some (k9_r 11 s), some (k9_i (nI t)), none] [] I J = some (some (k9_i (if p_fu (p_sh w (p_tt w) V) (fun i => (J 37 s i).toInt32) t z 0 = -2 then 1 else 0)), I', J) ∧ k9_fx (k9_Fb 1) I I' := by
  have hz60 := hz.2.2.2.2.2
  have hend : (nI (t + z) - 1).toInt = ((t + z : Nat) : Int) - 1 := n_pm1 (by omega)
  by_cases he : t + z ≤ 1000
  · have e53 := k9s_53 (S := S) (d := d + 5) (J := J) hW hf hC.2.1
    -- from whichever second it is rolled
    have rest : ∀ f : Nat, f ≤ t → (f = 0 ∨ ¬ p_lb w (I 6 0 0)) → ∃ I', k9_ok (k9_R S (d + 6) 151 25 [some (k9_r 1 0), some (k9_r 11 s), some (k9_i (nI t)), some (k9_i (nI (t + z) - 1))] [k9_i (nI f), k9_r 6 0, k9_r 2 1] I J) (fun q => q = (some (k9_i (if p_fu (p_sh w (p_tt w) V) (fun i => (J 37 s i).toInt32) t z 0 = -2 then 1 else 0)), I', J)) ∧ k9_fx (k9_Fb 1) I I' := by
      intro f hft hlb
      obtain ⟨I1, e1, r1, x1⟩ := k9s_54 (S := S) (d := d + 1) (I := I) (J := J) (i0 := 1) (w := w) (V := V) (f := f) (L := t + z) (x := nI (t + z) - 1) hW hf hC hend he (by omega) hlb
      refine ⟨I1, ?_, x1⟩
      have e66 := k9s_66 (S := S) (d := d + 3) (J := J) (t := t) (n := z) (i1 := s) (M := t + z) (f := f) (I := I1) (i0 := 1) (h := p_sh w (p_tt w) V) (c := p_co w) (L := p_len w) (A := p_tt w 0) r1 hft ((x1 11 s 3 rfl).trans hz.2.2.1) hz60 he ht (Or.inl (Nat.le_refl _))
      refine k9o_eq k9e_151_25 (k9o_call e1 ?_)
      simp only [k9_ps_n]
      refine k9o_eq k9e_151_27 (k9o_call e66 ?_)
      simp only [k9_ps_s]
      refine k9o_eq k9e_151_32 ?_
      by_cases c : p_fu (p_sh w (p_tt w) V) (fun i => (J 37 s i).toInt32) t z 0 = -2
      · rw [if_pos c]
        refine k9o_T (by rw [c]; decide) ?_
        simp (disch := omega) only [k9e_151_34, k9e_151_36, k9e_151_37, Nat.reduceEqDiff, Int.reduceEq, Int.reduceLT, Int.reduceLE, k9_ps_s, k9_ps_n, k9_ur, false_and, and_false, true_and, and_true, true_or, or_true, false_or, or_false, eq_self, ↓reduceIte, not_true_eq_false, not_false_eq_true, n_toInt, n_cl, nI_1, nI_add, n_a0, n_p2, n_p3, n_p4, n_x2, n_x3, n_x4, n_x60, n_x100, n_pm1, k9L_m2, k9L_m1, k9L_0, k9L_1, k9L_2, k9L_3, k9L_4, k9L_5, k9L_6, k9L_7, k9L_8, k9L_9, k9L_10, k9L_20, k9L_23, k9L_24, k9L_30, k9L_40, k9L_50, k9L_60, k9L_99, k9L_100, k9L_120, k9L_255, k9L_999, k9L_1000, k9_bs, k9_ba]
        repeat (first | ((with_reducible refine k9q_T ?_ ?_); · omega) | ((with_reducible refine k9q_F ?_ ?_); · omega) | ((with_reducible refine k9q_Tb ?_ ?_); · omega) | ((with_reducible refine k9q_Fb ?_ ?_); · omega) | simp (disch := omega) only [k9e_151_34, k9e_151_36, k9e_151_37, Nat.reduceEqDiff, Int.reduceEq, Int.reduceLT, Int.reduceLE, k9_ps_s, k9_ps_n, k9_ur, false_and, and_false, true_and, and_true, true_or, or_true, false_or, or_false, eq_self, ↓reduceIte, not_true_eq_false, not_false_eq_true, n_toInt, n_cl, nI_1, nI_add, n_a0, n_p2, n_p3, n_p4, n_x2, n_x3, n_x4, n_x60, n_x100, n_pm1, k9L_m2, k9L_m1, k9L_0, k9L_1, k9L_2, k9L_3, k9L_4, k9L_5, k9L_6, k9L_7, k9L_8, k9L_9, k9L_10, k9L_20, k9L_23, k9L_24, k9L_30, k9L_40, k9L_50, k9L_60, k9L_99, k9L_100, k9L_120, k9L_255, k9L_999, k9L_1000, k9_bs, k9_ba])
        exact k9o_ret rfl
      · rw [if_neg c]
        refine k9o_F (fun y => c (n_ext (by rw [y]; decide))) ?_
        simp (disch := omega) only [k9e_151_34, k9e_151_36, k9e_151_37, Nat.reduceEqDiff, Int.reduceEq, Int.reduceLT, Int.reduceLE, k9_ps_s, k9_ps_n, k9_ur, false_and, and_false, true_and, and_true, true_or, or_true, false_or, or_false, eq_self, ↓reduceIte, not_true_eq_false, not_false_eq_true, n_toInt, n_cl, nI_1, nI_add, n_a0, n_p2, n_p3, n_p4, n_x2, n_x3, n_x4, n_x60, n_x100, n_pm1, k9L_m2, k9L_m1, k9L_0, k9L_1, k9L_2, k9L_3, k9L_4, k9L_5, k9L_6, k9L_7, k9L_8, k9L_9, k9L_10, k9L_20, k9L_23, k9L_24, k9L_30, k9L_40, k9L_50, k9L_60, k9L_99, k9L_100, k9L_120, k9L_255, k9L_999, k9L_1000, k9_bs, k9_ba]
        repeat (first | ((with_reducible refine k9q_T ?_ ?_); · omega) | ((with_reducible refine k9q_F ?_ ?_); · omega) | ((with_reducible refine k9q_Tb ?_ ?_); · omega) | ((with_reducible refine k9q_Fb ?_ ?_); · omega) | simp (disch := omega) only [k9e_151_34, k9e_151_36, k9e_151_37, Nat.reduceEqDiff, Int.reduceEq, Int.reduceLT, Int.reduceLE, k9_ps_s, k9_ps_n, k9_ur, false_and, and_false, true_and, and_true, true_or, or_true, false_or, or_false, eq_self, ↓reduceIte, not_true_eq_false, not_false_eq_true, n_toInt, n_cl, nI_1, nI_add, n_a0, n_p2, n_p3, n_p4, n_x2, n_x3, n_x4, n_x60, n_x100, n_pm1, k9L_m2, k9L_m1, k9L_0, k9L_1, k9L_2, k9L_3, k9L_4, k9L_5, k9L_6, k9L_7, k9L_8, k9L_9, k9L_10, k9L_20, k9L_23, k9L_24, k9L_30, k9L_40, k9L_50, k9L_60, k9L_99, k9L_100, k9L_120, k9L_255, k9L_999, k9L_1000, k9_bs, k9_ba])
        exact k9o_ret rfl
    by_cases hlb : p_lb w (I 6 0 0)
    · rw [if_pos hlb] at e53
      obtain ⟨I1, o1, x1⟩ := rest 0 (Nat.zero_le _) (Or.inl rfl)
      refine ⟨I1, k9o_of ?_, x1⟩
      refine k9o_eq k9e_151_0 ?_
      rw [hz.2.2.1, nI_add]
      refine k9o_T (by rw [hend]; omega) (k9o_eq k9e_151_12 (k9o_call e53 ?_))
      simp only [k9_ps_s]
      exact k9o_eq k9e_151_21 (k9o_F (by decide) (k9o_eq k9e_151_22 o1))
    · rw [if_neg hlb] at e53
      obtain ⟨I1, o1, x1⟩ := rest t (Nat.le_refl _) (Or.inr hlb)
      refine ⟨I1, k9o_of ?_, x1⟩
      refine k9o_eq k9e_151_0 ?_
      rw [hz.2.2.1, nI_add]
      refine k9o_T (by rw [hend]; omega) (k9o_eq k9e_151_12 (k9o_call e53 ?_))
      simp only [k9_ps_s]
      exact k9o_eq k9e_151_21 (k9o_T (by decide) (k9o_eq k9e_151_24 o1))
  · refine ⟨I, k9o_of ?_, k9_fx_rf _ _⟩
    rw [if_neg (p_fu_ne _ _ t z 0 ht (by omega) ⟨z - 1, by omega, by omega, by omega⟩)]
    refine k9o_eq k9e_151_0 ?_
    rw [hz.2.2.1, nI_add]
    exact k9o_F (by rw [hend]; omega) (k9o_eq k9e_151_10 (k9o_ret rfl))
theorem p_up_up (w : Nat → Nat → Nat) (q p a b : Nat) : p_up (p_up w q p a) q p b = p_up w q p b := by
  funext q' p'
  unfold p_up
  split <;> rfl
theorem p_up_id (w : Nat → Nat → Nat) (q p : Nat) : p_up w q p (w q p) = w := by
  funext q' p'
  unfold p_up
  split
  · rename_i h
    rw [h.1, h.2]
  · rfl
end KT19

/-! SEEN: which; LIES: measure -/
section KT20
variable {S : k9_S} {d : Nat} {I I' : k9_I} {J J' : k9_J} {w : Nat → Nat → Nat} {V : (Nat → Int32) → Int32} {b : Nat} {x1 x2 x3 : Int32} {h c : Nat → Nat} {L A f M : Nat}
/-- of the reference: its scratch, and one of its ways -/
def k9_F2 (p0 k i p : Nat) : Bool := k9_Fq k i p || k9_F44 k i p || (Nat.beq k 44 && Nat.beq i 0 && Nat.beq p p0)
theorem k9_F2_q {p0 : Nat} {I1 I2 : k9_I} (h : k9_fx k9_Fq I1 I2) : k9_fx (k9_F2 p0) I1 I2 := k9_fx_w h (fun k i p e => by
  unfold k9_F2 at e
  exact (Bool.or_eq_false_iff.mp (Bool.or_eq_false_iff.mp e).1).1)
theorem k9_F2_44 {p0 : Nat} {I1 I2 : k9_I} (h : k9_fx k9_F44 I1 I2) : k9_fx (k9_F2 p0) I1 I2 := k9_fx_w h (fun k i p e => by
  unfold k9_F2 at e
  exact (Bool.or_eq_false_iff.mp (Bool.or_eq_false_iff.mp e).1).2)
theorem k9_F2_t (p0 : Nat) : k9_F2 p0 44 0 p0 = true := by
  unfold k9_F2
  rw [k9_beq_self p0]
  rfl
/-- the way is laid back: scratch alone has changed -/
theorem k9_F2_e {p0 : Nat} (hp : p0 < 3) (h : k9_fx (k9_F2 p0) I I') : k9_fp (k9_Xs []) I (k9_u I' 44 0 p0 (I 44 0 p0)) := by
  intro k i p e
  rw [k9_ur]
  by_cases c : k = 44 ∧ i = 0 ∧ p = p0
  · obtain ⟨rfl, rfl, rfl⟩ := c
    rw [if_pos ⟨rfl, rfl, rfl⟩]
  · rw [if_neg c]
    refine h k i p ?_
    unfold k9_F2
    have e44 : (Nat.beq k 44 && Nat.beq i 0 && Nat.beq p p0) = false := by
      cases hb : (Nat.beq k 44 && Nat.beq i 0 && Nat.beq p p0) with
      | false => rfl
      | true =>
        simp only [Bool.and_eq_true] at hb
        exact absurd ⟨k9_beq_of hb.1.1, k9_beq_of hb.1.2, k9_beq_of hb.2⟩ c
    rw [e44, Bool.or_false]
    cases hq : k9_Fq k i p with
    | true =>
      have hx := k9_Fq_X (X := k9_Xs []) rfl k i p hq
      rw [hx] at e
      cases e
    | false =>
      cases hz : k9_F44 k i p with
      | true =>
        have hx := k9_F44_X (X := k9_Xs []) rfl k i p hz
        rw [hx] at e
        cases e
      | false => rfl
theorem k9_Wm_44 {I1 : k9_I} {p0 m : Nat} (hM : k9_Wm I w) (hx : k9_fx (k9_F2 p0) I I1) (hp : p0 < 3) : k9_Wm (k9_u I1 44 0 p0 (nI m)) (p_up w (4 + p0) 0 m) := by
  obtain ⟨a0, a1, a2, a3, a4⟩ := hM
  have r44 : ∀ p, p ≠ p0 → I1 44 0 p = I 44 0 p := fun p hpp => hx 44 0 p (by
    unfold k9_F2
    cases hb : Nat.beq p p0 with
    | true => exact absurd (k9_beq_of hb) hpp
    | false => rfl)
  have h3 : p0 = 0 ∨ p0 = 1 ∨ p0 = 2 := by omega
  refine ⟨?_, ?_, ?_, ?_, fun p hp' => ?_⟩
  · simp only [k9_ur, Nat.reduceEqDiff, false_and, ↓reduceIte]
    rw [hx 12 0 0 rfl, a0, p_up, if_neg (by omega)]
  · rcases h3 with rfl | rfl | rfl
    · simp [k9_ur, p_up]
    · simp [k9_ur, p_up, r44 0 (by omega), a1]
    · simp [k9_ur, p_up, r44 0 (by omega), a1]
  · rcases h3 with rfl | rfl | rfl
    · simp [k9_ur, p_up, r44 1 (by omega), a2]
    · simp [k9_ur, p_up]
    · simp [k9_ur, p_up, r44 1 (by omega), a2]
  · rcases h3 with rfl | rfl | rfl
    · simp [k9_ur, p_up, r44 2 (by omega), a3]
    · simp [k9_ur, p_up, r44 2 (by omega), a3]
    · simp [k9_ur, p_up]
  · have hp2 : p < w 7 0 := by
      have e : p_up w (4 + p0) 0 m 7 0 = w 7 0 := by rw [p_up, if_neg (by omega)]
      omega
    simp only [k9_ur, Nat.reduceEqDiff, false_and, ↓reduceIte]
    rw [hx 40 0 p rfl, hx 41 0 p rfl, hx 42 0 p rfl, hx 43 0 p rfl, p_up, p_up, p_up, p_up, if_neg (by omega), if_neg (by omega), if_neg (by omega), if_neg (by omega)]
    exact a4 p hp2
/-- the reference runs with one of its ways told otherwise -/
theorem k9_run2 {I1 : k9_I} {p0 m : Nat} (v : k9_Iv I J w V b) (hx : k9_fx (k9_F2 p0) I I1) (hp : p0 < 3) (h1 : p_lo (4 + p0) ≤ m) (h2 : m ≤ p_hi (4 + p0)) : ∃ I2, k9_R S (d + 5) 190 0 [some (k9_r 12 0)] [] (k9_u I1 44 0 p0 (nI m)) J = some (none, I2, J) ∧ k9_Mr I2 (p_len (p_up w (4 + p0) 0 m)) (p_sh (p_up w (4 + p0) 0 m) (p_tt (p_up w (4 + p0) 0 m)) V) (p_co (p_up w (4 + p0) 0 m)) ∧ k9_fx (k9_F2 p0) I I2 := by
  have hM := k9_Wm_44 (m := m) v.1.2.1 hx hp
  have hwf : k9_wf (p_up w (4 + p0) 0 m) := k9_wf_up v.1.2.2.1 (Or.inr ⟨by omega, by omega, rfl⟩) h1 h2
  have hx1 : k9_fx (k9_F2 p0) I (k9_u I1 44 0 p0 (nI m)) := k9_fx_u hx (k9_F2_t p0)
  have hV : k9_ML (k9_u I1 44 0 p0 (nI m)) V := k9_ML_x hx1 ⟨rfl, rfl, fun _ => rfl, fun _ => rfl, fun _ => rfl, fun _ => rfl⟩ v.2.2.1.2
  obtain ⟨I2, e2, m2, x2⟩ := k9s_190 (S := S) (d := d) (J := J) hM hwf hV
  exact ⟨I2, e2, m2, k9_fx_tr hx1 (k9_F2_q x2)⟩
theorem k9_Wk_m {I1 : k9_I} {a q m : Nat} (hq : q = 4 ∨ q = 5 ∨ q = 6) (hW : k9_Wk I1 1 (p_up w q 0 a)) : k9_Wk (k9_u I1 3 1 (q - 3) (nI m)) 1 (p_up w q 0 m) := by
  have h := k9_Wk_up (q := q) (p := 0) (v := m) hW (Or.inr ⟨by omega, by omega, rfl⟩)
  rw [p_up_up] at h
  rcases hq with rfl | rfl | rfl
  · exact h
  · exact h
  · exact h
theorem k9_CL_t {I1 : k9_I} (hx : k9_fx k9_Ft I I1) (hC : k9_CL I V) : k9_CL I1 V := k9_CL_fx hC (hx 6 0 0 rfl) (hx 6 0 1 rfl) (hx 6 0 3 rfl) (funext fun p => hx 28 0 p rfl)
theorem k9_by_x {I1 : k9_I} {s z : Nat} (hx : k9_fx k9_Ft I I1) (h : k9_byr I s z) : k9_byr I1 s z := k9_by_t (funext fun p => hx 11 s p rfl) (hx 60 0 s rfl) (hx 61 0 s rfl) h
def p_wb (g : Nat → Int32) : Nat → Int32
  | 0 => 0
  | m + 1 => if g m = -2 then p_wb g m ||| (1 <<< (nI m &&& 31)) else p_wb g m
theorem t_which (hI : k9_Inv I J) : k9_P S (d + 20) 121 218 [some (k9_r 1 0), some (k9_i x1), some (k9_i x2), none, none, none] [some (k9_r 12 0), some (k9_i x1), some (k9_i x2), none, none, none, none] I J k9_Inv := by
  have hI' := hI
  obtain ⟨w, V, b, v⟩ := hI
  have v : k9_Iv I J w V b := v
  have hf := v.1.2.2.1
  have hlen := p_len_b hf
  have hb := v.2.2.2.2.1.1
  have v6 := v.2.2.2.2.2.1
  refine k9P_of ?_
  by_cases h1 : 0 ≤ x1.toInt ∧ x1.toInt ≤ 5
  · by_cases h2 : 0 ≤ x2.toInt ∧ x2.toInt ≤ 999
    · obtain ⟨s, rfl, hs, -⟩ := n_of (x := x1) (by omega)
      obtain ⟨t, rfl, ht, -⟩ := n_of (x := x2) (by omega)
      have hs6 : s < 6 := by omega
      rcases k9_byrs hb (v6.1 s hs6) with ⟨z, hz⟩ | ⟨r, hr⟩
      · obtain ⟨I1, e1, w1, x1'⟩ := k9s_15 (S := S) (d := d + 17) (I := I) (J := J) (i0 := 1) (i1 := 0) (by decide) v.1.1 hf
        obtain ⟨g, hg⟩ : ∃ g : Nat → Int32, g = fun m => p_fu (p_sh (p_up w 4 0 m) (p_tt (p_up w 4 0 m)) V) (fun i => (J 37 s i).toInt32) t z 0 := ⟨_, rfl⟩
        have hgu : ∀ m, g m = p_fu (p_sh (p_up w 4 0 m) (p_tt (p_up w 4 0 m)) V) (fun i => (J 37 s i).toInt32) t z 0 := fun m => by rw [hg]
        have kc : ∀ k m I2, m + k = 5 → (∃ a, k9_Wk I2 1 (p_up w 4 0 a)) → k9_fx k9_Ft I I2 → ∃ I3, k9_ok (k9_R S (d + 20) 121 28 [some (k9_r 1 0), some (k9_i (nI s)), some (k9_i (nI t)), some (k9_r 11 s), some (k9_i (p_wb g m)), some (k9_i (nI m))] [] I2 J) (fun q => q = (some (k9_i (p_wb g 5)), I3, J)) ∧ k9_fx k9_Ft I I3 := by
          intro k
          induction k with
          | zero =>
            intro m I2 hm ha hx
            obtain rfl : m = 5 := by omega
            exact ⟨I2, k9o_eq k9e_121_28 (k9o_T (by decide) (k9o_eq k9e_121_49 (k9o_ret rfl))), hx⟩
          | succ k ih =>
            intro m I2 hm ha hx
            obtain ⟨a, ha⟩ := ha
            have hW2 := k9_Wk_m (m := m) (Or.inl rfl) ha
            have hx2 : k9_fx k9_Ft I (k9_u I2 3 1 1 (nI m)) := k9_fx_u hx rfl
            have hwf : k9_wf (p_up w 4 0 m) := k9_wf_up hf (Or.inr ⟨by omega, by omega, rfl⟩) (by simp [p_lo]) (by simp [p_hi]; omega)
            obtain ⟨I3, e3, x3⟩ := k9s_151 (S := S) (d := d + 13) (J := J) (t := t) hW2 hwf (k9_CL_t hx2 v.2.2.1.1) (k9_by_x hx2 hz) (by omega)
            rw [← hgu m] at e3
            obtain ⟨I4, o4, x4⟩ := ih (m + 1) I3 (by omega) ⟨m, k9_Wk_fx x3 (fun _ => ⟨rfl, rfl, rfl, rfl, rfl⟩) hW2⟩ (k9_fx_tr hx2 (k9_Ft_b x3))
            refine ⟨I4, ?_, x4⟩
            rw [p_wb] at o4
            refine k9o_eq k9e_121_28 (k9o_F (by rw [n_toInt (by omega)]; omega) (k9o_eq k9e_121_31 (k9o_call e3 ?_)))
            simp only [k9_ps_s]
            refine k9o_eq k9e_121_40 ?_
            by_cases c : g m = -2
            · rw [if_pos c] at o4
              rw [if_pos c]
              refine k9o_F (by decide) (k9o_eq k9e_121_41 (k9o_eq k9e_121_47 ?_))
              rw [nI_1]
              exact o4
            · rw [if_neg c] at o4
              rw [if_neg c]
              refine k9o_T (by decide) (k9o_eq k9e_121_47 ?_)
              rw [nI_1]
              exact o4
        obtain ⟨I2, o2, x2⟩ := kc 5 0 I1 (by omega) ⟨w 4 0, by rw [p_up_id]; exact w1⟩ (k9_Ft_w x1')
        have i2 : k9_Iv I2 J w V b := k9_Iv_0 (k9_fp_x x2 (k9_Ft_X rfl)) v
        have by2 := k9_by_x x2 hz
        simp (disch := omega) only [k9e_121_0, k9e_121_3, k9e_121_3b, k9e_121_8, k9e_121_9, k9e_121_9b, k9e_121_11, k9e_121_13, k9e_121_14, k9e_121_16, k9e_121_17, k9e_121_24, k9e_144_0, k9e_144_2, k9e_144_5, k9e_144_9, k9e_144_10, k9e_144_11, k9e_144_11b, k9e_145_0, k9e_145_2, k9e_145_5, k9e_145_7, k9e_145_8, Nat.reduceEqDiff, Int.reduceEq, Int.reduceLT, Int.reduceLE, k9_ps_s, k9_ps_n, k9_ur, false_and, and_false, true_and, and_true, true_or, or_true, false_or, or_false, eq_self, ↓reduceIte, not_true_eq_false, not_false_eq_true, n_toInt, n_cl, nI_1, nI_add, n_a0, n_p2, n_p3, n_p4, n_x2, n_x3, n_x4, n_x60, n_x100, n_pm1, k9L_m2, k9L_m1, k9L_0, k9L_1, k9L_2, k9L_3, k9L_4, k9L_5, k9L_6, k9L_7, k9L_8, k9L_9, k9L_10, k9L_20, k9L_23, k9L_24, k9L_30, k9L_40, k9L_50, k9L_60, k9L_99, k9L_100, k9L_120, k9L_255, k9L_999, k9L_1000, k9_bs, k9_ba]
        repeat (first | ((with_reducible refine k9q_T ?_ ?_); · omega) | ((with_reducible refine k9q_F ?_ ?_); · omega) | ((with_reducible refine k9q_Tb ?_ ?_); · omega) | ((with_reducible refine k9q_Fb ?_ ?_); · omega) | (refine k9o_call (k9s_91 hz) ?_; simp (disch := omega) only [k9e_121_0, k9e_121_3, k9e_121_3b, k9e_121_8, k9e_121_9, k9e_121_9b, k9e_121_11, k9e_121_13, k9e_121_14, k9e_121_16, k9e_121_17, k9e_121_24, k9e_144_0, k9e_144_2, k9e_144_5, k9e_144_9, k9e_144_10, k9e_144_11, k9e_144_11b, k9e_145_0, k9e_145_2, k9e_145_5, k9e_145_7, k9e_145_8, Nat.reduceEqDiff, Int.reduceEq, Int.reduceLT, Int.reduceLE, k9_ps_s, k9_ps_n, k9_ur, false_and, and_false, true_and, and_true, true_or, or_true, false_or, or_false, eq_self, ↓reduceIte, not_true_eq_false, not_false_eq_true, n_toInt, n_cl, nI_1, nI_add, n_a0, n_p2, n_p3, n_p4, n_x2, n_x3, n_x4, n_x60, n_x100, n_pm1, k9L_m2, k9L_m1, k9L_0, k9L_1, k9L_2, k9L_3, k9L_4, k9L_5, k9L_6, k9L_7, k9L_8, k9L_9, k9L_10, k9L_20, k9L_23, k9L_24, k9L_30, k9L_40, k9L_50, k9L_60, k9L_99, k9L_100, k9L_120, k9L_255, k9L_999, k9L_1000, k9_bs, k9_ba]) | (refine k9o_call (e1) ?_; simp (disch := omega) only [k9e_121_0, k9e_121_3, k9e_121_3b, k9e_121_8, k9e_121_9, k9e_121_9b, k9e_121_11, k9e_121_13, k9e_121_14, k9e_121_16, k9e_121_17, k9e_121_24, k9e_144_0, k9e_144_2, k9e_144_5, k9e_144_9, k9e_144_10, k9e_144_11, k9e_144_11b, k9e_145_0, k9e_145_2, k9e_145_5, k9e_145_7, k9e_145_8, Nat.reduceEqDiff, Int.reduceEq, Int.reduceLT, Int.reduceLE, k9_ps_s, k9_ps_n, k9_ur, false_and, and_false, true_and, and_true, true_or, or_true, false_or, or_false, eq_self, ↓reduceIte, not_true_eq_false, not_false_eq_true, n_toInt, n_cl, nI_1, nI_add, n_a0, n_p2, n_p3, n_p4, n_x2, n_x3, n_x4, n_x60, n_x100, n_pm1, k9L_m2, k9L_m1, k9L_0, k9L_1, k9L_2, k9L_3, k9L_4, k9L_5, k9L_6, k9L_7, k9L_8, k9L_9, k9L_10, k9L_20, k9L_23, k9L_24, k9L_30, k9L_40, k9L_50, k9L_60, k9L_99, k9L_100, k9L_120, k9L_255, k9L_999, k9L_1000, k9_bs, k9_ba]) | simp (disch := omega) only [k9e_121_0, k9e_121_3, k9e_121_3b, k9e_121_8, k9e_121_9, k9e_121_9b, k9e_121_11, k9e_121_13, k9e_121_14, k9e_121_16, k9e_121_17, k9e_121_24, k9e_144_0, k9e_144_2, k9e_144_5, k9e_144_9, k9e_144_10, k9e_144_11, k9e_144_11b, k9e_145_0, k9e_145_2, k9e_145_5, k9e_145_7, k9e_145_8, Nat.reduceEqDiff, Int.reduceEq, Int.reduceLT, Int.reduceLE, k9_ps_s, k9_ps_n, k9_ur, false_and, and_false, true_and, and_true, true_or, or_true, false_or, or_false, eq_self, ↓reduceIte, not_true_eq_false, not_false_eq_true, n_toInt, n_cl, nI_1, nI_add, n_a0, n_p2, n_p3, n_p4, n_x2, n_x3, n_x4, n_x60, n_x100, n_pm1, k9L_m2, k9L_m1, k9L_0, k9L_1, k9L_2, k9L_3, k9L_4, k9L_5, k9L_6, k9L_7, k9L_8, k9L_9, k9L_10, k9L_20, k9L_23, k9L_24, k9L_30, k9L_40, k9L_50, k9L_60, k9L_99, k9L_100, k9L_120, k9L_255, k9L_999, k9L_1000, k9_bs, k9_ba])
        obtain ⟨q1, c1, rfl⟩ := o2
        refine k9o_to c1 ⟨_, _, _, rfl, ?_⟩
        have km : ∀ k m I3, m + k = 5 → k9_fx (k9_F2 0) I2 I3 → k9_ok (k9_R S (d + 20) 218 25 [some (k9_r 12 0), some (k9_i (nI s)), some (k9_i (nI t)), some (k9_i 0), some (k9_i (I2 44 0 0)), some (k9_i (p_wb g m)), some (k9_i (nI m))] [] I3 J) (fun q => ∃ I4 J4, q = (some (k9_i (p_wb g 5)), I4, J4) ∧ k9_Inv I4 J4) := by
          intro k
          induction k with
          | zero =>
            intro m I3 hm hx
            obtain rfl : m = 5 := by omega
            refine k9o_eq k9e_218_25 (k9o_T (by decide) (k9o_eq k9e_218_49 (k9o_ret ⟨_, _, rfl, ?_⟩)))
            exact k9_Iv_e (k9_Iv_0 (k9_F2_e (by omega) hx) i2)
          | succ k ih =>
            intro m I3 hm hx
            obtain ⟨I4, e4, m4, x4⟩ := k9_run2 (S := S) (d := d + 14) (p0 := 0) (m := m) i2 hx (by omega) (by simp [p_lo]) (by simp [p_hi]; omega)
            have e216 := k9s_216 (S := S) (d := d + 18) (J := J) (s := s) (t := t) (z := z) m4 hs6 hz.2.2.2.2.2 ((x4 61 0 s rfl).trans by2.2.2.2.2.1) (by omega) (fun p hp => v6.2 s hs6 p hp)
            have e216 : k9_R S (d + 19) 216 0 [some (k9_r 12 0), some (k9_i (nI s)), some (k9_i (nI t)), none] [] I4 J = some (some (k9_i (g m)), I4, J) := by rw [hgu m]; exact e216
            have o4 := ih (m + 1) I4 (by omega) x4
            rw [p_wb] at o4
            refine k9o_eq k9e_218_25 (k9o_F (by rw [n_toInt (by omega)]; omega) (k9o_eq k9e_218_28 (k9o_call e4 ?_)))
            simp only [k9_ps_n]
            refine k9o_eq k9e_218_35 (k9o_call e216 ?_)
            simp only [k9_ps_s]
            refine k9o_eq k9e_218_39 ?_
            by_cases c : g m = -2
            · rw [if_pos c] at o4
              refine k9o_T (by rw [c]; decide) (k9o_eq k9e_218_41 (k9o_eq k9e_218_47 ?_))
              rw [nI_1]
              exact o4
            · rw [if_neg c] at o4
              refine k9o_F (fun y => c (n_ext (by rw [y]; decide))) (k9o_eq k9e_218_47 ?_)
              rw [nI_1]
              exact o4
        simp (disch := omega) only [k9e_218_0, k9e_218_2, k9e_218_3, k9e_218_5, k9e_218_6, k9e_218_8, k9e_218_11, k9e_218_14, k9e_218_16, k9e_155_0, k9e_155_4, k9e_156_0, k9e_156_4, Nat.reduceEqDiff, Int.reduceEq, Int.reduceLT, Int.reduceLE, k9_ps_s, k9_ps_n, k9_ur, false_and, and_false, true_and, and_true, true_or, or_true, false_or, or_false, eq_self, ↓reduceIte, not_true_eq_false, not_false_eq_true, n_toInt, n_cl, nI_1, nI_add, n_a0, n_p2, n_p3, n_p4, n_x2, n_x3, n_x4, n_x60, n_x100, n_pm1, k9L_m2, k9L_m1, k9L_0, k9L_1, k9L_2, k9L_3, k9L_4, k9L_5, k9L_6, k9L_7, k9L_8, k9L_9, k9L_10, k9L_20, k9L_23, k9L_24, k9L_30, k9L_40, k9L_50, k9L_60, k9L_99, k9L_100, k9L_120, k9L_255, k9L_999, k9L_1000, k9_bs, k9_ba]
        repeat (first | ((with_reducible refine k9q_T ?_ ?_); · omega) | ((with_reducible refine k9q_F ?_ ?_); · omega) | ((with_reducible refine k9q_Tb ?_ ?_); · omega) | ((with_reducible refine k9q_Fb ?_ ?_); · omega) | (refine k9o_call (k9s_153 (by first | omega | (simp (disch := omega) only [n_toInt, n_pm1, k9L_m2, k9L_m1, k9L_0, k9L_1, k9L_2, k9L_3, k9L_4, k9L_5, k9L_6, k9L_7, k9L_8, k9L_9, k9L_10, k9L_20, k9L_23, k9L_24, k9L_30, k9L_40, k9L_50, k9L_60, k9L_99, k9L_100, k9L_120, k9L_255, k9L_999, k9L_1000]; omega))) ?_; simp (disch := omega) only [k9e_218_0, k9e_218_2, k9e_218_3, k9e_218_5, k9e_218_6, k9e_218_8, k9e_218_11, k9e_218_14, k9e_218_16, k9e_155_0, k9e_155_4, k9e_156_0, k9e_156_4, Nat.reduceEqDiff, Int.reduceEq, Int.reduceLT, Int.reduceLE, k9_ps_s, k9_ps_n, k9_ur, false_and, and_false, true_and, and_true, true_or, or_true, false_or, or_false, eq_self, ↓reduceIte, not_true_eq_false, not_false_eq_true, n_toInt, n_cl, nI_1, nI_add, n_a0, n_p2, n_p3, n_p4, n_x2, n_x3, n_x4, n_x60, n_x100, n_pm1, k9L_m2, k9L_m1, k9L_0, k9L_1, k9L_2, k9L_3, k9L_4, k9L_5, k9L_6, k9L_7, k9L_8, k9L_9, k9L_10, k9L_20, k9L_23, k9L_24, k9L_30, k9L_40, k9L_50, k9L_60, k9L_99, k9L_100, k9L_120, k9L_255, k9L_999, k9L_1000, k9_bs, k9_ba]) | (refine k9o_call (k9s_153x (by first | omega | (simp (disch := omega) only [n_toInt, n_pm1, k9L_m2, k9L_m1, k9L_0, k9L_1, k9L_2, k9L_3, k9L_4, k9L_5, k9L_6, k9L_7, k9L_8, k9L_9, k9L_10, k9L_20, k9L_23, k9L_24, k9L_30, k9L_40, k9L_50, k9L_60, k9L_99, k9L_100, k9L_120, k9L_255, k9L_999, k9L_1000]; omega))) ?_; simp (disch := omega) only [k9e_218_0, k9e_218_2, k9e_218_3, k9e_218_5, k9e_218_6, k9e_218_8, k9e_218_11, k9e_218_14, k9e_218_16, k9e_155_0, k9e_155_4, k9e_156_0, k9e_156_4, Nat.reduceEqDiff, Int.reduceEq, Int.reduceLT, Int.reduceLE, k9_ps_s, k9_ps_n, k9_ur, false_and, and_false, true_and, and_true, true_or, or_true, false_or, or_false, eq_self, ↓reduceIte, not_true_eq_false, not_false_eq_true, n_toInt, n_cl, nI_1, nI_add, n_a0, n_p2, n_p3, n_p4, n_x2, n_x3, n_x4, n_x60, n_x100, n_pm1, k9L_m2, k9L_m1, k9L_0, k9L_1, k9L_2, k9L_3, k9L_4, k9L_5, k9L_6, k9L_7, k9L_8, k9L_9, k9L_10, k9L_20, k9L_23, k9L_24, k9L_30, k9L_40, k9L_50, k9L_60, k9L_99, k9L_100, k9L_120, k9L_255, k9L_999, k9L_1000, k9_bs, k9_ba]) | (refine k9o_call (k9s_208 hs6 by2) ?_; simp (disch := omega) only [k9e_218_0, k9e_218_2, k9e_218_3, k9e_218_5, k9e_218_6, k9e_218_8, k9e_218_11, k9e_218_14, k9e_218_16, k9e_155_0, k9e_155_4, k9e_156_0, k9e_156_4, Nat.reduceEqDiff, Int.reduceEq, Int.reduceLT, Int.reduceLE, k9_ps_s, k9_ps_n, k9_ur, false_and, and_false, true_and, and_true, true_or, or_true, false_or, or_false, eq_self, ↓reduceIte, not_true_eq_false, not_false_eq_true, n_toInt, n_cl, nI_1, nI_add, n_a0, n_p2, n_p3, n_p4, n_x2, n_x3, n_x4, n_x60, n_x100, n_pm1, k9L_m2, k9L_m1, k9L_0, k9L_1, k9L_2, k9L_3, k9L_4, k9L_5, k9L_6, k9L_7, k9L_8, k9L_9, k9L_10, k9L_20, k9L_23, k9L_24, k9L_30, k9L_40, k9L_50, k9L_60, k9L_99, k9L_100, k9L_120, k9L_255, k9L_999, k9L_1000, k9_bs, k9_ba]) | simp (disch := omega) only [k9e_218_0, k9e_218_2, k9e_218_3, k9e_218_5, k9e_218_6, k9e_218_8, k9e_218_11, k9e_218_14, k9e_218_16, k9e_155_0, k9e_155_4, k9e_156_0, k9e_156_4, Nat.reduceEqDiff, Int.reduceEq, Int.reduceLT, Int.reduceLE, k9_ps_s, k9_ps_n, k9_ur, false_and, and_false, true_and, and_true, true_or, or_true, false_or, or_false, eq_self, ↓reduceIte, not_true_eq_false, not_false_eq_true, n_toInt, n_cl, nI_1, nI_add, n_a0, n_p2, n_p3, n_p4, n_x2, n_x3, n_x4, n_x60, n_x100, n_pm1, k9L_m2, k9L_m1, k9L_0, k9L_1, k9L_2, k9L_3, k9L_4, k9L_5, k9L_6, k9L_7, k9L_8, k9L_9, k9L_10, k9L_20, k9L_23, k9L_24, k9L_30, k9L_40, k9L_50, k9L_60, k9L_99, k9L_100, k9L_120, k9L_255, k9L_999, k9L_1000, k9_bs, k9_ba])
        exact km 5 0 I2 (by omega) (k9_fx_rf _ _)
      · have hrr := k9_nb_r hr
        simp (disch := omega) only [k9e_121_0, k9e_121_3, k9e_121_3b, k9e_121_8, k9e_121_9, k9e_121_9b, k9e_121_11, k9e_121_13, k9e_121_14, k9e_121_16, k9e_121_17, k9e_121_24, k9e_144_0, k9e_144_2, k9e_144_5, k9e_144_9, k9e_144_10, k9e_144_11, k9e_144_11b, k9e_145_0, k9e_145_2, k9e_145_5, k9e_145_7, k9e_145_8, Nat.reduceEqDiff, Int.reduceEq, Int.reduceLT, Int.reduceLE, k9_ps_s, k9_ps_n, k9_ur, false_and, and_false, true_and, and_true, true_or, or_true, false_or, or_false, eq_self, ↓reduceIte, not_true_eq_false, not_false_eq_true, n_toInt, n_cl, nI_1, nI_add, n_a0, n_p2, n_p3, n_p4, n_x2, n_x3, n_x4, n_x60, n_x100, n_pm1, k9L_m2, k9L_m1, k9L_0, k9L_1, k9L_2, k9L_3, k9L_4, k9L_5, k9L_6, k9L_7, k9L_8, k9L_9, k9L_10, k9L_20, k9L_23, k9L_24, k9L_30, k9L_40, k9L_50, k9L_60, k9L_99, k9L_100, k9L_120, k9L_255, k9L_999, k9L_1000, k9_bs, k9_ba]
        repeat (first | ((with_reducible refine k9q_T ?_ ?_); · omega) | ((with_reducible refine k9q_F ?_ ?_); · omega) | ((with_reducible refine k9q_Tb ?_ ?_); · omega) | ((with_reducible refine k9q_Fb ?_ ?_); · omega) | (refine k9o_call (k9s_91x hr) ?_; simp (disch := omega) only [k9e_121_0, k9e_121_3, k9e_121_3b, k9e_121_8, k9e_121_9, k9e_121_9b, k9e_121_11, k9e_121_13, k9e_121_14, k9e_121_16, k9e_121_17, k9e_121_24, k9e_144_0, k9e_144_2, k9e_144_5, k9e_144_9, k9e_144_10, k9e_144_11, k9e_144_11b, k9e_145_0, k9e_145_2, k9e_145_5, k9e_145_7, k9e_145_8, Nat.reduceEqDiff, Int.reduceEq, Int.reduceLT, Int.reduceLE, k9_ps_s, k9_ps_n, k9_ur, false_and, and_false, true_and, and_true, true_or, or_true, false_or, or_false, eq_self, ↓reduceIte, not_true_eq_false, not_false_eq_true, n_toInt, n_cl, nI_1, nI_add, n_a0, n_p2, n_p3, n_p4, n_x2, n_x3, n_x4, n_x60, n_x100, n_pm1, k9L_m2, k9L_m1, k9L_0, k9L_1, k9L_2, k9L_3, k9L_4, k9L_5, k9L_6, k9L_7, k9L_8, k9L_9, k9L_10, k9L_20, k9L_23, k9L_24, k9L_30, k9L_40, k9L_50, k9L_60, k9L_99, k9L_100, k9L_120, k9L_255, k9L_999, k9L_1000, k9_bs, k9_ba]) | (refine k9o_call (k9s_92 hr) ?_; simp (disch := omega) only [k9e_121_0, k9e_121_3, k9e_121_3b, k9e_121_8, k9e_121_9, k9e_121_9b, k9e_121_11, k9e_121_13, k9e_121_14, k9e_121_16, k9e_121_17, k9e_121_24, k9e_144_0, k9e_144_2, k9e_144_5, k9e_144_9, k9e_144_10, k9e_144_11, k9e_144_11b, k9e_145_0, k9e_145_2, k9e_145_5, k9e_145_7, k9e_145_8, Nat.reduceEqDiff, Int.reduceEq, Int.reduceLT, Int.reduceLE, k9_ps_s, k9_ps_n, k9_ur, false_and, and_false, true_and, and_true, true_or, or_true, false_or, or_false, eq_self, ↓reduceIte, not_true_eq_false, not_false_eq_true, n_toInt, n_cl, nI_1, nI_add, n_a0, n_p2, n_p3, n_p4, n_x2, n_x3, n_x4, n_x60, n_x100, n_pm1, k9L_m2, k9L_m1, k9L_0, k9L_1, k9L_2, k9L_3, k9L_4, k9L_5, k9L_6, k9L_7, k9L_8, k9L_9, k9L_10, k9L_20, k9L_23, k9L_24, k9L_30, k9L_40, k9L_50, k9L_60, k9L_99, k9L_100, k9L_120, k9L_255, k9L_999, k9L_1000, k9_bs, k9_ba]) | simp (disch := omega) only [k9e_121_0, k9e_121_3, k9e_121_3b, k9e_121_8, k9e_121_9, k9e_121_9b, k9e_121_11, k9e_121_13, k9e_121_14, k9e_121_16, k9e_121_17, k9e_121_24, k9e_144_0, k9e_144_2, k9e_144_5, k9e_144_9, k9e_144_10, k9e_144_11, k9e_144_11b, k9e_145_0, k9e_145_2, k9e_145_5, k9e_145_7, k9e_145_8, Nat.reduceEqDiff, Int.reduceEq, Int.reduceLT, Int.reduceLE, k9_ps_s, k9_ps_n, k9_ur, false_and, and_false, true_and, and_true, true_or, or_true, false_or, or_false, eq_self, ↓reduceIte, not_true_eq_false, not_false_eq_true, n_toInt, n_cl, nI_1, nI_add, n_a0, n_p2, n_p3, n_p4, n_x2, n_x3, n_x4, n_x60, n_x100, n_pm1, k9L_m2, k9L_m1, k9L_0, k9L_1, k9L_2, k9L_3, k9L_4, k9L_5, k9L_6, k9L_7, k9L_8, k9L_9, k9L_10, k9L_20, k9L_23, k9L_24, k9L_30, k9L_40, k9L_50, k9L_60, k9L_99, k9L_100, k9L_120, k9L_255, k9L_999, k9L_1000, k9_bs, k9_ba])
        refine k9o_ret ⟨_, _, _, rfl, ?_⟩
        simp (disch := omega) only [k9e_218_0, k9e_218_2, k9e_218_3, k9e_218_5, k9e_218_6, k9e_218_8, k9e_218_11, k9e_218_14, k9e_218_16, k9e_155_0, k9e_155_4, k9e_156_0, k9e_156_4, Nat.reduceEqDiff, Int.reduceEq, Int.reduceLT, Int.reduceLE, k9_ps_s, k9_ps_n, k9_ur, false_and, and_false, true_and, and_true, true_or, or_true, false_or, or_false, eq_self, ↓reduceIte, not_true_eq_false, not_false_eq_true, n_toInt, n_cl, nI_1, nI_add, n_a0, n_p2, n_p3, n_p4, n_x2, n_x3, n_x4, n_x60, n_x100, n_pm1, k9L_m2, k9L_m1, k9L_0, k9L_1, k9L_2, k9L_3, k9L_4, k9L_5, k9L_6, k9L_7, k9L_8, k9L_9, k9L_10, k9L_20, k9L_23, k9L_24, k9L_30, k9L_40, k9L_50, k9L_60, k9L_99, k9L_100, k9L_120, k9L_255, k9L_999, k9L_1000, k9_bs, k9_ba]
        repeat (first | ((with_reducible refine k9q_T ?_ ?_); · omega) | ((with_reducible refine k9q_F ?_ ?_); · omega) | ((with_reducible refine k9q_Tb ?_ ?_); · omega) | ((with_reducible refine k9q_Fb ?_ ?_); · omega) | (refine k9o_call (k9s_153 (by first | omega | (simp (disch := omega) only [n_toInt, n_pm1, k9L_m2, k9L_m1, k9L_0, k9L_1, k9L_2, k9L_3, k9L_4, k9L_5, k9L_6, k9L_7, k9L_8, k9L_9, k9L_10, k9L_20, k9L_23, k9L_24, k9L_30, k9L_40, k9L_50, k9L_60, k9L_99, k9L_100, k9L_120, k9L_255, k9L_999, k9L_1000]; omega))) ?_; simp (disch := omega) only [k9e_218_0, k9e_218_2, k9e_218_3, k9e_218_5, k9e_218_6, k9e_218_8, k9e_218_11, k9e_218_14, k9e_218_16, k9e_155_0, k9e_155_4, k9e_156_0, k9e_156_4, Nat.reduceEqDiff, Int.reduceEq, Int.reduceLT, Int.reduceLE, k9_ps_s, k9_ps_n, k9_ur, false_and, and_false, true_and, and_true, true_or, or_true, false_or, or_false, eq_self, ↓reduceIte, not_true_eq_false, not_false_eq_true, n_toInt, n_cl, nI_1, nI_add, n_a0, n_p2, n_p3, n_p4, n_x2, n_x3, n_x4, n_x60, n_x100, n_pm1, k9L_m2, k9L_m1, k9L_0, k9L_1, k9L_2, k9L_3, k9L_4, k9L_5, k9L_6, k9L_7, k9L_8, k9L_9, k9L_10, k9L_20, k9L_23, k9L_24, k9L_30, k9L_40, k9L_50, k9L_60, k9L_99, k9L_100, k9L_120, k9L_255, k9L_999, k9L_1000, k9_bs, k9_ba]) | (refine k9o_call (k9s_153x (by first | omega | (simp (disch := omega) only [n_toInt, n_pm1, k9L_m2, k9L_m1, k9L_0, k9L_1, k9L_2, k9L_3, k9L_4, k9L_5, k9L_6, k9L_7, k9L_8, k9L_9, k9L_10, k9L_20, k9L_23, k9L_24, k9L_30, k9L_40, k9L_50, k9L_60, k9L_99, k9L_100, k9L_120, k9L_255, k9L_999, k9L_1000]; omega))) ?_; simp (disch := omega) only [k9e_218_0, k9e_218_2, k9e_218_3, k9e_218_5, k9e_218_6, k9e_218_8, k9e_218_11, k9e_218_14, k9e_218_16, k9e_155_0, k9e_155_4, k9e_156_0, k9e_156_4, Nat.reduceEqDiff, Int.reduceEq, Int.reduceLT, Int.reduceLE, k9_ps_s, k9_ps_n, k9_ur, false_and, and_false, true_and, and_true, true_or, or_true, false_or, or_false, eq_self, ↓reduceIte, not_true_eq_false, not_false_eq_true, n_toInt, n_cl, nI_1, nI_add, n_a0, n_p2, n_p3, n_p4, n_x2, n_x3, n_x4, n_x60, n_x100, n_pm1, k9L_m2, k9L_m1, k9L_0, k9L_1, k9L_2, k9L_3, k9L_4, k9L_5, k9L_6, k9L_7, k9L_8, k9L_9, k9L_10, k9L_20, k9L_23, k9L_24, k9L_30, k9L_40, k9L_50, k9L_60, k9L_99, k9L_100, k9L_120, k9L_255, k9L_999, k9L_1000, k9_bs, k9_ba]) | (refine k9o_call (k9s_208x hs6 hr) ?_; simp (disch := omega) only [k9e_218_0, k9e_218_2, k9e_218_3, k9e_218_5, k9e_218_6, k9e_218_8, k9e_218_11, k9e_218_14, k9e_218_16, k9e_155_0, k9e_155_4, k9e_156_0, k9e_156_4, Nat.reduceEqDiff, Int.reduceEq, Int.reduceLT, Int.reduceLE, k9_ps_s, k9_ps_n, k9_ur, false_and, and_false, true_and, and_true, true_or, or_true, false_or, or_false, eq_self, ↓reduceIte, not_true_eq_false, not_false_eq_true, n_toInt, n_cl, nI_1, nI_add, n_a0, n_p2, n_p3, n_p4, n_x2, n_x3, n_x4, n_x60, n_x100, n_pm1, k9L_m2, k9L_m1, k9L_0, k9L_1, k9L_2, k9L_3, k9L_4, k9L_5, k9L_6, k9L_7, k9L_8, k9L_9, k9L_10, k9L_20, k9L_23, k9L_24, k9L_30, k9L_40, k9L_50, k9L_60, k9L_99, k9L_100, k9L_120, k9L_255, k9L_999, k9L_1000, k9_bs, k9_ba]) | simp (disch := omega) only [k9e_218_0, k9e_218_2, k9e_218_3, k9e_218_5, k9e_218_6, k9e_218_8, k9e_218_11, k9e_218_14, k9e_218_16, k9e_155_0, k9e_155_4, k9e_156_0, k9e_156_4, Nat.reduceEqDiff, Int.reduceEq, Int.reduceLT, Int.reduceLE, k9_ps_s, k9_ps_n, k9_ur, false_and, and_false, true_and, and_true, true_or, or_true, false_or, or_false, eq_self, ↓reduceIte, not_true_eq_false, not_false_eq_true, n_toInt, n_cl, nI_1, nI_add, n_a0, n_p2, n_p3, n_p4, n_x2, n_x3, n_x4, n_x60, n_x100, n_pm1, k9L_m2, k9L_m1, k9L_0, k9L_1, k9L_2, k9L_3, k9L_4, k9L_5, k9L_6, k9L_7, k9L_8, k9L_9, k9L_10, k9L_20, k9L_23, k9L_24, k9L_30, k9L_40, k9L_50, k9L_60, k9L_99, k9L_100, k9L_120, k9L_255, k9L_999, k9L_1000, k9_bs, k9_ba])
        exact k9o_ret ⟨_, _, rfl, hI'⟩
    · obtain ⟨s, rfl, hs, -⟩ := n_of (x := x1) (by omega)
      repeat' (first | ((with_reducible refine k9q_T ?_ ?_); · omega) | ((with_reducible refine k9q_F ?_ ?_); · omega) | ((with_reducible refine k9q_Tb ?_ ?_); · omega) | ((with_reducible refine k9q_Fb ?_ ?_); · omega) | simp (disch := omega) only [k9e_121_0, k9e_121_3, k9e_121_3b, k9e_121_8, k9e_121_9, k9e_121_9b, k9e_144_0, k9e_144_2, k9e_144_5, k9e_144_9, k9e_144_10, k9e_144_11, k9e_144_11b, k9e_145_0, k9e_145_2, k9e_145_5, k9e_145_7, k9e_145_8, Nat.reduceEqDiff, Int.reduceEq, Int.reduceLT, Int.reduceLE, k9_ps_s, k9_ps_n, k9_ur, false_and, and_false, true_and, and_true, true_or, or_true, false_or, or_false, eq_self, ↓reduceIte, not_true_eq_false, not_false_eq_true, n_toInt, n_cl, nI_1, nI_add, n_a0, n_p2, n_p3, n_p4, n_x2, n_x3, n_x4, n_x60, n_x100, n_pm1, k9L_m2, k9L_m1, k9L_0, k9L_1, k9L_2, k9L_3, k9L_4, k9L_5, k9L_6, k9L_7, k9L_8, k9L_9, k9L_10, k9L_20, k9L_23, k9L_24, k9L_30, k9L_40, k9L_50, k9L_60, k9L_99, k9L_100, k9L_120, k9L_255, k9L_999, k9L_1000, k9_bs, k9_ba] | (with_reducible refine k9q_if (fun _ => ?_) (fun _ => ?_)) | (with_reducible refine k9q_ifb (fun _ => ?_) (fun _ => ?_)))
      all_goals refine k9o_ret ⟨_, _, _, rfl, ?_⟩
      all_goals repeat' (first | ((with_reducible refine k9q_T ?_ ?_); · omega) | ((with_reducible refine k9q_F ?_ ?_); · omega) | ((with_reducible refine k9q_Tb ?_ ?_); · omega) | ((with_reducible refine k9q_Fb ?_ ?_); · omega) | (refine k9o_call (k9s_153 (by first | omega | (simp (disch := omega) only [n_toInt, n_pm1, k9L_m2, k9L_m1, k9L_0, k9L_1, k9L_2, k9L_3, k9L_4, k9L_5, k9L_6, k9L_7, k9L_8, k9L_9, k9L_10, k9L_20, k9L_23, k9L_24, k9L_30, k9L_40, k9L_50, k9L_60, k9L_99, k9L_100, k9L_120, k9L_255, k9L_999, k9L_1000]; omega))) ?_; simp (disch := omega) only [k9e_218_0, k9e_218_2, k9e_218_3, k9e_218_5, k9e_218_6, k9e_155_0, k9e_155_4, k9e_156_0, k9e_156_4, Nat.reduceEqDiff, Int.reduceEq, Int.reduceLT, Int.reduceLE, k9_ps_s, k9_ps_n, k9_ur, false_and, and_false, true_and, and_true, true_or, or_true, false_or, or_false, eq_self, ↓reduceIte, not_true_eq_false, not_false_eq_true, n_toInt, n_cl, nI_1, nI_add, n_a0, n_p2, n_p3, n_p4, n_x2, n_x3, n_x4, n_x60, n_x100, n_pm1, k9L_m2, k9L_m1, k9L_0, k9L_1, k9L_2, k9L_3, k9L_4, k9L_5, k9L_6, k9L_7, k9L_8, k9L_9, k9L_10, k9L_20, k9L_23, k9L_24, k9L_30, k9L_40, k9L_50, k9L_60, k9L_99, k9L_100, k9L_120, k9L_255, k9L_999, k9L_1000, k9_bs, k9_ba]) | (refine k9o_call (k9s_153x (by first | omega | (simp (disch := omega) only [n_toInt, n_pm1, k9L_m2, k9L_m1, k9L_0, k9L_1, k9L_2, k9L_3, k9L_4, k9L_5, k9L_6, k9L_7, k9L_8, k9L_9, k9L_10, k9L_20, k9L_23, k9L_24, k9L_30, k9L_40, k9L_50, k9L_60, k9L_99, k9L_100, k9L_120, k9L_255, k9L_999, k9L_1000]; omega))) ?_; simp (disch := omega) only [k9e_218_0, k9e_218_2, k9e_218_3, k9e_218_5, k9e_218_6, k9e_155_0, k9e_155_4, k9e_156_0, k9e_156_4, Nat.reduceEqDiff, Int.reduceEq, Int.reduceLT, Int.reduceLE, k9_ps_s, k9_ps_n, k9_ur, false_and, and_false, true_and, and_true, true_or, or_true, false_or, or_false, eq_self, ↓reduceIte, not_true_eq_false, not_false_eq_true, n_toInt, n_cl, nI_1, nI_add, n_a0, n_p2, n_p3, n_p4, n_x2, n_x3, n_x4, n_x60, n_x100, n_pm1, k9L_m2, k9L_m1, k9L_0, k9L_1, k9L_2, k9L_3, k9L_4, k9L_5, k9L_6, k9L_7, k9L_8, k9L_9, k9L_10, k9L_20, k9L_23, k9L_24, k9L_30, k9L_40, k9L_50, k9L_60, k9L_99, k9L_100, k9L_120, k9L_255, k9L_999, k9L_1000, k9_bs, k9_ba]) | simp (disch := omega) only [k9e_218_0, k9e_218_2, k9e_218_3, k9e_218_5, k9e_218_6, k9e_155_0, k9e_155_4, k9e_156_0, k9e_156_4, Nat.reduceEqDiff, Int.reduceEq, Int.reduceLT, Int.reduceLE, k9_ps_s, k9_ps_n, k9_ur, false_and, and_false, true_and, and_true, true_or, or_true, false_or, or_false, eq_self, ↓reduceIte, not_true_eq_false, not_false_eq_true, n_toInt, n_cl, nI_1, nI_add, n_a0, n_p2, n_p3, n_p4, n_x2, n_x3, n_x4, n_x60, n_x100, n_pm1, k9L_m2, k9L_m1, k9L_0, k9L_1, k9L_2, k9L_3, k9L_4, k9L_5, k9L_6, k9L_7, k9L_8, k9L_9, k9L_10, k9L_20, k9L_23, k9L_24, k9L_30, k9L_40, k9L_50, k9L_60, k9L_99, k9L_100, k9L_120, k9L_255, k9L_999, k9L_1000, k9_bs, k9_ba] | (with_reducible refine k9q_if (fun _ => ?_) (fun _ => ?_)) | (with_reducible refine k9q_ifb (fun _ => ?_) (fun _ => ?_)))
      all_goals exact k9o_ret ⟨_, _, rfl, hI'⟩
  · repeat' (first | ((with_reducible refine k9q_T ?_ ?_); · omega) | ((with_reducible refine k9q_F ?_ ?_); · omega) | ((with_reducible refine k9q_Tb ?_ ?_); · omega) | ((with_reducible refine k9q_Fb ?_ ?_); · omega) | simp (disch := omega) only [k9e_121_0, k9e_121_3, k9e_121_3b, k9e_121_8, k9e_121_9, k9e_121_9b, k9e_144_0, k9e_144_2, k9e_144_5, k9e_144_9, k9e_144_10, k9e_144_11, k9e_144_11b, k9e_145_0, k9e_145_2, k9e_145_5, k9e_145_7, k9e_145_8, Nat.reduceEqDiff, Int.reduceEq, Int.reduceLT, Int.reduceLE, k9_ps_s, k9_ps_n, k9_ur, false_and, and_false, true_and, and_true, true_or, or_true, false_or, or_false, eq_self, ↓reduceIte, not_true_eq_false, not_false_eq_true, n_toInt, n_cl, nI_1, nI_add, n_a0, n_p2, n_p3, n_p4, n_x2, n_x3, n_x4, n_x60, n_x100, n_pm1, k9L_m2, k9L_m1, k9L_0, k9L_1, k9L_2, k9L_3, k9L_4, k9L_5, k9L_6, k9L_7, k9L_8, k9L_9, k9L_10, k9L_20, k9L_23, k9L_24, k9L_30, k9L_40, k9L_50, k9L_60, k9L_99, k9L_100, k9L_120, k9L_255, k9L_999, k9L_1000, k9_bs, k9_ba] | (with_reducible refine k9q_if (fun _ => ?_) (fun _ => ?_)) | (with_reducible refine k9q_ifb (fun _ => ?_) (fun _ => ?_)))
    all_goals refine k9o_ret ⟨_, _, _, rfl, ?_⟩
    all_goals repeat' (first | ((with_reducible refine k9q_T ?_ ?_); · omega) | ((with_reducible refine k9q_F ?_ ?_); · omega) | ((with_reducible refine k9q_Tb ?_ ?_); · omega) | ((with_reducible refine k9q_Fb ?_ ?_); · omega) | (refine k9o_call (k9s_153 (by first | omega | (simp (disch := omega) only [n_toInt, n_pm1, k9L_m2, k9L_m1, k9L_0, k9L_1, k9L_2, k9L_3, k9L_4, k9L_5, k9L_6, k9L_7, k9L_8, k9L_9, k9L_10, k9L_20, k9L_23, k9L_24, k9L_30, k9L_40, k9L_50, k9L_60, k9L_99, k9L_100, k9L_120, k9L_255, k9L_999, k9L_1000]; omega))) ?_; simp (disch := omega) only [k9e_218_0, k9e_218_2, k9e_218_3, k9e_218_5, k9e_218_6, k9e_155_0, k9e_155_4, k9e_156_0, k9e_156_4, Nat.reduceEqDiff, Int.reduceEq, Int.reduceLT, Int.reduceLE, k9_ps_s, k9_ps_n, k9_ur, false_and, and_false, true_and, and_true, true_or, or_true, false_or, or_false, eq_self, ↓reduceIte, not_true_eq_false, not_false_eq_true, n_toInt, n_cl, nI_1, nI_add, n_a0, n_p2, n_p3, n_p4, n_x2, n_x3, n_x4, n_x60, n_x100, n_pm1, k9L_m2, k9L_m1, k9L_0, k9L_1, k9L_2, k9L_3, k9L_4, k9L_5, k9L_6, k9L_7, k9L_8, k9L_9, k9L_10, k9L_20, k9L_23, k9L_24, k9L_30, k9L_40, k9L_50, k9L_60, k9L_99, k9L_100, k9L_120, k9L_255, k9L_999, k9L_1000, k9_bs, k9_ba]) | (refine k9o_call (k9s_153x (by first | omega | (simp (disch := omega) only [n_toInt, n_pm1, k9L_m2, k9L_m1, k9L_0, k9L_1, k9L_2, k9L_3, k9L_4, k9L_5, k9L_6, k9L_7, k9L_8, k9L_9, k9L_10, k9L_20, k9L_23, k9L_24, k9L_30, k9L_40, k9L_50, k9L_60, k9L_99, k9L_100, k9L_120, k9L_255, k9L_999, k9L_1000]; omega))) ?_; simp (disch := omega) only [k9e_218_0, k9e_218_2, k9e_218_3, k9e_218_5, k9e_218_6, k9e_155_0, k9e_155_4, k9e_156_0, k9e_156_4, Nat.reduceEqDiff, Int.reduceEq, Int.reduceLT, Int.reduceLE, k9_ps_s, k9_ps_n, k9_ur, false_and, and_false, true_and, and_true, true_or, or_true, false_or, or_false, eq_self, ↓reduceIte, not_true_eq_false, not_false_eq_true, n_toInt, n_cl, nI_1, nI_add, n_a0, n_p2, n_p3, n_p4, n_x2, n_x3, n_x4, n_x60, n_x100, n_pm1, k9L_m2, k9L_m1, k9L_0, k9L_1, k9L_2, k9L_3, k9L_4, k9L_5, k9L_6, k9L_7, k9L_8, k9L_9, k9L_10, k9L_20, k9L_23, k9L_24, k9L_30, k9L_40, k9L_50, k9L_60, k9L_99, k9L_100, k9L_120, k9L_255, k9L_999, k9L_1000, k9_bs, k9_ba]) | simp (disch := omega) only [k9e_218_0, k9e_218_2, k9e_218_3, k9e_218_5, k9e_218_6, k9e_155_0, k9e_155_4, k9e_156_0, k9e_156_4, Nat.reduceEqDiff, Int.reduceEq, Int.reduceLT, Int.reduceLE, k9_ps_s, k9_ps_n, k9_ur, false_and, and_false, true_and, and_true, true_or, or_true, false_or, or_false, eq_self, ↓reduceIte, not_true_eq_false, not_false_eq_true, n_toInt, n_cl, nI_1, nI_add, n_a0, n_p2, n_p3, n_p4, n_x2, n_x3, n_x4, n_x60, n_x100, n_pm1, k9L_m2, k9L_m1, k9L_0, k9L_1, k9L_2, k9L_3, k9L_4, k9L_5, k9L_6, k9L_7, k9L_8, k9L_9, k9L_10, k9L_20, k9L_23, k9L_24, k9L_30, k9L_40, k9L_50, k9L_60, k9L_99, k9L_100, k9L_120, k9L_255, k9L_999, k9L_1000, k9_bs, k9_ba] | (with_reducible refine k9q_if (fun _ => ?_) (fun _ => ?_)) | (with_reducible refine k9q_ifb (fun _ => ?_) (fun _ => ?_)))
    all_goals exact k9o_ret ⟨_, _, rfl, hI'⟩
end KT20

/-! LIES: measure -/
section KT21
variable {S : k9_S} {d : Nat} {I I' : k9_I} {J J' : k9_J} {w : Nat → Nat → Nat} {V : (Nat → Int32) → Int32} {b : Nat} {x1 x2 x3 : Int32} {h c : Nat → Nat} {L A f M : Nat}
theorem p_mn_b (h : Nat → Nat) (x : Nat) : ∀ k, p_mn h x k ≤ k
  | 0 => Nat.le_refl _
  | k + 1 => by
    have := p_mn_b h x k
    rw [p_mn]
    split <;> omega
/-- the trial is rolled to its last second -/
theorem k9_troll {I1 : k9_I} (hW : k9_Wk I1 1 w) (hf : k9_wf w) (hC : k9_CL I1 V) : k9_R S (d + 2) 10 0 [some (k9_r 3 1), none, none] [] I1 J = some (some (k9_i (nI (p_len w))), I1, J) ∧ ∃ I2, k9_R S (d + 4) 54 0 [some (k9_r 2 1), some (k9_r 6 0), some (k9_i 0), some (k9_i (nI (p_len w))), none, none, none] [] I1 J = some (none, I2, J) ∧ k9_Br I2 1 (p_len w) (p_tt w 0) (p_sh w (p_tt w) V) (p_co w) 0 (p_len w + 1) ∧ k9_Wk I2 1 w ∧ k9_fx (k9_Fb 1) I1 I2 := by
  have hlen := p_len_b hf
  refine ⟨k9s_10 hW hf, ?_⟩
  obtain ⟨I2, e2, r2, x2⟩ := k9s_54 (S := S) (d := d) (I := I1) (J := J) (i0 := 1) (w := w) (V := V) (f := 0) (L := p_len w + 1) (x := nI (p_len w)) hW hf hC (by rw [n_toInt (by omega)]; omega) (by omega) (by omega) (Or.inl rfl)
  exact ⟨I2, e2, r2, k9_Wk_fx x2 (fun _ => ⟨rfl, rfl, rfl, rfl, rfl⟩) hW, x2⟩
theorem t_measure (hI : k9_Inv I J) : k9_P S (d + 20) 117 213 [some (k9_r 1 0), some (k9_i x1), none, none, none, none] [some (k9_r 12 0), some (k9_i x1), none, none, none, none, none] I J k9_Inv := by
  have hI' := hI
  obtain ⟨w, V, b, v⟩ := hI
  have v : k9_Iv I J w V b := v
  have hf := v.1.2.2.1
  refine k9P_of ?_
  by_cases h1 : 0 ≤ x1.toInt ∧ x1.toInt ≤ 1
  · obtain ⟨q, rfl, hq, -⟩ := n_of (x := x1) (by omega)
    obtain ⟨I1, e1, w1, x1'⟩ := k9s_15 (S := S) (d := d + 17) (I := I) (J := J) (i0 := 1) (i1 := 0) (by decide) v.1.1 hf
    obtain ⟨u, hu⟩ : ∃ u : Nat → Nat → Nat → Nat, u = fun m => p_up w 4 0 m := ⟨_, rfl⟩
    have huu : ∀ m, u m = p_up w 4 0 m := fun m => by rw [hu]
    obtain ⟨g, hg⟩ : ∃ g : Nat → Nat, g = fun m => if q = 0 then (p_of (p_sh (u m) (p_tt (u m)) V) (fun t => p_ct (p_len (u m)) (min t (p_len (u m)))) (p_len (u m) + 1)).2.1 else p_mn (p_sh (u m) (p_tt (u m)) V) 99 (p_len (u m) + 1) := ⟨_, rfl⟩
    have hgu : ∀ m, g m = if q = 0 then (p_of (p_sh (u m) (p_tt (u m)) V) (fun t => p_ct (p_len (u m)) (min t (p_len (u m)))) (p_len (u m) + 1)).2.1 else p_mn (p_sh (u m) (p_tt (u m)) V) 99 (p_len (u m) + 1) := fun m => by rw [hg]
    have hlu : ∀ m, p_len (u m) = p_len w := fun m => by
      rw [huu]
      have hst : ∀ k, p_st (p_up w 4 0 m) k = p_st w k := by
        intro k
        induction k with
        | zero => rfl
        | succ k ih => rw [p_st, p_st, ih]; rfl
      exact hst _
    have hlen := p_len_b hf
    have hgb : ∀ m, g m ≤ 100000 := fun m => by
      rw [hgu]
      split
      · have := (p_of_b (h := p_sh (u m) (p_tt (u m)) V) (fun t => p_sh_b t) (fun t => p_ct_b (Nat.min_le_right t (p_len (u m)))) (p_len (u m) + 1)).2.1
        have := hlu m
        omega
      · have := p_mn_b (p_sh (u m) (p_tt (u m)) V) 99 (p_len (u m) + 1)
        have := hlu m
        omega
    have hwf : ∀ m, m ≤ 3 → k9_wf (u m) := fun m hm => by rw [huu]; exact k9_wf_up hf (Or.inr ⟨by omega, by omega, rfl⟩) (by simp [p_lo]) (by simp [p_hi]; omega)
    -- one measure, in the class
    have one : ∀ m I2, m ≤ 3 → (∃ a, k9_Wk I2 1 (p_up w 4 0 a)) → k9_fx k9_Ft I I2 → ∃ I3, (∀ Q : k9_A → Prop, ∀ x2' x3' : Int32, k9_ok (k9_R S (d + 20) 117 49 [some (k9_r 1 0), some (k9_i (nI q)), some (k9_i x2'), some (k9_i x3'), some (k9_i (nI m)), none] [k9_i (nI (g m))] I3 J) Q → k9_ok (k9_R S (d + 20) 117 23 [some (k9_r 1 0), some (k9_i (nI q)), some (k9_i x2'), some (k9_i x3'), some (k9_i (nI m)), none] [] I2 J) Q) ∧ (∃ a, k9_Wk I3 1 (p_up w 4 0 a)) ∧ k9_fx k9_Ft I I3 := by
      intro m I2 hm ha hx
      obtain ⟨a, ha⟩ := ha
      have hW2 := k9_Wk_m (m := m) (Or.inl rfl) ha
      rw [← huu m] at hW2
      have hx2 : k9_fx k9_Ft I (k9_u I2 3 1 1 (nI m)) := k9_fx_u hx rfl
      obtain ⟨e10, I3, e3, b3, w3, x3⟩ := k9_troll (S := S) (d := d + 15) (J := J) hW2 (hwf m hm) (k9_CL_t hx2 v.2.2.1.1)
      have e10' := k9s_10 (S := S) (d := d + 17) (J := J) hW2 (hwf m hm)
      have hl := hlu m
      refine ⟨I3, fun Q x2' x3' o => ?_, ⟨m, by rw [← huu m]; exact w3⟩, k9_fx_tr hx2 (k9_Ft_b x3)⟩
      refine k9o_eq k9e_117_23 (k9o_call e10' ?_)
      simp only [k9_ps_s]
      refine k9o_eq k9e_117_37 (k9o_call e3 ?_)
      simp only [k9_ps_n]
      refine k9o_eq k9e_117_38 ?_
      have hgm := hgu m
      by_cases h0 : q = 0
      · rw [if_pos h0] at hgm
        have e61 := k9s_61 (S := S) (d := d + 17) (J := J) (q := 1) b3 (by omega) (by omega) (fun t => p_sh_b t) (by omega)
        rw [if_neg (by decide), if_pos rfl, ← hgm] at e61
        refine k9o_T (by rw [n_toInt (by omega)]; omega) (k9o_eq k9e_117_40 (k9o_call e61 ?_))
        simp only [k9_ps_s]
        exact k9o_eq k9e_117_44 o
      · rw [if_neg h0] at hgm
        have e59 := k9s_59 (S := S) (d := d + 19) (J := J) (x := 99) b3 (by omega) (by omega) (by omega) (fun t => p_sh_b t)
        rw [← hgm] at e59
        refine k9o_F (by rw [n_toInt (by omega)]; omega) (k9o_eq k9e_117_45 (k9o_call e59 ?_))
        simp only [k9_ps_s]
        exact o
    have kc : ∀ k m I2, m + k = 3 → (∃ a, k9_Wk I2 1 (p_up w 4 0 a)) → k9_fx k9_Ft I I2 → ∃ I3, k9_ok (k9_R S (d + 20) 117 20 [some (k9_r 1 0), some (k9_i (nI q)), some (k9_i (nI (p_mi g m).1)), some (k9_i (nI (p_mi g m).2)), some (k9_i (nI (m + 1))), none] [] I2 J) (fun q' => q' = (some (k9_i (nI (p_mi g 3).1)), I3, J)) ∧ k9_fx k9_Ft I I3 := by
      intro k
      induction k with
      | zero =>
        intro m I2 hm ha hx
        obtain rfl : m = 3 := by omega
        exact ⟨I2, k9o_eq k9e_117_20 (k9o_T (by decide) (k9o_eq k9e_117_61 (k9o_ret rfl))), hx⟩
      | succ k ih =>
        intro m I2 hm ha hx
        obtain ⟨I3, o3, a3, x3⟩ := one (m + 1) I2 (by omega) ha hx
        obtain ⟨I4, o4, x4⟩ := ih (m + 1) I3 (by omega) a3 x3
        refine ⟨I4, k9o_eq k9e_117_20 (k9o_F (by rw [n_toInt (by omega)]; omega) (o3 _ _ _ (k9o_eq k9e_117_49 (k9o_F (by rw [n_toInt (by omega)]; omega) (k9o_eq k9e_117_52 ?_))))), x4⟩
        have hb := p_mi_b hgb m
        have hb2 := hgb (m + 1)
        rw [p_mi] at o4
        by_cases c : g (m + 1) < (p_mi g m).2
        · rw [if_pos c] at o4
          refine k9o_F (by rw [n_toInt (by omega), n_toInt (by omega)]; omega) (k9o_eq k9e_117_55 (k9o_eq k9e_117_59 ?_))
          rw [nI_1]
          exact o4
        · rw [if_neg c] at o4
          refine k9o_T (by rw [n_toInt (by omega), n_toInt (by omega)]; omega) (k9o_eq k9e_117_59 ?_)
          rw [nI_1]
          exact o4
    obtain ⟨I2, o2, a2, x2⟩ := one 0 I1 (by omega) ⟨w 4 0, by rw [p_up_id]; exact w1⟩ (k9_Ft_w x1')
    obtain ⟨I3, o3, x3⟩ := kc 3 0 I2 (by omega) a2 x2
    have i3 : k9_Iv I3 J w V b := k9_Iv_0 (k9_fp_x x3 (k9_Ft_X rfl)) v
    simp (disch := omega) only [k9e_117_0, k9e_117_2, k9e_117_5, k9e_117_7, k9e_117_14, Nat.reduceEqDiff, Int.reduceEq, Int.reduceLT, Int.reduceLE, k9_ps_s, k9_ps_n, k9_ur, false_and, and_false, true_and, and_true, true_or, or_true, false_or, or_false, eq_self, ↓reduceIte, not_true_eq_false, not_false_eq_true, n_toInt, n_cl, nI_1, nI_add, n_a0, n_p2, n_p3, n_p4, n_x2, n_x3, n_x4, n_x60, n_x100, n_pm1, k9L_m2, k9L_m1, k9L_0, k9L_1, k9L_2, k9L_3, k9L_4, k9L_5, k9L_6, k9L_7, k9L_8, k9L_9, k9L_10, k9L_20, k9L_23, k9L_24, k9L_30, k9L_40, k9L_50, k9L_60, k9L_99, k9L_100, k9L_120, k9L_255, k9L_999, k9L_1000, k9_bs, k9_ba]
    repeat (first | ((with_reducible refine k9q_T ?_ ?_); · omega) | ((with_reducible refine k9q_F ?_ ?_); · omega) | ((with_reducible refine k9q_Tb ?_ ?_); · omega) | ((with_reducible refine k9q_Fb ?_ ?_); · omega) | (refine k9o_call (e1) ?_; simp (disch := omega) only [k9e_117_0, k9e_117_2, k9e_117_5, k9e_117_7, k9e_117_14, Nat.reduceEqDiff, Int.reduceEq, Int.reduceLT, Int.reduceLE, k9_ps_s, k9_ps_n, k9_ur, false_and, and_false, true_and, and_true, true_or, or_true, false_or, or_false, eq_self, ↓reduceIte, not_true_eq_false, not_false_eq_true, n_toInt, n_cl, nI_1, nI_add, n_a0, n_p2, n_p3, n_p4, n_x2, n_x3, n_x4, n_x60, n_x100, n_pm1, k9L_m2, k9L_m1, k9L_0, k9L_1, k9L_2, k9L_3, k9L_4, k9L_5, k9L_6, k9L_7, k9L_8, k9L_9, k9L_10, k9L_20, k9L_23, k9L_24, k9L_30, k9L_40, k9L_50, k9L_60, k9L_99, k9L_100, k9L_120, k9L_255, k9L_999, k9L_1000, k9_bs, k9_ba]) | simp (disch := omega) only [k9e_117_0, k9e_117_2, k9e_117_5, k9e_117_7, k9e_117_14, Nat.reduceEqDiff, Int.reduceEq, Int.reduceLT, Int.reduceLE, k9_ps_s, k9_ps_n, k9_ur, false_and, and_false, true_and, and_true, true_or, or_true, false_or, or_false, eq_self, ↓reduceIte, not_true_eq_false, not_false_eq_true, n_toInt, n_cl, nI_1, nI_add, n_a0, n_p2, n_p3, n_p4, n_x2, n_x3, n_x4, n_x60, n_x100, n_pm1, k9L_m2, k9L_m1, k9L_0, k9L_1, k9L_2, k9L_3, k9L_4, k9L_5, k9L_6, k9L_7, k9L_8, k9L_9, k9L_10, k9L_20, k9L_23, k9L_24, k9L_30, k9L_40, k9L_50, k9L_60, k9L_99, k9L_100, k9L_120, k9L_255, k9L_999, k9L_1000, k9_bs, k9_ba])
    have oc := o2 _ 0 0 (k9o_eq k9e_117_49 (k9o_T (by decide) (k9o_eq k9e_117_55 (k9o_eq k9e_117_59 o3))))
    refine k9o_eq k9e_117_20 (k9o_F (by decide) ?_)
    obtain ⟨q1, c1, rfl⟩ := oc
    refine k9o_to c1 ⟨_, _, _, rfl, ?_⟩
    -- one measure, in the reference
    have onem : ∀ m I4, m ≤ 3 → k9_fx (k9_F2 0) I3 I4 → ∃ I5, (∀ Q : k9_A → Prop, ∀ x2' x3' x4' : Int32, k9_ok (k9_R S (d + 20) 213 38 [some (k9_r 12 0), some (k9_i (nI q)), some (k9_i x2'), some (k9_i x3'), some (k9_i x4'), some (k9_i (nI m)), none] [k9_i (nI (g m))] I5 J) Q → k9_ok (k9_R S (d + 20) 213 21 [some (k9_r 12 0), some (k9_i (nI q)), some (k9_i x2'), some (k9_i x3'), some (k9_i x4'), some (k9_i (nI m)), none] [] I4 J) Q) ∧ k9_fx (k9_F2 0) I3 I5 := by
      intro m I4 hm hx
      obtain ⟨I5, e5, m5, x5⟩ := k9_run2 (S := S) (d := d + 14) (p0 := 0) (m := m) i3 hx (by omega) (by simp [p_lo]) (by simp [p_hi]; omega)
      have m5 : k9_Mr I5 (p_len (u m)) (p_sh (u m) (p_tt (u m)) V) (p_co (u m)) := by rw [huu m]; exact m5
      have hl := hlu m
      obtain ⟨I6, e6, k6, x6⟩ := k9s_191 (S := S) (d := d + 19) (J := J) m5 (by omega) (fun t => p_sh_b t)
      have m6 := k9_Mr_fx x6 rfl (fun _ => ⟨rfl, rfl, rfl⟩) m5
      refine ⟨I6, fun Q x2' x3' x4' o => ?_, k9_fx_tr x5 (k9_F2_44 x6)⟩
      refine k9o_eq k9e_213_21 (k9o_call e5 ?_)
      simp only [k9_ps_n]
      refine k9o_eq k9e_213_28 (k9o_call e6 ?_)
      simp only [k9_ps_n]
      refine k9o_eq k9e_213_30 ?_
      have hgm := hgu m
      by_cases h0 : q = 0
      · rw [if_pos h0] at hgm
        refine k9o_T (by rw [n_toInt (by omega)]; omega) (k9o_eq k9e_213_32 ?_)
        rw [k6.2.1, ← hgm]
        exact o
      · rw [if_neg h0] at hgm
        have e193 := k9s_193 (S := S) (d := d + 19) (J := J) (x := 99) m6 (by omega) (by omega) (fun t => p_sh_b t)
        rw [← hgm] at e193
        refine k9o_F (by rw [n_toInt (by omega)]; omega) (k9o_eq k9e_213_35 (k9o_call e193 ?_))
        simp only [k9_ps_s]
        exact o
    have km : ∀ k m I4, m + k = 3 → k9_fx (k9_F2 0) I3 I4 → k9_ok (k9_R S (d + 20) 213 18 [some (k9_r 12 0), some (k9_i (nI q)), some (k9_i (I3 44 0 0)), some (k9_i (nI (p_mi g m).1)), some (k9_i (nI (p_mi g m).2)), some (k9_i (nI (m + 1))), none] [] I4 J) (fun q' => ∃ I5 J5, q' = (some (k9_i (nI (p_mi g 3).1)), I5, J5) ∧ k9_Inv I5 J5) := by
      intro k
      induction k with
      | zero =>
        intro m I4 hm hx
        obtain rfl : m = 3 := by omega
        exact k9o_eq k9e_213_18 (k9o_T (by decide) (k9o_eq k9e_213_51 (k9o_ret ⟨_, _, rfl, k9_Iv_e (k9_Iv_0 (k9_F2_e (by omega) hx) i3)⟩)))
      | succ k ih =>
        intro m I4 hm hx
        obtain ⟨I5, o5, x5⟩ := onem (m + 1) I4 (by omega) hx
        have o6 := ih (m + 1) I5 (by omega) x5
        have hb := p_mi_b hgb m
        have hb2 := hgb (m + 1)
        refine k9o_eq k9e_213_18 (k9o_F (by rw [n_toInt (by omega)]; omega) (o5 _ _ _ _ (k9o_eq k9e_213_38 (k9o_F (by rw [n_toInt (by omega)]; omega) (k9o_eq k9e_213_41 ?_)))))
        rw [p_mi] at o6
        by_cases c : g (m + 1) < (p_mi g m).2
        · rw [if_pos c] at o6
          refine k9o_T (by rw [n_toInt (by omega), n_toInt (by omega)]; omega) (k9o_eq k9e_213_45 (k9o_eq k9e_213_49 ?_))
          rw [nI_1]
          exact o6
        · rw [if_neg c] at o6
          refine k9o_F (by rw [n_toInt (by omega), n_toInt (by omega)]; omega) (k9o_eq k9e_213_44 (k9o_eq k9e_213_49 ?_))
          rw [nI_1]
          exact o6
    obtain ⟨I5, o5, x5⟩ := onem 0 I3 (by omega) (k9_fx_rf _ _)
    have o6 := km 3 0 I5 (by omega) x5
    simp (disch := omega) only [k9e_213_0, k9e_213_4, k9e_213_5, k9e_213_7, Nat.reduceEqDiff, Int.reduceEq, Int.reduceLT, Int.reduceLE, k9_ps_s, k9_ps_n, k9_ur, false_and, and_false, true_and, and_true, true_or, or_true, false_or, or_false, eq_self, ↓reduceIte, not_true_eq_false, not_false_eq_true, n_toInt, n_cl, nI_1, nI_add, n_a0, n_p2, n_p3, n_p4, n_x2, n_x3, n_x4, n_x60, n_x100, n_pm1, k9L_m2, k9L_m1, k9L_0, k9L_1, k9L_2, k9L_3, k9L_4, k9L_5, k9L_6, k9L_7, k9L_8, k9L_9, k9L_10, k9L_20, k9L_23, k9L_24, k9L_30, k9L_40, k9L_50, k9L_60, k9L_99, k9L_100, k9L_120, k9L_255, k9L_999, k9L_1000, k9_bs, k9_ba]
    repeat (first | ((with_reducible refine k9q_T ?_ ?_); · omega) | ((with_reducible refine k9q_F ?_ ?_); · omega) | ((with_reducible refine k9q_Tb ?_ ?_); · omega) | ((with_reducible refine k9q_Fb ?_ ?_); · omega) | (refine k9o_call (k9s_153 (by first | omega | (simp (disch := omega) only [n_toInt, n_pm1, k9L_m2, k9L_m1, k9L_0, k9L_1, k9L_2, k9L_3, k9L_4, k9L_5, k9L_6, k9L_7, k9L_8, k9L_9, k9L_10, k9L_20, k9L_23, k9L_24, k9L_30, k9L_40, k9L_50, k9L_60, k9L_99, k9L_100, k9L_120, k9L_255, k9L_999, k9L_1000]; omega))) ?_; simp (disch := omega) only [k9e_213_0, k9e_213_4, k9e_213_5, k9e_213_7, Nat.reduceEqDiff, Int.reduceEq, Int.reduceLT, Int.reduceLE, k9_ps_s, k9_ps_n, k9_ur, false_and, and_false, true_and, and_true, true_or, or_true, false_or, or_false, eq_self, ↓reduceIte, not_true_eq_false, not_false_eq_true, n_toInt, n_cl, nI_1, nI_add, n_a0, n_p2, n_p3, n_p4, n_x2, n_x3, n_x4, n_x60, n_x100, n_pm1, k9L_m2, k9L_m1, k9L_0, k9L_1, k9L_2, k9L_3, k9L_4, k9L_5, k9L_6, k9L_7, k9L_8, k9L_9, k9L_10, k9L_20, k9L_23, k9L_24, k9L_30, k9L_40, k9L_50, k9L_60, k9L_99, k9L_100, k9L_120, k9L_255, k9L_999, k9L_1000, k9_bs, k9_ba]) | (refine k9o_call (k9s_153x (by first | omega | (simp (disch := omega) only [n_toInt, n_pm1, k9L_m2, k9L_m1, k9L_0, k9L_1, k9L_2, k9L_3, k9L_4, k9L_5, k9L_6, k9L_7, k9L_8, k9L_9, k9L_10, k9L_20, k9L_23, k9L_24, k9L_30, k9L_40, k9L_50, k9L_60, k9L_99, k9L_100, k9L_120, k9L_255, k9L_999, k9L_1000]; omega))) ?_; simp (disch := omega) only [k9e_213_0, k9e_213_4, k9e_213_5, k9e_213_7, Nat.reduceEqDiff, Int.reduceEq, Int.reduceLT, Int.reduceLE, k9_ps_s, k9_ps_n, k9_ur, false_and, and_false, true_and, and_true, true_or, or_true, false_or, or_false, eq_self, ↓reduceIte, not_true_eq_false, not_false_eq_true, n_toInt, n_cl, nI_1, nI_add, n_a0, n_p2, n_p3, n_p4, n_x2, n_x3, n_x4, n_x60, n_x100, n_pm1, k9L_m2, k9L_m1, k9L_0, k9L_1, k9L_2, k9L_3, k9L_4, k9L_5, k9L_6, k9L_7, k9L_8, k9L_9, k9L_10, k9L_20, k9L_23, k9L_24, k9L_30, k9L_40, k9L_50, k9L_60, k9L_99, k9L_100, k9L_120, k9L_255, k9L_999, k9L_1000, k9_bs, k9_ba]) | simp (disch := omega) only [k9e_213_0, k9e_213_4, k9e_213_5, k9e_213_7, Nat.reduceEqDiff, Int.reduceEq, Int.reduceLT, Int.reduceLE, k9_ps_s, k9_ps_n, k9_ur, false_and, and_false, true_and, and_true, true_or, or_true, false_or, or_false, eq_self, ↓reduceIte, not_true_eq_false, not_false_eq_true, n_toInt, n_cl, nI_1, nI_add, n_a0, n_p2, n_p3, n_p4, n_x2, n_x3, n_x4, n_x60, n_x100, n_pm1, k9L_m2, k9L_m1, k9L_0, k9L_1, k9L_2, k9L_3, k9L_4, k9L_5, k9L_6, k9L_7, k9L_8, k9L_9, k9L_10, k9L_20, k9L_23, k9L_24, k9L_30, k9L_40, k9L_50, k9L_60, k9L_99, k9L_100, k9L_120, k9L_255, k9L_999, k9L_1000, k9_bs, k9_ba])
    refine k9o_eq k9e_213_18 (k9o_F (by decide) ?_)
    exact o5 _ _ _ _ (k9o_eq k9e_213_38 (k9o_T (by decide) (k9o_eq k9e_213_45 (k9o_eq k9e_213_49 o6))))
  · repeat' (first | ((with_reducible refine k9q_T ?_ ?_); · omega) | ((with_reducible refine k9q_F ?_ ?_); · omega) | ((with_reducible refine k9q_Tb ?_ ?_); · omega) | ((with_reducible refine k9q_Fb ?_ ?_); · omega) | simp (disch := omega) only [k9e_117_0, k9e_117_2, k9e_117_5, Nat.reduceEqDiff, Int.reduceEq, Int.reduceLT, Int.reduceLE, k9_ps_s, k9_ps_n, k9_ur, false_and, and_false, true_and, and_true, true_or, or_true, false_or, or_false, eq_self, ↓reduceIte, not_true_eq_false, not_false_eq_true, n_toInt, n_cl, nI_1, nI_add, n_a0, n_p2, n_p3, n_p4, n_x2, n_x3, n_x4, n_x60, n_x100, n_pm1, k9L_m2, k9L_m1, k9L_0, k9L_1, k9L_2, k9L_3, k9L_4, k9L_5, k9L_6, k9L_7, k9L_8, k9L_9, k9L_10, k9L_20, k9L_23, k9L_24, k9L_30, k9L_40, k9L_50, k9L_60, k9L_99, k9L_100, k9L_120, k9L_255, k9L_999, k9L_1000, k9_bs, k9_ba] | (with_reducible refine k9q_if (fun _ => ?_) (fun _ => ?_)) | (with_reducible refine k9q_ifb (fun _ => ?_) (fun _ => ?_)))
    all_goals refine k9o_ret ⟨_, _, _, rfl, ?_⟩
    all_goals repeat' (first | ((with_reducible refine k9q_T ?_ ?_); · omega) | ((with_reducible refine k9q_F ?_ ?_); · omega) | ((with_reducible refine k9q_Tb ?_ ?_); · omega) | ((with_reducible refine k9q_Fb ?_ ?_); · omega) | (refine k9o_call (k9s_153 (by first | omega | (simp (disch := omega) only [n_toInt, n_pm1, k9L_m2, k9L_m1, k9L_0, k9L_1, k9L_2, k9L_3, k9L_4, k9L_5, k9L_6, k9L_7, k9L_8, k9L_9, k9L_10, k9L_20, k9L_23, k9L_24, k9L_30, k9L_40, k9L_50, k9L_60, k9L_99, k9L_100, k9L_120, k9L_255, k9L_999, k9L_1000]; omega))) ?_; simp (disch := omega) only [k9e_213_0, k9e_213_4, k9e_213_5, Nat.reduceEqDiff, Int.reduceEq, Int.reduceLT, Int.reduceLE, k9_ps_s, k9_ps_n, k9_ur, false_and, and_false, true_and, and_true, true_or, or_true, false_or, or_false, eq_self, ↓reduceIte, not_true_eq_false, not_false_eq_true, n_toInt, n_cl, nI_1, nI_add, n_a0, n_p2, n_p3, n_p4, n_x2, n_x3, n_x4, n_x60, n_x100, n_pm1, k9L_m2, k9L_m1, k9L_0, k9L_1, k9L_2, k9L_3, k9L_4, k9L_5, k9L_6, k9L_7, k9L_8, k9L_9, k9L_10, k9L_20, k9L_23, k9L_24, k9L_30, k9L_40, k9L_50, k9L_60, k9L_99, k9L_100, k9L_120, k9L_255, k9L_999, k9L_1000, k9_bs, k9_ba]) | (refine k9o_call (k9s_153x (by first | omega | (simp (disch := omega) only [n_toInt, n_pm1, k9L_m2, k9L_m1, k9L_0, k9L_1, k9L_2, k9L_3, k9L_4, k9L_5, k9L_6, k9L_7, k9L_8, k9L_9, k9L_10, k9L_20, k9L_23, k9L_24, k9L_30, k9L_40, k9L_50, k9L_60, k9L_99, k9L_100, k9L_120, k9L_255, k9L_999, k9L_1000]; omega))) ?_; simp (disch := omega) only [k9e_213_0, k9e_213_4, k9e_213_5, Nat.reduceEqDiff, Int.reduceEq, Int.reduceLT, Int.reduceLE, k9_ps_s, k9_ps_n, k9_ur, false_and, and_false, true_and, and_true, true_or, or_true, false_or, or_false, eq_self, ↓reduceIte, not_true_eq_false, not_false_eq_true, n_toInt, n_cl, nI_1, nI_add, n_a0, n_p2, n_p3, n_p4, n_x2, n_x3, n_x4, n_x60, n_x100, n_pm1, k9L_m2, k9L_m1, k9L_0, k9L_1, k9L_2, k9L_3, k9L_4, k9L_5, k9L_6, k9L_7, k9L_8, k9L_9, k9L_10, k9L_20, k9L_23, k9L_24, k9L_30, k9L_40, k9L_50, k9L_60, k9L_99, k9L_100, k9L_120, k9L_255, k9L_999, k9L_1000, k9_bs, k9_ba]) | simp (disch := omega) only [k9e_213_0, k9e_213_4, k9e_213_5, Nat.reduceEqDiff, Int.reduceEq, Int.reduceLT, Int.reduceLE, k9_ps_s, k9_ps_n, k9_ur, false_and, and_false, true_and, and_true, true_or, or_true, false_or, or_false, eq_self, ↓reduceIte, not_true_eq_false, not_false_eq_true, n_toInt, n_cl, nI_1, nI_add, n_a0, n_p2, n_p3, n_p4, n_x2, n_x3, n_x4, n_x60, n_x100, n_pm1, k9L_m2, k9L_m1, k9L_0, k9L_1, k9L_2, k9L_3, k9L_4, k9L_5, k9L_6, k9L_7, k9L_8, k9L_9, k9L_10, k9L_20, k9L_23, k9L_24, k9L_30, k9L_40, k9L_50, k9L_60, k9L_99, k9L_100, k9L_120, k9L_255, k9L_999, k9L_1000, k9_bs, k9_ba] | (with_reducible refine k9q_if (fun _ => ?_) (fun _ => ?_)) | (with_reducible refine k9q_ifb (fun _ => ?_) (fun _ => ?_)))
    all_goals exact k9o_ret ⟨_, _, rfl, hI'⟩
end KT21

/-! LIES: pleases -/
section KT22
variable {S : k9_S} {d : Nat} {I I' : k9_I} {J J' : k9_J} {w : Nat → Nat → Nat} {V : (Nat → Int32) → Int32} {b : Nat} {x1 x2 x3 : Int32} {h c : Nat → Nat} {L A f M : Nat}
def p_mx (f : Nat → Int32) : Nat → Nat × Int32
  | 0 => (0, f 0)
  | k + 1 => if (p_mx f k).2.toInt < (f (k + 1)).toInt then (k + 1, f (k + 1)) else p_mx f k
theorem p_mx_b (f : Nat → Int32) : ∀ k, (p_mx f k).1 ≤ k
  | 0 => Nat.le_refl _
  | k + 1 => by
    have := p_mx_b f k
    rw [p_mx]
    split
    · exact Nat.le_refl _
    · omega
/-- the reference's sum -/
theorem k9s_214p {Q : k9_A → Prop} {a1 a2 a3 a4 a5 a6 : Int32} (hR : k9_Mr I L h c) (hL : L ≤ 954) (g : k9_ok (k9_R S d 214 56 [some (k9_r 12 0), some (k9_i a1), some (k9_i a2), some (k9_i a3), some (k9_i a4), some (k9_i a5), some (k9_i a6), some (k9_i (p_pl h L)), some (k9_i (nI (L + 1)))] [] I J) Q) : k9_ok (k9_R S d 214 34 [some (k9_r 12 0), some (k9_i a1), some (k9_i a2), some (k9_i a3), some (k9_i a4), some (k9_i a5), some (k9_i a6), some (k9_i 0), some (k9_i 1)] [] I J) Q := by
  have key : ∀ k t, t + k = L → k9_ok (k9_R S d 214 34 [some (k9_r 12 0), some (k9_i a1), some (k9_i a2), some (k9_i a3), some (k9_i a4), some (k9_i a5), some (k9_i a6), some (k9_i (p_pl h t)), some (k9_i (nI (t + 1)))] [] I J) Q := by
    intro k
    induction k with
    | zero =>
      intro t ht
      obtain rfl : t = L := by omega
      exact k9o_eq k9e_214_34 (k9o_T (by rw [hR.1, n_toInt (by omega), n_toInt (by omega)]; omega) g)
    | succ k ih =>
      intro t ht
      have e := ih (t + 1) (by omega)
      have a := (hR.2 (t + 1) (by omega)).2.2
      have a' := (hR.2 t (by omega)).2.2
      refine k9o_eq k9e_214_34 (k9o_F (by rw [hR.1, n_toInt (by omega), n_toInt (by omega)]; omega) ?_)
      simp (disch := omega) only [k9e_214_38, k9e_214_43, k9e_214_49, Nat.reduceEqDiff, Int.reduceEq, Int.reduceLT, Int.reduceLE, k9_ps_s, k9_ps_n, k9_ur, false_and, and_false, true_and, and_true, true_or, or_true, false_or, or_false, eq_self, ↓reduceIte, not_true_eq_false, not_false_eq_true, n_toInt, n_cl, nI_1, nI_add, n_a0, n_p2, n_p3, n_p4, n_x2, n_x3, n_x4, n_x60, n_x100, n_pm1, k9L_m2, k9L_m1, k9L_0, k9L_1, k9L_2, k9L_3, k9L_4, k9L_5, k9L_6, k9L_7, k9L_8, k9L_9, k9L_10, k9L_20, k9L_23, k9L_24, k9L_30, k9L_40, k9L_50, k9L_60, k9L_99, k9L_100, k9L_120, k9L_255, k9L_999, k9L_1000, k9_bs, k9_ba, hR.1, a, a', n_s1, Nat.add_sub_cancel]
      repeat (first | ((with_reducible refine k9q_T ?_ ?_); · omega) | ((with_reducible refine k9q_F ?_ ?_); · omega) | ((with_reducible refine k9q_Tb ?_ ?_); · omega) | ((with_reducible refine k9q_Fb ?_ ?_); · omega) | simp (disch := omega) only [k9e_214_38, k9e_214_43, k9e_214_49, Nat.reduceEqDiff, Int.reduceEq, Int.reduceLT, Int.reduceLE, k9_ps_s, k9_ps_n, k9_ur, false_and, and_false, true_and, and_true, true_or, or_true, false_or, or_false, eq_self, ↓reduceIte, not_true_eq_false, not_false_eq_true, n_toInt, n_cl, nI_1, nI_add, n_a0, n_p2, n_p3, n_p4, n_x2, n_x3, n_x4, n_x60, n_x100, n_pm1, k9L_m2, k9L_m1, k9L_0, k9L_1, k9L_2, k9L_3, k9L_4, k9L_5, k9L_6, k9L_7, k9L_8, k9L_9, k9L_10, k9L_20, k9L_23, k9L_24, k9L_30, k9L_40, k9L_50, k9L_60, k9L_99, k9L_100, k9L_120, k9L_255, k9L_999, k9L_1000, k9_bs, k9_ba, hR.1, a, a', n_s1, Nat.add_sub_cancel])
      exact e
  exact key L 0 (by omega)
theorem t_pleases (hI : k9_Inv I J) : k9_P S (d + 20) 118 214 [some (k9_r 1 0), some (k9_i x1), none, none, none, none] [some (k9_r 12 0), some (k9_i x1), none, none, none, none, none, none, none] I J k9_Inv := by
  have hI' := hI
  obtain ⟨w, V, b, v⟩ := hI
  have v : k9_Iv I J w V b := v
  have hf := v.1.2.2.1
  have hlen := p_len_b hf
  have h5 := hf.2.2.1
  refine k9P_of ?_
  by_cases h1 : 0 ≤ x1.toInt ∧ x1.toInt ≤ 1
  · obtain ⟨q, rfl, hq, -⟩ := n_of (x := x1) (by omega)
    obtain ⟨u, hu⟩ : ∃ u : Nat → Nat → Nat → Nat, u = fun m => p_up w 5 0 m := ⟨_, rfl⟩
    have huu : ∀ m, u m = p_up w 5 0 m := fun m => by rw [hu]
    have hlu : ∀ m, p_len (u m) = p_len w := fun m => by
      rw [huu]
      have hst : ∀ k, p_st (p_up w 5 0 m) k = p_st w k := by
        intro k
        induction k with
        | zero => rfl
        | succ k ih => rw [p_st, p_st, ih]; rfl
      exact hst _
    obtain ⟨g, hg⟩ : ∃ g : Nat → Int32, g = fun m => p_pl (p_sh (u m) (p_tt (u m)) V) (p_len (u m)) := ⟨_, rfl⟩
    have hgu : ∀ m, g m = p_pl (p_sh (u m) (p_tt (u m)) V) (p_len (u m)) := fun m => by rw [hg]
    have hgw : g (w 5 0) = p_pl (p_sh w (p_tt w) V) (p_len w) := by rw [hgu, huu, p_up_id]
    have hwf : ∀ m, m ≤ 9 → k9_wf (u m) := fun m hm => by rw [huu]; exact k9_wf_up hf (Or.inr ⟨by omega, by omega, rfl⟩) (by simp [p_lo]) (by simp [p_hi]; omega)
    -- the reference, from any memory that the invariant holds of
    have ref : ∀ I3 : k9_I, k9_Iv I3 J w V b → k9_ok (k9_R S (d + 20) 214 0 [some (k9_r 12 0), some (k9_i (nI q)), none, none, none, none, none, none, none] [] I3 J) (fun q' => ∃ I5 J5, q' = (some (k9_i (if q = 0 then g (w 5 0) else nI (p_mx g 9).1)), I5, J5) ∧ k9_Inv I5 J5) := by
      intro I3 i3
      have had : I3 44 0 1 = nI (w 5 0) := i3.1.2.1.2.2.1
      have onem : ∀ m I4, m ≤ 9 → k9_fx (k9_F2 1) I3 I4 → ∃ I5, (∀ Q : k9_A → Prop, ∀ x3' x4' x5' : Int32, k9_ok (k9_R S (d + 20) 214 61 [some (k9_r 12 0), some (k9_i (nI q)), some (k9_i (nI (w 5 0))), some (k9_i x3'), some (k9_i x4'), some (k9_i (if m = w 5 0 then g m else x5')), some (k9_i (nI m)), some (k9_i (g m)), some (k9_i (nI (p_len w + 1)))] [] I5 J) Q → k9_ok (k9_R S (d + 20) 214 23 [some (k9_r 12 0), some (k9_i (nI q)), some (k9_i (nI (w 5 0))), some (k9_i x3'), some (k9_i x4'), some (k9_i x5'), some (k9_i (nI m)), none, none] [] I4 J) Q) ∧ k9_fx (k9_F2 1) I3 I5 := by
        intro m I4 hm hx
        obtain ⟨I5, e5, m5, x5⟩ := k9_run2 (S := S) (d := d + 14) (p0 := 1) (m := m) i3 hx (by omega) (by simp [p_lo]) (by simp [p_hi]; omega)
        have m5 : k9_Mr I5 (p_len (u m)) (p_sh (u m) (p_tt (u m)) V) (p_co (u m)) := by rw [huu m]; exact m5
        have hl := hlu m
        refine ⟨I5, fun Q x3' x4' x5' o => ?_, x5⟩
        refine k9o_eq k9e_214_23 (k9o_call e5 ?_)
        simp only [k9_ps_n]
        refine k9o_eq k9e_214_30 (k9s_214p m5 (by omega) ?_)
        rw [← hgu m, hl]
        refine k9o_eq k9e_214_56 ?_
        by_cases c : m = w 5 0
        · rw [if_pos c] at o
          refine k9o_T (by rw [c]) (k9o_eq k9e_214_59 o)
        · rw [if_neg c] at o
          refine k9o_F (by rw [n_toInt (by omega), n_toInt (by omega)]; omega) o
      have km : ∀ k m I4, m + k = 9 → k9_fx (k9_F2 1) I3 I4 → k9_ok (k9_R S (d + 20) 214 20 [some (k9_r 12 0), some (k9_i (nI q)), some (k9_i (nI (w 5 0))), some (k9_i (nI (p_mx g m).1)), some (k9_i (p_mx g m).2), some (k9_i (if w 5 0 ≤ m then g (w 5 0) else 0)), some (k9_i (nI (m + 1))), none, none] [] I4 J) (fun q' => ∃ I5 J5, q' = (some (k9_i (if q = 0 then g (w 5 0) else nI (p_mx g 9).1)), I5, J5) ∧ k9_Inv I5 J5) := by
        intro k
        induction k with
        | zero =>
          intro m I4 hm hx
          obtain rfl : m = 9 := by omega
          have hfin := k9_Iv_e (k9_Iv_0 (k9_F2_e (by omega) hx) i3)
          rw [had] at hfin
          refine k9o_eq k9e_214_20 (k9o_T (by decide) (k9o_eq k9e_214_74 ?_))
          rw [if_pos h5]
          by_cases h0 : q = 0
          · rw [if_pos h0]
            refine k9o_T (by rw [n_toInt (by omega)]; omega) (k9o_eq k9e_214_81 (k9o_eq k9e_214_84 (k9o_ret ⟨_, _, rfl, hfin⟩)))
          · rw [if_neg h0]
            refine k9o_F (by rw [n_toInt (by omega)]; omega) (k9o_eq k9e_214_83 (k9o_eq k9e_214_84 (k9o_ret ⟨_, _, rfl, hfin⟩)))
        | succ k ih =>
          intro m I4 hm hx
          obtain ⟨I5, o5, x5⟩ := onem (m + 1) I4 (by omega) hx
          have o6 := ih (m + 1) I5 (by omega) x5
          have hb := p_mx_b g m
          refine k9o_eq k9e_214_20 (k9o_F (by rw [n_toInt (by omega)]; omega) (o5 _ _ _ _ ?_))
          have eth : (if m + 1 = w 5 0 then g (m + 1) else if w 5 0 ≤ m then g (w 5 0) else 0) = if w 5 0 ≤ m + 1 then g (w 5 0) else 0 := by
            by_cases c : m + 1 = w 5 0
            · rw [if_pos c, if_pos (by omega), c]
            · rw [if_neg c]
              by_cases c2 : w 5 0 ≤ m
              · rw [if_pos c2, if_pos (by omega)]
              · rw [if_neg c2, if_neg (by omega)]
          rw [eth]
          refine k9o_eq k9e_214_61 (k9o_F (by rw [n_toInt (by omega)]; omega) (k9o_eq k9e_214_64 ?_))
          rw [p_mx] at o6
          by_cases c : (p_mx g m).2.toInt < (g (m + 1)).toInt
          · rw [if_pos c] at o6
            refine k9o_T c (k9o_eq k9e_214_68 (k9o_eq k9e_214_72 ?_))
            rw [nI_1]
            exact o6
          · rw [if_neg c] at o6
            refine k9o_F c (k9o_eq k9e_214_67 (k9o_eq k9e_214_72 ?_))
            rw [nI_1]
            exact o6
      obtain ⟨I5, o5, x5⟩ := onem 0 I3 (by omega) (k9_fx_rf _ _)
      have o6 := km 9 0 I5 (by omega) x5
      simp (disch := omega) only [k9e_214_0, k9e_214_4, k9e_214_5, k9e_214_7, Nat.reduceEqDiff, Int.reduceEq, Int.reduceLT, Int.reduceLE, k9_ps_s, k9_ps_n, k9_ur, false_and, and_false, true_and, and_true, true_or, or_true, false_or, or_false, eq_self, ↓reduceIte, not_true_eq_false, not_false_eq_true, n_toInt, n_cl, nI_1, nI_add, n_a0, n_p2, n_p3, n_p4, n_x2, n_x3, n_x4, n_x60, n_x100, n_pm1, k9L_m2, k9L_m1, k9L_0, k9L_1, k9L_2, k9L_3, k9L_4, k9L_5, k9L_6, k9L_7, k9L_8, k9L_9, k9L_10, k9L_20, k9L_23, k9L_24, k9L_30, k9L_40, k9L_50, k9L_60, k9L_99, k9L_100, k9L_120, k9L_255, k9L_999, k9L_1000, k9_bs, k9_ba, had]
      repeat (first | ((with_reducible refine k9q_T ?_ ?_); · omega) | ((with_reducible refine k9q_F ?_ ?_); · omega) | ((with_reducible refine k9q_Tb ?_ ?_); · omega) | ((with_reducible refine k9q_Fb ?_ ?_); · omega) | (refine k9o_call (k9s_153 (by first | omega | (simp (disch := omega) only [n_toInt, n_pm1, k9L_m2, k9L_m1, k9L_0, k9L_1, k9L_2, k9L_3, k9L_4, k9L_5, k9L_6, k9L_7, k9L_8, k9L_9, k9L_10, k9L_20, k9L_23, k9L_24, k9L_30, k9L_40, k9L_50, k9L_60, k9L_99, k9L_100, k9L_120, k9L_255, k9L_999, k9L_1000]; omega))) ?_; simp (disch := omega) only [k9e_214_0, k9e_214_4, k9e_214_5, k9e_214_7, Nat.reduceEqDiff, Int.reduceEq, Int.reduceLT, Int.reduceLE, k9_ps_s, k9_ps_n, k9_ur, false_and, and_false, true_and, and_true, true_or, or_true, false_or, or_false, eq_self, ↓reduceIte, not_true_eq_false, not_false_eq_true, n_toInt, n_cl, nI_1, nI_add, n_a0, n_p2, n_p3, n_p4, n_x2, n_x3, n_x4, n_x60, n_x100, n_pm1, k9L_m2, k9L_m1, k9L_0, k9L_1, k9L_2, k9L_3, k9L_4, k9L_5, k9L_6, k9L_7, k9L_8, k9L_9, k9L_10, k9L_20, k9L_23, k9L_24, k9L_30, k9L_40, k9L_50, k9L_60, k9L_99, k9L_100, k9L_120, k9L_255, k9L_999, k9L_1000, k9_bs, k9_ba, had]) | (refine k9o_call (k9s_153x (by first | omega | (simp (disch := omega) only [n_toInt, n_pm1, k9L_m2, k9L_m1, k9L_0, k9L_1, k9L_2, k9L_3, k9L_4, k9L_5, k9L_6, k9L_7, k9L_8, k9L_9, k9L_10, k9L_20, k9L_23, k9L_24, k9L_30, k9L_40, k9L_50, k9L_60, k9L_99, k9L_100, k9L_120, k9L_255, k9L_999, k9L_1000]; omega))) ?_; simp (disch := omega) only [k9e_214_0, k9e_214_4, k9e_214_5, k9e_214_7, Nat.reduceEqDiff, Int.reduceEq, Int.reduceLT, Int.reduceLE, k9_ps_s, k9_ps_n, k9_ur, false_and, and_false, true_and, and_true, true_or, or_true, false_or, or_false, eq_self, ↓reduceIte, not_true_eq_false, not_false_eq_true, n_toInt, n_cl, nI_1, nI_add, n_a0, n_p2, n_p3, n_p4, n_x2, n_x3, n_x4, n_x60, n_x100, n_pm1, k9L_m2, k9L_m1, k9L_0, k9L_1, k9L_2, k9L_3, k9L_4, k9L_5, k9L_6, k9L_7, k9L_8, k9L_9, k9L_10, k9L_20, k9L_23, k9L_24, k9L_30, k9L_40, k9L_50, k9L_60, k9L_99, k9L_100, k9L_120, k9L_255, k9L_999, k9L_1000, k9_bs, k9_ba, had]) | simp (disch := omega) only [k9e_214_0, k9e_214_4, k9e_214_5, k9e_214_7, Nat.reduceEqDiff, Int.reduceEq, Int.reduceLT, Int.reduceLE, k9_ps_s, k9_ps_n, k9_ur, false_and, and_false, true_and, and_true, true_or, or_true, false_or, or_false, eq_self, ↓reduceIte, not_true_eq_false, not_false_eq_true, n_toInt, n_cl, nI_1, nI_add, n_a0, n_p2, n_p3, n_p4, n_x2, n_x3, n_x4, n_x60, n_x100, n_pm1, k9L_m2, k9L_m1, k9L_0, k9L_1, k9L_2, k9L_3, k9L_4, k9L_5, k9L_6, k9L_7, k9L_8, k9L_9, k9L_10, k9L_20, k9L_23, k9L_24, k9L_30, k9L_40, k9L_50, k9L_60, k9L_99, k9L_100, k9L_120, k9L_255, k9L_999, k9L_1000, k9_bs, k9_ba, had])
      refine k9o_eq k9e_214_20 (k9o_F (by decide) ?_)
      refine o5 _ _ _ 0 ?_
      have eth : (if 0 = w 5 0 then g 0 else 0) = if w 5 0 ≤ 0 then g (w 5 0) else 0 := by
        by_cases c : 0 = w 5 0
        · rw [if_pos c, if_pos (by omega), ← c]
        · rw [if_neg c, if_neg (by omega)]
      rw [eth]
      exact k9o_eq k9e_214_61 (k9o_T (by decide) (k9o_eq k9e_214_68 (k9o_eq k9e_214_72 o6)))
    by_cases h0 : q = 0
    · obtain ⟨I1, e1, b1, i1⟩ := k9s_148 (S := S) (d := d + 13) v
      have e65 := k9s_65 (S := S) (d := d + 19) (J := J) b1 (by omega) (by omega)
      rw [← hgw] at e65
      have rr := ref I1 i1
      rw [if_pos h0] at rr
      simp (disch := omega) only [k9e_118_0, k9e_118_2, k9e_118_5, k9e_118_7, k9e_118_9, k9e_118_11, k9e_118_12, Nat.reduceEqDiff, Int.reduceEq, Int.reduceLT, Int.reduceLE, k9_ps_s, k9_ps_n, k9_ur, false_and, and_false, true_and, and_true, true_or, or_true, false_or, or_false, eq_self, ↓reduceIte, not_true_eq_false, not_false_eq_true, n_toInt, n_cl, nI_1, nI_add, n_a0, n_p2, n_p3, n_p4, n_x2, n_x3, n_x4, n_x60, n_x100, n_pm1, k9L_m2, k9L_m1, k9L_0, k9L_1, k9L_2, k9L_3, k9L_4, k9L_5, k9L_6, k9L_7, k9L_8, k9L_9, k9L_10, k9L_20, k9L_23, k9L_24, k9L_30, k9L_40, k9L_50, k9L_60, k9L_99, k9L_100, k9L_120, k9L_255, k9L_999, k9L_1000, k9_bs, k9_ba]
      repeat (first | ((with_reducible refine k9q_T ?_ ?_); · omega) | ((with_reducible refine k9q_F ?_ ?_); · omega) | ((with_reducible refine k9q_Tb ?_ ?_); · omega) | ((with_reducible refine k9q_Fb ?_ ?_); · omega) | (refine k9o_call (e1) ?_; simp (disch := omega) only [k9e_118_0, k9e_118_2, k9e_118_5, k9e_118_7, k9e_118_9, k9e_118_11, k9e_118_12, Nat.reduceEqDiff, Int.reduceEq, Int.reduceLT, Int.reduceLE, k9_ps_s, k9_ps_n, k9_ur, false_and, and_false, true_and, and_true, true_or, or_true, false_or, or_false, eq_self, ↓reduceIte, not_true_eq_false, not_false_eq_true, n_toInt, n_cl, nI_1, nI_add, n_a0, n_p2, n_p3, n_p4, n_x2, n_x3, n_x4, n_x60, n_x100, n_pm1, k9L_m2, k9L_m1, k9L_0, k9L_1, k9L_2, k9L_3, k9L_4, k9L_5, k9L_6, k9L_7, k9L_8, k9L_9, k9L_10, k9L_20, k9L_23, k9L_24, k9L_30, k9L_40, k9L_50, k9L_60, k9L_99, k9L_100, k9L_120, k9L_255, k9L_999, k9L_1000, k9_bs, k9_ba]) | (refine k9o_call (e65) ?_; simp (disch := omega) only [k9e_118_0, k9e_118_2, k9e_118_5, k9e_118_7, k9e_118_9, k9e_118_11, k9e_118_12, Nat.reduceEqDiff, Int.reduceEq, Int.reduceLT, Int.reduceLE, k9_ps_s, k9_ps_n, k9_ur, false_and, and_false, true_and, and_true, true_or, or_true, false_or, or_false, eq_self, ↓reduceIte, not_true_eq_false, not_false_eq_true, n_toInt, n_cl, nI_1, nI_add, n_a0, n_p2, n_p3, n_p4, n_x2, n_x3, n_x4, n_x60, n_x100, n_pm1, k9L_m2, k9L_m1, k9L_0, k9L_1, k9L_2, k9L_3, k9L_4, k9L_5, k9L_6, k9L_7, k9L_8, k9L_9, k9L_10, k9L_20, k9L_23, k9L_24, k9L_30, k9L_40, k9L_50, k9L_60, k9L_99, k9L_100, k9L_120, k9L_255, k9L_999, k9L_1000, k9_bs, k9_ba]) | simp (disch := omega) only [k9e_118_0, k9e_118_2, k9e_118_5, k9e_118_7, k9e_118_9, k9e_118_11, k9e_118_12, Nat.reduceEqDiff, Int.reduceEq, Int.reduceLT, Int.reduceLE, k9_ps_s, k9_ps_n, k9_ur, false_and, and_false, true_and, and_true, true_or, or_true, false_or, or_false, eq_self, ↓reduceIte, not_true_eq_false, not_false_eq_true, n_toInt, n_cl, nI_1, nI_add, n_a0, n_p2, n_p3, n_p4, n_x2, n_x3, n_x4, n_x60, n_x100, n_pm1, k9L_m2, k9L_m1, k9L_0, k9L_1, k9L_2, k9L_3, k9L_4, k9L_5, k9L_6, k9L_7, k9L_8, k9L_9, k9L_10, k9L_20, k9L_23, k9L_24, k9L_30, k9L_40, k9L_50, k9L_60, k9L_99, k9L_100, k9L_120, k9L_255, k9L_999, k9L_1000, k9_bs, k9_ba])
      exact k9o_ret ⟨_, _, _, rfl, rr⟩
    · obtain ⟨I1, e1, w1, x1'⟩ := k9s_15 (S := S) (d := d + 17) (I := I) (J := J) (i0 := 1) (i1 := 0) (by decide) v.1.1 hf
      have one : ∀ m I2, m ≤ 9 → (∃ a, k9_Wk I2 1 (p_up w 5 0 a)) → k9_fx k9_Ft I I2 → ∃ I3, (∀ Q : k9_A → Prop, ∀ x2' x3' : Int32, k9_ok (k9_R S (d + 20) 118 47 [some (k9_r 1 0), some (k9_i (nI q)), some (k9_i x2'), some (k9_i x3'), some (k9_i (nI m)), none] [k9_i (g m)] I3 J) Q → k9_ok (k9_R S (d + 20) 118 29 [some (k9_r 1 0), some (k9_i (nI q)), some (k9_i x2'), some (k9_i x3'), some (k9_i (nI m)), none] [] I2 J) Q) ∧ (∃ a, k9_Wk I3 1 (p_up w 5 0 a)) ∧ k9_fx k9_Ft I I3 := by
        intro m I2 hm ha hx
        obtain ⟨a, ha⟩ := ha
        have hW2 := k9_Wk_m (m := m) (Or.inr (Or.inl rfl)) ha
        rw [← huu m] at hW2
        have hx2 : k9_fx k9_Ft I (k9_u I2 3 1 2 (nI m)) := k9_fx_u hx rfl
        obtain ⟨e10, I3, e3, b3, w3, x3⟩ := k9_troll (S := S) (d := d + 15) (J := J) hW2 (hwf m hm) (k9_CL_t hx2 v.2.2.1.1)
        have e10' := k9s_10 (S := S) (d := d + 17) (J := J) hW2 (hwf m hm)
        have hl := hlu m
        have e65 := k9s_65 (S := S) (d := d + 19) (J := J) b3 (by omega) (by omega)
        rw [← hgu m] at e65
        refine ⟨I3, fun Q x2' x3' o => ?_, ⟨m, by rw [← huu m]; exact w3⟩, k9_fx_tr hx2 (k9_Ft_b x3)⟩
        refine k9o_eq k9e_118_29 (k9o_call e10' ?_)
        simp only [k9_ps_s]
        refine k9o_eq k9e_118_43 (k9o_call e3 ?_)
        simp only [k9_ps_n]
        refine k9o_eq k9e_118_44 (k9o_call e65 ?_)
        simp only [k9_ps_s]
        exact o
      have kc : ∀ k m I2, m + k = 9 → (∃ a, k9_Wk I2 1 (p_up w 5 0 a)) → k9_fx k9_Ft I I2 → ∃ I3, k9_ok (k9_R S (d + 20) 118 26 [some (k9_r 1 0), some (k9_i (nI q)), some (k9_i (nI (p_mx g m).1)), some (k9_i (p_mx g m).2), some (k9_i (nI (m + 1))), none] [] I2 J) (fun q' => q' = (some (k9_i (nI (p_mx g 9).1)), I3, J)) ∧ k9_fx k9_Ft I I3 := by
        intro k
        induction k with
        | zero =>
          intro m I2 hm ha hx
          obtain rfl : m = 9 := by omega
          exact ⟨I2, k9o_eq k9e_118_26 (k9o_T (by decide) (k9o_eq k9e_118_59 (k9o_ret rfl))), hx⟩
        | succ k ih =>
          intro m I2 hm ha hx
          obtain ⟨I3, o3, a3, x3⟩ := one (m + 1) I2 (by omega) ha hx
          obtain ⟨I4, o4, x4⟩ := ih (m + 1) I3 (by omega) a3 x3
          refine ⟨I4, k9o_eq k9e_118_26 (k9o_F (by rw [n_toInt (by omega)]; omega) (o3 _ _ _ (k9o_eq k9e_118_47 (k9o_F (by rw [n_toInt (by omega)]; omega) (k9o_eq k9e_118_50 ?_))))), x4⟩
          rw [p_mx] at o4
          by_cases c : (p_mx g m).2.toInt < (g (m + 1)).toInt
          · rw [if_pos c] at o4
            refine k9o_F (by omega) (k9o_eq k9e_118_53 (k9o_eq k9e_118_57 ?_))
            rw [nI_1]
            exact o4
          · rw [if_neg c] at o4
            refine k9o_T (by omega) (k9o_eq k9e_118_57 ?_)
            rw [nI_1]
            exact o4
      obtain ⟨I2, o2, a2, x2⟩ := one 0 I1 (by omega) ⟨w 5 0, by rw [p_up_id]; exact w1⟩ (k9_Ft_w x1')
      obtain ⟨I3, o3, x3⟩ := kc 9 0 I2 (by omega) a2 x2
      have i3 : k9_Iv I3 J w V b := k9_Iv_0 (k9_fp_x x3 (k9_Ft_X rfl)) v
      have rr := ref I3 i3
      rw [if_neg h0] at rr
      simp (disch := omega) only [k9e_118_0, k9e_118_2, k9e_118_5, k9e_118_7, k9e_118_9, k9e_118_11, k9e_118_12, k9e_118_13, k9e_118_20, Nat.reduceEqDiff, Int.reduceEq, Int.reduceLT, Int.reduceLE, k9_ps_s, k9_ps_n, k9_ur, false_and, and_false, true_and, and_true, true_or, or_true, false_or, or_false, eq_self, ↓reduceIte, not_true_eq_false, not_false_eq_true, n_toInt, n_cl, nI_1, nI_add, n_a0, n_p2, n_p3, n_p4, n_x2, n_x3, n_x4, n_x60, n_x100, n_pm1, k9L_m2, k9L_m1, k9L_0, k9L_1, k9L_2, k9L_3, k9L_4, k9L_5, k9L_6, k9L_7, k9L_8, k9L_9, k9L_10, k9L_20, k9L_23, k9L_24, k9L_30, k9L_40, k9L_50, k9L_60, k9L_99, k9L_100, k9L_120, k9L_255, k9L_999, k9L_1000, k9_bs, k9_ba]
      repeat (first | ((with_reducible refine k9q_T ?_ ?_); · omega) | ((with_reducible refine k9q_F ?_ ?_); · omega) | ((with_reducible refine k9q_Tb ?_ ?_); · omega) | ((with_reducible refine k9q_Fb ?_ ?_); · omega) | (refine k9o_call (e1) ?_; simp (disch := omega) only [k9e_118_0, k9e_118_2, k9e_118_5, k9e_118_7, k9e_118_9, k9e_118_11, k9e_118_12, k9e_118_13, k9e_118_20, Nat.reduceEqDiff, Int.reduceEq, Int.reduceLT, Int.reduceLE, k9_ps_s, k9_ps_n, k9_ur, false_and, and_false, true_and, and_true, true_or, or_true, false_or, or_false, eq_self, ↓reduceIte, not_true_eq_false, not_false_eq_true, n_toInt, n_cl, nI_1, nI_add, n_a0, n_p2, n_p3, n_p4, n_x2, n_x3, n_x4, n_x60, n_x100, n_pm1, k9L_m2, k9L_m1, k9L_0, k9L_1, k9L_2, k9L_3, k9L_4, k9L_5, k9L_6, k9L_7, k9L_8, k9L_9, k9L_10, k9L_20, k9L_23, k9L_24, k9L_30, k9L_40, k9L_50, k9L_60, k9L_99, k9L_100, k9L_120, k9L_255, k9L_999, k9L_1000, k9_bs, k9_ba]) | simp (disch := omega) only [k9e_118_0, k9e_118_2, k9e_118_5, k9e_118_7, k9e_118_9, k9e_118_11, k9e_118_12, k9e_118_13, k9e_118_20, Nat.reduceEqDiff, Int.reduceEq, Int.reduceLT, Int.reduceLE, k9_ps_s, k9_ps_n, k9_ur, false_and, and_false, true_and, and_true, true_or, or_true, false_or, or_false, eq_self, ↓reduceIte, not_true_eq_false, not_false_eq_true, n_toInt, n_cl, nI_1, nI_add, n_a0, n_p2, n_p3, n_p4, n_x2, n_x3, n_x4, n_x60, n_x100, n_pm1, k9L_m2, k9L_m1, k9L_0, k9L_1, k9L_2, k9L_3, k9L_4, k9L_5, k9L_6, k9L_7, k9L_8, k9L_9, k9L_10, k9L_20, k9L_23, k9L_24, k9L_30, k9L_40, k9L_50, k9L_60, k9L_99, k9L_100, k9L_120, k9L_255, k9L_999, k9L_1000, k9_bs, k9_ba])
      have oc := o2 _ 0 0 (k9o_eq k9e_118_47 (k9o_T (by decide) (k9o_eq k9e_118_53 (k9o_eq k9e_118_57 o3))))
      refine k9o_eq k9e_118_26 (k9o_F (by decide) ?_)
      obtain ⟨q1, c1, rfl⟩ := oc
      exact k9o_to c1 ⟨_, _, _, rfl, rr⟩
  · repeat' (first | ((with_reducible refine k9q_T ?_ ?_); · omega) | ((with_reducible refine k9q_F ?_ ?_); · omega) | ((with_reducible refine k9q_Tb ?_ ?_); · omega) | ((with_reducible refine k9q_Fb ?_ ?_); · omega) | simp (disch := omega) only [k9e_118_0, k9e_118_2, k9e_118_5, Nat.reduceEqDiff, Int.reduceEq, Int.reduceLT, Int.reduceLE, k9_ps_s, k9_ps_n, k9_ur, false_and, and_false, true_and, and_true, true_or, or_true, false_or, or_false, eq_self, ↓reduceIte, not_true_eq_false, not_false_eq_true, n_toInt, n_cl, nI_1, nI_add, n_a0, n_p2, n_p3, n_p4, n_x2, n_x3, n_x4, n_x60, n_x100, n_pm1, k9L_m2, k9L_m1, k9L_0, k9L_1, k9L_2, k9L_3, k9L_4, k9L_5, k9L_6, k9L_7, k9L_8, k9L_9, k9L_10, k9L_20, k9L_23, k9L_24, k9L_30, k9L_40, k9L_50, k9L_60, k9L_99, k9L_100, k9L_120, k9L_255, k9L_999, k9L_1000, k9_bs, k9_ba] | (with_reducible refine k9q_if (fun _ => ?_) (fun _ => ?_)) | (with_reducible refine k9q_ifb (fun _ => ?_) (fun _ => ?_)))
    all_goals refine k9o_ret ⟨_, _, _, rfl, ?_⟩
    all_goals repeat' (first | ((with_reducible refine k9q_T ?_ ?_); · omega) | ((with_reducible refine k9q_F ?_ ?_); · omega) | ((with_reducible refine k9q_Tb ?_ ?_); · omega) | ((with_reducible refine k9q_Fb ?_ ?_); · omega) | (refine k9o_call (k9s_153 (by first | omega | (simp (disch := omega) only [n_toInt, n_pm1, k9L_m2, k9L_m1, k9L_0, k9L_1, k9L_2, k9L_3, k9L_4, k9L_5, k9L_6, k9L_7, k9L_8, k9L_9, k9L_10, k9L_20, k9L_23, k9L_24, k9L_30, k9L_40, k9L_50, k9L_60, k9L_99, k9L_100, k9L_120, k9L_255, k9L_999, k9L_1000]; omega))) ?_; simp (disch := omega) only [k9e_214_0, k9e_214_4, k9e_214_5, Nat.reduceEqDiff, Int.reduceEq, Int.reduceLT, Int.reduceLE, k9_ps_s, k9_ps_n, k9_ur, false_and, and_false, true_and, and_true, true_or, or_true, false_or, or_false, eq_self, ↓reduceIte, not_true_eq_false, not_false_eq_true, n_toInt, n_cl, nI_1, nI_add, n_a0, n_p2, n_p3, n_p4, n_x2, n_x3, n_x4, n_x60, n_x100, n_pm1, k9L_m2, k9L_m1, k9L_0, k9L_1, k9L_2, k9L_3, k9L_4, k9L_5, k9L_6, k9L_7, k9L_8, k9L_9, k9L_10, k9L_20, k9L_23, k9L_24, k9L_30, k9L_40, k9L_50, k9L_60, k9L_99, k9L_100, k9L_120, k9L_255, k9L_999, k9L_1000, k9_bs, k9_ba]) | (refine k9o_call (k9s_153x (by first | omega | (simp (disch := omega) only [n_toInt, n_pm1, k9L_m2, k9L_m1, k9L_0, k9L_1, k9L_2, k9L_3, k9L_4, k9L_5, k9L_6, k9L_7, k9L_8, k9L_9, k9L_10, k9L_20, k9L_23, k9L_24, k9L_30, k9L_40, k9L_50, k9L_60, k9L_99, k9L_100, k9L_120, k9L_255, k9L_999, k9L_1000]; omega))) ?_; simp (disch := omega) only [k9e_214_0, k9e_214_4, k9e_214_5, Nat.reduceEqDiff, Int.reduceEq, Int.reduceLT, Int.reduceLE, k9_ps_s, k9_ps_n, k9_ur, false_and, and_false, true_and, and_true, true_or, or_true, false_or, or_false, eq_self, ↓reduceIte, not_true_eq_false, not_false_eq_true, n_toInt, n_cl, nI_1, nI_add, n_a0, n_p2, n_p3, n_p4, n_x2, n_x3, n_x4, n_x60, n_x100, n_pm1, k9L_m2, k9L_m1, k9L_0, k9L_1, k9L_2, k9L_3, k9L_4, k9L_5, k9L_6, k9L_7, k9L_8, k9L_9, k9L_10, k9L_20, k9L_23, k9L_24, k9L_30, k9L_40, k9L_50, k9L_60, k9L_99, k9L_100, k9L_120, k9L_255, k9L_999, k9L_1000, k9_bs, k9_ba]) | simp (disch := omega) only [k9e_214_0, k9e_214_4, k9e_214_5, Nat.reduceEqDiff, Int.reduceEq, Int.reduceLT, Int.reduceLE, k9_ps_s, k9_ps_n, k9_ur, false_and, and_false, true_and, and_true, true_or, or_true, false_or, or_false, eq_self, ↓reduceIte, not_true_eq_false, not_false_eq_true, n_toInt, n_cl, nI_1, nI_add, n_a0, n_p2, n_p3, n_p4, n_x2, n_x3, n_x4, n_x60, n_x100, n_pm1, k9L_m2, k9L_m1, k9L_0, k9L_1, k9L_2, k9L_3, k9L_4, k9L_5, k9L_6, k9L_7, k9L_8, k9L_9, k9L_10, k9L_20, k9L_23, k9L_24, k9L_30, k9L_40, k9L_50, k9L_60, k9L_99, k9L_100, k9L_120, k9L_255, k9L_999, k9L_1000, k9_bs, k9_ba] | (with_reducible refine k9q_if (fun _ => ?_) (fun _ => ?_)) | (with_reducible refine k9q_ifb (fun _ => ?_) (fun _ => ?_)))
    all_goals exact k9o_ret ⟨_, _, rfl, hI'⟩
end KT22
