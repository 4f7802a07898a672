/-! PIECES: redo, mend -/
section KT4
variable {S : k9_S} {d : Nat} {I I' : k9_I} {J J' : k9_J} {x1 x2 x3 : Int32} {w : Nat → Nat → Nat}
theorem k9_Fw_X {X : Nat → Bool} (hX : X 1 = true) : ∀ k i p, k9_Fw 0 k i p = true → X (v_cl k i p) = true := by
  intro k i p e
  simp only [k9_Fw, Bool.or_eq_true, Bool.and_eq_true] at e
  obtain ⟨e, e0⟩ := e
  have e0 := Nat.eq_of_beq_eq_true e0
  subst e0
  rcases e with (((e | e) | e) | e) | e <;> (rw [Nat.eq_of_beq_eq_true e]; exact hX)
theorem k9_F40_X {X : Nat → Bool} (hX : X 1 = true) : ∀ k i p, k9_F40 k i p = true → X (v_cl k i p) = true := by
  intro k i p e
  simp only [k9_F40, Bool.or_eq_true] at e
  rcases e with (((e | e) | e) | e) | e <;> (rw [Nat.eq_of_beq_eq_true e]; exact hX)
theorem k9_Wm_t {I' : k9_I} (hM : k9_Wm I w) (e0 : I' 12 0 0 = I 12 0 0) (e4 : I' 44 0 = I 44 0) (e40 : I' 40 0 = I 40 0) (e41 : I' 41 0 = I 41 0) (e42 : I' 42 0 = I 42 0) (e43 : I' 43 0 = I 43 0) : k9_Wm I' w := by
  unfold k9_Wm
  rw [e0, e4, e40, e41, e42, e43]
  exact hM
theorem t_redo (hI : k9_Inv I J) : k9_P S (d + 10) 133 167 [some (k9_r 1 0)] [some (k9_r 12 0)] I J k9_Inv := by
  have hI' := hI
  obtain ⟨w, V, b, v1, v2, v3, v4, v5, v6, v7, v8, v9⟩ := hI
  obtain ⟨hW, hM, hf, h9⟩ := id v1
  obtain ⟨ca, cb, cab, c1, c2, c3, c4, c5⟩ := v4
  refine k9P_of ?_
  by_cases h0 : cb = 0
  · simp (disch := omega) only [k9e_133_0, k9e_133_6, k9e_133_7, k9e_133_9, k9e_133_11, k9e_70_0, k9e_70_4, k9e_70_7, k9e_70_11, k9e_70_13, k9e_70_19, k9e_70_24, k9e_70_29, k9e_70_30, Nat.reduceEqDiff, Int.reduceEq, Int.reduceLT, Int.reduceLE, k9_ps_s, k9_ps_n, k9_ur, false_and, and_false, true_and, and_true, true_or, or_true, false_or, or_false, eq_self, ↓reduceIte, not_true_eq_false, not_false_eq_true, n_toInt, n_cl, nI_1, nI_add, n_a0, n_p2, n_p3, n_p4, n_x2, n_x3, n_x4, n_x60, n_x100, n_pm1, k9L_m2, k9L_m1, k9L_0, k9L_1, k9L_2, k9L_3, k9L_4, k9L_5, k9L_6, k9L_7, k9L_8, k9L_9, k9L_10, k9L_20, k9L_23, k9L_24, k9L_30, k9L_40, k9L_50, k9L_60, k9L_99, k9L_100, k9L_120, k9L_255, k9L_999, k9L_1000, k9_bs, k9_ba, c1, c2]
    repeat (first | ((with_reducible refine k9q_T ?_ ?_); · omega) | ((with_reducible refine k9q_F ?_ ?_); · omega) | ((with_reducible refine k9q_Tb ?_ ?_); · omega) | ((with_reducible refine k9q_Fb ?_ ?_); · omega) | simp (disch := omega) only [k9e_133_0, k9e_133_6, k9e_133_7, k9e_133_9, k9e_133_11, k9e_70_0, k9e_70_4, k9e_70_7, k9e_70_11, k9e_70_13, k9e_70_19, k9e_70_24, k9e_70_29, k9e_70_30, Nat.reduceEqDiff, Int.reduceEq, Int.reduceLT, Int.reduceLE, k9_ps_s, k9_ps_n, k9_ur, false_and, and_false, true_and, and_true, true_or, or_true, false_or, or_false, eq_self, ↓reduceIte, not_true_eq_false, not_false_eq_true, n_toInt, n_cl, nI_1, nI_add, n_a0, n_p2, n_p3, n_p4, n_x2, n_x3, n_x4, n_x60, n_x100, n_pm1, k9L_m2, k9L_m1, k9L_0, k9L_1, k9L_2, k9L_3, k9L_4, k9L_5, k9L_6, k9L_7, k9L_8, k9L_9, k9L_10, k9L_20, k9L_23, k9L_24, k9L_30, k9L_40, k9L_50, k9L_60, k9L_99, k9L_100, k9L_120, k9L_255, k9L_999, k9L_1000, k9_bs, k9_ba, c1, c2])
    refine k9o_ret ⟨_, _, _, rfl, ?_⟩
    simp (disch := omega) only [k9e_167_0, k9e_167_5, k9e_167_7, k9e_167_15, k9e_167_24, k9e_167_33, k9e_167_34, Nat.reduceEqDiff, Int.reduceEq, Int.reduceLT, Int.reduceLE, k9_ps_s, k9_ps_n, k9_ur, false_and, and_false, true_and, and_true, true_or, or_true, false_or, or_false, eq_self, ↓reduceIte, not_true_eq_false, not_false_eq_true, n_toInt, n_cl, nI_1, nI_add, n_a0, n_p2, n_p3, n_p4, n_x2, n_x3, n_x4, n_x60, n_x100, n_pm1, k9L_m2, k9L_m1, k9L_0, k9L_1, k9L_2, k9L_3, k9L_4, k9L_5, k9L_6, k9L_7, k9L_8, k9L_9, k9L_10, k9L_20, k9L_23, k9L_24, k9L_30, k9L_40, k9L_50, k9L_60, k9L_99, k9L_100, k9L_120, k9L_255, k9L_999, k9L_1000, k9_bs, k9_ba, c3, c4]
    repeat (first | ((with_reducible refine k9q_T ?_ ?_); · omega) | ((with_reducible refine k9q_F ?_ ?_); · omega) | ((with_reducible refine k9q_Tb ?_ ?_); · omega) | ((with_reducible refine k9q_Fb ?_ ?_); · omega) | simp (disch := omega) only [k9e_167_0, k9e_167_5, k9e_167_7, k9e_167_15, k9e_167_24, k9e_167_33, k9e_167_34, Nat.reduceEqDiff, Int.reduceEq, Int.reduceLT, Int.reduceLE, k9_ps_s, k9_ps_n, k9_ur, false_and, and_false, true_and, and_true, true_or, or_true, false_or, or_false, eq_self, ↓reduceIte, not_true_eq_false, not_false_eq_true, n_toInt, n_cl, nI_1, nI_add, n_a0, n_p2, n_p3, n_p4, n_x2, n_x3, n_x4, n_x60, n_x100, n_pm1, k9L_m2, k9L_m1, k9L_0, k9L_1, k9L_2, k9L_3, k9L_4, k9L_5, k9L_6, k9L_7, k9L_8, k9L_9, k9L_10, k9L_20, k9L_23, k9L_24, k9L_30, k9L_40, k9L_50, k9L_60, k9L_99, k9L_100, k9L_120, k9L_255, k9L_999, k9L_1000, k9_bs, k9_ba, c3, c4])
    exact k9o_ret ⟨_, _, rfl, hI'⟩
  · obtain ⟨p, q, x, y, g1, g2, g3, g4, g5, g6, g7, g8, g9, g10, g11, g12, g13⟩ := c5 ca (by omega)
    obtain ⟨I2, e2, a2, f2⟩ := k9s_6e (S := S) (d := d + 6) (J := J) (I := I) (v := y) hW hf g1
    have f80 : I2 8 0 0 = nI ca := (f2 8 0 0 rfl).trans c1
    have f81 : I2 8 0 1 = nI cb := (f2 8 0 1 rfl).trans c2
    simp (disch := omega) only [k9e_133_0, k9e_133_6, k9e_133_7, k9e_133_9, k9e_133_11, k9e_70_0, k9e_70_4, k9e_70_7, k9e_70_11, k9e_70_13, k9e_70_19, k9e_70_24, k9e_70_29, k9e_70_30, k9e_147_0, Nat.reduceEqDiff, Int.reduceEq, Int.reduceLT, Int.reduceLE, k9_ps_s, k9_ps_n, k9_ur, false_and, and_false, true_and, and_true, true_or, or_true, false_or, or_false, eq_self, ↓reduceIte, not_true_eq_false, not_false_eq_true, n_toInt, n_cl, nI_1, nI_add, n_a0, n_p2, n_p3, n_p4, n_x2, n_x3, n_x4, n_x60, n_x100, n_pm1, k9L_m2, k9L_m1, k9L_0, k9L_1, k9L_2, k9L_3, k9L_4, k9L_5, k9L_6, k9L_7, k9L_8, k9L_9, k9L_10, k9L_20, k9L_23, k9L_24, k9L_30, k9L_40, k9L_50, k9L_60, k9L_99, k9L_100, k9L_120, k9L_255, k9L_999, k9L_1000, k9_bs, k9_ba, c1, c2, n_s1, g6, g7, g8, g9, f80, f81]
    repeat (first | ((with_reducible refine k9q_T ?_ ?_); · omega) | ((with_reducible refine k9q_F ?_ ?_); · omega) | ((with_reducible refine k9q_Tb ?_ ?_); · omega) | ((with_reducible refine k9q_Fb ?_ ?_); · omega) | (refine k9o_call (e2) ?_; simp (disch := omega) only [k9e_133_0, k9e_133_6, k9e_133_7, k9e_133_9, k9e_133_11, k9e_70_0, k9e_70_4, k9e_70_7, k9e_70_11, k9e_70_13, k9e_70_19, k9e_70_24, k9e_70_29, k9e_70_30, k9e_147_0, Nat.reduceEqDiff, Int.reduceEq, Int.reduceLT, Int.reduceLE, k9_ps_s, k9_ps_n, k9_ur, false_and, and_false, true_and, and_true, true_or, or_true, false_or, or_false, eq_self, ↓reduceIte, not_true_eq_false, not_false_eq_true, n_toInt, n_cl, nI_1, nI_add, n_a0, n_p2, n_p3, n_p4, n_x2, n_x3, n_x4, n_x60, n_x100, n_pm1, k9L_m2, k9L_m1, k9L_0, k9L_1, k9L_2, k9L_3, k9L_4, k9L_5, k9L_6, k9L_7, k9L_8, k9L_9, k9L_10, k9L_20, k9L_23, k9L_24, k9L_30, k9L_40, k9L_50, k9L_60, k9L_99, k9L_100, k9L_120, k9L_255, k9L_999, k9L_1000, k9_bs, k9_ba, c1, c2, n_s1, g6, g7, g8, g9, f80, f81]) | simp (disch := omega) only [k9e_133_0, k9e_133_6, k9e_133_7, k9e_133_9, k9e_133_11, k9e_70_0, k9e_70_4, k9e_70_7, k9e_70_11, k9e_70_13, k9e_70_19, k9e_70_24, k9e_70_29, k9e_70_30, k9e_147_0, Nat.reduceEqDiff, Int.reduceEq, Int.reduceLT, Int.reduceLE, k9_ps_s, k9_ps_n, k9_ur, false_and, and_false, true_and, and_true, true_or, or_true, false_or, or_false, eq_self, ↓reduceIte, not_true_eq_false, not_false_eq_true, n_toInt, n_cl, nI_1, nI_add, n_a0, n_p2, n_p3, n_p4, n_x2, n_x3, n_x4, n_x60, n_x100, n_pm1, k9L_m2, k9L_m1, k9L_0, k9L_1, k9L_2, k9L_3, k9L_4, k9L_5, k9L_6, k9L_7, k9L_8, k9L_9, k9L_10, k9L_20, k9L_23, k9L_24, k9L_30, k9L_40, k9L_50, k9L_60, k9L_99, k9L_100, k9L_120, k9L_255, k9L_999, k9L_1000, k9_bs, k9_ba, c1, c2, n_s1, g6, g7, g8, g9, f80, f81])
    refine k9o_ret ⟨_, _, _, rfl, ?_⟩
    obtain ⟨I3, hI3⟩ : ∃ I3, I3 = k9_u (k9_u (k9_u (k9_u I2 8 0 0 (nI (ca + 1))) 8 0 1 (nI (cb - 1))) 1 0 12 0) 1 0 13 0 := ⟨_, rfl⟩
    rw [← hI3]
    have hfp3 : k9_fp (k9_Xs [1, 4, 8, 9]) I I3 := by
      rw [hI3]
      exact k9_fp_u (k9_fp_u (k9_fp_u (k9_fp_u (k9_fp_x f2 (k9_Fw_X rfl)) rfl) rfl) rfl) rfl
    have r3 : ∀ k p, (Nat.beq k 1 || Nat.beq k 8) = false → I3 k 0 p = I2 k 0 p := by
      intro k p e
      simp only [Bool.or_eq_false_iff] at e
      have e1 : ¬ k = 1 := fun z => by rw [z] at e; exact absurd e.1 (by decide)
      have e8 : ¬ k = 8 := fun z => by rw [z] at e; exact absurd e.2 (by decide)
      rw [hI3]
      simp only [k9_ur, e1, e8, false_and, ↓reduceIte]
    have c3' : I3 12 0 29 = nI ca := (r3 _ _ rfl).trans ((f2 12 0 29 rfl).trans c3)
    have c4' : I3 12 0 28 = nI (ca + cb) := (r3 _ _ rfl).trans ((f2 12 0 28 rfl).trans c4)
    have g57 : ∀ k, I3 57 0 k = I 57 0 k := fun k => (r3 _ _ rfl).trans (f2 57 0 k rfl)
    have hM3 : k9_Wm I3 w := k9_Wm_t hM ((r3 _ _ rfl).trans (f2 12 0 0 rfl)) (funext fun p => (r3 _ _ rfl).trans (f2 44 0 p rfl)) (funext fun p => (r3 _ _ rfl).trans (f2 40 0 p rfl)) (funext fun p => (r3 _ _ rfl).trans (f2 41 0 p rfl)) (funext fun p => (r3 _ _ rfl).trans (f2 42 0 p rfl)) (funext fun p => (r3 _ _ rfl).trans (f2 43 0 p rfl))
    have hW3 : k9_Wk I3 0 (p_up w q p y) := by
      rw [hI3]
      exact k9_Wk_u rfl (k9_Wk_u rfl (k9_Wk_u rfl (k9_Wk_u rfl a2)))
    have i80 : I3 8 0 0 = nI (ca + 1) := by rw [hI3]; simp [k9_ur]
    have i81 : I3 8 0 1 = nI (cb - 1) := by rw [hI3]; simp [k9_ur]
    have i112 : I3 1 0 12 = 0 := by rw [hI3]; simp [k9_ur]
    have i113 : I3 1 0 13 = 0 := by rw [hI3]; simp [k9_ur]
    obtain ⟨I4, e4, a4, f4⟩ := k9s_163 (S := S) (d := d + 9) (J := J) (v := y) hM3 hf g1
    have c3'' : I4 12 0 29 = nI ca := (f4 12 0 29 rfl).trans c3'
    have c4'' : I4 12 0 28 = nI (ca + cb) := (f4 12 0 28 rfl).trans c4'
    simp (disch := omega) only [k9e_167_0, k9e_167_5, k9e_167_7, k9e_167_15, k9e_167_24, k9e_167_33, k9e_167_34, Nat.reduceEqDiff, Int.reduceEq, Int.reduceLT, Int.reduceLE, k9_ps_s, k9_ps_n, k9_ur, false_and, and_false, true_and, and_true, true_or, or_true, false_or, or_false, eq_self, ↓reduceIte, not_true_eq_false, not_false_eq_true, n_toInt, n_cl, nI_1, nI_add, n_a0, n_p2, n_p3, n_p4, n_x2, n_x3, n_x4, n_x60, n_x100, n_pm1, k9L_m2, k9L_m1, k9L_0, k9L_1, k9L_2, k9L_3, k9L_4, k9L_5, k9L_6, k9L_7, k9L_8, k9L_9, k9L_10, k9L_20, k9L_23, k9L_24, k9L_30, k9L_40, k9L_50, k9L_60, k9L_99, k9L_100, k9L_120, k9L_255, k9L_999, k9L_1000, k9_bs, k9_ba, c3', c4', c3'', c4'', g57, g10, g11, g12, g13, n_sub]
    repeat (first | ((with_reducible refine k9q_T ?_ ?_); · omega) | ((with_reducible refine k9q_F ?_ ?_); · omega) | ((with_reducible refine k9q_Tb ?_ ?_); · omega) | ((with_reducible refine k9q_Fb ?_ ?_); · omega) | (refine k9o_call (e4) ?_; simp (disch := omega) only [k9e_167_0, k9e_167_5, k9e_167_7, k9e_167_15, k9e_167_24, k9e_167_33, k9e_167_34, Nat.reduceEqDiff, Int.reduceEq, Int.reduceLT, Int.reduceLE, k9_ps_s, k9_ps_n, k9_ur, false_and, and_false, true_and, and_true, true_or, or_true, false_or, or_false, eq_self, ↓reduceIte, not_true_eq_false, not_false_eq_true, n_toInt, n_cl, nI_1, nI_add, n_a0, n_p2, n_p3, n_p4, n_x2, n_x3, n_x4, n_x60, n_x100, n_pm1, k9L_m2, k9L_m1, k9L_0, k9L_1, k9L_2, k9L_3, k9L_4, k9L_5, k9L_6, k9L_7, k9L_8, k9L_9, k9L_10, k9L_20, k9L_23, k9L_24, k9L_30, k9L_40, k9L_50, k9L_60, k9L_99, k9L_100, k9L_120, k9L_255, k9L_999, k9L_1000, k9_bs, k9_ba, c3', c4', c3'', c4'', g57, g10, g11, g12, g13, n_sub]) | simp (disch := omega) only [k9e_167_0, k9e_167_5, k9e_167_7, k9e_167_15, k9e_167_24, k9e_167_33, k9e_167_34, Nat.reduceEqDiff, Int.reduceEq, Int.reduceLT, Int.reduceLE, k9_ps_s, k9_ps_n, k9_ur, false_and, and_false, true_and, and_true, true_or, or_true, false_or, or_false, eq_self, ↓reduceIte, not_true_eq_false, not_false_eq_true, n_toInt, n_cl, nI_1, nI_add, n_a0, n_p2, n_p3, n_p4, n_x2, n_x3, n_x4, n_x60, n_x100, n_pm1, k9L_m2, k9L_m1, k9L_0, k9L_1, k9L_2, k9L_3, k9L_4, k9L_5, k9L_6, k9L_7, k9L_8, k9L_9, k9L_10, k9L_20, k9L_23, k9L_24, k9L_30, k9L_40, k9L_50, k9L_60, k9L_99, k9L_100, k9L_120, k9L_255, k9L_999, k9L_1000, k9_bs, k9_ba, c3', c4', c3'', c4'', g57, g10, g11, g12, g13, n_sub])
    rw [show ca + cb - (ca + 1) = cb - 1 by omega]
    have hfp4 : k9_fp (k9_Xs [1, 4, 8, 9]) I (k9_u I4 12 0 29 (nI (ca + 1))) := k9_fp_u (k9_fp_tr hfp3 (k9_fp_x f4 (k9_F40_X rfl))) rfl
    have r4 : ∀ k p, (Nat.beq k 12 || k9_F40 k 0 0) = false → (k9_u I4 12 0 29 (nI (ca + 1))) k 0 p = I3 k 0 p := by
      intro k p e
      simp only [Bool.or_eq_false_iff] at e
      have e12 : ¬ k = 12 := fun z => by rw [z] at e; exact absurd e.1 (by decide)
      simp only [k9_ur, e12, false_and, ↓reduceIte]
      exact f4 k 0 p e.2
    refine k9o_ret ⟨_, _, rfl, p_up w q p y, V, b, k9_vW_up (I1 := I) v1 g1 g4 g5 ?_ ?_, k9_vT_c (k9_fp_c hfp4 rfl) v2, k9_vL_c (k9_fp_c hfp4 rfl) v3, ?_, k9_vB_c (k9_fp_c hfp4 rfl) v5, k9_vS_c (k9_fp_c hfp4 rfl) v6, k9_vD_c (k9_fp_c hfp4 rfl) v7, Or.inl ?_, Or.inl ?_⟩
    · exact k9_Wk_u rfl (k9_Wk_fx f4 (fun _ => ⟨rfl, rfl, rfl, rfl, rfl⟩) hW3)
    · exact k9_Wm_t a4 (by simp [k9_ur]) (by funext p; simp [k9_ur]) (by funext p; simp [k9_ur]) (by funext p; simp [k9_ur]) (by funext p; simp [k9_ur]) (by funext p; simp [k9_ur])
    · refine ⟨ca + 1, cb - 1, by omega, (r4 _ _ rfl).trans i80, (r4 _ _ rfl).trans i81, by simp [k9_ur], ?_, fun k hk => ?_⟩
      · rw [show ca + 1 + (cb - 1) = ca + cb by omega]
        simp [k9_ur, c4'']
      · obtain ⟨p', q', x', y', u1, u2, u3, u4, u5, u6, u7, u8, u9, u10, u11, u12, u13⟩ := c5 k (by omega)
        have tr : ∀ k' i', (Nat.beq k' 31 || Nat.beq k' 32 || Nat.beq k' 33 || Nat.beq k' 34 || Nat.beq k' 57) = true → (k9_u I4 12 0 29 (nI (ca + 1))) k' 0 i' = I k' 0 i' := by
          intro k' i' e
          simp only [Bool.or_eq_true] at e
          rcases e with (((e | e) | e) | e) | e
          all_goals
            have e := Nat.eq_of_beq_eq_true e
            subst e
            exact (r4 _ _ rfl).trans ((r3 _ _ rfl).trans (f2 _ _ _ rfl))
        refine ⟨p', q', x', y', ?_, u2, u3, u4, u5, (tr _ _ rfl).trans u6, (tr _ _ rfl).trans u7, (tr _ _ rfl).trans u8, (tr _ _ rfl).trans u9, (tr _ _ rfl).trans u10, (tr _ _ rfl).trans u11, (tr _ _ rfl).trans u12, (tr _ _ rfl).trans u13⟩
        unfold p_has
        rw [p_up_7 g1]
        exact u1
    · exact (r4 _ _ rfl).trans i112
    · exact (r4 _ _ rfl).trans i113
def k9_F8 (k _ _ : Nat) : Bool := Nat.beq k 8 || Nat.beq k 31 || Nat.beq k 32 || Nat.beq k 33 || Nat.beq k 34
/-- a change comes: k9s_67 -/
theorem k9s_67 {a p q x y : Nat} (ha : a ≤ 40) (h0 : I 8 0 0 = nI a) : ∃ I', k9_R S (d + 1) 67 0 [some (k9_r 8 0), some (k9_i (nI p)), some (k9_i (nI q)), some (k9_i (nI x)), some (k9_i (nI y))] [] I J = some (none, I', J) ∧ I' 8 0 0 = nI ((if a = 40 then 39 else a) + 1) ∧ I' 8 0 1 = 0 ∧
    (∀ k, k < (if a = 40 then 39 else a) → I' 31 0 k = I 31 0 (if a = 40 then k + 1 else k) ∧ I' 32 0 k = I 32 0 (if a = 40 then k + 1 else k) ∧ I' 33 0 k = I 33 0 (if a = 40 then k + 1 else k) ∧ I' 34 0 k = I 34 0 (if a = 40 then k + 1 else k)) ∧
    I' 31 0 (if a = 40 then 39 else a) = nI p ∧ I' 32 0 (if a = 40 then 39 else a) = nI q ∧ I' 33 0 (if a = 40 then 39 else a) = nI x ∧ I' 34 0 (if a = 40 then 39 else a) = nI y ∧ k9_fx k9_F8 I I' := by
  by_cases h : a = 40
  · simp only [h, ↓reduceIte]
    obtain ⟨I1, e1, g1, g2, g3⟩ := k9s_68 (S := S) (d := d) (I := I) (J := J)
    refine ⟨k9_u (k9_u (k9_u (k9_u (k9_u (k9_u I1 31 0 39 (nI p)) 32 0 39 (nI q)) 33 0 39 (nI x)) 34 0 39 (nI y)) 8 0 0 (nI (39 + 1))) 8 0 1 0, k9o_of ?_, by simp [k9_ur], by simp [k9_ur], fun k hk => ?_, by simp [k9_ur], by simp [k9_ur], by simp [k9_ur], by simp [k9_ur], ?_⟩
    · rw [h] at h0
      refine k9o_eq k9e_67_0 (k9o_F (by rw [h0]; decide) (k9o_eq k9e_67_4 (k9o_call e1 ?_)))
      simp only [k9_ps_n]
      refine k9o_eq k9e_67_6 ?_
      try simp (disch := omega) only [Nat.reduceEqDiff, Int.reduceEq, Int.reduceLT, Int.reduceLE, k9_ps_s, k9_ps_n, k9_ur, false_and, and_false, true_and, and_true, true_or, or_true, false_or, or_false, eq_self, ↓reduceIte, not_true_eq_false, not_false_eq_true, n_toInt, n_cl, nI_1, nI_add, n_a0, n_p2, n_p3, n_p4, n_x2, n_x3, n_x4, n_x60, n_x100, n_pm1, k9L_m2, k9L_m1, k9L_0, k9L_1, k9L_2, k9L_3, k9L_4, k9L_5, k9L_6, k9L_7, k9L_8, k9L_9, k9L_10, k9L_20, k9L_23, k9L_24, k9L_30, k9L_40, k9L_50, k9L_60, k9L_99, k9L_100, k9L_120, k9L_255, k9L_999, k9L_1000, k9_bs, k9_ba, g1]
      repeat (first | ((with_reducible refine k9q_T ?_ ?_); · omega) | ((with_reducible refine k9q_F ?_ ?_); · omega) | ((with_reducible refine k9q_Tb ?_ ?_); · omega) | ((with_reducible refine k9q_Fb ?_ ?_); · omega))
      refine k9o_eq k9e_67_9 ?_
      try simp (disch := omega) only [Nat.reduceEqDiff, Int.reduceEq, Int.reduceLT, Int.reduceLE, k9_ps_s, k9_ps_n, k9_ur, false_and, and_false, true_and, and_true, true_or, or_true, false_or, or_false, eq_self, ↓reduceIte, not_true_eq_false, not_false_eq_true, n_toInt, n_cl, nI_1, nI_add, n_a0, n_p2, n_p3, n_p4, n_x2, n_x3, n_x4, n_x60, n_x100, n_pm1, k9L_m2, k9L_m1, k9L_0, k9L_1, k9L_2, k9L_3, k9L_4, k9L_5, k9L_6, k9L_7, k9L_8, k9L_9, k9L_10, k9L_20, k9L_23, k9L_24, k9L_30, k9L_40, k9L_50, k9L_60, k9L_99, k9L_100, k9L_120, k9L_255, k9L_999, k9L_1000, k9_bs, k9_ba, g1]
      repeat (first | ((with_reducible refine k9q_T ?_ ?_); · omega) | ((with_reducible refine k9q_F ?_ ?_); · omega) | ((with_reducible refine k9q_Tb ?_ ?_); · omega) | ((with_reducible refine k9q_Fb ?_ ?_); · omega))
      refine k9o_eq k9e_67_13 ?_
      try simp (disch := omega) only [Nat.reduceEqDiff, Int.reduceEq, Int.reduceLT, Int.reduceLE, k9_ps_s, k9_ps_n, k9_ur, false_and, and_false, true_and, and_true, true_or, or_true, false_or, or_false, eq_self, ↓reduceIte, not_true_eq_false, not_false_eq_true, n_toInt, n_cl, nI_1, nI_add, n_a0, n_p2, n_p3, n_p4, n_x2, n_x3, n_x4, n_x60, n_x100, n_pm1, k9L_m2, k9L_m1, k9L_0, k9L_1, k9L_2, k9L_3, k9L_4, k9L_5, k9L_6, k9L_7, k9L_8, k9L_9, k9L_10, k9L_20, k9L_23, k9L_24, k9L_30, k9L_40, k9L_50, k9L_60, k9L_99, k9L_100, k9L_120, k9L_255, k9L_999, k9L_1000, k9_bs, k9_ba, g1]
      repeat (first | ((with_reducible refine k9q_T ?_ ?_); · omega) | ((with_reducible refine k9q_F ?_ ?_); · omega) | ((with_reducible refine k9q_Tb ?_ ?_); · omega) | ((with_reducible refine k9q_Fb ?_ ?_); · omega))
      refine k9o_eq k9e_67_19 ?_
      try simp (disch := omega) only [Nat.reduceEqDiff, Int.reduceEq, Int.reduceLT, Int.reduceLE, k9_ps_s, k9_ps_n, k9_ur, false_and, and_false, true_and, and_true, true_or, or_true, false_or, or_false, eq_self, ↓reduceIte, not_true_eq_false, not_false_eq_true, n_toInt, n_cl, nI_1, nI_add, n_a0, n_p2, n_p3, n_p4, n_x2, n_x3, n_x4, n_x60, n_x100, n_pm1, k9L_m2, k9L_m1, k9L_0, k9L_1, k9L_2, k9L_3, k9L_4, k9L_5, k9L_6, k9L_7, k9L_8, k9L_9, k9L_10, k9L_20, k9L_23, k9L_24, k9L_30, k9L_40, k9L_50, k9L_60, k9L_99, k9L_100, k9L_120, k9L_255, k9L_999, k9L_1000, k9_bs, k9_ba, g1]
      repeat (first | ((with_reducible refine k9q_T ?_ ?_); · omega) | ((with_reducible refine k9q_F ?_ ?_); · omega) | ((with_reducible refine k9q_Tb ?_ ?_); · omega) | ((with_reducible refine k9q_Fb ?_ ?_); · omega))
      refine k9o_eq k9e_67_25 ?_
      try simp (disch := omega) only [Nat.reduceEqDiff, Int.reduceEq, Int.reduceLT, Int.reduceLE, k9_ps_s, k9_ps_n, k9_ur, false_and, and_false, true_and, and_true, true_or, or_true, false_or, or_false, eq_self, ↓reduceIte, not_true_eq_false, not_false_eq_true, n_toInt, n_cl, nI_1, nI_add, n_a0, n_p2, n_p3, n_p4, n_x2, n_x3, n_x4, n_x60, n_x100, n_pm1, k9L_m2, k9L_m1, k9L_0, k9L_1, k9L_2, k9L_3, k9L_4, k9L_5, k9L_6, k9L_7, k9L_8, k9L_9, k9L_10, k9L_20, k9L_23, k9L_24, k9L_30, k9L_40, k9L_50, k9L_60, k9L_99, k9L_100, k9L_120, k9L_255, k9L_999, k9L_1000, k9_bs, k9_ba, g1]
      repeat (first | ((with_reducible refine k9q_T ?_ ?_); · omega) | ((with_reducible refine k9q_F ?_ ?_); · omega) | ((with_reducible refine k9q_Tb ?_ ?_); · omega) | ((with_reducible refine k9q_Fb ?_ ?_); · omega))
      refine k9o_eq k9e_67_31 ?_
      try simp (disch := omega) only [Nat.reduceEqDiff, Int.reduceEq, Int.reduceLT, Int.reduceLE, k9_ps_s, k9_ps_n, k9_ur, false_and, and_false, true_and, and_true, true_or, or_true, false_or, or_false, eq_self, ↓reduceIte, not_true_eq_false, not_false_eq_true, n_toInt, n_cl, nI_1, nI_add, n_a0, n_p2, n_p3, n_p4, n_x2, n_x3, n_x4, n_x60, n_x100, n_pm1, k9L_m2, k9L_m1, k9L_0, k9L_1, k9L_2, k9L_3, k9L_4, k9L_5, k9L_6, k9L_7, k9L_8, k9L_9, k9L_10, k9L_20, k9L_23, k9L_24, k9L_30, k9L_40, k9L_50, k9L_60, k9L_99, k9L_100, k9L_120, k9L_255, k9L_999, k9L_1000, k9_bs, k9_ba, g1]
      repeat (first | ((with_reducible refine k9q_T ?_ ?_); · omega) | ((with_reducible refine k9q_F ?_ ?_); · omega) | ((with_reducible refine k9q_Tb ?_ ?_); · omega) | ((with_reducible refine k9q_Fb ?_ ?_); · omega))
      refine k9o_eq k9e_67_37 ?_
      try simp (disch := omega) only [Nat.reduceEqDiff, Int.reduceEq, Int.reduceLT, Int.reduceLE, k9_ps_s, k9_ps_n, k9_ur, false_and, and_false, true_and, and_true, true_or, or_true, false_or, or_false, eq_self, ↓reduceIte, not_true_eq_false, not_false_eq_true, n_toInt, n_cl, nI_1, nI_add, n_a0, n_p2, n_p3, n_p4, n_x2, n_x3, n_x4, n_x60, n_x100, n_pm1, k9L_m2, k9L_m1, k9L_0, k9L_1, k9L_2, k9L_3, k9L_4, k9L_5, k9L_6, k9L_7, k9L_8, k9L_9, k9L_10, k9L_20, k9L_23, k9L_24, k9L_30, k9L_40, k9L_50, k9L_60, k9L_99, k9L_100, k9L_120, k9L_255, k9L_999, k9L_1000, k9_bs, k9_ba, g1]
      repeat (first | ((with_reducible refine k9q_T ?_ ?_); · omega) | ((with_reducible refine k9q_F ?_ ?_); · omega) | ((with_reducible refine k9q_Tb ?_ ?_); · omega) | ((with_reducible refine k9q_Fb ?_ ?_); · omega))
      refine k9o_eq k9e_67_43 ?_
      try simp (disch := omega) only [Nat.reduceEqDiff, Int.reduceEq, Int.reduceLT, Int.reduceLE, k9_ps_s, k9_ps_n, k9_ur, false_and, and_false, true_and, and_true, true_or, or_true, false_or, or_false, eq_self, ↓reduceIte, not_true_eq_false, not_false_eq_true, n_toInt, n_cl, nI_1, nI_add, n_a0, n_p2, n_p3, n_p4, n_x2, n_x3, n_x4, n_x60, n_x100, n_pm1, k9L_m2, k9L_m1, k9L_0, k9L_1, k9L_2, k9L_3, k9L_4, k9L_5, k9L_6, k9L_7, k9L_8, k9L_9, k9L_10, k9L_20, k9L_23, k9L_24, k9L_30, k9L_40, k9L_50, k9L_60, k9L_99, k9L_100, k9L_120, k9L_255, k9L_999, k9L_1000, k9_bs, k9_ba, g1]
      repeat (first | ((with_reducible refine k9q_T ?_ ?_); · omega) | ((with_reducible refine k9q_F ?_ ?_); · omega) | ((with_reducible refine k9q_Tb ?_ ?_); · omega) | ((with_reducible refine k9q_Fb ?_ ?_); · omega))
      exact k9o_ret rfl
    · obtain ⟨a, b, c, e⟩ := g2 k hk
      have z : ¬ k = 39 := by omega
      simp [k9_ur, z, a, b, c, e]
    · refine k9_fx_u (k9_fx_u (k9_fx_u (k9_fx_u (k9_fx_u (k9_fx_u (k9_fx_w g3 (fun k i p e => ?_)) rfl) rfl) rfl) rfl) rfl) rfl
      simp only [k9_F8, Bool.or_eq_false_iff] at e
      simp only [Bool.or_eq_false_iff]
      refine ⟨⟨⟨⟨e.1.1.1.2, e.1.1.2⟩, e.1.2⟩, e.2⟩, ?_⟩
      rw [e.1.1.1.1]
      rfl
  · simp only [h, ↓reduceIte]
    refine ⟨k9_u (k9_u (k9_u (k9_u (k9_u (k9_u I 31 0 a (nI p)) 32 0 a (nI q)) 33 0 a (nI x)) 34 0 a (nI y)) 8 0 0 (nI (a + 1))) 8 0 1 0, k9o_of ?_, by simp [k9_ur], by simp [k9_ur], fun k hk => ?_, by simp [k9_ur], by simp [k9_ur], by simp [k9_ur], by simp [k9_ur], ?_⟩
    · refine k9o_eq k9e_67_0 ?_
      try simp (disch := omega) only [Nat.reduceEqDiff, Int.reduceEq, Int.reduceLT, Int.reduceLE, k9_ps_s, k9_ps_n, k9_ur, false_and, and_false, true_and, and_true, true_or, or_true, false_or, or_false, eq_self, ↓reduceIte, not_true_eq_false, not_false_eq_true, n_toInt, n_cl, nI_1, nI_add, n_a0, n_p2, n_p3, n_p4, n_x2, n_x3, n_x4, n_x60, n_x100, n_pm1, k9L_m2, k9L_m1, k9L_0, k9L_1, k9L_2, k9L_3, k9L_4, k9L_5, k9L_6, k9L_7, k9L_8, k9L_9, k9L_10, k9L_20, k9L_23, k9L_24, k9L_30, k9L_40, k9L_50, k9L_60, k9L_99, k9L_100, k9L_120, k9L_255, k9L_999, k9L_1000, k9_bs, k9_ba, h0]
      repeat (first | ((with_reducible refine k9q_T ?_ ?_); · omega) | ((with_reducible refine k9q_F ?_ ?_); · omega) | ((with_reducible refine k9q_Tb ?_ ?_); · omega) | ((with_reducible refine k9q_Fb ?_ ?_); · omega))
      refine k9o_eq k9e_67_6 ?_
      try simp (disch := omega) only [Nat.reduceEqDiff, Int.reduceEq, Int.reduceLT, Int.reduceLE, k9_ps_s, k9_ps_n, k9_ur, false_and, and_false, true_and, and_true, true_or, or_true, false_or, or_false, eq_self, ↓reduceIte, not_true_eq_false, not_false_eq_true, n_toInt, n_cl, nI_1, nI_add, n_a0, n_p2, n_p3, n_p4, n_x2, n_x3, n_x4, n_x60, n_x100, n_pm1, k9L_m2, k9L_m1, k9L_0, k9L_1, k9L_2, k9L_3, k9L_4, k9L_5, k9L_6, k9L_7, k9L_8, k9L_9, k9L_10, k9L_20, k9L_23, k9L_24, k9L_30, k9L_40, k9L_50, k9L_60, k9L_99, k9L_100, k9L_120, k9L_255, k9L_999, k9L_1000, k9_bs, k9_ba, h0]
      repeat (first | ((with_reducible refine k9q_T ?_ ?_); · omega) | ((with_reducible refine k9q_F ?_ ?_); · omega) | ((with_reducible refine k9q_Tb ?_ ?_); · omega) | ((with_reducible refine k9q_Fb ?_ ?_); · omega))
      refine k9o_eq k9e_67_9 ?_
      try simp (disch := omega) only [Nat.reduceEqDiff, Int.reduceEq, Int.reduceLT, Int.reduceLE, k9_ps_s, k9_ps_n, k9_ur, false_and, and_false, true_and, and_true, true_or, or_true, false_or, or_false, eq_self, ↓reduceIte, not_true_eq_false, not_false_eq_true, n_toInt, n_cl, nI_1, nI_add, n_a0, n_p2, n_p3, n_p4, n_x2, n_x3, n_x4, n_x60, n_x100, n_pm1, k9L_m2, k9L_m1, k9L_0, k9L_1, k9L_2, k9L_3, k9L_4, k9L_5, k9L_6, k9L_7, k9L_8, k9L_9, k9L_10, k9L_20, k9L_23, k9L_24, k9L_30, k9L_40, k9L_50, k9L_60, k9L_99, k9L_100, k9L_120, k9L_255, k9L_999, k9L_1000, k9_bs, k9_ba, h0]
      repeat (first | ((with_reducible refine k9q_T ?_ ?_); · omega) | ((with_reducible refine k9q_F ?_ ?_); · omega) | ((with_reducible refine k9q_Tb ?_ ?_); · omega) | ((with_reducible refine k9q_Fb ?_ ?_); · omega))
      refine k9o_eq k9e_67_13 ?_
      try simp (disch := omega) only [Nat.reduceEqDiff, Int.reduceEq, Int.reduceLT, Int.reduceLE, k9_ps_s, k9_ps_n, k9_ur, false_and, and_false, true_and, and_true, true_or, or_true, false_or, or_false, eq_self, ↓reduceIte, not_true_eq_false, not_false_eq_true, n_toInt, n_cl, nI_1, nI_add, n_a0, n_p2, n_p3, n_p4, n_x2, n_x3, n_x4, n_x60, n_x100, n_pm1, k9L_m2, k9L_m1, k9L_0, k9L_1, k9L_2, k9L_3, k9L_4, k9L_5, k9L_6, k9L_7, k9L_8, k9L_9, k9L_10, k9L_20, k9L_23, k9L_24, k9L_30, k9L_40, k9L_50, k9L_60, k9L_99, k9L_100, k9L_120, k9L_255, k9L_999, k9L_1000, k9_bs, k9_ba, h0]
      repeat (first | ((with_reducible refine k9q_T ?_ ?_); · omega) | ((with_reducible refine k9q_F ?_ ?_); · omega) | ((with_reducible refine k9q_Tb ?_ ?_); · omega) | ((with_reducible refine k9q_Fb ?_ ?_); · omega))
      refine k9o_eq k9e_67_19 ?_
      try simp (disch := omega) only [Nat.reduceEqDiff, Int.reduceEq, Int.reduceLT, Int.reduceLE, k9_ps_s, k9_ps_n, k9_ur, false_and, and_false, true_and, and_true, true_or, or_true, false_or, or_false, eq_self, ↓reduceIte, not_true_eq_false, not_false_eq_true, n_toInt, n_cl, nI_1, nI_add, n_a0, n_p2, n_p3, n_p4, n_x2, n_x3, n_x4, n_x60, n_x100, n_pm1, k9L_m2, k9L_m1, k9L_0, k9L_1, k9L_2, k9L_3, k9L_4, k9L_5, k9L_6, k9L_7, k9L_8, k9L_9, k9L_10, k9L_20, k9L_23, k9L_24, k9L_30, k9L_40, k9L_50, k9L_60, k9L_99, k9L_100, k9L_120, k9L_255, k9L_999, k9L_1000, k9_bs, k9_ba, h0]
      repeat (first | ((with_reducible refine k9q_T ?_ ?_); · omega) | ((with_reducible refine k9q_F ?_ ?_); · omega) | ((with_reducible refine k9q_Tb ?_ ?_); · omega) | ((with_reducible refine k9q_Fb ?_ ?_); · omega))
      refine k9o_eq k9e_67_25 ?_
      try simp (disch := omega) only [Nat.reduceEqDiff, Int.reduceEq, Int.reduceLT, Int.reduceLE, k9_ps_s, k9_ps_n, k9_ur, false_and, and_false, true_and, and_true, true_or, or_true, false_or, or_false, eq_self, ↓reduceIte, not_true_eq_false, not_false_eq_true, n_toInt, n_cl, nI_1, nI_add, n_a0, n_p2, n_p3, n_p4, n_x2, n_x3, n_x4, n_x60, n_x100, n_pm1, k9L_m2, k9L_m1, k9L_0, k9L_1, k9L_2, k9L_3, k9L_4, k9L_5, k9L_6, k9L_7, k9L_8, k9L_9, k9L_10, k9L_20, k9L_23, k9L_24, k9L_30, k9L_40, k9L_50, k9L_60, k9L_99, k9L_100, k9L_120, k9L_255, k9L_999, k9L_1000, k9_bs, k9_ba, h0]
      repeat (first | ((with_reducible refine k9q_T ?_ ?_); · omega) | ((with_reducible refine k9q_F ?_ ?_); · omega) | ((with_reducible refine k9q_Tb ?_ ?_); · omega) | ((with_reducible refine k9q_Fb ?_ ?_); · omega))
      refine k9o_eq k9e_67_31 ?_
      try simp (disch := omega) only [Nat.reduceEqDiff, Int.reduceEq, Int.reduceLT, Int.reduceLE, k9_ps_s, k9_ps_n, k9_ur, false_and, and_false, true_and, and_true, true_or, or_true, false_or, or_false, eq_self, ↓reduceIte, not_true_eq_false, not_false_eq_true, n_toInt, n_cl, nI_1, nI_add, n_a0, n_p2, n_p3, n_p4, n_x2, n_x3, n_x4, n_x60, n_x100, n_pm1, k9L_m2, k9L_m1, k9L_0, k9L_1, k9L_2, k9L_3, k9L_4, k9L_5, k9L_6, k9L_7, k9L_8, k9L_9, k9L_10, k9L_20, k9L_23, k9L_24, k9L_30, k9L_40, k9L_50, k9L_60, k9L_99, k9L_100, k9L_120, k9L_255, k9L_999, k9L_1000, k9_bs, k9_ba, h0]
      repeat (first | ((with_reducible refine k9q_T ?_ ?_); · omega) | ((with_reducible refine k9q_F ?_ ?_); · omega) | ((with_reducible refine k9q_Tb ?_ ?_); · omega) | ((with_reducible refine k9q_Fb ?_ ?_); · omega))
      refine k9o_eq k9e_67_37 ?_
      try simp (disch := omega) only [Nat.reduceEqDiff, Int.reduceEq, Int.reduceLT, Int.reduceLE, k9_ps_s, k9_ps_n, k9_ur, false_and, and_false, true_and, and_true, true_or, or_true, false_or, or_false, eq_self, ↓reduceIte, not_true_eq_false, not_false_eq_true, n_toInt, n_cl, nI_1, nI_add, n_a0, n_p2, n_p3, n_p4, n_x2, n_x3, n_x4, n_x60, n_x100, n_pm1, k9L_m2, k9L_m1, k9L_0, k9L_1, k9L_2, k9L_3, k9L_4, k9L_5, k9L_6, k9L_7, k9L_8, k9L_9, k9L_10, k9L_20, k9L_23, k9L_24, k9L_30, k9L_40, k9L_50, k9L_60, k9L_99, k9L_100, k9L_120, k9L_255, k9L_999, k9L_1000, k9_bs, k9_ba, h0]
      repeat (first | ((with_reducible refine k9q_T ?_ ?_); · omega) | ((with_reducible refine k9q_F ?_ ?_); · omega) | ((with_reducible refine k9q_Tb ?_ ?_); · omega) | ((with_reducible refine k9q_Fb ?_ ?_); · omega))
      refine k9o_eq k9e_67_43 ?_
      try simp (disch := omega) only [Nat.reduceEqDiff, Int.reduceEq, Int.reduceLT, Int.reduceLE, k9_ps_s, k9_ps_n, k9_ur, false_and, and_false, true_and, and_true, true_or, or_true, false_or, or_false, eq_self, ↓reduceIte, not_true_eq_false, not_false_eq_true, n_toInt, n_cl, nI_1, nI_add, n_a0, n_p2, n_p3, n_p4, n_x2, n_x3, n_x4, n_x60, n_x100, n_pm1, k9L_m2, k9L_m1, k9L_0, k9L_1, k9L_2, k9L_3, k9L_4, k9L_5, k9L_6, k9L_7, k9L_8, k9L_9, k9L_10, k9L_20, k9L_23, k9L_24, k9L_30, k9L_40, k9L_50, k9L_60, k9L_99, k9L_100, k9L_120, k9L_255, k9L_999, k9L_1000, k9_bs, k9_ba, h0]
      repeat (first | ((with_reducible refine k9q_T ?_ ?_); · omega) | ((with_reducible refine k9q_F ?_ ?_); · omega) | ((with_reducible refine k9q_Tb ?_ ?_); · omega) | ((with_reducible refine k9q_Fb ?_ ?_); · omega))
      exact k9o_ret rfl
    · have z : ¬ k = a := by omega
      simp [k9_ur, z]
    · exact k9_fx_u (k9_fx_u (k9_fx_u (k9_fx_u (k9_fx_u (k9_fx_u (k9_fx_rf _ _) rfl) rfl) rfl) rfl) rfl) rfl
/-- the reference's own shift -/
theorem k9s_164s {L : k9_L} {Q : k9_A → Prop} {x1 x2 x3 x4 : Int32} (g : ∀ I', (∀ k, k < 156 → I' 57 0 k = I 57 0 (k + 4)) → k9_fx (fun k _ _ => Nat.beq k 57) I I' → k9_ok (k9_R S d 164 47 [some (k9_r 12 0), some (k9_i x1), some (k9_i x2), some (k9_i x3), some (k9_i x4), some (k9_i (nI 156))] [] I' J) Q) : k9_ok (k9_R S d 164 32 [some (k9_r 12 0), some (k9_i x1), some (k9_i x2), some (k9_i x3), some (k9_i x4), some (k9_i 0)] [] I J) Q := by
  have key : ∀ k i I1, i + k = 156 → (∀ j, I1 57 0 j = if j < i then I 57 0 (j + 4) else I 57 0 j) → k9_fx (fun k _ _ => Nat.beq k 57) I I1 → k9_ok (k9_R S d 164 32 [some (k9_r 12 0), some (k9_i x1), some (k9_i x2), some (k9_i x3), some (k9_i x4), some (k9_i (nI i))] [] I1 J) Q := by
    intro k
    induction k with
    | zero =>
      intro i I1 hi ho hx
      obtain rfl : i = 156 := by omega
      refine k9o_eq k9e_164_32 (k9o_T (by decide) ?_)
      exact g I1 (fun k hk => by rw [ho k, if_pos hk]) hx
    | succ k ih =>
      intro i I1 hi ho hx
      refine k9o_eq k9e_164_32 (k9o_F (by rw [n_toInt (by omega)]; omega) ?_)
      refine k9o_eq k9e_164_35 ?_
      rw [n_p4]
      refine k9o_T (by rw [n_toInt (by omega)]; omega) ?_
      rw [n_cl (by omega)]
      refine k9o_eq k9e_164_44 (k9o_T (by rw [n_toInt (by omega)]; omega) ?_)
      rw [n_cl (by omega)]
      refine k9o_eq k9e_164_45 ?_
      rw [nI_1]
      refine ih (i + 1) _ (by omega) (fun j => ?_) (k9_fx_u hx rfl)
      simp only [k9_ur, true_and]
      by_cases z : j = i
      · subst z
        rw [if_pos rfl, if_pos (by omega), ho, if_neg (by omega)]
      · rw [if_neg z, ho]
        by_cases y : j < i
        · rw [if_pos y, if_pos (by omega)]
        · rw [if_neg y, if_neg (by omega)]
  exact key 156 0 I (by omega) (fun j => by rw [if_neg (by omega)]) (k9_fx_rf _ _)
end KT4
