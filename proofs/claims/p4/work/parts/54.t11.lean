/-! SHOWING: what the bar and the reference roll -/
section KT11
variable {S : k9_S} {d : Nat} {I I' : k9_I} {J J' : k9_J} {w : Nat → Nat → Nat} {V : (Nat → Int32) → Int32} {b : Nat} {x1 x2 x3 : Int32}
def k9_Iv (I : k9_I) (J : k9_J) (w : Nat → Nat → Nat) (V : (Nat → Int32) → Int32) (b : Nat) : Prop := k9_vW I w ∧ k9_vT I ∧ k9_vL I V ∧ k9_vC I w ∧ k9_vB I b ∧ k9_vS I J b ∧ k9_vD I ∧ k9_vR I w V ∧ k9_vO I w V
theorem k9_Iv_e (h : k9_Iv I J w V b) : k9_Inv I J := ⟨w, V, b, h⟩
theorem k9_Iv_0 (h : k9_fp (k9_Xs []) I I') (v : k9_Iv I J w V b) : k9_Iv I' J w V b := by
  obtain ⟨v1, v2, v3, v4, v5, v6, v7, v8, v9⟩ := v
  exact ⟨k9_vW_c (k9_fp_c h rfl) v1, k9_vT_c (k9_fp_c h rfl) v2, k9_vL_c (k9_fp_c h rfl) v3, k9_vC_c (k9_fp_c h rfl) v4, k9_vB_c (k9_fp_c h rfl) v5, k9_vS_c (k9_fp_c h rfl) v6, k9_vD_c (k9_fp_c h rfl) v7, k9_vR_c (k9_fp_c h rfl) v8, k9_vO_c (k9_fp_c h rfl) v9⟩
theorem k9_Iv_8 (h : k9_fp (k9_Xs [8]) I I') (v : k9_Iv I J w V b) (v8' : k9_vR I' w V) : k9_Iv I' J w V b := by
  obtain ⟨v1, v2, v3, v4, v5, v6, v7, v8, v9⟩ := v
  exact ⟨k9_vW_c (k9_fp_c h rfl) v1, k9_vT_c (k9_fp_c h rfl) v2, k9_vL_c (k9_fp_c h rfl) v3, k9_vC_c (k9_fp_c h rfl) v4, k9_vB_c (k9_fp_c h rfl) v5, k9_vS_c (k9_fp_c h rfl) v6, k9_vD_c (k9_fp_c h rfl) v7, v8', k9_vO_c (k9_fp_c h rfl) v9⟩
theorem k9_beq_of {a b : Nat} (h : Nat.beq a b = true) : a = b := Nat.eq_of_beq_eq_true h
theorem k9_Fl_X {X : Nat → Bool} (hX : X 0 = true) : ∀ k i p, k9_Fl k i p = true → X (v_cl k i p) = true := by
  intro k i p e
  simp only [k9_Fl, Bool.or_eq_true, Bool.and_eq_true] at e
  rcases e with e | ⟨e, e'⟩
  · rw [k9_beq_of e]; exact hX
  · rw [k9_beq_of e, k9_beq_of e']; exact hX
theorem k9_Fb0_X {X : Nat → Bool} (hX : X 0 = true) (hX8 : X 8 = true) : ∀ k i p, k9_Fb 0 k i p = true → X (v_cl k i p) = true := by
  intro k i p e
  rcases Bool.or_eq_true_iff.mp e with e | e
  · obtain ⟨e, e0⟩ := Bool.and_eq_true_iff.mp e
    rw [k9_beq_of e0]
    simp only [Bool.or_eq_true, Bool.and_eq_true] at e
    rcases e with ((e | e) | e) | ⟨e, e'⟩
    · rw [k9_beq_of e]; exact hX
    · rw [k9_beq_of e]; exact hX8
    · rw [k9_beq_of e]; exact hX8
    · rw [k9_beq_of e]; exact hX8
  · exact k9_Fl_X hX k i p e
theorem k9_Fb1_X {X : Nat → Bool} (hX : X 0 = true) : ∀ k i p, k9_Fb 1 k i p = true → X (v_cl k i p) = true := by
  intro k i p e
  rcases Bool.or_eq_true_iff.mp e with e | e
  · obtain ⟨e, e0⟩ := Bool.and_eq_true_iff.mp e
    rw [k9_beq_of e0]
    simp only [Bool.or_eq_true, Bool.and_eq_true] at e
    rcases e with ((e | e) | e) | ⟨e, e'⟩
    · rw [k9_beq_of e]; exact hX
    · rw [k9_beq_of e]; exact hX
    · rw [k9_beq_of e]; exact hX
    · rw [k9_beq_of e]; exact hX
  · exact k9_Fl_X hX k i p e
theorem k9_Fr_X {X : Nat → Bool} (hX : X 0 = true) : ∀ k i p, k9_Fr k i p = true → X (v_cl k i p) = true := by
  intro k i p e
  simp only [k9_Fr, Bool.or_eq_true, Bool.and_eq_true] at e
  rcases e with (((((e | e) | e) | e) | e) | e) | ⟨e, e'⟩
  · rw [k9_beq_of e]; exact hX
  · rw [k9_beq_of e]; exact hX
  · rw [k9_beq_of e]; exact hX
  · rw [k9_beq_of e]; exact hX
  · rw [k9_beq_of e]; exact hX
  · rw [k9_beq_of e]; exact hX
  · rw [k9_beq_of e, k9_beq_of e']; exact hX
theorem k9_Fq_X {X : Nat → Bool} (hX : X 0 = true) : ∀ k i p, k9_Fq k i p = true → X (v_cl k i p) = true := by
  intro k i p e
  rcases Bool.or_eq_true_iff.mp e with e | e
  · exact k9_Fr_X hX k i p e
  · rw [k9_beq_of e]; exact hX
theorem k9_F44_X {X : Nat → Bool} (hX : X 0 = true) : ∀ k i p, k9_F44 k i p = true → X (v_cl k i p) = true := by
  intro k i p e
  simp only [k9_F44, Bool.or_eq_true, Bool.and_eq_true] at e
  obtain ⟨e, e'⟩ := e
  rw [k9_beq_of e]
  rcases e' with (((e | e) | e) | e) | e <;> (rw [k9_beq_of e]; exact hX)
theorem k9_Fk_X {X : Nat → Bool} {i0 : Nat} (hX : X 0 = true) : ∀ k i p, k9_Fk i0 k i p = true → X (v_cl k i p) = true := by
  intro k i p e
  obtain ⟨e, e'⟩ := Bool.and_eq_true_iff.mp e
  rw [k9_beq_of e]; exact hX
/-- the bar as it is, rolled -/
theorem k9s_148 (v : k9_Iv I J w V b) : ∃ I1, k9_R S (d + 6) 148 0 [some (k9_r 1 0)] [] I J = some (some (k9_r 2 0), I1, J) ∧ k9_Br I1 0 (p_len w) (p_tt w 0) (p_sh w (p_tt w) V) (p_co w) 0 1000 ∧ k9_Iv I1 J w V b := by
  have v' := v
  obtain ⟨v1, v2, v3, v4, v5, v6, v7, v8, v9⟩ := v
  rcases v8 with v8 | ⟨v8, hB⟩
  · obtain ⟨I1, e1, r1, x1⟩ := k9s_54 (S := S) (d := d + 1) (I := I) (J := J) (i0 := 0) (w := w) (V := V) (f := 0) (L := 1000) (x := 999) v1.1 v1.2.2.1 v3.1 k9L_999 (by omega) (by omega) (Or.inl rfl)
    refine ⟨k9_u I1 1 0 12 1, k9o_of ?_, ⟨?_, ?_, fun t h1 h2 => ?_⟩, ?_⟩
    · simp (disch := omega) only [k9e_148_0, k9e_148_3, k9e_148_10, k9e_148_13, Nat.reduceEqDiff, Int.reduceEq, Int.reduceLT, Int.reduceLE, k9_ps_s, k9_ps_n, k9_ur, false_and, and_false, true_and, and_true, true_or, or_true, false_or, or_false, eq_self, ↓reduceIte, not_true_eq_false, not_false_eq_true, n_toInt, n_cl, nI_1, nI_add, n_a0, n_p2, n_p3, n_p4, n_x2, n_x3, n_x4, n_x60, n_x100, n_pm1, k9L_m2, k9L_m1, k9L_0, k9L_1, k9L_2, k9L_3, k9L_4, k9L_5, k9L_6, k9L_7, k9L_8, k9L_9, k9L_10, k9L_20, k9L_23, k9L_24, k9L_30, k9L_40, k9L_50, k9L_60, k9L_99, k9L_100, k9L_120, k9L_255, k9L_999, k9L_1000, k9_bs, k9_ba, v8]
      repeat (first | ((with_reducible refine k9q_T ?_ ?_); · omega) | ((with_reducible refine k9q_F ?_ ?_); · omega) | ((with_reducible refine k9q_Tb ?_ ?_); · omega) | ((with_reducible refine k9q_Fb ?_ ?_); · omega) | (refine k9o_call (e1) ?_; simp (disch := omega) only [k9e_148_0, k9e_148_3, k9e_148_10, k9e_148_13, Nat.reduceEqDiff, Int.reduceEq, Int.reduceLT, Int.reduceLE, k9_ps_s, k9_ps_n, k9_ur, false_and, and_false, true_and, and_true, true_or, or_true, false_or, or_false, eq_self, ↓reduceIte, not_true_eq_false, not_false_eq_true, n_toInt, n_cl, nI_1, nI_add, n_a0, n_p2, n_p3, n_p4, n_x2, n_x3, n_x4, n_x60, n_x100, n_pm1, k9L_m2, k9L_m1, k9L_0, k9L_1, k9L_2, k9L_3, k9L_4, k9L_5, k9L_6, k9L_7, k9L_8, k9L_9, k9L_10, k9L_20, k9L_23, k9L_24, k9L_30, k9L_40, k9L_50, k9L_60, k9L_99, k9L_100, k9L_120, k9L_255, k9L_999, k9L_1000, k9_bs, k9_ba, v8]) | simp (disch := omega) only [k9e_148_0, k9e_148_3, k9e_148_10, k9e_148_13, Nat.reduceEqDiff, Int.reduceEq, Int.reduceLT, Int.reduceLE, k9_ps_s, k9_ps_n, k9_ur, false_and, and_false, true_and, and_true, true_or, or_true, false_or, or_false, eq_self, ↓reduceIte, not_true_eq_false, not_false_eq_true, n_toInt, n_cl, nI_1, nI_add, n_a0, n_p2, n_p3, n_p4, n_x2, n_x3, n_x4, n_x60, n_x100, n_pm1, k9L_m2, k9L_m1, k9L_0, k9L_1, k9L_2, k9L_3, k9L_4, k9L_5, k9L_6, k9L_7, k9L_8, k9L_9, k9L_10, k9L_20, k9L_23, k9L_24, k9L_30, k9L_40, k9L_50, k9L_60, k9L_99, k9L_100, k9L_120, k9L_255, k9L_999, k9L_1000, k9_bs, k9_ba, v8])
      exact k9o_ret rfl
    · simp only [k9_ur, Nat.reduceEqDiff, false_and, ↓reduceIte]; exact r1.1
    · simp only [k9_ur, Nat.reduceEqDiff, false_and, ↓reduceIte]; exact r1.2.1
    · simp only [k9_ur, Nat.reduceEqDiff, false_and, ↓reduceIte]; exact r1.2.2 t h1 h2
    · refine k9_Iv_8 (k9_fp_u (k9_fp_x x1 (k9_Fb0_X rfl rfl)) rfl) v' (Or.inr ⟨by simp [k9_ur], ?_, ?_, fun t h1 h2 => ?_⟩)
      · simp only [k9_ur, Nat.reduceEqDiff, false_and, ↓reduceIte]; exact r1.1
      · simp only [k9_ur, Nat.reduceEqDiff, false_and, ↓reduceIte]; exact r1.2.1
      · simp only [k9_ur, Nat.reduceEqDiff, false_and, ↓reduceIte]; exact r1.2.2 t h1 h2
  · refine ⟨I, k9o_of ?_, hB, v'⟩
    simp (disch := omega) only [k9e_148_0, k9e_148_3, k9e_148_10, k9e_148_13, Nat.reduceEqDiff, Int.reduceEq, Int.reduceLT, Int.reduceLE, k9_ps_s, k9_ps_n, k9_ur, false_and, and_false, true_and, and_true, true_or, or_true, false_or, or_false, eq_self, ↓reduceIte, not_true_eq_false, not_false_eq_true, n_toInt, n_cl, nI_1, nI_add, n_a0, n_p2, n_p3, n_p4, n_x2, n_x3, n_x4, n_x60, n_x100, n_pm1, k9L_m2, k9L_m1, k9L_0, k9L_1, k9L_2, k9L_3, k9L_4, k9L_5, k9L_6, k9L_7, k9L_8, k9L_9, k9L_10, k9L_20, k9L_23, k9L_24, k9L_30, k9L_40, k9L_50, k9L_60, k9L_99, k9L_100, k9L_120, k9L_255, k9L_999, k9L_1000, k9_bs, k9_ba, v8]
    repeat (first | ((with_reducible refine k9q_T ?_ ?_); · omega) | ((with_reducible refine k9q_F ?_ ?_); · omega) | ((with_reducible refine k9q_Tb ?_ ?_); · omega) | ((with_reducible refine k9q_Fb ?_ ?_); · omega) | simp (disch := omega) only [k9e_148_0, k9e_148_3, k9e_148_10, k9e_148_13, Nat.reduceEqDiff, Int.reduceEq, Int.reduceLT, Int.reduceLE, k9_ps_s, k9_ps_n, k9_ur, false_and, and_false, true_and, and_true, true_or, or_true, false_or, or_false, eq_self, ↓reduceIte, not_true_eq_false, not_false_eq_true, n_toInt, n_cl, nI_1, nI_add, n_a0, n_p2, n_p3, n_p4, n_x2, n_x3, n_x4, n_x60, n_x100, n_pm1, k9L_m2, k9L_m1, k9L_0, k9L_1, k9L_2, k9L_3, k9L_4, k9L_5, k9L_6, k9L_7, k9L_8, k9L_9, k9L_10, k9L_20, k9L_23, k9L_24, k9L_30, k9L_40, k9L_50, k9L_60, k9L_99, k9L_100, k9L_120, k9L_255, k9L_999, k9L_1000, k9_bs, k9_ba, v8])
    exact k9o_ret rfl
theorem k9_run (v : k9_Iv I J w V b) : ∃ I1, k9_R S (d + 5) 190 0 [some (k9_r 12 0)] [] I J = some (none, I1, J) ∧ k9_Mr I1 (p_len w) (p_sh w (p_tt w) V) (p_co w) ∧ k9_Iv I1 J w V b := by
  obtain ⟨I1, e1, m1, x1⟩ := k9s_190 (S := S) (d := d) (I := I) (J := J) (w := w) (V := V) v.1.2.1 v.1.2.2.1 v.2.2.1.2
  exact ⟨I1, e1, m1, k9_Iv_0 (k9_fp_x x1 (k9_Fq_X rfl)) v⟩
theorem k9_looks (v : k9_Iv I J w V b) (hR : k9_Mr I (p_len w) (p_sh w (p_tt w) V) (p_co w)) : ∃ I1, k9_R S d 191 0 [some (k9_r 12 0), none, none, none] [] I J = some (none, I1, J) ∧ k9_Lk I1 (p_len w) (p_sh w (p_tt w) V) (p_len w + 1) ∧ k9_Mr I1 (p_len w) (p_sh w (p_tt w) V) (p_co w) ∧ k9_Iv I1 J w V b := by
  obtain ⟨I1, e1, m1, x1⟩ := k9s_191 (S := S) (d := d) (I := I) (J := J) hR (p_len_b v.1.2.2.1) (fun t => p_sh_b t)
  exact ⟨I1, e1, m1, k9_Mr_fx x1 rfl (fun _ => ⟨rfl, rfl, rfl⟩) hR, k9_Iv_0 (k9_fp_x x1 (k9_F44_X rfl)) v⟩
theorem t_seconds (hI : k9_Inv I J) : k9_P S (d + 20) 106 194 [some (k9_r 1 0), some (k9_i x1)] [some (k9_r 12 0), some (k9_i x1)] I J k9_Inv := by
  have hI' := hI
  obtain ⟨w, V, b, v⟩ := hI
  have v : k9_Iv I J w V b := v
  have hf := v.1.2.2.1
  have hlen := p_len_b hf
  refine k9P_of ?_
  by_cases h1 : 0 ≤ x1.toInt ∧ x1.toInt ≤ 100
  · obtain ⟨c, rfl, hc, -⟩ := n_of (x := x1) (by omega)
    obtain ⟨I1, e1, b1, i1⟩ := k9s_148 (S := S) (d := d + 13) v
    have e59 := k9s_59 (S := S) (d := d + 19) (J := J) (x := c) b1 (by omega) (by omega) (by omega) (fun t => p_sh_b t)
    simp (disch := omega) only [k9e_106_0, k9e_106_2, k9e_106_5, k9e_106_7, k9e_106_9, k9e_106_11, Nat.reduceEqDiff, Int.reduceEq, Int.reduceLT, Int.reduceLE, k9_ps_s, k9_ps_n, k9_ur, false_and, and_false, true_and, and_true, true_or, or_true, false_or, or_false, eq_self, ↓reduceIte, not_true_eq_false, not_false_eq_true, n_toInt, n_cl, nI_1, nI_add, n_a0, n_p2, n_p3, n_p4, n_x2, n_x3, n_x4, n_x60, n_x100, n_pm1, k9L_m2, k9L_m1, k9L_0, k9L_1, k9L_2, k9L_3, k9L_4, k9L_5, k9L_6, k9L_7, k9L_8, k9L_9, k9L_10, k9L_20, k9L_23, k9L_24, k9L_30, k9L_40, k9L_50, k9L_60, k9L_99, k9L_100, k9L_120, k9L_255, k9L_999, k9L_1000, k9_bs, k9_ba]
    repeat (first | ((with_reducible refine k9q_T ?_ ?_); · omega) | ((with_reducible refine k9q_F ?_ ?_); · omega) | ((with_reducible refine k9q_Tb ?_ ?_); · omega) | ((with_reducible refine k9q_Fb ?_ ?_); · omega) | (refine k9o_call (e1) ?_; simp (disch := omega) only [k9e_106_0, k9e_106_2, k9e_106_5, k9e_106_7, k9e_106_9, k9e_106_11, Nat.reduceEqDiff, Int.reduceEq, Int.reduceLT, Int.reduceLE, k9_ps_s, k9_ps_n, k9_ur, false_and, and_false, true_and, and_true, true_or, or_true, false_or, or_false, eq_self, ↓reduceIte, not_true_eq_false, not_false_eq_true, n_toInt, n_cl, nI_1, nI_add, n_a0, n_p2, n_p3, n_p4, n_x2, n_x3, n_x4, n_x60, n_x100, n_pm1, k9L_m2, k9L_m1, k9L_0, k9L_1, k9L_2, k9L_3, k9L_4, k9L_5, k9L_6, k9L_7, k9L_8, k9L_9, k9L_10, k9L_20, k9L_23, k9L_24, k9L_30, k9L_40, k9L_50, k9L_60, k9L_99, k9L_100, k9L_120, k9L_255, k9L_999, k9L_1000, k9_bs, k9_ba]) | (refine k9o_call (e59) ?_; simp (disch := omega) only [k9e_106_0, k9e_106_2, k9e_106_5, k9e_106_7, k9e_106_9, k9e_106_11, Nat.reduceEqDiff, Int.reduceEq, Int.reduceLT, Int.reduceLE, k9_ps_s, k9_ps_n, k9_ur, false_and, and_false, true_and, and_true, true_or, or_true, false_or, or_false, eq_self, ↓reduceIte, not_true_eq_false, not_false_eq_true, n_toInt, n_cl, nI_1, nI_add, n_a0, n_p2, n_p3, n_p4, n_x2, n_x3, n_x4, n_x60, n_x100, n_pm1, k9L_m2, k9L_m1, k9L_0, k9L_1, k9L_2, k9L_3, k9L_4, k9L_5, k9L_6, k9L_7, k9L_8, k9L_9, k9L_10, k9L_20, k9L_23, k9L_24, k9L_30, k9L_40, k9L_50, k9L_60, k9L_99, k9L_100, k9L_120, k9L_255, k9L_999, k9L_1000, k9_bs, k9_ba]) | simp (disch := omega) only [k9e_106_0, k9e_106_2, k9e_106_5, k9e_106_7, k9e_106_9, k9e_106_11, Nat.reduceEqDiff, Int.reduceEq, Int.reduceLT, Int.reduceLE, k9_ps_s, k9_ps_n, k9_ur, false_and, and_false, true_and, and_true, true_or, or_true, false_or, or_false, eq_self, ↓reduceIte, not_true_eq_false, not_false_eq_true, n_toInt, n_cl, nI_1, nI_add, n_a0, n_p2, n_p3, n_p4, n_x2, n_x3, n_x4, n_x60, n_x100, n_pm1, k9L_m2, k9L_m1, k9L_0, k9L_1, k9L_2, k9L_3, k9L_4, k9L_5, k9L_6, k9L_7, k9L_8, k9L_9, k9L_10, k9L_20, k9L_23, k9L_24, k9L_30, k9L_40, k9L_50, k9L_60, k9L_99, k9L_100, k9L_120, k9L_255, k9L_999, k9L_1000, k9_bs, k9_ba])
    refine k9o_ret ⟨_, _, _, rfl, ?_⟩
    obtain ⟨I2, e2, m2, i2⟩ := k9_run (S := S) (d := d + 14) i1
    have e3 := k9s_193 (S := S) (d := d + 19) (J := J) (x := c) m2 hlen (by omega) (fun t => p_sh_b t)
    simp (disch := omega) only [k9e_194_0, k9e_194_4, k9e_194_5, k9e_194_7, k9e_194_9, k9e_194_12, Nat.reduceEqDiff, Int.reduceEq, Int.reduceLT, Int.reduceLE, k9_ps_s, k9_ps_n, k9_ur, false_and, and_false, true_and, and_true, true_or, or_true, false_or, or_false, eq_self, ↓reduceIte, not_true_eq_false, not_false_eq_true, n_toInt, n_cl, nI_1, nI_add, n_a0, n_p2, n_p3, n_p4, n_x2, n_x3, n_x4, n_x60, n_x100, n_pm1, k9L_m2, k9L_m1, k9L_0, k9L_1, k9L_2, k9L_3, k9L_4, k9L_5, k9L_6, k9L_7, k9L_8, k9L_9, k9L_10, k9L_20, k9L_23, k9L_24, k9L_30, k9L_40, k9L_50, k9L_60, k9L_99, k9L_100, k9L_120, k9L_255, k9L_999, k9L_1000, k9_bs, k9_ba]
    repeat (first | ((with_reducible refine k9q_T ?_ ?_); · omega) | ((with_reducible refine k9q_F ?_ ?_); · omega) | ((with_reducible refine k9q_Tb ?_ ?_); · omega) | ((with_reducible refine k9q_Fb ?_ ?_); · omega) | (refine k9o_call (k9s_153 (by first | omega | (simp (disch := omega) only [n_toInt, n_pm1, k9L_m2, k9L_m1, k9L_0, k9L_1, k9L_2, k9L_3, k9L_4, k9L_5, k9L_6, k9L_7, k9L_8, k9L_9, k9L_10, k9L_20, k9L_23, k9L_24, k9L_30, k9L_40, k9L_50, k9L_60, k9L_99, k9L_100, k9L_120, k9L_255, k9L_999, k9L_1000]; omega))) ?_; simp (disch := omega) only [k9e_194_0, k9e_194_4, k9e_194_5, k9e_194_7, k9e_194_9, k9e_194_12, Nat.reduceEqDiff, Int.reduceEq, Int.reduceLT, Int.reduceLE, k9_ps_s, k9_ps_n, k9_ur, false_and, and_false, true_and, and_true, true_or, or_true, false_or, or_false, eq_self, ↓reduceIte, not_true_eq_false, not_false_eq_true, n_toInt, n_cl, nI_1, nI_add, n_a0, n_p2, n_p3, n_p4, n_x2, n_x3, n_x4, n_x60, n_x100, n_pm1, k9L_m2, k9L_m1, k9L_0, k9L_1, k9L_2, k9L_3, k9L_4, k9L_5, k9L_6, k9L_7, k9L_8, k9L_9, k9L_10, k9L_20, k9L_23, k9L_24, k9L_30, k9L_40, k9L_50, k9L_60, k9L_99, k9L_100, k9L_120, k9L_255, k9L_999, k9L_1000, k9_bs, k9_ba]) | (refine k9o_call (k9s_153x (by first | omega | (simp (disch := omega) only [n_toInt, n_pm1, k9L_m2, k9L_m1, k9L_0, k9L_1, k9L_2, k9L_3, k9L_4, k9L_5, k9L_6, k9L_7, k9L_8, k9L_9, k9L_10, k9L_20, k9L_23, k9L_24, k9L_30, k9L_40, k9L_50, k9L_60, k9L_99, k9L_100, k9L_120, k9L_255, k9L_999, k9L_1000]; omega))) ?_; simp (disch := omega) only [k9e_194_0, k9e_194_4, k9e_194_5, k9e_194_7, k9e_194_9, k9e_194_12, Nat.reduceEqDiff, Int.reduceEq, Int.reduceLT, Int.reduceLE, k9_ps_s, k9_ps_n, k9_ur, false_and, and_false, true_and, and_true, true_or, or_true, false_or, or_false, eq_self, ↓reduceIte, not_true_eq_false, not_false_eq_true, n_toInt, n_cl, nI_1, nI_add, n_a0, n_p2, n_p3, n_p4, n_x2, n_x3, n_x4, n_x60, n_x100, n_pm1, k9L_m2, k9L_m1, k9L_0, k9L_1, k9L_2, k9L_3, k9L_4, k9L_5, k9L_6, k9L_7, k9L_8, k9L_9, k9L_10, k9L_20, k9L_23, k9L_24, k9L_30, k9L_40, k9L_50, k9L_60, k9L_99, k9L_100, k9L_120, k9L_255, k9L_999, k9L_1000, k9_bs, k9_ba]) | (refine k9o_call (e2) ?_; simp (disch := omega) only [k9e_194_0, k9e_194_4, k9e_194_5, k9e_194_7, k9e_194_9, k9e_194_12, Nat.reduceEqDiff, Int.reduceEq, Int.reduceLT, Int.reduceLE, k9_ps_s, k9_ps_n, k9_ur, false_and, and_false, true_and, and_true, true_or, or_true, false_or, or_false, eq_self, ↓reduceIte, not_true_eq_false, not_false_eq_true, n_toInt, n_cl, nI_1, nI_add, n_a0, n_p2, n_p3, n_p4, n_x2, n_x3, n_x4, n_x60, n_x100, n_pm1, k9L_m2, k9L_m1, k9L_0, k9L_1, k9L_2, k9L_3, k9L_4, k9L_5, k9L_6, k9L_7, k9L_8, k9L_9, k9L_10, k9L_20, k9L_23, k9L_24, k9L_30, k9L_40, k9L_50, k9L_60, k9L_99, k9L_100, k9L_120, k9L_255, k9L_999, k9L_1000, k9_bs, k9_ba]) | (refine k9o_call (e3) ?_; simp (disch := omega) only [k9e_194_0, k9e_194_4, k9e_194_5, k9e_194_7, k9e_194_9, k9e_194_12, Nat.reduceEqDiff, Int.reduceEq, Int.reduceLT, Int.reduceLE, k9_ps_s, k9_ps_n, k9_ur, false_and, and_false, true_and, and_true, true_or, or_true, false_or, or_false, eq_self, ↓reduceIte, not_true_eq_false, not_false_eq_true, n_toInt, n_cl, nI_1, nI_add, n_a0, n_p2, n_p3, n_p4, n_x2, n_x3, n_x4, n_x60, n_x100, n_pm1, k9L_m2, k9L_m1, k9L_0, k9L_1, k9L_2, k9L_3, k9L_4, k9L_5, k9L_6, k9L_7, k9L_8, k9L_9, k9L_10, k9L_20, k9L_23, k9L_24, k9L_30, k9L_40, k9L_50, k9L_60, k9L_99, k9L_100, k9L_120, k9L_255, k9L_999, k9L_1000, k9_bs, k9_ba]) | simp (disch := omega) only [k9e_194_0, k9e_194_4, k9e_194_5, k9e_194_7, k9e_194_9, k9e_194_12, Nat.reduceEqDiff, Int.reduceEq, Int.reduceLT, Int.reduceLE, k9_ps_s, k9_ps_n, k9_ur, false_and, and_false, true_and, and_true, true_or, or_true, false_or, or_false, eq_self, ↓reduceIte, not_true_eq_false, not_false_eq_true, n_toInt, n_cl, nI_1, nI_add, n_a0, n_p2, n_p3, n_p4, n_x2, n_x3, n_x4, n_x60, n_x100, n_pm1, k9L_m2, k9L_m1, k9L_0, k9L_1, k9L_2, k9L_3, k9L_4, k9L_5, k9L_6, k9L_7, k9L_8, k9L_9, k9L_10, k9L_20, k9L_23, k9L_24, k9L_30, k9L_40, k9L_50, k9L_60, k9L_99, k9L_100, k9L_120, k9L_255, k9L_999, k9L_1000, k9_bs, k9_ba])
    exact k9o_ret ⟨_, _, rfl, k9_Iv_e i2⟩
  · repeat' (first | ((with_reducible refine k9q_T ?_ ?_); · omega) | ((with_reducible refine k9q_F ?_ ?_); · omega) | ((with_reducible refine k9q_Tb ?_ ?_); · omega) | ((with_reducible refine k9q_Fb ?_ ?_); · omega) | simp (disch := omega) only [k9e_106_0, k9e_106_2, k9e_106_5, k9e_106_7, k9e_106_9, k9e_106_11, Nat.reduceEqDiff, Int.reduceEq, Int.reduceLT, Int.reduceLE, k9_ps_s, k9_ps_n, k9_ur, false_and, and_false, true_and, and_true, true_or, or_true, false_or, or_false, eq_self, ↓reduceIte, not_true_eq_false, not_false_eq_true, n_toInt, n_cl, nI_1, nI_add, n_a0, n_p2, n_p3, n_p4, n_x2, n_x3, n_x4, n_x60, n_x100, n_pm1, k9L_m2, k9L_m1, k9L_0, k9L_1, k9L_2, k9L_3, k9L_4, k9L_5, k9L_6, k9L_7, k9L_8, k9L_9, k9L_10, k9L_20, k9L_23, k9L_24, k9L_30, k9L_40, k9L_50, k9L_60, k9L_99, k9L_100, k9L_120, k9L_255, k9L_999, k9L_1000, k9_bs, k9_ba] | (with_reducible refine k9q_if (fun _ => ?_) (fun _ => ?_)) | (with_reducible refine k9q_ifb (fun _ => ?_) (fun _ => ?_)))
    all_goals refine k9o_ret ⟨_, _, _, rfl, ?_⟩
    all_goals repeat' (first | ((with_reducible refine k9q_T ?_ ?_); · omega) | ((with_reducible refine k9q_F ?_ ?_); · omega) | ((with_reducible refine k9q_Tb ?_ ?_); · omega) | ((with_reducible refine k9q_Fb ?_ ?_); · omega) | (refine k9o_call (k9s_153 (by first | omega | (simp (disch := omega) only [n_toInt, n_pm1, k9L_m2, k9L_m1, k9L_0, k9L_1, k9L_2, k9L_3, k9L_4, k9L_5, k9L_6, k9L_7, k9L_8, k9L_9, k9L_10, k9L_20, k9L_23, k9L_24, k9L_30, k9L_40, k9L_50, k9L_60, k9L_99, k9L_100, k9L_120, k9L_255, k9L_999, k9L_1000]; omega))) ?_; simp (disch := omega) only [k9e_194_0, k9e_194_4, k9e_194_5, k9e_194_7, k9e_194_9, k9e_194_12, Nat.reduceEqDiff, Int.reduceEq, Int.reduceLT, Int.reduceLE, k9_ps_s, k9_ps_n, k9_ur, false_and, and_false, true_and, and_true, true_or, or_true, false_or, or_false, eq_self, ↓reduceIte, not_true_eq_false, not_false_eq_true, n_toInt, n_cl, nI_1, nI_add, n_a0, n_p2, n_p3, n_p4, n_x2, n_x3, n_x4, n_x60, n_x100, n_pm1, k9L_m2, k9L_m1, k9L_0, k9L_1, k9L_2, k9L_3, k9L_4, k9L_5, k9L_6, k9L_7, k9L_8, k9L_9, k9L_10, k9L_20, k9L_23, k9L_24, k9L_30, k9L_40, k9L_50, k9L_60, k9L_99, k9L_100, k9L_120, k9L_255, k9L_999, k9L_1000, k9_bs, k9_ba]) | (refine k9o_call (k9s_153x (by first | omega | (simp (disch := omega) only [n_toInt, n_pm1, k9L_m2, k9L_m1, k9L_0, k9L_1, k9L_2, k9L_3, k9L_4, k9L_5, k9L_6, k9L_7, k9L_8, k9L_9, k9L_10, k9L_20, k9L_23, k9L_24, k9L_30, k9L_40, k9L_50, k9L_60, k9L_99, k9L_100, k9L_120, k9L_255, k9L_999, k9L_1000]; omega))) ?_; simp (disch := omega) only [k9e_194_0, k9e_194_4, k9e_194_5, k9e_194_7, k9e_194_9, k9e_194_12, Nat.reduceEqDiff, Int.reduceEq, Int.reduceLT, Int.reduceLE, k9_ps_s, k9_ps_n, k9_ur, false_and, and_false, true_and, and_true, true_or, or_true, false_or, or_false, eq_self, ↓reduceIte, not_true_eq_false, not_false_eq_true, n_toInt, n_cl, nI_1, nI_add, n_a0, n_p2, n_p3, n_p4, n_x2, n_x3, n_x4, n_x60, n_x100, n_pm1, k9L_m2, k9L_m1, k9L_0, k9L_1, k9L_2, k9L_3, k9L_4, k9L_5, k9L_6, k9L_7, k9L_8, k9L_9, k9L_10, k9L_20, k9L_23, k9L_24, k9L_30, k9L_40, k9L_50, k9L_60, k9L_99, k9L_100, k9L_120, k9L_255, k9L_999, k9L_1000, k9_bs, k9_ba]) | simp (disch := omega) only [k9e_194_0, k9e_194_4, k9e_194_5, k9e_194_7, k9e_194_9, k9e_194_12, Nat.reduceEqDiff, Int.reduceEq, Int.reduceLT, Int.reduceLE, k9_ps_s, k9_ps_n, k9_ur, false_and, and_false, true_and, and_true, true_or, or_true, false_or, or_false, eq_self, ↓reduceIte, not_true_eq_false, not_false_eq_true, n_toInt, n_cl, nI_1, nI_add, n_a0, n_p2, n_p3, n_p4, n_x2, n_x3, n_x4, n_x60, n_x100, n_pm1, k9L_m2, k9L_m1, k9L_0, k9L_1, k9L_2, k9L_3, k9L_4, k9L_5, k9L_6, k9L_7, k9L_8, k9L_9, k9L_10, k9L_20, k9L_23, k9L_24, k9L_30, k9L_40, k9L_50, k9L_60, k9L_99, k9L_100, k9L_120, k9L_255, k9L_999, k9L_1000, k9_bs, k9_ba] | (with_reducible refine k9q_if (fun _ => ?_) (fun _ => ?_)) | (with_reducible refine k9q_ifb (fun _ => ?_) (fun _ => ?_)))
    all_goals exact k9o_ret ⟨_, _, rfl, hI'⟩
end KT11
