/-! THE REFERENCE: seconds that remain, dead; what has come -/
section KU4
variable {S : k9_S} {d : Nat} {I I' : k9_I} {J J' : k9_J} {w w0 : Nat → Nat → Nat} {V : (Nat → Int32) → Int32} {h c : Nat → Nat} {L A : Nat}
theorem p_cs_mono (w : Nat → Nat → Nat) {t t' : Nat} (ht : t ≤ t') : ∀ i, p_cs w t i ≤ p_cs w t' i
  | 0 => Nat.le_refl _
  | i + 1 => by
    have h1 := p_cs_mono w ht i
    rw [p_cs, p_cs]
    have hm : min (w 0 i) (w 1 i * (t - p_st w i - w 2 i)) ≤ w 0 i := Nat.min_le_left _ _
    have hn : w 1 i * (t - p_st w i - w 2 i) ≤ w 1 i * (t' - p_st w i - w 2 i) := Nat.mul_le_mul_left _ (by omega)
    by_cases a : p_st w (i + 1) ≤ t
    · rw [if_pos a, if_pos (by omega)]
      omega
    · rw [if_neg a]
      by_cases b : p_st w (i + 1) ≤ t'
      · rw [if_pos b]
        omega
      · rw [if_neg b]
        omega
theorem p_co_mono (w : Nat → Nat → Nat) {t t' : Nat} (ht : t ≤ t') : p_co w t ≤ p_co w t' := by
  rw [← (p_cs_n w t).1, ← (p_cs_n w t').1]
  exact p_cs_mono w ht _
theorem p_dn_len (w : Nat → Nat → Nat) : p_dn w (p_len w) = w 7 0 := (p_dn_un (Nat.le_refl _) (Nat.le_refl _) (fun h => absurd h (Nat.lt_irrefl _))).symm
theorem p_co_len (w : Nat → Nat → Nat) : p_co w (p_len w) = p_tt w 0 := by
  rw [p_co, p_dn_len, p_pt, if_neg (Nat.lt_irrefl _)]
  rfl
theorem p_co_0 (hf : k9_wf w) : p_co w 0 = 0 := by
  have h1 := p_dn_sp w 0
  have h2 : p_dn w 0 = 0 := by
    apply Nat.eq_zero_of_not_pos
    intro z
    have h3 := p_st_mono (w := w) (show 1 ≤ p_dn w 0 from z)
    have h4 := (p_tk_le hf (p := 0) (by omega)).1
    have h5 : p_st w 1 = p_tk w 0 := by simp [p_st]
    omega
  rw [p_co, h2, p_pt]
  split
  · simp [p_sm, p_st]
  · simp [p_sm]
/-- what holds of what has come -/
def k9_Cm (c : Nat → Nat) (L A : Nat) : Prop := c 0 = 0 ∧ c L = A ∧ A ≤ 700 ∧ (∀ t, c t ≤ A) ∧ ∀ a b, a ≤ b → c a ≤ c b
theorem k9_Cm_w (hf : k9_wf w) : k9_Cm (p_co w) (p_len w) (p_tt w 0) :=
  ⟨p_co_0 hf, p_co_len w, by have := (p_tt_b hf).1; omega, p_co_le w, fun a b h => p_co_mono w h⟩
theorem k9s_197 {t v : Nat} (hR : k9_Mr I L h c) (hL : L ≤ 954) (ht : t < 1000) (hC : k9_Cm c L A) (hv : v ≤ 60) : k9_R S d 197 0 [some (k9_r 12 0), some (k9_i (nI t)), some (k9_i (nI v)), none, none, none] [] I J = some (some (k9_i (p_rm c A t v)), I, J) := by
  obtain ⟨c0, cL, cA, c1, c2⟩ := hC
  have cc : ∀ t, c t ≤ 700 := fun t => Nat.le_trans (c1 t) cA
  obtain ⟨b1, b2, b3⟩ := p_rq_b (w := v) (show t ≤ 1000 by omega) cA cc
  have m := c2 (t - p_sp2 t v) t (by omega)
  have ct := cc t
  have ctA := c1 t
  have r1 := (hR.2 t (by omega)).1
  have r2 := (hR.2 (t - p_sp2 t v) (by omega)).1
  have r3 := (hR.2 L (by omega)).1
  rw [cL] at r3
  -- behind what came
  have fin : k9_ok (k9_R S d 197 33 [some (k9_r 12 0), some (k9_i (nI t)), some (k9_i (nI v)), some (k9_i (nI (p_sp2 t v))), none, none] [k9_i (nI (c t - c (t - p_sp2 t v)))] I J) (fun q => q = (some (k9_i (p_rm c A t v)), I, J)) := by
    unfold p_rm
    by_cases h0 : c t - c (t - p_sp2 t v) = 0
    · rw [if_pos h0]
      simp (disch := omega) only [k9e_197_33, k9e_197_36, k9e_197_38, k9e_197_43, k9e_197_47, k9e_197_58, Nat.reduceEqDiff, Int.reduceEq, Int.reduceLT, Int.reduceLE, k9_ps_s, k9_ps_n, k9_ur, false_and, and_false, true_and, and_true, true_or, or_true, false_or, or_false, eq_self, ↓reduceIte, not_true_eq_false, not_false_eq_true, n_toInt, n_cl, nI_1, nI_add, n_a0, n_p2, n_p3, n_p4, n_x2, n_x3, n_x4, n_x60, n_x100, n_pm1, k9L_m2, k9L_m1, k9L_0, k9L_1, k9L_2, k9L_3, k9L_4, k9L_5, k9L_6, k9L_7, k9L_8, k9L_9, k9L_10, k9L_20, k9L_23, k9L_24, k9L_30, k9L_40, k9L_50, k9L_60, k9L_99, k9L_100, k9L_120, k9L_255, k9L_999, k9L_1000, k9_bs, k9_ba]
      repeat (first | ((with_reducible refine k9q_T ?_ ?_); · omega) | ((with_reducible refine k9q_F ?_ ?_); · omega) | ((with_reducible refine k9q_Tb ?_ ?_); · omega) | ((with_reducible refine k9q_Fb ?_ ?_); · omega) | simp (disch := omega) only [k9e_197_33, k9e_197_36, k9e_197_38, k9e_197_43, k9e_197_47, k9e_197_58, Nat.reduceEqDiff, Int.reduceEq, Int.reduceLT, Int.reduceLE, k9_ps_s, k9_ps_n, k9_ur, false_and, and_false, true_and, and_true, true_or, or_true, false_or, or_false, eq_self, ↓reduceIte, not_true_eq_false, not_false_eq_true, n_toInt, n_cl, nI_1, nI_add, n_a0, n_p2, n_p3, n_p4, n_x2, n_x3, n_x4, n_x60, n_x100, n_pm1, k9L_m2, k9L_m1, k9L_0, k9L_1, k9L_2, k9L_3, k9L_4, k9L_5, k9L_6, k9L_7, k9L_8, k9L_9, k9L_10, k9L_20, k9L_23, k9L_24, k9L_30, k9L_40, k9L_50, k9L_60, k9L_99, k9L_100, k9L_120, k9L_255, k9L_999, k9L_1000, k9_bs, k9_ba])
      exact k9o_ret rfl
    · rw [if_neg h0]
      simp (disch := omega) only [k9e_197_33, k9e_197_36, k9e_197_38, k9e_197_43, k9e_197_47, k9e_197_58, Nat.reduceEqDiff, Int.reduceEq, Int.reduceLT, Int.reduceLE, k9_ps_s, k9_ps_n, k9_ur, false_and, and_false, true_and, and_true, true_or, or_true, false_or, or_false, eq_self, ↓reduceIte, not_true_eq_false, not_false_eq_true, n_toInt, n_cl, nI_1, nI_add, n_a0, n_p2, n_p3, n_p4, n_x2, n_x3, n_x4, n_x60, n_x100, n_pm1, k9L_m2, k9L_m1, k9L_0, k9L_1, k9L_2, k9L_3, k9L_4, k9L_5, k9L_6, k9L_7, k9L_8, k9L_9, k9L_10, k9L_20, k9L_23, k9L_24, k9L_30, k9L_40, k9L_50, k9L_60, k9L_99, k9L_100, k9L_120, k9L_255, k9L_999, k9L_1000, k9_bs, k9_ba, n_sub, hR.1, r1, r3]
      repeat (first | ((with_reducible refine k9q_T ?_ ?_); · omega) | ((with_reducible refine k9q_F ?_ ?_); · omega) | ((with_reducible refine k9q_Tb ?_ ?_); · omega) | ((with_reducible refine k9q_Fb ?_ ?_); · omega) | simp (disch := omega) only [k9e_197_33, k9e_197_36, k9e_197_38, k9e_197_43, k9e_197_47, k9e_197_58, Nat.reduceEqDiff, Int.reduceEq, Int.reduceLT, Int.reduceLE, k9_ps_s, k9_ps_n, k9_ur, false_and, and_false, true_and, and_true, true_or, or_true, false_or, or_false, eq_self, ↓reduceIte, not_true_eq_false, not_false_eq_true, n_toInt, n_cl, nI_1, nI_add, n_a0, n_p2, n_p3, n_p4, n_x2, n_x3, n_x4, n_x60, n_x100, n_pm1, k9L_m2, k9L_m1, k9L_0, k9L_1, k9L_2, k9L_3, k9L_4, k9L_5, k9L_6, k9L_7, k9L_8, k9L_9, k9L_10, k9L_20, k9L_23, k9L_24, k9L_30, k9L_40, k9L_50, k9L_60, k9L_99, k9L_100, k9L_120, k9L_255, k9L_999, k9L_1000, k9_bs, k9_ba, n_sub, hR.1, r1, r3])
      rw [n_mul, nI_add, n_s1 (by omega), n_div (by omega) (by omega) (by omega)]
      exact k9o_ret rfl
  refine k9o_of (k9o_eq k9e_197_0 (k9o_T (by rw [n_toInt (by omega)]; omega) (k9o_eq k9e_197_7 ?_)))
  by_cases hw0 : v = 0
  · refine k9o_T (by rw [n_toInt (by omega)]; omega) (k9o_eq k9e_197_9 (k9o_eq k9e_197_14 ?_))
    refine k9o_T (by rw [n_toInt (by omega)]; omega) (k9o_eq k9e_197_17 ?_)
    refine k9o_T (by rw [n_toInt (by omega)]; omega) (k9o_eq k9e_197_21 ?_)
    have e : p_sp2 t v = t := by rw [p_sp2, if_pos hw0]
    rw [e, Nat.sub_self, c0, Nat.sub_zero] at fin
    rw [n_cl (by omega), r1]
    exact fin
  · refine k9o_F (by rw [n_toInt (by omega)]; omega) (k9o_eq k9e_197_11 ?_)
    rw [n_min (a := v) (b := t) (by omega) (by omega)]
    have e : p_sp2 t v = min v t := by rw [p_sp2, if_neg hw0, Nat.min_comm]
    rw [← e]
    refine k9o_eq k9e_197_14 (k9o_F (by rw [n_toInt (by omega)]; omega) (k9o_eq k9e_197_22 ?_))
    refine k9o_T (by rw [n_toInt (by omega)]; omega) (k9o_eq k9e_197_26 ?_)
    rw [n_sub (by omega)]
    refine k9o_T (by rw [n_toInt (by omega)]; omega) (k9o_eq k9e_197_32 ?_)
    rw [n_cl (by omega), n_cl (by omega), r1, r2, n_sub (by omega)]
    exact fin
theorem k9s_199 {v : Nat} (hR : k9_Mr I L h c) (hL : L ≤ 954) (hC : k9_Cm c L A) (hv : v ≤ 60) : k9_R S (d + 1) 199 0 [some (k9_r 12 0), some (k9_i (nI v)), none, none, none] [] I J = some (some (k9_i (nI (p_gs c A L v L))), I, J) := by
  have key : ∀ k t, t + k = L → k9_R S (d + 1) 199 4 [some (k9_r 12 0), some (k9_i (nI v)), some (k9_i (nI (p_gs c A L v t))), some (k9_i (nI (t + 1))), none] [] I J = some (some (k9_i (nI (p_gs c A L v L))), I, J) := by
    intro k
    induction k with
    | zero =>
      intro t ht
      obtain rfl : t = L := by omega
      refine k9o_of (k9o_eq k9e_199_4 ?_)
      simp (disch := omega) only [k9e_199_0, k9e_199_8, k9e_199_12, k9e_199_17, k9e_199_19, k9e_199_28, k9e_199_32, Nat.reduceEqDiff, Int.reduceEq, Int.reduceLT, Int.reduceLE, k9_ps_s, k9_ps_n, k9_ur, false_and, and_false, true_and, and_true, true_or, or_true, false_or, or_false, eq_self, ↓reduceIte, not_true_eq_false, not_false_eq_true, n_toInt, n_cl, nI_1, nI_add, n_a0, n_p2, n_p3, n_p4, n_x2, n_x3, n_x4, n_x60, n_x100, n_pm1, k9L_m2, k9L_m1, k9L_0, k9L_1, k9L_2, k9L_3, k9L_4, k9L_5, k9L_6, k9L_7, k9L_8, k9L_9, k9L_10, k9L_20, k9L_23, k9L_24, k9L_30, k9L_40, k9L_50, k9L_60, k9L_99, k9L_100, k9L_120, k9L_255, k9L_999, k9L_1000, k9_bs, k9_ba, hR.1]
      repeat (first | ((with_reducible refine k9q_T ?_ ?_); · omega) | ((with_reducible refine k9q_F ?_ ?_); · omega) | ((with_reducible refine k9q_Tb ?_ ?_); · omega) | ((with_reducible refine k9q_Fb ?_ ?_); · omega) | simp (disch := omega) only [k9e_199_0, k9e_199_8, k9e_199_12, k9e_199_17, k9e_199_19, k9e_199_28, k9e_199_32, Nat.reduceEqDiff, Int.reduceEq, Int.reduceLT, Int.reduceLE, k9_ps_s, k9_ps_n, k9_ur, false_and, and_false, true_and, and_true, true_or, or_true, false_or, or_false, eq_self, ↓reduceIte, not_true_eq_false, not_false_eq_true, n_toInt, n_cl, nI_1, nI_add, n_a0, n_p2, n_p3, n_p4, n_x2, n_x3, n_x4, n_x60, n_x100, n_pm1, k9L_m2, k9L_m1, k9L_0, k9L_1, k9L_2, k9L_3, k9L_4, k9L_5, k9L_6, k9L_7, k9L_8, k9L_9, k9L_10, k9L_20, k9L_23, k9L_24, k9L_30, k9L_40, k9L_50, k9L_60, k9L_99, k9L_100, k9L_120, k9L_255, k9L_999, k9L_1000, k9_bs, k9_ba, hR.1])
      exact k9o_ret rfl
    | succ k ih =>
      intro t ht
      have e := ih (t + 1) (by omega)
      have hb := p_gs_b c A L v t
      obtain ⟨b1, b2, b3⟩ := p_rq_b (w := v) (show t + 1 ≤ 1000 by omega) hC.2.2.1 (fun t => Nat.le_trans (hC.2.2.2.1 t) hC.2.2.1)
      have h62 := k9s_197 (S := S) (d := d) (J := J) (t := t + 1) (v := v) hR hL (by omega) hC hv
      rw [p_gs, p_g1] at e
      rw [p_rm] at h62
      refine k9o_of (k9o_eq k9e_199_4 ?_)
      by_cases h0 : c (t + 1) - c (t + 1 - p_sp2 (t + 1) v) = 0
      · rw [if_pos h0] at e h62
        simp (disch := omega) only [k9e_199_0, k9e_199_8, k9e_199_12, k9e_199_17, k9e_199_19, k9e_199_28, k9e_199_32, Nat.reduceEqDiff, Int.reduceEq, Int.reduceLT, Int.reduceLE, k9_ps_s, k9_ps_n, k9_ur, false_and, and_false, true_and, and_true, true_or, or_true, false_or, or_false, eq_self, ↓reduceIte, not_true_eq_false, not_false_eq_true, n_toInt, n_cl, nI_1, nI_add, n_a0, n_p2, n_p3, n_p4, n_x2, n_x3, n_x4, n_x60, n_x100, n_pm1, k9L_m2, k9L_m1, k9L_0, k9L_1, k9L_2, k9L_3, k9L_4, k9L_5, k9L_6, k9L_7, k9L_8, k9L_9, k9L_10, k9L_20, k9L_23, k9L_24, k9L_30, k9L_40, k9L_50, k9L_60, k9L_99, k9L_100, k9L_120, k9L_255, k9L_999, k9L_1000, k9_bs, k9_ba, hR.1, k9L_m2]
        repeat (first | ((with_reducible refine k9q_T ?_ ?_); · omega) | ((with_reducible refine k9q_F ?_ ?_); · omega) | ((with_reducible refine k9q_Tb ?_ ?_); · omega) | ((with_reducible refine k9q_Fb ?_ ?_); · omega) | (refine k9o_call (h62) ?_; simp (disch := omega) only [k9e_199_0, k9e_199_8, k9e_199_12, k9e_199_17, k9e_199_19, k9e_199_28, k9e_199_32, Nat.reduceEqDiff, Int.reduceEq, Int.reduceLT, Int.reduceLE, k9_ps_s, k9_ps_n, k9_ur, false_and, and_false, true_and, and_true, true_or, or_true, false_or, or_false, eq_self, ↓reduceIte, not_true_eq_false, not_false_eq_true, n_toInt, n_cl, nI_1, nI_add, n_a0, n_p2, n_p3, n_p4, n_x2, n_x3, n_x4, n_x60, n_x100, n_pm1, k9L_m2, k9L_m1, k9L_0, k9L_1, k9L_2, k9L_3, k9L_4, k9L_5, k9L_6, k9L_7, k9L_8, k9L_9, k9L_10, k9L_20, k9L_23, k9L_24, k9L_30, k9L_40, k9L_50, k9L_60, k9L_99, k9L_100, k9L_120, k9L_255, k9L_999, k9L_1000, k9_bs, k9_ba, hR.1, k9L_m2]) | simp (disch := omega) only [k9e_199_0, k9e_199_8, k9e_199_12, k9e_199_17, k9e_199_19, k9e_199_28, k9e_199_32, Nat.reduceEqDiff, Int.reduceEq, Int.reduceLT, Int.reduceLE, k9_ps_s, k9_ps_n, k9_ur, false_and, and_false, true_and, and_true, true_or, or_true, false_or, or_false, eq_self, ↓reduceIte, not_true_eq_false, not_false_eq_true, n_toInt, n_cl, nI_1, nI_add, n_a0, n_p2, n_p3, n_p4, n_x2, n_x3, n_x4, n_x60, n_x100, n_pm1, k9L_m2, k9L_m1, k9L_0, k9L_1, k9L_2, k9L_3, k9L_4, k9L_5, k9L_6, k9L_7, k9L_8, k9L_9, k9L_10, k9L_20, k9L_23, k9L_24, k9L_30, k9L_40, k9L_50, k9L_60, k9L_99, k9L_100, k9L_120, k9L_255, k9L_999, k9L_1000, k9_bs, k9_ba, hR.1, k9L_m2])
        rw [show (999 : Int32) = nI 999 from rfl, nI_add]
        exact k9o_to e rfl
      · rw [if_neg h0] at e h62
        obtain ⟨Q, hQ⟩ : ∃ Q, Q = (p_sp2 (t + 1) v * (A - c (t + 1)) + (c (t + 1) - c (t + 1 - p_sp2 (t + 1) v)) - 1) / (c (t + 1) - c (t + 1 - p_sp2 (t + 1) v)) := ⟨_, rfl⟩
        rw [← hQ] at b1 e h62
        have b4 := p_ds_b Q (L - (t + 1))
        simp (disch := omega) only [k9e_199_0, k9e_199_8, k9e_199_12, k9e_199_17, k9e_199_19, k9e_199_28, k9e_199_32, Nat.reduceEqDiff, Int.reduceEq, Int.reduceLT, Int.reduceLE, k9_ps_s, k9_ps_n, k9_ur, false_and, and_false, true_and, and_true, true_or, or_true, false_or, or_false, eq_self, ↓reduceIte, not_true_eq_false, not_false_eq_true, n_toInt, n_cl, nI_1, nI_add, n_a0, n_p2, n_p3, n_p4, n_x2, n_x3, n_x4, n_x60, n_x100, n_pm1, k9L_m2, k9L_m1, k9L_0, k9L_1, k9L_2, k9L_3, k9L_4, k9L_5, k9L_6, k9L_7, k9L_8, k9L_9, k9L_10, k9L_20, k9L_23, k9L_24, k9L_30, k9L_40, k9L_50, k9L_60, k9L_99, k9L_100, k9L_120, k9L_255, k9L_999, k9L_1000, k9_bs, k9_ba, hR.1, k9L_m2, n_sub, n_abs]
        repeat (first | ((with_reducible refine k9q_T ?_ ?_); · omega) | ((with_reducible refine k9q_F ?_ ?_); · omega) | ((with_reducible refine k9q_Tb ?_ ?_); · omega) | ((with_reducible refine k9q_Fb ?_ ?_); · omega) | (refine k9o_call (h62) ?_; simp (disch := omega) only [k9e_199_0, k9e_199_8, k9e_199_12, k9e_199_17, k9e_199_19, k9e_199_28, k9e_199_32, Nat.reduceEqDiff, Int.reduceEq, Int.reduceLT, Int.reduceLE, k9_ps_s, k9_ps_n, k9_ur, false_and, and_false, true_and, and_true, true_or, or_true, false_or, or_false, eq_self, ↓reduceIte, not_true_eq_false, not_false_eq_true, n_toInt, n_cl, nI_1, nI_add, n_a0, n_p2, n_p3, n_p4, n_x2, n_x3, n_x4, n_x60, n_x100, n_pm1, k9L_m2, k9L_m1, k9L_0, k9L_1, k9L_2, k9L_3, k9L_4, k9L_5, k9L_6, k9L_7, k9L_8, k9L_9, k9L_10, k9L_20, k9L_23, k9L_24, k9L_30, k9L_40, k9L_50, k9L_60, k9L_99, k9L_100, k9L_120, k9L_255, k9L_999, k9L_1000, k9_bs, k9_ba, hR.1, k9L_m2, n_sub, n_abs]) | simp (disch := omega) only [k9e_199_0, k9e_199_8, k9e_199_12, k9e_199_17, k9e_199_19, k9e_199_28, k9e_199_32, Nat.reduceEqDiff, Int.reduceEq, Int.reduceLT, Int.reduceLE, k9_ps_s, k9_ps_n, k9_ur, false_and, and_false, true_and, and_true, true_or, or_true, false_or, or_false, eq_self, ↓reduceIte, not_true_eq_false, not_false_eq_true, n_toInt, n_cl, nI_1, nI_add, n_a0, n_p2, n_p3, n_p4, n_x2, n_x3, n_x4, n_x60, n_x100, n_pm1, k9L_m2, k9L_m1, k9L_0, k9L_1, k9L_2, k9L_3, k9L_4, k9L_5, k9L_6, k9L_7, k9L_8, k9L_9, k9L_10, k9L_20, k9L_23, k9L_24, k9L_30, k9L_40, k9L_50, k9L_60, k9L_99, k9L_100, k9L_120, k9L_255, k9L_999, k9L_1000, k9_bs, k9_ba, hR.1, k9L_m2, n_sub, n_abs])
        rw [show (999 : Int32) = nI 999 from rfl, n_min (by omega) (by omega), nI_add]
        exact k9o_to e rfl
  rw [k9e_199_0]
  exact key L 0 (by omega)
theorem k9s_201 {x : Nat} (hR : k9_Mr I L h c) (hL : L ≤ 954) (hh : ∀ t, h t ≤ 100) (hx : x ≤ 1000) (hx1 : 1 ≤ x) : k9_R S d 201 0 [some (k9_r 12 0), some (k9_i (nI x)), none, none] [] I J = some (some (k9_i (p_dd h x (L - 1) 1)), I, J) := by
  have key : ∀ k t, t + k + 1 = L → k9_R S d 201 4 [some (k9_r 12 0), some (k9_i (nI x)), some (k9_i (nI (p_se h t))), some (k9_i (nI (t + 1)))] [] I J = some (some (k9_i (p_dd h x k (t + 1))), I, J) := by
    intro k
    induction k with
    | zero =>
      intro t ht
      have hb := p_se_b h t
      refine k9o_of (k9o_eq k9e_201_4 ?_)
      simp (disch := omega) only [k9e_201_0, k9e_201_8, k9e_201_12, k9e_201_18, k9e_201_19, k9e_201_23, k9e_201_24, k9e_201_28, k9e_201_30, k9e_201_32, Nat.reduceEqDiff, Int.reduceEq, Int.reduceLT, Int.reduceLE, k9_ps_s, k9_ps_n, k9_ur, false_and, and_false, true_and, and_true, true_or, or_true, false_or, or_false, eq_self, ↓reduceIte, not_true_eq_false, not_false_eq_true, n_toInt, n_cl, nI_1, nI_add, n_a0, n_p2, n_p3, n_p4, n_x2, n_x3, n_x4, n_x60, n_x100, n_pm1, k9L_m2, k9L_m1, k9L_0, k9L_1, k9L_2, k9L_3, k9L_4, k9L_5, k9L_6, k9L_7, k9L_8, k9L_9, k9L_10, k9L_20, k9L_23, k9L_24, k9L_30, k9L_40, k9L_50, k9L_60, k9L_99, k9L_100, k9L_120, k9L_255, k9L_999, k9L_1000, k9_bs, k9_ba, hR.1]
      repeat (first | ((with_reducible refine k9q_T ?_ ?_); · omega) | ((with_reducible refine k9q_F ?_ ?_); · omega) | ((with_reducible refine k9q_Tb ?_ ?_); · omega) | ((with_reducible refine k9q_Fb ?_ ?_); · omega) | simp (disch := omega) only [k9e_201_0, k9e_201_8, k9e_201_12, k9e_201_18, k9e_201_19, k9e_201_23, k9e_201_24, k9e_201_28, k9e_201_30, k9e_201_32, Nat.reduceEqDiff, Int.reduceEq, Int.reduceLT, Int.reduceLE, k9_ps_s, k9_ps_n, k9_ur, false_and, and_false, true_and, and_true, true_or, or_true, false_or, or_false, eq_self, ↓reduceIte, not_true_eq_false, not_false_eq_true, n_toInt, n_cl, nI_1, nI_add, n_a0, n_p2, n_p3, n_p4, n_x2, n_x3, n_x4, n_x60, n_x100, n_pm1, k9L_m2, k9L_m1, k9L_0, k9L_1, k9L_2, k9L_3, k9L_4, k9L_5, k9L_6, k9L_7, k9L_8, k9L_9, k9L_10, k9L_20, k9L_23, k9L_24, k9L_30, k9L_40, k9L_50, k9L_60, k9L_99, k9L_100, k9L_120, k9L_255, k9L_999, k9L_1000, k9_bs, k9_ba, hR.1])
      exact k9o_ret rfl
    | succ k ih =>
      intro t ht
      have hb := p_se_b h (t + 1)
      have e := ih (t + 1) (by omega)
      have a := (hR.2 (t + 1) (by omega)).2.2
      have a' := (hR.2 t (by omega)).2.2
      have b := hh (t + 1)
      have b' := hh t
      refine k9o_of (k9o_eq k9e_201_4 ?_)
      by_cases hs : h (t + 1) = h t
      · have hse : p_se h (t + 1) = p_se h t + 1 := by rw [p_se, if_pos hs]
        simp (disch := omega) only [k9e_201_0, k9e_201_8, k9e_201_12, k9e_201_18, k9e_201_19, k9e_201_23, k9e_201_24, k9e_201_28, k9e_201_30, k9e_201_32, Nat.reduceEqDiff, Int.reduceEq, Int.reduceLT, Int.reduceLE, k9_ps_s, k9_ps_n, k9_ur, false_and, and_false, true_and, and_true, true_or, or_true, false_or, or_false, eq_self, ↓reduceIte, not_true_eq_false, not_false_eq_true, n_toInt, n_cl, nI_1, nI_add, n_a0, n_p2, n_p3, n_p4, n_x2, n_x3, n_x4, n_x60, n_x100, n_pm1, k9L_m2, k9L_m1, k9L_0, k9L_1, k9L_2, k9L_3, k9L_4, k9L_5, k9L_6, k9L_7, k9L_8, k9L_9, k9L_10, k9L_20, k9L_23, k9L_24, k9L_30, k9L_40, k9L_50, k9L_60, k9L_99, k9L_100, k9L_120, k9L_255, k9L_999, k9L_1000, k9_bs, k9_ba, hR.1, a, a', n_s1, Nat.add_sub_cancel]
        repeat (first | ((with_reducible refine k9q_T ?_ ?_); · omega) | ((with_reducible refine k9q_F ?_ ?_); · omega) | ((with_reducible refine k9q_Tb ?_ ?_); · omega) | ((with_reducible refine k9q_Fb ?_ ?_); · omega))
        rw [← hse]
        by_cases hd : x ≤ p_se h (t + 1)
        · rw [show p_dd h x (k + 1) (t + 1) = nI (t + 1) by rw [p_dd, if_pos hd]]
          repeat (first | ((with_reducible refine k9q_T ?_ ?_); · omega) | ((with_reducible refine k9q_F ?_ ?_); · omega) | ((with_reducible refine k9q_Tb ?_ ?_); · omega) | ((with_reducible refine k9q_Fb ?_ ?_); · omega))
          exact k9o_ret rfl
        · rw [show p_dd h x (k + 1) (t + 1) = p_dd h x k (t + 1 + 1) by rw [p_dd, if_neg hd]]
          repeat (first | ((with_reducible refine k9q_T ?_ ?_); · omega) | ((with_reducible refine k9q_F ?_ ?_); · omega) | ((with_reducible refine k9q_Tb ?_ ?_); · omega) | ((with_reducible refine k9q_Fb ?_ ?_); · omega))
          exact k9o_to e rfl
      · have hse : p_se h (t + 1) = 0 := by rw [p_se, if_neg hs]
        rw [show p_dd h x (k + 1) (t + 1) = p_dd h x k (t + 1 + 1) by rw [p_dd, if_neg (by omega)]]
        rw [hse] at e
        simp (disch := omega) only [k9e_201_0, k9e_201_8, k9e_201_12, k9e_201_18, k9e_201_19, k9e_201_23, k9e_201_24, k9e_201_28, k9e_201_30, k9e_201_32, Nat.reduceEqDiff, Int.reduceEq, Int.reduceLT, Int.reduceLE, k9_ps_s, k9_ps_n, k9_ur, false_and, and_false, true_and, and_true, true_or, or_true, false_or, or_false, eq_self, ↓reduceIte, not_true_eq_false, not_false_eq_true, n_toInt, n_cl, nI_1, nI_add, n_a0, n_p2, n_p3, n_p4, n_x2, n_x3, n_x4, n_x60, n_x100, n_pm1, k9L_m2, k9L_m1, k9L_0, k9L_1, k9L_2, k9L_3, k9L_4, k9L_5, k9L_6, k9L_7, k9L_8, k9L_9, k9L_10, k9L_20, k9L_23, k9L_24, k9L_30, k9L_40, k9L_50, k9L_60, k9L_99, k9L_100, k9L_120, k9L_255, k9L_999, k9L_1000, k9_bs, k9_ba, hR.1, a, a', n_s1, Nat.add_sub_cancel]
        repeat (first | ((with_reducible refine k9q_T ?_ ?_); · omega) | ((with_reducible refine k9q_F ?_ ?_); · omega) | ((with_reducible refine k9q_Tb ?_ ?_); · omega) | ((with_reducible refine k9q_Fb ?_ ?_); · omega))
        exact k9o_to e rfl
  rw [k9e_201_0]
  by_cases hL0 : L = 0
  · subst hL0
    refine k9o_of (k9o_eq k9e_201_4 ?_)
    simp (disch := omega) only [k9e_201_0, k9e_201_8, k9e_201_12, k9e_201_18, k9e_201_19, k9e_201_23, k9e_201_24, k9e_201_28, k9e_201_30, k9e_201_32, Nat.reduceEqDiff, Int.reduceEq, Int.reduceLT, Int.reduceLE, k9_ps_s, k9_ps_n, k9_ur, false_and, and_false, true_and, and_true, true_or, or_true, false_or, or_false, eq_self, ↓reduceIte, not_true_eq_false, not_false_eq_true, n_toInt, n_cl, nI_1, nI_add, n_a0, n_p2, n_p3, n_p4, n_x2, n_x3, n_x4, n_x60, n_x100, n_pm1, k9L_m2, k9L_m1, k9L_0, k9L_1, k9L_2, k9L_3, k9L_4, k9L_5, k9L_6, k9L_7, k9L_8, k9L_9, k9L_10, k9L_20, k9L_23, k9L_24, k9L_30, k9L_40, k9L_50, k9L_60, k9L_99, k9L_100, k9L_120, k9L_255, k9L_999, k9L_1000, k9_bs, k9_ba, hR.1]
    repeat (first | ((with_reducible refine k9q_T ?_ ?_); · omega) | ((with_reducible refine k9q_F ?_ ?_); · omega) | ((with_reducible refine k9q_Tb ?_ ?_); · omega) | ((with_reducible refine k9q_Fb ?_ ?_); · omega) | simp (disch := omega) only [k9e_201_0, k9e_201_8, k9e_201_12, k9e_201_18, k9e_201_19, k9e_201_23, k9e_201_24, k9e_201_28, k9e_201_30, k9e_201_32, Nat.reduceEqDiff, Int.reduceEq, Int.reduceLT, Int.reduceLE, k9_ps_s, k9_ps_n, k9_ur, false_and, and_false, true_and, and_true, true_or, or_true, false_or, or_false, eq_self, ↓reduceIte, not_true_eq_false, not_false_eq_true, n_toInt, n_cl, nI_1, nI_add, n_a0, n_p2, n_p3, n_p4, n_x2, n_x3, n_x4, n_x60, n_x100, n_pm1, k9L_m2, k9L_m1, k9L_0, k9L_1, k9L_2, k9L_3, k9L_4, k9L_5, k9L_6, k9L_7, k9L_8, k9L_9, k9L_10, k9L_20, k9L_23, k9L_24, k9L_30, k9L_40, k9L_50, k9L_60, k9L_99, k9L_100, k9L_120, k9L_255, k9L_999, k9L_1000, k9_bs, k9_ba, hR.1])
    exact k9o_ret rfl
  · exact key (L - 1) 0 (by omega)
end KU4
