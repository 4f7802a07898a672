/-! WALK: where a work stands in a second -/
section KK
variable {S : k9_S} {d : Nat} {I : k9_I} {J : k9_J} {i0 i1 i2 : Nat} {w : Nat → Nat → Nat}
def p_dk (w : Nat → Nat → Nat) (t : Nat) : Nat → Nat
  | 0 => 0
  | k + 1 => if p_st w (k + 1) ≤ t then k + 1 else p_dk w t k
def p_dn (w : Nat → Nat → Nat) (t : Nat) : Nat := p_dk w t (w 7 0)
theorem p_dk_sp (w : Nat → Nat → Nat) (t : Nat) : ∀ k, p_dk w t k ≤ k ∧ p_st w (p_dk w t k) ≤ t ∧ (p_dk w t k < k → t < p_st w (p_dk w t k + 1))
  | 0 => ⟨Nat.le_refl _, Nat.zero_le _, fun h => absurd h (Nat.lt_irrefl _)⟩
  | k + 1 => by
    obtain ⟨h1, h2, h3⟩ := p_dk_sp w t k
    unfold p_dk
    by_cases h : p_st w (k + 1) ≤ t
    · rw [if_pos h]
      exact ⟨Nat.le_refl _, h, fun h => absurd h (Nat.lt_irrefl _)⟩
    · rw [if_neg h]
      refine ⟨Nat.le_succ_of_le h1, h2, fun _ => ?_⟩
      by_cases e : p_dk w t k < k
      · exact h3 e
      · rw [show p_dk w t k = k by omega]
        omega
theorem p_dn_sp (w : Nat → Nat → Nat) (t : Nat) : p_dn w t ≤ w 7 0 ∧ p_st w (p_dn w t) ≤ t ∧ (p_dn w t < w 7 0 → t < p_st w (p_dn w t + 1)) := p_dk_sp w t (w 7 0)
theorem p_dn_un {t D : Nat} (h1 : D ≤ w 7 0) (h2 : p_st w D ≤ t) (h3 : D < w 7 0 → t < p_st w (D + 1)) : D = p_dn w t := by
  obtain ⟨g1, g2, g3⟩ := p_dn_sp w t
  apply Nat.le_antisymm
  · apply Nat.le_of_not_lt
    intro h
    have := g3 (by omega)
    have := p_st_mono (w := w) (show p_dn w t + 1 ≤ D by omega)
    omega
  · apply Nat.le_of_not_lt
    intro h
    have := h3 (by omega)
    have := p_st_mono (w := w) (show D + 1 ≤ p_dn w t by omega)
    omega
theorem p_dn_mono {t t' : Nat} (h : t ≤ t') : p_dn w t ≤ p_dn w t' := by
  obtain ⟨g1, g2, g3⟩ := p_dn_sp w t
  obtain ⟨h1, h2, h3⟩ := p_dn_sp w t'
  apply Nat.le_of_not_lt
  intro hl
  have := h3 (by omega)
  have := p_st_mono (w := w) (show p_dn w t' + 1 ≤ p_dn w t by omega)
  omega
/-- bytes that have come -/
def p_co (w : Nat → Nat → Nat) (t : Nat) : Nat := p_sm (w 0) (p_dn w t) + p_pt w (p_dn w t) (t - p_st w (p_dn w t))
def p_ct (all part : Nat) : Nat := if all = 0 then 100 else part * 100 / all
/-- totals: bytes, files, seconds -/
def p_tt (w : Nat → Nat → Nat) : Nat → Nat := fun k => if k = 0 then p_sm (w 0) (w 7 0) else if k = 1 then p_sm (w 3) (w 7 0) else p_len w
def p_ce (w : Nat → Nat → Nat) (T : Nat → Nat) (t m : Nat) : Nat :=
  if m = 0 then p_ct (T 1) (p_sm (w 3) (p_dn w t)) else if m = 1 then p_ct (T 0) (p_co w t) else if m = 2 then p_ct (w 7 0) (p_dn w t) else p_ct (T 2) (min t (T 2))
theorem p_co_b (hf : k9_wf w) (t : Nat) : p_co w t ≤ 594 + 99 := by
  have h1 := (p_dn_sp w t).1
  have h2 := p_sm0_b hf h1
  have h3 : p_pt w (p_dn w t) (t - p_st w (p_dn w t)) ≤ 99 := by
    unfold p_pt
    split
    · rename_i h
      exact Nat.le_trans (Nat.min_le_left _ _) (hf.2.2.2.2 _ h).2.1
    · omega
  unfold p_co
  omega
/-- the walk stands behind D pieces -/
def k9_Wl (I : k9_I) (i : Nat) (w : Nat → Nat → Nat) (D : Nat) : Prop :=
  I 4 i 5 = nI (w 7 0) ∧ I 4 i 6 = nI D ∧ I 4 i 7 = nI (p_st w D) ∧ (D < w 7 0 → I 4 i 8 = nI (p_st w (D + 1))) ∧ I 4 i 9 = nI (p_sm (w 0) D) ∧ I 4 i 10 = nI (p_sm (w 3) D) ∧ I 4 i 11 = nI (p_tt w 0) ∧ I 4 i 12 = nI (p_tt w 1) ∧ I 4 i 13 = nI (p_tt w 2)
def k9_Wc (I : k9_I) (i : Nat) (w : Nat → Nat → Nat) (t : Nat) : Prop :=
  I 4 i 0 = nI (p_co w t) ∧ I 4 i 1 = nI (p_ce w (p_tt w) t 0) ∧ I 4 i 2 = nI (p_ce w (p_tt w) t 1) ∧ I 4 i 3 = nI (p_ce w (p_tt w) t 2) ∧ I 4 i 4 = nI (p_ce w (p_tt w) t 3)
def k9_Fk (i0 : Nat) (k i _ : Nat) : Bool := Nat.beq k 4 && Nat.beq i i0
theorem k9_Fk_t (p : Nat) : k9_Fk i0 4 i0 p = true := by
  unfold k9_Fk
  rw [k9_beq_self i0]
  rfl
theorem k9_Wk_u {k j p : Nat} {v : Int32} (hk : (Nat.beq k 3 || Nat.beq k 20 || Nat.beq k 21 || Nat.beq k 22 || Nat.beq k 23) = false) (hW : k9_Wk I i0 w) : k9_Wk (k9_u I k j p v) i0 w := by
  simp only [Bool.or_eq_false_iff] at hk
  obtain ⟨⟨⟨⟨h3, h20⟩, h21⟩, h22⟩, h23⟩ := hk
  have e : ∀ {a b : Nat}, Nat.beq a b = false → ¬ b = a := fun h z => by
    subst z
    rw [k9_beq_self] at h
    cases h
  obtain ⟨w0, w1, w2, w3, w4⟩ := hW
  refine ⟨?_, ?_, ?_, ?_, fun p' hp' => ?_⟩
  · rw [k9_ur, if_neg (fun z => e h3 z.1)]; exact w0
  · rw [k9_ur, if_neg (fun z => e h3 z.1)]; exact w1
  · rw [k9_ur, if_neg (fun z => e h3 z.1)]; exact w2
  · rw [k9_ur, if_neg (fun z => e h3 z.1)]; exact w3
  · rw [k9_ur, if_neg (fun z => e h20 z.1), k9_ur, if_neg (fun z => e h21 z.1), k9_ur, if_neg (fun z => e h22 z.1), k9_ur, if_neg (fun z => e h23 z.1)]
    exact w4 p' hp'
theorem k9s_24 {a b : Nat} (ha : a ≤ 10000) (hb : b ≤ 10000) : k9_R S d 24 0 [some (k9_i (nI a)), some (k9_i (nI b))] [] I J = some (some (k9_i (nI (p_ct b a))), I, J) := by
  refine k9o_of ?_
  unfold p_ct
  by_cases h : b = 0
  · subst h
    simp (disch := omega) only [k9e_24_0, k9e_24_3, k9e_24_5, k9e_24_10, Nat.reduceEqDiff, Int.reduceEq, Int.reduceLT, Int.reduceLE, k9_ps_s, k9_ps_n, k9_ur, false_and, and_false, true_and, and_true, true_or, or_true, false_or, or_false, eq_self, ↓reduceIte, not_true_eq_false, not_false_eq_true, n_toInt, n_cl, nI_1, nI_add, n_a0, n_p2, n_p3, n_p4, n_x2, n_x3, n_x4, n_x60, n_x100, n_pm1, k9L_m2, k9L_m1, k9L_0, k9L_1, k9L_2, k9L_3, k9L_4, k9L_5, k9L_6, k9L_7, k9L_8, k9L_9, k9L_10, k9L_20, k9L_23, k9L_24, k9L_30, k9L_40, k9L_50, k9L_60, k9L_99, k9L_100, k9L_120, k9L_255, k9L_999, k9L_1000, k9_bs, k9_ba]
    repeat (first | ((with_reducible refine k9q_T ?_ ?_); · omega) | ((with_reducible refine k9q_F ?_ ?_); · omega) | ((with_reducible refine k9q_Tb ?_ ?_); · omega) | ((with_reducible refine k9q_Fb ?_ ?_); · omega) | simp (disch := omega) only [k9e_24_0, k9e_24_3, k9e_24_5, k9e_24_10, Nat.reduceEqDiff, Int.reduceEq, Int.reduceLT, Int.reduceLE, k9_ps_s, k9_ps_n, k9_ur, false_and, and_false, true_and, and_true, true_or, or_true, false_or, or_false, eq_self, ↓reduceIte, not_true_eq_false, not_false_eq_true, n_toInt, n_cl, nI_1, nI_add, n_a0, n_p2, n_p3, n_p4, n_x2, n_x3, n_x4, n_x60, n_x100, n_pm1, k9L_m2, k9L_m1, k9L_0, k9L_1, k9L_2, k9L_3, k9L_4, k9L_5, k9L_6, k9L_7, k9L_8, k9L_9, k9L_10, k9L_20, k9L_23, k9L_24, k9L_30, k9L_40, k9L_50, k9L_60, k9L_99, k9L_100, k9L_120, k9L_255, k9L_999, k9L_1000, k9_bs, k9_ba])
    exact k9o_ret rfl
  · rw [if_neg h]
    simp (disch := omega) only [k9e_24_0, k9e_24_3, k9e_24_5, k9e_24_10, Nat.reduceEqDiff, Int.reduceEq, Int.reduceLT, Int.reduceLE, k9_ps_s, k9_ps_n, k9_ur, false_and, and_false, true_and, and_true, true_or, or_true, false_or, or_false, eq_self, ↓reduceIte, not_true_eq_false, not_false_eq_true, n_toInt, n_cl, nI_1, nI_add, n_a0, n_p2, n_p3, n_p4, n_x2, n_x3, n_x4, n_x60, n_x100, n_pm1, k9L_m2, k9L_m1, k9L_0, k9L_1, k9L_2, k9L_3, k9L_4, k9L_5, k9L_6, k9L_7, k9L_8, k9L_9, k9L_10, k9L_20, k9L_23, k9L_24, k9L_30, k9L_40, k9L_50, k9L_60, k9L_99, k9L_100, k9L_120, k9L_255, k9L_999, k9L_1000, k9_bs, k9_ba]
    repeat (first | ((with_reducible refine k9q_T ?_ ?_); · omega) | ((with_reducible refine k9q_F ?_ ?_); · omega) | ((with_reducible refine k9q_Tb ?_ ?_); · omega) | ((with_reducible refine k9q_Fb ?_ ?_); · omega) | simp (disch := omega) only [k9e_24_0, k9e_24_3, k9e_24_5, k9e_24_10, Nat.reduceEqDiff, Int.reduceEq, Int.reduceLT, Int.reduceLE, k9_ps_s, k9_ps_n, k9_ur, false_and, and_false, true_and, and_true, true_or, or_true, false_or, or_false, eq_self, ↓reduceIte, not_true_eq_false, not_false_eq_true, n_toInt, n_cl, nI_1, nI_add, n_a0, n_p2, n_p3, n_p4, n_x2, n_x3, n_x4, n_x60, n_x100, n_pm1, k9L_m2, k9L_m1, k9L_0, k9L_1, k9L_2, k9L_3, k9L_4, k9L_5, k9L_6, k9L_7, k9L_8, k9L_9, k9L_10, k9L_20, k9L_23, k9L_24, k9L_30, k9L_40, k9L_50, k9L_60, k9L_99, k9L_100, k9L_120, k9L_255, k9L_999, k9L_1000, k9_bs, k9_ba])
    rw [show (100 : Int32) = nI 100 from rfl, n_mul, n_div (by omega) (by omega) (by omega)]
    exact k9o_ret rfl
theorem k9s_23 {a b : Nat} (ha : a ≤ 10000) (hb : b ≤ 10000) : k9_R S (d + 1) 23 0 [some (k9_i (nI a)), some (k9_i (nI b))] [] I J = some (some (k9_i (nI (p_ct b (min a b)))), I, J) := by
  refine k9o_of ?_
  by_cases h : b ≤ a
  · simp (disch := omega) only [k9e_23_0, k9e_23_3, k9e_23_5, k9e_23_8, Nat.reduceEqDiff, Int.reduceEq, Int.reduceLT, Int.reduceLE, k9_ps_s, k9_ps_n, k9_ur, false_and, and_false, true_and, and_true, true_or, or_true, false_or, or_false, eq_self, ↓reduceIte, not_true_eq_false, not_false_eq_true, n_toInt, n_cl, nI_1, nI_add, n_a0, n_p2, n_p3, n_p4, n_x2, n_x3, n_x4, n_x60, n_x100, n_pm1, k9L_m2, k9L_m1, k9L_0, k9L_1, k9L_2, k9L_3, k9L_4, k9L_5, k9L_6, k9L_7, k9L_8, k9L_9, k9L_10, k9L_20, k9L_23, k9L_24, k9L_30, k9L_40, k9L_50, k9L_60, k9L_99, k9L_100, k9L_120, k9L_255, k9L_999, k9L_1000, k9_bs, k9_ba]
    repeat (first | ((with_reducible refine k9q_T ?_ ?_); · omega) | ((with_reducible refine k9q_F ?_ ?_); · omega) | ((with_reducible refine k9q_Tb ?_ ?_); · omega) | ((with_reducible refine k9q_Fb ?_ ?_); · omega) | simp (disch := omega) only [k9e_23_0, k9e_23_3, k9e_23_5, k9e_23_8, Nat.reduceEqDiff, Int.reduceEq, Int.reduceLT, Int.reduceLE, k9_ps_s, k9_ps_n, k9_ur, false_and, and_false, true_and, and_true, true_or, or_true, false_or, or_false, eq_self, ↓reduceIte, not_true_eq_false, not_false_eq_true, n_toInt, n_cl, nI_1, nI_add, n_a0, n_p2, n_p3, n_p4, n_x2, n_x3, n_x4, n_x60, n_x100, n_pm1, k9L_m2, k9L_m1, k9L_0, k9L_1, k9L_2, k9L_3, k9L_4, k9L_5, k9L_6, k9L_7, k9L_8, k9L_9, k9L_10, k9L_20, k9L_23, k9L_24, k9L_30, k9L_40, k9L_50, k9L_60, k9L_99, k9L_100, k9L_120, k9L_255, k9L_999, k9L_1000, k9_bs, k9_ba])
    rw [Nat.min_eq_right h, p_ct]
    by_cases h0 : b = 0
    · rw [if_pos h0]
      exact k9o_ret rfl
    · rw [if_neg h0, Nat.mul_div_cancel_left _ (by omega)]
      exact k9o_ret rfl
  · simp (disch := omega) only [k9e_23_0, k9e_23_3, k9e_23_5, k9e_23_8, Nat.reduceEqDiff, Int.reduceEq, Int.reduceLT, Int.reduceLE, k9_ps_s, k9_ps_n, k9_ur, false_and, and_false, true_and, and_true, true_or, or_true, false_or, or_false, eq_self, ↓reduceIte, not_true_eq_false, not_false_eq_true, n_toInt, n_cl, nI_1, nI_add, n_a0, n_p2, n_p3, n_p4, n_x2, n_x3, n_x4, n_x60, n_x100, n_pm1, k9L_m2, k9L_m1, k9L_0, k9L_1, k9L_2, k9L_3, k9L_4, k9L_5, k9L_6, k9L_7, k9L_8, k9L_9, k9L_10, k9L_20, k9L_23, k9L_24, k9L_30, k9L_40, k9L_50, k9L_60, k9L_99, k9L_100, k9L_120, k9L_255, k9L_999, k9L_1000, k9_bs, k9_ba]
    repeat (first | ((with_reducible refine k9q_T ?_ ?_); · omega) | ((with_reducible refine k9q_F ?_ ?_); · omega) | ((with_reducible refine k9q_Tb ?_ ?_); · omega) | ((with_reducible refine k9q_Fb ?_ ?_); · omega) | (refine k9o_call (k9s_24 ha hb) ?_; simp (disch := omega) only [k9e_23_0, k9e_23_3, k9e_23_5, k9e_23_8, Nat.reduceEqDiff, Int.reduceEq, Int.reduceLT, Int.reduceLE, k9_ps_s, k9_ps_n, k9_ur, false_and, and_false, true_and, and_true, true_or, or_true, false_or, or_false, eq_self, ↓reduceIte, not_true_eq_false, not_false_eq_true, n_toInt, n_cl, nI_1, nI_add, n_a0, n_p2, n_p3, n_p4, n_x2, n_x3, n_x4, n_x60, n_x100, n_pm1, k9L_m2, k9L_m1, k9L_0, k9L_1, k9L_2, k9L_3, k9L_4, k9L_5, k9L_6, k9L_7, k9L_8, k9L_9, k9L_10, k9L_20, k9L_23, k9L_24, k9L_30, k9L_40, k9L_50, k9L_60, k9L_99, k9L_100, k9L_120, k9L_255, k9L_999, k9L_1000, k9_bs, k9_ba]) | simp (disch := omega) only [k9e_23_0, k9e_23_3, k9e_23_5, k9e_23_8, Nat.reduceEqDiff, Int.reduceEq, Int.reduceLT, Int.reduceLE, k9_ps_s, k9_ps_n, k9_ur, false_and, and_false, true_and, and_true, true_or, or_true, false_or, or_false, eq_self, ↓reduceIte, not_true_eq_false, not_false_eq_true, n_toInt, n_cl, nI_1, nI_add, n_a0, n_p2, n_p3, n_p4, n_x2, n_x3, n_x4, n_x60, n_x100, n_pm1, k9L_m2, k9L_m1, k9L_0, k9L_1, k9L_2, k9L_3, k9L_4, k9L_5, k9L_6, k9L_7, k9L_8, k9L_9, k9L_10, k9L_20, k9L_23, k9L_24, k9L_30, k9L_40, k9L_50, k9L_60, k9L_99, k9L_100, k9L_120, k9L_255, k9L_999, k9L_1000, k9_bs, k9_ba])
    rw [Nat.min_eq_left (by omega)]
    exact k9o_ret rfl
theorem k9s_22 {m t : Nat} (hm : m ≤ 3) (hC : k9_Wc I i0 w t) : k9_R S d 22 0 [some (k9_r 4 i0), some (k9_i (nI m))] [] I J = some (some (k9_i (nI (p_ce w (p_tt w) t m))), I, J) := by
  obtain ⟨h0, h1, h2, h3, h4⟩ := hC
  refine k9o_of ?_
  have h : m = 0 ∨ m = 1 ∨ m = 2 ∨ m = 3 := by omega
  rcases h with rfl | rfl | rfl | rfl
  all_goals simp (disch := omega) only [k9e_22_0, k9e_22_2, k9e_22_5, k9e_22_8, k9e_22_11, Nat.reduceEqDiff, Int.reduceEq, Int.reduceLT, Int.reduceLE, k9_ps_s, k9_ps_n, k9_ur, false_and, and_false, true_and, and_true, true_or, or_true, false_or, or_false, eq_self, ↓reduceIte, not_true_eq_false, not_false_eq_true, n_toInt, n_cl, nI_1, nI_add, n_a0, n_p2, n_p3, n_p4, n_x2, n_x3, n_x4, n_x60, n_x100, n_pm1, k9L_m2, k9L_m1, k9L_0, k9L_1, k9L_2, k9L_3, k9L_4, k9L_5, k9L_6, k9L_7, k9L_8, k9L_9, k9L_10, k9L_20, k9L_23, k9L_24, k9L_30, k9L_40, k9L_50, k9L_60, k9L_99, k9L_100, k9L_120, k9L_255, k9L_999, k9L_1000, k9_bs, k9_ba, h1, h2, h3, h4]
  all_goals repeat (first | ((with_reducible refine k9q_T ?_ ?_); · omega) | ((with_reducible refine k9q_F ?_ ?_); · omega) | ((with_reducible refine k9q_Tb ?_ ?_); · omega) | ((with_reducible refine k9q_Fb ?_ ?_); · omega) | simp (disch := omega) only [k9e_22_0, k9e_22_2, k9e_22_5, k9e_22_8, k9e_22_11, Nat.reduceEqDiff, Int.reduceEq, Int.reduceLT, Int.reduceLE, k9_ps_s, k9_ps_n, k9_ur, false_and, and_false, true_and, and_true, true_or, or_true, false_or, or_false, eq_self, ↓reduceIte, not_true_eq_false, not_false_eq_true, n_toInt, n_cl, nI_1, nI_add, n_a0, n_p2, n_p3, n_p4, n_x2, n_x3, n_x4, n_x60, n_x100, n_pm1, k9L_m2, k9L_m1, k9L_0, k9L_1, k9L_2, k9L_3, k9L_4, k9L_5, k9L_6, k9L_7, k9L_8, k9L_9, k9L_10, k9L_20, k9L_23, k9L_24, k9L_30, k9L_40, k9L_50, k9L_60, k9L_99, k9L_100, k9L_120, k9L_255, k9L_999, k9L_1000, k9_bs, k9_ba, h1, h2, h3, h4])
  all_goals exact k9o_ret rfl
theorem k9s_20 (hW : k9_Wk I i1 w) (hf : k9_wf w) : ∃ I', k9_R S (d + 3) 20 0 [some (k9_r 4 i0), some (k9_r 3 i1)] [] I J = some (none, I', J) ∧ k9_Wl I' i0 w 0 ∧ k9_fx (k9_Fk i0) I I' := by
  refine ⟨k9_u (k9_u (k9_u (k9_u (k9_u (k9_u (k9_u (k9_u (k9_u I 4 i0 5 (nI (w 7 0))) 4 i0 6 0) 4 i0 7 0) 4 i0 8 (nI (if 0 < w 7 0 then p_tk w 0 else 0))) 4 i0 9 0) 4 i0 10 0) 4 i0 11 (nI (p_tt w 0))) 4 i0 12 (nI (p_tt w 1))) 4 i0 13 (nI (p_tt w 2)), k9o_of ?_, ?_, ?_⟩
  · by_cases h : 0 < w 7 0
    · simp (disch := omega) only [k9e_20_0, k9e_20_14, k9e_20_24, k9e_20_28, k9e_20_32, Nat.reduceEqDiff, Int.reduceEq, Int.reduceLT, Int.reduceLE, k9_ps_s, k9_ps_n, k9_ur, false_and, and_false, true_and, and_true, true_or, or_true, false_or, or_false, eq_self, ↓reduceIte, not_true_eq_false, not_false_eq_true, n_toInt, n_cl, nI_1, nI_add, n_a0, n_p2, n_p3, n_p4, n_x2, n_x3, n_x4, n_x60, n_x100, n_pm1, k9L_m2, k9L_m1, k9L_0, k9L_1, k9L_2, k9L_3, k9L_4, k9L_5, k9L_6, k9L_7, k9L_8, k9L_9, k9L_10, k9L_20, k9L_23, k9L_24, k9L_30, k9L_40, k9L_50, k9L_60, k9L_99, k9L_100, k9L_120, k9L_255, k9L_999, k9L_1000, k9_bs, k9_ba, hW.1]
      repeat (first | ((with_reducible refine k9q_T ?_ ?_); · omega) | ((with_reducible refine k9q_F ?_ ?_); · omega) | ((with_reducible refine k9q_Tb ?_ ?_); · omega) | ((with_reducible refine k9q_Fb ?_ ?_); · omega) | (refine k9o_call (k9s_9 (p := 0) (by repeat (first | exact hW | apply k9_Wk_u rfl)) hf h) ?_; simp (disch := omega) only [k9e_20_0, k9e_20_14, k9e_20_24, k9e_20_28, k9e_20_32, Nat.reduceEqDiff, Int.reduceEq, Int.reduceLT, Int.reduceLE, k9_ps_s, k9_ps_n, k9_ur, false_and, and_false, true_and, and_true, true_or, or_true, false_or, or_false, eq_self, ↓reduceIte, not_true_eq_false, not_false_eq_true, n_toInt, n_cl, nI_1, nI_add, n_a0, n_p2, n_p3, n_p4, n_x2, n_x3, n_x4, n_x60, n_x100, n_pm1, k9L_m2, k9L_m1, k9L_0, k9L_1, k9L_2, k9L_3, k9L_4, k9L_5, k9L_6, k9L_7, k9L_8, k9L_9, k9L_10, k9L_20, k9L_23, k9L_24, k9L_30, k9L_40, k9L_50, k9L_60, k9L_99, k9L_100, k9L_120, k9L_255, k9L_999, k9L_1000, k9_bs, k9_ba, hW.1]) | (refine k9o_call (k9s_11 (by repeat (first | exact hW | apply k9_Wk_u rfl)) hf) ?_; simp (disch := omega) only [k9e_20_0, k9e_20_14, k9e_20_24, k9e_20_28, k9e_20_32, Nat.reduceEqDiff, Int.reduceEq, Int.reduceLT, Int.reduceLE, k9_ps_s, k9_ps_n, k9_ur, false_and, and_false, true_and, and_true, true_or, or_true, false_or, or_false, eq_self, ↓reduceIte, not_true_eq_false, not_false_eq_true, n_toInt, n_cl, nI_1, nI_add, n_a0, n_p2, n_p3, n_p4, n_x2, n_x3, n_x4, n_x60, n_x100, n_pm1, k9L_m2, k9L_m1, k9L_0, k9L_1, k9L_2, k9L_3, k9L_4, k9L_5, k9L_6, k9L_7, k9L_8, k9L_9, k9L_10, k9L_20, k9L_23, k9L_24, k9L_30, k9L_40, k9L_50, k9L_60, k9L_99, k9L_100, k9L_120, k9L_255, k9L_999, k9L_1000, k9_bs, k9_ba, hW.1]) | (refine k9o_call (k9s_12 (by repeat (first | exact hW | apply k9_Wk_u rfl)) hf) ?_; simp (disch := omega) only [k9e_20_0, k9e_20_14, k9e_20_24, k9e_20_28, k9e_20_32, Nat.reduceEqDiff, Int.reduceEq, Int.reduceLT, Int.reduceLE, k9_ps_s, k9_ps_n, k9_ur, false_and, and_false, true_and, and_true, true_or, or_true, false_or, or_false, eq_self, ↓reduceIte, not_true_eq_false, not_false_eq_true, n_toInt, n_cl, nI_1, nI_add, n_a0, n_p2, n_p3, n_p4, n_x2, n_x3, n_x4, n_x60, n_x100, n_pm1, k9L_m2, k9L_m1, k9L_0, k9L_1, k9L_2, k9L_3, k9L_4, k9L_5, k9L_6, k9L_7, k9L_8, k9L_9, k9L_10, k9L_20, k9L_23, k9L_24, k9L_30, k9L_40, k9L_50, k9L_60, k9L_99, k9L_100, k9L_120, k9L_255, k9L_999, k9L_1000, k9_bs, k9_ba, hW.1]) | (refine k9o_call (k9s_10 (by repeat (first | exact hW | apply k9_Wk_u rfl)) hf) ?_; simp (disch := omega) only [k9e_20_0, k9e_20_14, k9e_20_24, k9e_20_28, k9e_20_32, Nat.reduceEqDiff, Int.reduceEq, Int.reduceLT, Int.reduceLE, k9_ps_s, k9_ps_n, k9_ur, false_and, and_false, true_and, and_true, true_or, or_true, false_or, or_false, eq_self, ↓reduceIte, not_true_eq_false, not_false_eq_true, n_toInt, n_cl, nI_1, nI_add, n_a0, n_p2, n_p3, n_p4, n_x2, n_x3, n_x4, n_x60, n_x100, n_pm1, k9L_m2, k9L_m1, k9L_0, k9L_1, k9L_2, k9L_3, k9L_4, k9L_5, k9L_6, k9L_7, k9L_8, k9L_9, k9L_10, k9L_20, k9L_23, k9L_24, k9L_30, k9L_40, k9L_50, k9L_60, k9L_99, k9L_100, k9L_120, k9L_255, k9L_999, k9L_1000, k9_bs, k9_ba, hW.1]) | simp (disch := omega) only [k9e_20_0, k9e_20_14, k9e_20_24, k9e_20_28, k9e_20_32, Nat.reduceEqDiff, Int.reduceEq, Int.reduceLT, Int.reduceLE, k9_ps_s, k9_ps_n, k9_ur, false_and, and_false, true_and, and_true, true_or, or_true, false_or, or_false, eq_self, ↓reduceIte, not_true_eq_false, not_false_eq_true, n_toInt, n_cl, nI_1, nI_add, n_a0, n_p2, n_p3, n_p4, n_x2, n_x3, n_x4, n_x60, n_x100, n_pm1, k9L_m2, k9L_m1, k9L_0, k9L_1, k9L_2, k9L_3, k9L_4, k9L_5, k9L_6, k9L_7, k9L_8, k9L_9, k9L_10, k9L_20, k9L_23, k9L_24, k9L_30, k9L_40, k9L_50, k9L_60, k9L_99, k9L_100, k9L_120, k9L_255, k9L_999, k9L_1000, k9_bs, k9_ba, hW.1])
      rw [if_pos h]
      exact k9o_ret rfl
    · simp (disch := omega) only [k9e_20_0, k9e_20_14, k9e_20_24, k9e_20_28, k9e_20_32, Nat.reduceEqDiff, Int.reduceEq, Int.reduceLT, Int.reduceLE, k9_ps_s, k9_ps_n, k9_ur, false_and, and_false, true_and, and_true, true_or, or_true, false_or, or_false, eq_self, ↓reduceIte, not_true_eq_false, not_false_eq_true, n_toInt, n_cl, nI_1, nI_add, n_a0, n_p2, n_p3, n_p4, n_x2, n_x3, n_x4, n_x60, n_x100, n_pm1, k9L_m2, k9L_m1, k9L_0, k9L_1, k9L_2, k9L_3, k9L_4, k9L_5, k9L_6, k9L_7, k9L_8, k9L_9, k9L_10, k9L_20, k9L_23, k9L_24, k9L_30, k9L_40, k9L_50, k9L_60, k9L_99, k9L_100, k9L_120, k9L_255, k9L_999, k9L_1000, k9_bs, k9_ba, hW.1]
      repeat (first | ((with_reducible refine k9q_T ?_ ?_); · omega) | ((with_reducible refine k9q_F ?_ ?_); · omega) | ((with_reducible refine k9q_Tb ?_ ?_); · omega) | ((with_reducible refine k9q_Fb ?_ ?_); · omega) | (refine k9o_call (k9s_9x (p := 0) (by repeat (first | exact hW | apply k9_Wk_u rfl)) hf h (by omega)) ?_; simp (disch := omega) only [k9e_20_0, k9e_20_14, k9e_20_24, k9e_20_28, k9e_20_32, Nat.reduceEqDiff, Int.reduceEq, Int.reduceLT, Int.reduceLE, k9_ps_s, k9_ps_n, k9_ur, false_and, and_false, true_and, and_true, true_or, or_true, false_or, or_false, eq_self, ↓reduceIte, not_true_eq_false, not_false_eq_true, n_toInt, n_cl, nI_1, nI_add, n_a0, n_p2, n_p3, n_p4, n_x2, n_x3, n_x4, n_x60, n_x100, n_pm1, k9L_m2, k9L_m1, k9L_0, k9L_1, k9L_2, k9L_3, k9L_4, k9L_5, k9L_6, k9L_7, k9L_8, k9L_9, k9L_10, k9L_20, k9L_23, k9L_24, k9L_30, k9L_40, k9L_50, k9L_60, k9L_99, k9L_100, k9L_120, k9L_255, k9L_999, k9L_1000, k9_bs, k9_ba, hW.1]) | (refine k9o_call (k9s_11 (by repeat (first | exact hW | apply k9_Wk_u rfl)) hf) ?_; simp (disch := omega) only [k9e_20_0, k9e_20_14, k9e_20_24, k9e_20_28, k9e_20_32, Nat.reduceEqDiff, Int.reduceEq, Int.reduceLT, Int.reduceLE, k9_ps_s, k9_ps_n, k9_ur, false_and, and_false, true_and, and_true, true_or, or_true, false_or, or_false, eq_self, ↓reduceIte, not_true_eq_false, not_false_eq_true, n_toInt, n_cl, nI_1, nI_add, n_a0, n_p2, n_p3, n_p4, n_x2, n_x3, n_x4, n_x60, n_x100, n_pm1, k9L_m2, k9L_m1, k9L_0, k9L_1, k9L_2, k9L_3, k9L_4, k9L_5, k9L_6, k9L_7, k9L_8, k9L_9, k9L_10, k9L_20, k9L_23, k9L_24, k9L_30, k9L_40, k9L_50, k9L_60, k9L_99, k9L_100, k9L_120, k9L_255, k9L_999, k9L_1000, k9_bs, k9_ba, hW.1]) | (refine k9o_call (k9s_12 (by repeat (first | exact hW | apply k9_Wk_u rfl)) hf) ?_; simp (disch := omega) only [k9e_20_0, k9e_20_14, k9e_20_24, k9e_20_28, k9e_20_32, Nat.reduceEqDiff, Int.reduceEq, Int.reduceLT, Int.reduceLE, k9_ps_s, k9_ps_n, k9_ur, false_and, and_false, true_and, and_true, true_or, or_true, false_or, or_false, eq_self, ↓reduceIte, not_true_eq_false, not_false_eq_true, n_toInt, n_cl, nI_1, nI_add, n_a0, n_p2, n_p3, n_p4, n_x2, n_x3, n_x4, n_x60, n_x100, n_pm1, k9L_m2, k9L_m1, k9L_0, k9L_1, k9L_2, k9L_3, k9L_4, k9L_5, k9L_6, k9L_7, k9L_8, k9L_9, k9L_10, k9L_20, k9L_23, k9L_24, k9L_30, k9L_40, k9L_50, k9L_60, k9L_99, k9L_100, k9L_120, k9L_255, k9L_999, k9L_1000, k9_bs, k9_ba, hW.1]) | (refine k9o_call (k9s_10 (by repeat (first | exact hW | apply k9_Wk_u rfl)) hf) ?_; simp (disch := omega) only [k9e_20_0, k9e_20_14, k9e_20_24, k9e_20_28, k9e_20_32, Nat.reduceEqDiff, Int.reduceEq, Int.reduceLT, Int.reduceLE, k9_ps_s, k9_ps_n, k9_ur, false_and, and_false, true_and, and_true, true_or, or_true, false_or, or_false, eq_self, ↓reduceIte, not_true_eq_false, not_false_eq_true, n_toInt, n_cl, nI_1, nI_add, n_a0, n_p2, n_p3, n_p4, n_x2, n_x3, n_x4, n_x60, n_x100, n_pm1, k9L_m2, k9L_m1, k9L_0, k9L_1, k9L_2, k9L_3, k9L_4, k9L_5, k9L_6, k9L_7, k9L_8, k9L_9, k9L_10, k9L_20, k9L_23, k9L_24, k9L_30, k9L_40, k9L_50, k9L_60, k9L_99, k9L_100, k9L_120, k9L_255, k9L_999, k9L_1000, k9_bs, k9_ba, hW.1]) | simp (disch := omega) only [k9e_20_0, k9e_20_14, k9e_20_24, k9e_20_28, k9e_20_32, Nat.reduceEqDiff, Int.reduceEq, Int.reduceLT, Int.reduceLE, k9_ps_s, k9_ps_n, k9_ur, false_and, and_false, true_and, and_true, true_or, or_true, false_or, or_false, eq_self, ↓reduceIte, not_true_eq_false, not_false_eq_true, n_toInt, n_cl, nI_1, nI_add, n_a0, n_p2, n_p3, n_p4, n_x2, n_x3, n_x4, n_x60, n_x100, n_pm1, k9L_m2, k9L_m1, k9L_0, k9L_1, k9L_2, k9L_3, k9L_4, k9L_5, k9L_6, k9L_7, k9L_8, k9L_9, k9L_10, k9L_20, k9L_23, k9L_24, k9L_30, k9L_40, k9L_50, k9L_60, k9L_99, k9L_100, k9L_120, k9L_255, k9L_999, k9L_1000, k9_bs, k9_ba, hW.1])
      rw [if_neg h]
      exact k9o_ret rfl
  · unfold k9_Wl
    simp (disch := omega) only [k9_ur, Nat.reduceEqDiff, false_and, and_false, true_and, and_true, eq_self, ↓reduceIte]
    refine ⟨rfl, rfl, fun h => ?_, rfl, rfl⟩
    rw [if_pos h]
    simp [p_st]
  · exact k9_fx_u (k9_fx_u (k9_fx_u (k9_fx_u (k9_fx_u (k9_fx_u (k9_fx_u (k9_fx_u (k9_fx_u (k9_fx_rf _ _) (k9_Fk_t _)) (k9_Fk_t _)) (k9_Fk_t _)) (k9_Fk_t _)) (k9_Fk_t _)) (k9_Fk_t _)) (k9_Fk_t _)) (k9_Fk_t _)) (k9_Fk_t _)
end KK
