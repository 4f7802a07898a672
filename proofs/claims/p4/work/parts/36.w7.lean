/-! BAR: what is read off what was shown -/
def p_ds (a b : Nat) : Nat := (a - b) + (b - a)
def p_mn (h : Nat → Nat) (c : Nat) : Nat → Nat
  | 0 => 0
  | t + 1 => p_mn h c t + if h t = c then 1 else 0
def p_sg (h : Nat → Nat) (t g : Nat) : Nat := if 0 < t ∧ h t ≠ h (t - 1) then t else g
/-- the longest stand so far: how long, from where; and where this one began -/
def p_sd (h : Nat → Nat) : Nat → Nat × Nat × Nat
  | 0 => (0, 0, 0)
  | t + 1 => (if (p_sd h t).1 < t - p_sg h t (p_sd h t).2.2 + 1 then t - p_sg h t (p_sd h t).2.2 + 1 else (p_sd h t).1, if (p_sd h t).1 < t - p_sg h t (p_sd h t).2.2 + 1 then p_sg h t (p_sd h t).2.2 else (p_sd h t).2.1, p_sg h t (p_sd h t).2.2)
theorem p_sd_b (h : Nat → Nat) : ∀ t, (p_sd h t).1 ≤ t ∧ (p_sd h t).2.1 ≤ t ∧ (p_sd h t).2.2 ≤ t ∧ (0 < t → (p_sd h t).2.1 < t ∧ (p_sd h t).2.2 < t ∧ h (p_sd h t).2.2 = h (t - 1))
  | 0 => ⟨Nat.le_refl _, Nat.le_refl _, Nat.le_refl _, fun h => absurd h (Nat.lt_irrefl _)⟩
  | t + 1 => by
    obtain ⟨h1, h2, h3, h4⟩ := p_sd_b h t
    have hg : p_sg h t (p_sd h t).2.2 ≤ t ∧ h (p_sg h t (p_sd h t).2.2) = h t := by
      unfold p_sg
      by_cases e : 0 < t ∧ h t ≠ h (t - 1)
      · rw [if_pos e]
        exact ⟨Nat.le_refl _, rfl⟩
      · rw [if_neg e]
        refine ⟨h3, ?_⟩
        by_cases e0 : 0 < t
        · rw [(h4 e0).2.2]
          exact (Classical.byContradiction fun z => e ⟨e0, z⟩ : h t = h (t - 1)).symm
        · obtain rfl : t = 0 := by omega
          rfl
    simp only [p_sd]
    refine ⟨?_, ?_, by omega, fun _ => ⟨?_, by omega, hg.2⟩⟩
    all_goals split <;> omega
/-- how far it is off: the greatest, the sum, the second of the greatest -/
def p_of (h tr : Nat → Nat) : Nat → Nat × Nat × Nat
  | 0 => (0, 0, 0)
  | t + 1 => (if (p_of h tr t).1 < p_ds (h t) (tr t) then p_ds (h t) (tr t) else (p_of h tr t).1, (p_of h tr t).2.1 + p_ds (h t) (tr t), if (p_of h tr t).1 < p_ds (h t) (tr t) then t else (p_of h tr t).2.2)
theorem p_of_b {h tr : Nat → Nat} (hh : ∀ t, h t ≤ 100) (ht : ∀ t, tr t ≤ 100) : ∀ t, (p_of h tr t).1 ≤ 100 ∧ (p_of h tr t).2.1 ≤ 100 * t ∧ (p_of h tr t).2.2 ≤ t
  | 0 => ⟨Nat.zero_le _, Nat.le_refl _, Nat.le_refl _⟩
  | t + 1 => by
    obtain ⟨h1, h2, h3⟩ := p_of_b hh ht t
    have h4 : p_ds (h t) (tr t) ≤ 100 := by
      have := hh t
      have := ht t
      unfold p_ds
      omega
    simp only [p_of]
    refine ⟨?_, by omega, ?_⟩
    all_goals split <;> omega
theorem p_ct_b {a b : Nat} (h : b ≤ a) : p_ct a b ≤ 100 := by
  unfold p_ct
  split
  · omega
  · apply Nat.div_le_of_le_mul
    exact Nat.mul_le_mul_right _ h
def p_sp2 (t w : Nat) : Nat := if w = 0 then t else min t w
/-- seconds remaining; -2 where nothing came -/
def p_rm (c : Nat → Nat) (A t w : Nat) : Int32 := if c t - c (t - p_sp2 t w) = 0 then -2 else nI ((p_sp2 t w * (A - c t) + (c t - c (t - p_sp2 t w)) - 1) / (c t - c (t - p_sp2 t w)))
def p_g1 (c : Nat → Nat) (A L t w : Nat) : Nat := if c t - c (t - p_sp2 t w) = 0 then 999 else min 999 (p_ds ((p_sp2 t w * (A - c t) + (c t - c (t - p_sp2 t w)) - 1) / (c t - c (t - p_sp2 t w))) (L - t))
def p_gs (c : Nat → Nat) (A L w : Nat) : Nat → Nat
  | 0 => 0
  | k + 1 => p_gs c A L w k + p_g1 c A L (k + 1) w
def p_se (h : Nat → Nat) : Nat → Nat
  | 0 => 0
  | t + 1 => if h (t + 1) = h t then p_se h t + 1 else 0
def p_dd (h : Nat → Nat) (d : Nat) : Nat → Nat → Int32
  | 0, _ => -2
  | k + 1, t => if d ≤ p_se h t then nI t else p_dd h d k (t + 1)
def p_pl (h : Nat → Nat) : Nat → Int32
  | 0 => 0
  | k + 1 => p_pl h k + (nI (h (k + 1)) - nI (h k)) * nI (k + 1)
def p_fu (h : Nat → Nat) (b : Nat → Int32) (t : Nat) : Nat → Nat → Int32
  | 0, _ => -2
  | k + 1, i => if 999 < t + i ∨ ¬ nI (h (t + i)) = b i then nI i else p_fu h b t k (i + 1)
/-- a bar's length, all bytes, and what it showed -/
def k9_Br (I : k9_I) (i L A : Nat) (h c : Nat → Nat) (f M : Nat) : Prop := I 2 i 4 = nI L ∧ I 2 i 5 = nI A ∧ ∀ t, f ≤ t → t < M → I 25 i t = nI (h t) ∧ I 24 i t = nI (c t)
theorem n_abs {a b : Nat} (ha : a < 1000000000) (hb : b < 1000000000) : (if 0 ≤ nI a - nI b then nI a - nI b else 0 - (nI a - nI b)) = nI (p_ds a b) := by
  unfold p_ds
  by_cases h : b ≤ a
  · rw [n_sub h, if_pos (nI_pos' (by omega)), Nat.sub_eq_zero_of_le h, Nat.add_zero]
  · have h1 : ¬ 0 ≤ nI a - nI b := by
      intro z
      rw [Int32.le_iff_toInt_le, pk_sub_toInt (by omega) (by omega), k9L_0] at z
      omega
    rw [if_neg h1, Nat.sub_eq_zero_of_le (show a ≤ b by omega), Nat.zero_add, ← n_sub (show a ≤ b by omega)]
    have h2 : ∀ x y : Int32, 0 - (x - y) = y - x := by
      intro x y
      rw [Int32.sub_eq_add_neg, Int32.neg_sub]
      exact Int32.zero_add _
    exact h2 _ _
section KB7
variable {S : k9_S} {d : Nat} {I : k9_I} {J : k9_J} {i0 i1 i2 : Nat} {L A f M : Nat} {h c : Nat → Nat}
theorem k9s_56 {t : Nat} (hB : k9_Br I i0 L A h c f M) (h1 : f ≤ t) (h2 : t < M) (hM : M ≤ 1000) : k9_R S d 56 0 [some (k9_r 2 i0), some (k9_i (nI t))] [] I J = some (some (k9_i (nI (h t))), I, J) := by
  obtain ⟨a, b⟩ := hB.2.2 t h1 h2
  refine k9o_of ?_
  simp (disch := omega) only [k9e_56_0, k9e_56_2, k9e_56_5, k9e_56_9, k9e_56_10, k9e_56_11, Nat.reduceEqDiff, Int.reduceEq, Int.reduceLT, Int.reduceLE, k9_ps_s, k9_ps_n, k9_ur, false_and, and_false, true_and, and_true, true_or, or_true, false_or, or_false, eq_self, ↓reduceIte, not_true_eq_false, not_false_eq_true, n_toInt, n_cl, nI_1, nI_add, n_a0, n_p2, n_p3, n_p4, n_x2, n_x3, n_x4, n_x60, n_x100, n_pm1, k9L_m2, k9L_m1, k9L_0, k9L_1, k9L_2, k9L_3, k9L_4, k9L_5, k9L_6, k9L_7, k9L_8, k9L_9, k9L_10, k9L_20, k9L_23, k9L_24, k9L_30, k9L_40, k9L_50, k9L_60, k9L_99, k9L_100, k9L_120, k9L_255, k9L_999, k9L_1000, k9_bs, k9_ba, a]
  repeat (first | ((with_reducible refine k9q_T ?_ ?_); · omega) | ((with_reducible refine k9q_F ?_ ?_); · omega) | ((with_reducible refine k9q_Tb ?_ ?_); · omega) | ((with_reducible refine k9q_Fb ?_ ?_); · omega) | simp (disch := omega) only [k9e_56_0, k9e_56_2, k9e_56_5, k9e_56_9, k9e_56_10, k9e_56_11, Nat.reduceEqDiff, Int.reduceEq, Int.reduceLT, Int.reduceLE, k9_ps_s, k9_ps_n, k9_ur, false_and, and_false, true_and, and_true, true_or, or_true, false_or, or_false, eq_self, ↓reduceIte, not_true_eq_false, not_false_eq_true, n_toInt, n_cl, nI_1, nI_add, n_a0, n_p2, n_p3, n_p4, n_x2, n_x3, n_x4, n_x60, n_x100, n_pm1, k9L_m2, k9L_m1, k9L_0, k9L_1, k9L_2, k9L_3, k9L_4, k9L_5, k9L_6, k9L_7, k9L_8, k9L_9, k9L_10, k9L_20, k9L_23, k9L_24, k9L_30, k9L_40, k9L_50, k9L_60, k9L_99, k9L_100, k9L_120, k9L_255, k9L_999, k9L_1000, k9_bs, k9_ba, a])
  exact k9o_ret rfl
theorem k9s_57 {t : Nat} (hB : k9_Br I i0 L A h c f M) (h1 : f ≤ t) (h2 : t < M) (hM : M ≤ 1000) : k9_R S d 57 0 [some (k9_r 2 i0), some (k9_i (nI t))] [] I J = some (some (k9_i (nI (c t))), I, J) := by
  obtain ⟨a, b⟩ := hB.2.2 t h1 h2
  refine k9o_of ?_
  simp (disch := omega) only [k9e_57_0, k9e_57_2, k9e_57_5, k9e_57_9, k9e_57_10, k9e_57_11, Nat.reduceEqDiff, Int.reduceEq, Int.reduceLT, Int.reduceLE, k9_ps_s, k9_ps_n, k9_ur, false_and, and_false, true_and, and_true, true_or, or_true, false_or, or_false, eq_self, ↓reduceIte, not_true_eq_false, not_false_eq_true, n_toInt, n_cl, nI_1, nI_add, n_a0, n_p2, n_p3, n_p4, n_x2, n_x3, n_x4, n_x60, n_x100, n_pm1, k9L_m2, k9L_m1, k9L_0, k9L_1, k9L_2, k9L_3, k9L_4, k9L_5, k9L_6, k9L_7, k9L_8, k9L_9, k9L_10, k9L_20, k9L_23, k9L_24, k9L_30, k9L_40, k9L_50, k9L_60, k9L_99, k9L_100, k9L_120, k9L_255, k9L_999, k9L_1000, k9_bs, k9_ba, b]
  repeat (first | ((with_reducible refine k9q_T ?_ ?_); · omega) | ((with_reducible refine k9q_F ?_ ?_); · omega) | ((with_reducible refine k9q_Tb ?_ ?_); · omega) | ((with_reducible refine k9q_Fb ?_ ?_); · omega) | simp (disch := omega) only [k9e_57_0, k9e_57_2, k9e_57_5, k9e_57_9, k9e_57_10, k9e_57_11, Nat.reduceEqDiff, Int.reduceEq, Int.reduceLT, Int.reduceLE, k9_ps_s, k9_ps_n, k9_ur, false_and, and_false, true_and, and_true, true_or, or_true, false_or, or_false, eq_self, ↓reduceIte, not_true_eq_false, not_false_eq_true, n_toInt, n_cl, nI_1, nI_add, n_a0, n_p2, n_p3, n_p4, n_x2, n_x3, n_x4, n_x60, n_x100, n_pm1, k9L_m2, k9L_m1, k9L_0, k9L_1, k9L_2, k9L_3, k9L_4, k9L_5, k9L_6, k9L_7, k9L_8, k9L_9, k9L_10, k9L_20, k9L_23, k9L_24, k9L_30, k9L_40, k9L_50, k9L_60, k9L_99, k9L_100, k9L_120, k9L_255, k9L_999, k9L_1000, k9_bs, k9_ba, b])
  exact k9o_ret rfl
theorem k9s_59 {x : Nat} (hB : k9_Br I i0 L A h c 0 M) (hL : L < M) (hM : M ≤ 1000) (hx : x ≤ 1000) (hh : ∀ t, h t ≤ 100) : k9_R S d 59 0 [some (k9_r 2 i0), some (k9_i (nI x)), none, none] [] I J = some (some (k9_i (nI (p_mn h x (L + 1)))), I, J) := by
  have key : ∀ k t, t + k = L + 1 → k9_R S d 59 4 [some (k9_r 2 i0), some (k9_i (nI x)), some (k9_i (nI (p_mn h x t))), some (k9_i (nI t))] [] I J = some (some (k9_i (nI (p_mn h x (L + 1)))), I, J) := by
    intro k
    induction k with
    | zero =>
      intro t ht
      obtain rfl : t = L + 1 := by omega
      refine k9o_of (k9o_eq k9e_59_4 ?_)
      simp (disch := omega) only [k9e_59_0, k9e_59_8, k9e_59_11, k9e_59_16, k9e_59_18, k9e_59_20, k9e_59_21, k9e_59_25, Nat.reduceEqDiff, Int.reduceEq, Int.reduceLT, Int.reduceLE, k9_ps_s, k9_ps_n, k9_ur, false_and, and_false, true_and, and_true, true_or, or_true, false_or, or_false, eq_self, ↓reduceIte, not_true_eq_false, not_false_eq_true, n_toInt, n_cl, nI_1, nI_add, n_a0, n_p2, n_p3, n_p4, n_x2, n_x3, n_x4, n_x60, n_x100, n_pm1, k9L_m2, k9L_m1, k9L_0, k9L_1, k9L_2, k9L_3, k9L_4, k9L_5, k9L_6, k9L_7, k9L_8, k9L_9, k9L_10, k9L_20, k9L_23, k9L_24, k9L_30, k9L_40, k9L_50, k9L_60, k9L_99, k9L_100, k9L_120, k9L_255, k9L_999, k9L_1000, k9_bs, k9_ba, hB.1]
      repeat (first | ((with_reducible refine k9q_T ?_ ?_); · omega) | ((with_reducible refine k9q_F ?_ ?_); · omega) | ((with_reducible refine k9q_Tb ?_ ?_); · omega) | ((with_reducible refine k9q_Fb ?_ ?_); · omega) | simp (disch := omega) only [k9e_59_0, k9e_59_8, k9e_59_11, k9e_59_16, k9e_59_18, k9e_59_20, k9e_59_21, k9e_59_25, Nat.reduceEqDiff, Int.reduceEq, Int.reduceLT, Int.reduceLE, k9_ps_s, k9_ps_n, k9_ur, false_and, and_false, true_and, and_true, true_or, or_true, false_or, or_false, eq_self, ↓reduceIte, not_true_eq_false, not_false_eq_true, n_toInt, n_cl, nI_1, nI_add, n_a0, n_p2, n_p3, n_p4, n_x2, n_x3, n_x4, n_x60, n_x100, n_pm1, k9L_m2, k9L_m1, k9L_0, k9L_1, k9L_2, k9L_3, k9L_4, k9L_5, k9L_6, k9L_7, k9L_8, k9L_9, k9L_10, k9L_20, k9L_23, k9L_24, k9L_30, k9L_40, k9L_50, k9L_60, k9L_99, k9L_100, k9L_120, k9L_255, k9L_999, k9L_1000, k9_bs, k9_ba, hB.1])
      exact k9o_ret rfl
    | succ k ih =>
      intro t ht
      have e := ih (t + 1) (by omega)
      rw [p_mn] at e
      have a := (hB.2.2 t (Nat.zero_le _) (by omega)).1
      have b := hh t
      refine k9o_of (k9o_eq k9e_59_4 ?_)
      by_cases hc : h t = x
      · rw [if_pos hc] at e
        simp (disch := omega) only [k9e_59_0, k9e_59_8, k9e_59_11, k9e_59_16, k9e_59_18, k9e_59_20, k9e_59_21, k9e_59_25, Nat.reduceEqDiff, Int.reduceEq, Int.reduceLT, Int.reduceLE, k9_ps_s, k9_ps_n, k9_ur, false_and, and_false, true_and, and_true, true_or, or_true, false_or, or_false, eq_self, ↓reduceIte, not_true_eq_false, not_false_eq_true, n_toInt, n_cl, nI_1, nI_add, n_a0, n_p2, n_p3, n_p4, n_x2, n_x3, n_x4, n_x60, n_x100, n_pm1, k9L_m2, k9L_m1, k9L_0, k9L_1, k9L_2, k9L_3, k9L_4, k9L_5, k9L_6, k9L_7, k9L_8, k9L_9, k9L_10, k9L_20, k9L_23, k9L_24, k9L_30, k9L_40, k9L_50, k9L_60, k9L_99, k9L_100, k9L_120, k9L_255, k9L_999, k9L_1000, k9_bs, k9_ba, hB.1, a]
        repeat (first | ((with_reducible refine k9q_T ?_ ?_); · omega) | ((with_reducible refine k9q_F ?_ ?_); · omega) | ((with_reducible refine k9q_Tb ?_ ?_); · omega) | ((with_reducible refine k9q_Fb ?_ ?_); · omega) | simp (disch := omega) only [k9e_59_0, k9e_59_8, k9e_59_11, k9e_59_16, k9e_59_18, k9e_59_20, k9e_59_21, k9e_59_25, Nat.reduceEqDiff, Int.reduceEq, Int.reduceLT, Int.reduceLE, k9_ps_s, k9_ps_n, k9_ur, false_and, and_false, true_and, and_true, true_or, or_true, false_or, or_false, eq_self, ↓reduceIte, not_true_eq_false, not_false_eq_true, n_toInt, n_cl, nI_1, nI_add, n_a0, n_p2, n_p3, n_p4, n_x2, n_x3, n_x4, n_x60, n_x100, n_pm1, k9L_m2, k9L_m1, k9L_0, k9L_1, k9L_2, k9L_3, k9L_4, k9L_5, k9L_6, k9L_7, k9L_8, k9L_9, k9L_10, k9L_20, k9L_23, k9L_24, k9L_30, k9L_40, k9L_50, k9L_60, k9L_99, k9L_100, k9L_120, k9L_255, k9L_999, k9L_1000, k9_bs, k9_ba, hB.1, a])
        exact k9o_to e rfl
      · rw [if_neg hc] at e
        simp (disch := omega) only [k9e_59_0, k9e_59_8, k9e_59_11, k9e_59_16, k9e_59_18, k9e_59_20, k9e_59_21, k9e_59_25, Nat.reduceEqDiff, Int.reduceEq, Int.reduceLT, Int.reduceLE, k9_ps_s, k9_ps_n, k9_ur, false_and, and_false, true_and, and_true, true_or, or_true, false_or, or_false, eq_self, ↓reduceIte, not_true_eq_false, not_false_eq_true, n_toInt, n_cl, nI_1, nI_add, n_a0, n_p2, n_p3, n_p4, n_x2, n_x3, n_x4, n_x60, n_x100, n_pm1, k9L_m2, k9L_m1, k9L_0, k9L_1, k9L_2, k9L_3, k9L_4, k9L_5, k9L_6, k9L_7, k9L_8, k9L_9, k9L_10, k9L_20, k9L_23, k9L_24, k9L_30, k9L_40, k9L_50, k9L_60, k9L_99, k9L_100, k9L_120, k9L_255, k9L_999, k9L_1000, k9_bs, k9_ba, hB.1, a]
        repeat (first | ((with_reducible refine k9q_T ?_ ?_); · omega) | ((with_reducible refine k9q_F ?_ ?_); · omega) | ((with_reducible refine k9q_Tb ?_ ?_); · omega) | ((with_reducible refine k9q_Fb ?_ ?_); · omega) | simp (disch := omega) only [k9e_59_0, k9e_59_8, k9e_59_11, k9e_59_16, k9e_59_18, k9e_59_20, k9e_59_21, k9e_59_25, Nat.reduceEqDiff, Int.reduceEq, Int.reduceLT, Int.reduceLE, k9_ps_s, k9_ps_n, k9_ur, false_and, and_false, true_and, and_true, true_or, or_true, false_or, or_false, eq_self, ↓reduceIte, not_true_eq_false, not_false_eq_true, n_toInt, n_cl, nI_1, nI_add, n_a0, n_p2, n_p3, n_p4, n_x2, n_x3, n_x4, n_x60, n_x100, n_pm1, k9L_m2, k9L_m1, k9L_0, k9L_1, k9L_2, k9L_3, k9L_4, k9L_5, k9L_6, k9L_7, k9L_8, k9L_9, k9L_10, k9L_20, k9L_23, k9L_24, k9L_30, k9L_40, k9L_50, k9L_60, k9L_99, k9L_100, k9L_120, k9L_255, k9L_999, k9L_1000, k9_bs, k9_ba, hB.1, a])
        exact k9o_to e rfl
  rw [k9e_59_0]
  exact key (L + 1) 0 (by omega)
theorem k9s_60 {x : Int32} {N q : Nat} (hB : k9_Br I i0 L A h c 0 M) (hx : x.toInt = (N : Int) - 1) (hN : N ≤ M) (hM : M ≤ 1000) (hM1 : 1 ≤ M) (hh : ∀ t, h t ≤ 100) (hq : q ≤ 2) : k9_R S (d + 1) 60 0 [some (k9_r 2 i0), some (k9_i (nI q)), some (k9_i x), none, none, none, none] [] I J = some (some (k9_i (nI (if q = 0 then (p_sd h N).1 else if q = 1 then (p_sd h N).2.1 else h (p_sd h N).2.1))), I, J) := by
  have key : ∀ k t, t + k = N → k9_R S (d + 1) 60 8 [some (k9_r 2 i0), some (k9_i (nI q)), some (k9_i x), some (k9_i (nI (p_sd h t).1)), some (k9_i (nI (p_sd h t).2.1)), some (k9_i (nI (p_sd h t).2.2)), some (k9_i (nI t))] [] I J = some (some (k9_i (nI (if q = 0 then (p_sd h N).1 else if q = 1 then (p_sd h N).2.1 else h (p_sd h N).2.1))), I, J) := by
    intro k
    induction k with
    | zero =>
      intro t ht
      obtain rfl : t = N := by omega
      have hb := p_sd_b h t
      refine k9o_of (k9o_eq k9e_60_8 ?_)
      have hq3 : q = 0 ∨ q = 1 ∨ q = 2 := by omega
      rcases hq3 with rfl | rfl | rfl
      · simp (disch := omega) only [k9e_60_0, k9e_60_11, k9e_60_14, k9e_60_16, k9e_60_20, k9e_60_26, k9e_60_27, k9e_60_29, k9e_60_36, k9e_60_44, k9e_60_46, k9e_60_48, k9e_60_50, k9e_60_53, k9e_60_55, k9e_60_58, Nat.reduceEqDiff, Int.reduceEq, Int.reduceLT, Int.reduceLE, k9_ps_s, k9_ps_n, k9_ur, false_and, and_false, true_and, and_true, true_or, or_true, false_or, or_false, eq_self, ↓reduceIte, not_true_eq_false, not_false_eq_true, n_toInt, n_cl, nI_1, nI_add, n_a0, n_p2, n_p3, n_p4, n_x2, n_x3, n_x4, n_x60, n_x100, n_pm1, k9L_m2, k9L_m1, k9L_0, k9L_1, k9L_2, k9L_3, k9L_4, k9L_5, k9L_6, k9L_7, k9L_8, k9L_9, k9L_10, k9L_20, k9L_23, k9L_24, k9L_30, k9L_40, k9L_50, k9L_60, k9L_99, k9L_100, k9L_120, k9L_255, k9L_999, k9L_1000, k9_bs, k9_ba]
        repeat (first | ((with_reducible refine k9q_T ?_ ?_); · omega) | ((with_reducible refine k9q_F ?_ ?_); · omega) | ((with_reducible refine k9q_Tb ?_ ?_); · omega) | ((with_reducible refine k9q_Fb ?_ ?_); · omega) | simp (disch := omega) only [k9e_60_0, k9e_60_11, k9e_60_14, k9e_60_16, k9e_60_20, k9e_60_26, k9e_60_27, k9e_60_29, k9e_60_36, k9e_60_44, k9e_60_46, k9e_60_48, k9e_60_50, k9e_60_53, k9e_60_55, k9e_60_58, Nat.reduceEqDiff, Int.reduceEq, Int.reduceLT, Int.reduceLE, k9_ps_s, k9_ps_n, k9_ur, false_and, and_false, true_and, and_true, true_or, or_true, false_or, or_false, eq_self, ↓reduceIte, not_true_eq_false, not_false_eq_true, n_toInt, n_cl, nI_1, nI_add, n_a0, n_p2, n_p3, n_p4, n_x2, n_x3, n_x4, n_x60, n_x100, n_pm1, k9L_m2, k9L_m1, k9L_0, k9L_1, k9L_2, k9L_3, k9L_4, k9L_5, k9L_6, k9L_7, k9L_8, k9L_9, k9L_10, k9L_20, k9L_23, k9L_24, k9L_30, k9L_40, k9L_50, k9L_60, k9L_99, k9L_100, k9L_120, k9L_255, k9L_999, k9L_1000, k9_bs, k9_ba])
        exact k9o_ret rfl
      · simp (disch := omega) only [k9e_60_0, k9e_60_11, k9e_60_14, k9e_60_16, k9e_60_20, k9e_60_26, k9e_60_27, k9e_60_29, k9e_60_36, k9e_60_44, k9e_60_46, k9e_60_48, k9e_60_50, k9e_60_53, k9e_60_55, k9e_60_58, Nat.reduceEqDiff, Int.reduceEq, Int.reduceLT, Int.reduceLE, k9_ps_s, k9_ps_n, k9_ur, false_and, and_false, true_and, and_true, true_or, or_true, false_or, or_false, eq_self, ↓reduceIte, not_true_eq_false, not_false_eq_true, n_toInt, n_cl, nI_1, nI_add, n_a0, n_p2, n_p3, n_p4, n_x2, n_x3, n_x4, n_x60, n_x100, n_pm1, k9L_m2, k9L_m1, k9L_0, k9L_1, k9L_2, k9L_3, k9L_4, k9L_5, k9L_6, k9L_7, k9L_8, k9L_9, k9L_10, k9L_20, k9L_23, k9L_24, k9L_30, k9L_40, k9L_50, k9L_60, k9L_99, k9L_100, k9L_120, k9L_255, k9L_999, k9L_1000, k9_bs, k9_ba]
        repeat (first | ((with_reducible refine k9q_T ?_ ?_); · omega) | ((with_reducible refine k9q_F ?_ ?_); · omega) | ((with_reducible refine k9q_Tb ?_ ?_); · omega) | ((with_reducible refine k9q_Fb ?_ ?_); · omega) | simp (disch := omega) only [k9e_60_0, k9e_60_11, k9e_60_14, k9e_60_16, k9e_60_20, k9e_60_26, k9e_60_27, k9e_60_29, k9e_60_36, k9e_60_44, k9e_60_46, k9e_60_48, k9e_60_50, k9e_60_53, k9e_60_55, k9e_60_58, Nat.reduceEqDiff, Int.reduceEq, Int.reduceLT, Int.reduceLE, k9_ps_s, k9_ps_n, k9_ur, false_and, and_false, true_and, and_true, true_or, or_true, false_or, or_false, eq_self, ↓reduceIte, not_true_eq_false, not_false_eq_true, n_toInt, n_cl, nI_1, nI_add, n_a0, n_p2, n_p3, n_p4, n_x2, n_x3, n_x4, n_x60, n_x100, n_pm1, k9L_m2, k9L_m1, k9L_0, k9L_1, k9L_2, k9L_3, k9L_4, k9L_5, k9L_6, k9L_7, k9L_8, k9L_9, k9L_10, k9L_20, k9L_23, k9L_24, k9L_30, k9L_40, k9L_50, k9L_60, k9L_99, k9L_100, k9L_120, k9L_255, k9L_999, k9L_1000, k9_bs, k9_ba])
        exact k9o_ret rfl
      · simp (disch := omega) only [k9e_60_0, k9e_60_11, k9e_60_14, k9e_60_16, k9e_60_20, k9e_60_26, k9e_60_27, k9e_60_29, k9e_60_36, k9e_60_44, k9e_60_46, k9e_60_48, k9e_60_50, k9e_60_53, k9e_60_55, k9e_60_58, Nat.reduceEqDiff, Int.reduceEq, Int.reduceLT, Int.reduceLE, k9_ps_s, k9_ps_n, k9_ur, false_and, and_false, true_and, and_true, true_or, or_true, false_or, or_false, eq_self, ↓reduceIte, not_true_eq_false, not_false_eq_true, n_toInt, n_cl, nI_1, nI_add, n_a0, n_p2, n_p3, n_p4, n_x2, n_x3, n_x4, n_x60, n_x100, n_pm1, k9L_m2, k9L_m1, k9L_0, k9L_1, k9L_2, k9L_3, k9L_4, k9L_5, k9L_6, k9L_7, k9L_8, k9L_9, k9L_10, k9L_20, k9L_23, k9L_24, k9L_30, k9L_40, k9L_50, k9L_60, k9L_99, k9L_100, k9L_120, k9L_255, k9L_999, k9L_1000, k9_bs, k9_ba]
        repeat (first | ((with_reducible refine k9q_T ?_ ?_); · omega) | ((with_reducible refine k9q_F ?_ ?_); · omega) | ((with_reducible refine k9q_Tb ?_ ?_); · omega) | ((with_reducible refine k9q_Fb ?_ ?_); · omega) | (refine k9o_call (k9s_56 hB (Nat.zero_le _) (by omega) hM) ?_; simp (disch := omega) only [k9e_60_0, k9e_60_11, k9e_60_14, k9e_60_16, k9e_60_20, k9e_60_26, k9e_60_27, k9e_60_29, k9e_60_36, k9e_60_44, k9e_60_46, k9e_60_48, k9e_60_50, k9e_60_53, k9e_60_55, k9e_60_58, Nat.reduceEqDiff, Int.reduceEq, Int.reduceLT, Int.reduceLE, k9_ps_s, k9_ps_n, k9_ur, false_and, and_false, true_and, and_true, true_or, or_true, false_or, or_false, eq_self, ↓reduceIte, not_true_eq_false, not_false_eq_true, n_toInt, n_cl, nI_1, nI_add, n_a0, n_p2, n_p3, n_p4, n_x2, n_x3, n_x4, n_x60, n_x100, n_pm1, k9L_m2, k9L_m1, k9L_0, k9L_1, k9L_2, k9L_3, k9L_4, k9L_5, k9L_6, k9L_7, k9L_8, k9L_9, k9L_10, k9L_20, k9L_23, k9L_24, k9L_30, k9L_40, k9L_50, k9L_60, k9L_99, k9L_100, k9L_120, k9L_255, k9L_999, k9L_1000, k9_bs, k9_ba]) | simp (disch := omega) only [k9e_60_0, k9e_60_11, k9e_60_14, k9e_60_16, k9e_60_20, k9e_60_26, k9e_60_27, k9e_60_29, k9e_60_36, k9e_60_44, k9e_60_46, k9e_60_48, k9e_60_50, k9e_60_53, k9e_60_55, k9e_60_58, Nat.reduceEqDiff, Int.reduceEq, Int.reduceLT, Int.reduceLE, k9_ps_s, k9_ps_n, k9_ur, false_and, and_false, true_and, and_true, true_or, or_true, false_or, or_false, eq_self, ↓reduceIte, not_true_eq_false, not_false_eq_true, n_toInt, n_cl, nI_1, nI_add, n_a0, n_p2, n_p3, n_p4, n_x2, n_x3, n_x4, n_x60, n_x100, n_pm1, k9L_m2, k9L_m1, k9L_0, k9L_1, k9L_2, k9L_3, k9L_4, k9L_5, k9L_6, k9L_7, k9L_8, k9L_9, k9L_10, k9L_20, k9L_23, k9L_24, k9L_30, k9L_40, k9L_50, k9L_60, k9L_99, k9L_100, k9L_120, k9L_255, k9L_999, k9L_1000, k9_bs, k9_ba])
        exact k9o_ret rfl
    | succ k ih =>
      intro t ht
      have e := ih (t + 1) (by omega)
      have hb := p_sd_b h t
      have a := (hB.2.2 t (Nat.zero_le _) (by omega)).1
      have b := hh t
      -- behind the place where this stand began
      have rest : ∀ g : Nat, g = p_sg h t (p_sd h t).2.2 → g ≤ t → k9_ok (k9_R S (d + 1) 60 29 [some (k9_r 2 i0), some (k9_i (nI q)), some (k9_i x), some (k9_i (nI (p_sd h t).1)), some (k9_i (nI (p_sd h t).2.1)), some (k9_i (nI g)), some (k9_i (nI t))] [] I J) (fun q' => q' = (some (k9_i (nI (if q = 0 then (p_sd h N).1 else if q = 1 then (p_sd h N).2.1 else h (p_sd h N).2.1))), I, J)) := by
        intro g hg hgt
        rw [p_sd] at e
        simp only [] at e
        rw [← hg] at e
        refine k9o_eq k9e_60_29 ?_
        by_cases hc : (p_sd h t).1 < t - g + 1
        · rw [if_pos hc, if_pos hc] at e
          simp (disch := omega) only [k9e_60_0, k9e_60_11, k9e_60_14, k9e_60_16, k9e_60_20, k9e_60_26, k9e_60_27, k9e_60_29, k9e_60_36, k9e_60_44, k9e_60_46, k9e_60_48, k9e_60_50, k9e_60_53, k9e_60_55, k9e_60_58, Nat.reduceEqDiff, Int.reduceEq, Int.reduceLT, Int.reduceLE, k9_ps_s, k9_ps_n, k9_ur, false_and, and_false, true_and, and_true, true_or, or_true, false_or, or_false, eq_self, ↓reduceIte, not_true_eq_false, not_false_eq_true, n_toInt, n_cl, nI_1, nI_add, n_a0, n_p2, n_p3, n_p4, n_x2, n_x3, n_x4, n_x60, n_x100, n_pm1, k9L_m2, k9L_m1, k9L_0, k9L_1, k9L_2, k9L_3, k9L_4, k9L_5, k9L_6, k9L_7, k9L_8, k9L_9, k9L_10, k9L_20, k9L_23, k9L_24, k9L_30, k9L_40, k9L_50, k9L_60, k9L_99, k9L_100, k9L_120, k9L_255, k9L_999, k9L_1000, k9_bs, k9_ba, n_sub]
          repeat (first | ((with_reducible refine k9q_T ?_ ?_); · omega) | ((with_reducible refine k9q_F ?_ ?_); · omega) | ((with_reducible refine k9q_Tb ?_ ?_); · omega) | ((with_reducible refine k9q_Fb ?_ ?_); · omega))
          exact k9o_to e rfl
        · rw [if_neg hc, if_neg hc] at e
          simp (disch := omega) only [k9e_60_0, k9e_60_11, k9e_60_14, k9e_60_16, k9e_60_20, k9e_60_26, k9e_60_27, k9e_60_29, k9e_60_36, k9e_60_44, k9e_60_46, k9e_60_48, k9e_60_50, k9e_60_53, k9e_60_55, k9e_60_58, Nat.reduceEqDiff, Int.reduceEq, Int.reduceLT, Int.reduceLE, k9_ps_s, k9_ps_n, k9_ur, false_and, and_false, true_and, and_true, true_or, or_true, false_or, or_false, eq_self, ↓reduceIte, not_true_eq_false, not_false_eq_true, n_toInt, n_cl, nI_1, nI_add, n_a0, n_p2, n_p3, n_p4, n_x2, n_x3, n_x4, n_x60, n_x100, n_pm1, k9L_m2, k9L_m1, k9L_0, k9L_1, k9L_2, k9L_3, k9L_4, k9L_5, k9L_6, k9L_7, k9L_8, k9L_9, k9L_10, k9L_20, k9L_23, k9L_24, k9L_30, k9L_40, k9L_50, k9L_60, k9L_99, k9L_100, k9L_120, k9L_255, k9L_999, k9L_1000, k9_bs, k9_ba, n_sub]
          repeat (first | ((with_reducible refine k9q_T ?_ ?_); · omega) | ((with_reducible refine k9q_F ?_ ?_); · omega) | ((with_reducible refine k9q_Tb ?_ ?_); · omega) | ((with_reducible refine k9q_Fb ?_ ?_); · omega))
          exact k9o_to e rfl
      refine k9o_of (k9o_eq k9e_60_8 ?_)
      refine k9o_F (by rw [n_toInt (by omega)]; omega) (k9o_eq k9e_60_11 ?_)
      refine k9o_F (by rw [n_toInt (by omega)]; omega) (k9o_eq k9e_60_14 ?_)
      by_cases h0 : 0 < t
      · have a' := (hB.2.2 (t - 1) (Nat.zero_le _) (by omega)).1
        have b' := hh (t - 1)
        refine k9o_F (by rw [n_toInt (by omega)]; omega) (k9o_eq k9e_60_16 ?_)
        refine k9o_T (by rw [n_toInt (by omega)]; omega) (k9o_eq k9e_60_20 ?_)
        rw [n_s1 (by omega)]
        refine k9o_T (by rw [n_toInt (by omega)]; omega) (k9o_eq k9e_60_26 ?_)
        rw [n_cl (by omega), n_cl (by omega), a, a']
        by_cases hc : h t = h (t - 1)
        · refine k9o_T (by rw [hc]) ?_
          exact rest _ (by rw [p_sg, if_neg (fun z => z.2 hc)]) (by omega)
        · refine k9o_F (by rw [n_toInt (by omega), n_toInt (by omega)]; omega) (k9o_eq k9e_60_27 ?_)
          exact rest _ (by rw [p_sg, if_pos ⟨h0, hc⟩]) (by omega)
      · refine k9o_T (by rw [n_toInt (by omega)]; omega) ?_
        exact rest _ (by rw [p_sg, if_neg (fun z => h0 z.1)]) (by omega)
  rw [k9e_60_0]
  exact key N 0 (by omega)
theorem k9s_61 {q : Nat} (hB : k9_Br I i0 L A h c 0 M) (hL : L < M) (hM : M ≤ 1000) (hh : ∀ t, h t ≤ 100) (hq : q ≤ 2) : k9_R S (d + 2) 61 0 [some (k9_r 2 i0), some (k9_i (nI q)), none, none, none, none, none] [] I J = some (some (k9_i (nI (if q = 0 then (p_of h (fun t => p_ct L (min t L)) (L + 1)).1 else if q = 1 then (p_of h (fun t => p_ct L (min t L)) (L + 1)).2.1 else (p_of h (fun t => p_ct L (min t L)) (L + 1)).2.2))), I, J) := by
  have key : ∀ k t, t + k = L + 1 → k9_R S (d + 2) 61 8 [some (k9_r 2 i0), some (k9_i (nI q)), some (k9_i (nI (p_of h (fun t => p_ct L (min t L)) t).1)), some (k9_i (nI (p_of h (fun t => p_ct L (min t L)) t).2.1)), some (k9_i (nI (p_of h (fun t => p_ct L (min t L)) t).2.2)), some (k9_i (nI t)), none] [] I J = some (some (k9_i (nI (if q = 0 then (p_of h (fun t => p_ct L (min t L)) (L + 1)).1 else if q = 1 then (p_of h (fun t => p_ct L (min t L)) (L + 1)).2.1 else (p_of h (fun t => p_ct L (min t L)) (L + 1)).2.2))), I, J) := by
    intro k
    induction k with
    | zero =>
      intro t ht
      obtain rfl : t = L + 1 := by omega
      refine k9o_of (k9o_eq k9e_61_8 ?_)
      have hq3 : q = 0 ∨ q = 1 ∨ q = 2 := by omega
      rcases hq3 with rfl | rfl | rfl
      all_goals simp (disch := omega) only [k9e_61_0, k9e_61_12, k9e_61_15, k9e_61_19, k9e_61_23, k9e_61_33, k9e_61_37, k9e_61_39, k9e_61_41, k9e_61_43, k9e_61_46, k9e_61_48, k9e_61_49, Nat.reduceEqDiff, Int.reduceEq, Int.reduceLT, Int.reduceLE, k9_ps_s, k9_ps_n, k9_ur, false_and, and_false, true_and, and_true, true_or, or_true, false_or, or_false, eq_self, ↓reduceIte, not_true_eq_false, not_false_eq_true, n_toInt, n_cl, nI_1, nI_add, n_a0, n_p2, n_p3, n_p4, n_x2, n_x3, n_x4, n_x60, n_x100, n_pm1, k9L_m2, k9L_m1, k9L_0, k9L_1, k9L_2, k9L_3, k9L_4, k9L_5, k9L_6, k9L_7, k9L_8, k9L_9, k9L_10, k9L_20, k9L_23, k9L_24, k9L_30, k9L_40, k9L_50, k9L_60, k9L_99, k9L_100, k9L_120, k9L_255, k9L_999, k9L_1000, k9_bs, k9_ba, hB.1]
      all_goals repeat (first | ((with_reducible refine k9q_T ?_ ?_); · omega) | ((with_reducible refine k9q_F ?_ ?_); · omega) | ((with_reducible refine k9q_Tb ?_ ?_); · omega) | ((with_reducible refine k9q_Fb ?_ ?_); · omega) | simp (disch := omega) only [k9e_61_0, k9e_61_12, k9e_61_15, k9e_61_19, k9e_61_23, k9e_61_33, k9e_61_37, k9e_61_39, k9e_61_41, k9e_61_43, k9e_61_46, k9e_61_48, k9e_61_49, Nat.reduceEqDiff, Int.reduceEq, Int.reduceLT, Int.reduceLE, k9_ps_s, k9_ps_n, k9_ur, false_and, and_false, true_and, and_true, true_or, or_true, false_or, or_false, eq_self, ↓reduceIte, not_true_eq_false, not_false_eq_true, n_toInt, n_cl, nI_1, nI_add, n_a0, n_p2, n_p3, n_p4, n_x2, n_x3, n_x4, n_x60, n_x100, n_pm1, k9L_m2, k9L_m1, k9L_0, k9L_1, k9L_2, k9L_3, k9L_4, k9L_5, k9L_6, k9L_7, k9L_8, k9L_9, k9L_10, k9L_20, k9L_23, k9L_24, k9L_30, k9L_40, k9L_50, k9L_60, k9L_99, k9L_100, k9L_120, k9L_255, k9L_999, k9L_1000, k9_bs, k9_ba, hB.1])
      all_goals exact k9o_ret rfl
    | succ k ih =>
      intro t ht
      have e := ih (t + 1) (by omega)
      have hct : p_ct L (min t L) ≤ 100 := p_ct_b (Nat.min_le_right _ _)
      have hb := p_of_b hh (fun t => p_ct_b (Nat.min_le_right t L)) t
      have a := (hB.2.2 t (Nat.zero_le _) (by omega)).1
      have b := hh t
      have hds : p_ds (h t) (p_ct L (min t L)) ≤ 100 := by
        unfold p_ds
        omega
      rw [p_of] at e
      simp only [] at e
      refine k9o_of (k9o_eq k9e_61_8 ?_)
      simp (disch := omega) only [k9e_61_0, k9e_61_12, k9e_61_15, k9e_61_19, k9e_61_23, k9e_61_33, k9e_61_37, k9e_61_39, k9e_61_41, k9e_61_43, k9e_61_46, k9e_61_48, k9e_61_49, Nat.reduceEqDiff, Int.reduceEq, Int.reduceLT, Int.reduceLE, k9_ps_s, k9_ps_n, k9_ur, false_and, and_false, true_and, and_true, true_or, or_true, false_or, or_false, eq_self, ↓reduceIte, not_true_eq_false, not_false_eq_true, n_toInt, n_cl, nI_1, nI_add, n_a0, n_p2, n_p3, n_p4, n_x2, n_x3, n_x4, n_x60, n_x100, n_pm1, k9L_m2, k9L_m1, k9L_0, k9L_1, k9L_2, k9L_3, k9L_4, k9L_5, k9L_6, k9L_7, k9L_8, k9L_9, k9L_10, k9L_20, k9L_23, k9L_24, k9L_30, k9L_40, k9L_50, k9L_60, k9L_99, k9L_100, k9L_120, k9L_255, k9L_999, k9L_1000, k9_bs, k9_ba, hB.1, a, n_abs]
      repeat (first | ((with_reducible refine k9q_T ?_ ?_); · omega) | ((with_reducible refine k9q_F ?_ ?_); · omega) | ((with_reducible refine k9q_Tb ?_ ?_); · omega) | ((with_reducible refine k9q_Fb ?_ ?_); · omega) | (refine k9o_call (k9s_23 (by omega) (by omega)) ?_; simp (disch := omega) only [k9e_61_0, k9e_61_12, k9e_61_15, k9e_61_19, k9e_61_23, k9e_61_33, k9e_61_37, k9e_61_39, k9e_61_41, k9e_61_43, k9e_61_46, k9e_61_48, k9e_61_49, Nat.reduceEqDiff, Int.reduceEq, Int.reduceLT, Int.reduceLE, k9_ps_s, k9_ps_n, k9_ur, false_and, and_false, true_and, and_true, true_or, or_true, false_or, or_false, eq_self, ↓reduceIte, not_true_eq_false, not_false_eq_true, n_toInt, n_cl, nI_1, nI_add, n_a0, n_p2, n_p3, n_p4, n_x2, n_x3, n_x4, n_x60, n_x100, n_pm1, k9L_m2, k9L_m1, k9L_0, k9L_1, k9L_2, k9L_3, k9L_4, k9L_5, k9L_6, k9L_7, k9L_8, k9L_9, k9L_10, k9L_20, k9L_23, k9L_24, k9L_30, k9L_40, k9L_50, k9L_60, k9L_99, k9L_100, k9L_120, k9L_255, k9L_999, k9L_1000, k9_bs, k9_ba, hB.1, a, n_abs]) | simp (disch := omega) only [k9e_61_0, k9e_61_12, k9e_61_15, k9e_61_19, k9e_61_23, k9e_61_33, k9e_61_37, k9e_61_39, k9e_61_41, k9e_61_43, k9e_61_46, k9e_61_48, k9e_61_49, Nat.reduceEqDiff, Int.reduceEq, Int.reduceLT, Int.reduceLE, k9_ps_s, k9_ps_n, k9_ur, false_and, and_false, true_and, and_true, true_or, or_true, false_or, or_false, eq_self, ↓reduceIte, not_true_eq_false, not_false_eq_true, n_toInt, n_cl, nI_1, nI_add, n_a0, n_p2, n_p3, n_p4, n_x2, n_x3, n_x4, n_x60, n_x100, n_pm1, k9L_m2, k9L_m1, k9L_0, k9L_1, k9L_2, k9L_3, k9L_4, k9L_5, k9L_6, k9L_7, k9L_8, k9L_9, k9L_10, k9L_20, k9L_23, k9L_24, k9L_30, k9L_40, k9L_50, k9L_60, k9L_99, k9L_100, k9L_120, k9L_255, k9L_999, k9L_1000, k9_bs, k9_ba, hB.1, a, n_abs])
      by_cases hc : (p_of h (fun t => p_ct L (min t L)) t).1 < p_ds (h t) (p_ct L (min t L))
      · rw [if_pos hc, if_pos hc] at e
        repeat (first | ((with_reducible refine k9q_T ?_ ?_); · omega) | ((with_reducible refine k9q_F ?_ ?_); · omega) | ((with_reducible refine k9q_Tb ?_ ?_); · omega) | ((with_reducible refine k9q_Fb ?_ ?_); · omega))
        exact k9o_to e rfl
      · rw [if_neg hc, if_neg hc] at e
        repeat (first | ((with_reducible refine k9q_T ?_ ?_); · omega) | ((with_reducible refine k9q_F ?_ ?_); · omega) | ((with_reducible refine k9q_Tb ?_ ?_); · omega) | ((with_reducible refine k9q_Fb ?_ ?_); · omega))
        exact k9o_to e rfl
  rw [k9e_61_0]
  exact key (L + 1) 0 (by omega)
end KB7
