/-! SEEN: since; SHOWING: patience -/
section KT18
variable {S : k9_S} {d : Nat} {I I' : k9_I} {J J' : k9_J} {w : Nat → Nat → Nat} {V : (Nat → Int32) → Int32} {b : Nat} {x1 x2 x3 : Int32} {h c : Nat → Nat} {L A f M : Nat}
theorem k9s_148u (v : k9_Iv I J w V b) : ∃ I1, k9_R S (d + 6) 148 0 [some (k9_r 1 0)] [] I J = some (some (k9_r 2 0), I1, J) ∧ k9_Br I1 0 (p_len w) (p_tt w 0) (p_sh w (p_tt w) V) (p_co w) 0 1000 ∧ k9_Iv I1 J w V b ∧ k9_fp (k9_Xs [8]) I I1 := by
  obtain ⟨I1, e1, b1, r1, f1⟩ := k9s_148w (S := S) (d := d) (J := J) v.1 v.2.2.1 v.2.2.2.2.2.2.2.1
  exact ⟨I1, e1, b1, k9_Iv_8 f1 v r1, f1⟩
def p_si (g : Nat → Int32) : Nat → Nat → Int32
  | 0, _ => -2
  | k + 1, t => if g t = -2 then nI t else p_si g k (t + 1)
theorem t_since (hI : k9_Inv I J) : k9_P S (d + 20) 122 219 [some (k9_r 1 0), some (k9_i x1), none, none, none] [some (k9_r 12 0), some (k9_i x1), none, none] I J k9_Inv := by
  have hI' := hI
  obtain ⟨w, V, b, v⟩ := hI
  have v : k9_Iv I J w V b := v
  have hf := v.1.2.2.1
  have hlen := p_len_b hf
  have hb := v.2.2.2.2.1.1
  have v6 := v.2.2.2.2.2.1
  refine k9P_of ?_
  by_cases h1 : 0 ≤ x1.toInt ∧ x1.toInt ≤ 5
  · obtain ⟨s, rfl, hs, -⟩ := n_of (x := x1) (by omega)
    have hs6 : s < 6 := by omega
    rcases k9_byrs hb (v6.1 s hs6) with ⟨z, hz⟩ | ⟨r, hr⟩
    · obtain ⟨I1, e1, b1, i1, f1⟩ := k9s_148u (S := S) (d := d + 13) v
      have by1 : k9_byr I1 s z := k9_by_t (funext fun p => f1 11 s p rfl) (f1 60 0 s rfl) (f1 61 0 s rfl) hz
      obtain ⟨g, hg⟩ : ∃ g : Nat → Int32, g = fun t => p_fu (p_sh w (p_tt w) V) (fun i => (J 37 s i).toInt32) t z 0 := ⟨_, rfl⟩
      have e66 : ∀ t, t ≤ 999 → k9_R S (d + 19) 66 0 [some (k9_r 2 0), some (k9_r 11 s), some (k9_i (nI t)), none] [] I1 J = some (some (k9_i (g t)), I1, J) := fun t ht => by
        rw [hg]
        exact k9s_66 (S := S) (d := d + 17) (J := J) (t := t) (n := z) (i1 := s) b1 (Nat.zero_le _) by1.2.2.1 hz.2.2.2.2.2 (by omega) (by omega) (Or.inr rfl)
      have kc : ∀ k t, t + k = 1000 → k9_ok (k9_R S (d + 20) 122 19 [some (k9_r 1 0), some (k9_i (nI s)), some (k9_r 11 s), some (k9_r 2 0), some (k9_i (nI t))] [] I1 J) (fun q => q = (some (k9_i (p_si g k t)), I1, J)) := by
        intro k
        induction k with
        | zero =>
          intro t ht
          obtain rfl : t = 1000 := by omega
          refine k9o_eq k9e_122_19 (k9o_T (by decide) (k9o_eq k9e_122_32 (k9o_ret rfl)))
        | succ k ih =>
          intro t ht
          refine k9o_eq k9e_122_19 (k9o_F (by rw [n_toInt (by omega)]; omega) (k9o_eq k9e_122_22 (k9o_call (e66 t (by omega)) ?_)))
          simp only [k9_ps_s]
          refine k9o_eq k9e_122_26 ?_
          rw [p_si]
          by_cases c : g t = -2
          · rw [if_pos c]
            refine k9o_T (by rw [c]; decide) (k9o_eq k9e_122_28 (k9o_ret rfl))
          · rw [if_neg c]
            refine k9o_F (fun z => c (n_ext (by rw [z]; decide))) (k9o_eq k9e_122_30 ?_)
            rw [nI_1]
            exact ih (t + 1) (by omega)
      obtain ⟨I2, e2, m2, x2⟩ := k9s_190 (S := S) (d := d + 14) (J := J) i1.1.2.1 hf i1.2.2.1.2
      have i2 : k9_Iv I2 J w V b := k9_Iv_0 (k9_fp_x x2 (k9_Fq_X rfl)) i1
      have e216 : ∀ t, t ≤ 999 → k9_R S (d + 19) 216 0 [some (k9_r 12 0), some (k9_i (nI s)), some (k9_i (nI t)), none] [] I2 J = some (some (k9_i (g t)), I2, J) := fun t ht => by
        rw [hg]
        exact k9s_216 (S := S) (d := d + 18) (J := J) (s := s) (t := t) (z := z) m2 hs6 hz.2.2.2.2.2 ((x2 61 0 s rfl).trans by1.2.2.2.2.1) (by omega) (fun p hp => v6.2 s hs6 p hp)
      have km : ∀ k t, t + k = 1000 → k9_ok (k9_R S (d + 20) 219 17 [some (k9_r 12 0), some (k9_i (nI s)), some (k9_i 0), some (k9_i (nI t))] [] I2 J) (fun q => q = (some (k9_i (p_si g k t)), I2, J)) := by
        intro k
        induction k with
        | zero =>
          intro t ht
          obtain rfl : t = 1000 := by omega
          refine k9o_eq k9e_219_17 (k9o_T (by decide) (k9o_eq k9e_219_30 (k9o_ret rfl)))
        | succ k ih =>
          intro t ht
          refine k9o_eq k9e_219_17 (k9o_F (by rw [n_toInt (by omega)]; omega) (k9o_eq k9e_219_20 (k9o_call (e216 t (by omega)) ?_)))
          simp only [k9_ps_s]
          refine k9o_eq k9e_219_24 ?_
          rw [p_si]
          by_cases c : g t = -2
          · rw [if_pos c]
            refine k9o_T (by rw [c]; decide) (k9o_eq k9e_219_26 (k9o_ret rfl))
          · rw [if_neg c]
            refine k9o_F (fun z => c (n_ext (by rw [z]; decide))) (k9o_eq k9e_219_28 ?_)
            rw [nI_1]
            exact ih (t + 1) (by omega)
      simp (disch := omega) only [k9e_122_0, k9e_122_3, k9e_122_3b, k9e_122_10, k9e_122_11, k9e_122_13, k9e_122_14, k9e_122_16, k9e_122_22, k9e_122_26, k9e_122_28, k9e_122_30, k9e_122_32, k9e_144_0, k9e_144_2, k9e_144_5, k9e_144_9, k9e_144_10, k9e_144_11, k9e_144_11b, Nat.reduceEqDiff, Int.reduceEq, Int.reduceLT, Int.reduceLE, k9_ps_s, k9_ps_n, k9_ur, false_and, and_false, true_and, and_true, true_or, or_true, false_or, or_false, eq_self, ↓reduceIte, not_true_eq_false, not_false_eq_true, n_toInt, n_cl, nI_1, nI_add, n_a0, n_p2, n_p3, n_p4, n_x2, n_x3, n_x4, n_x60, n_x100, n_pm1, k9L_m2, k9L_m1, k9L_0, k9L_1, k9L_2, k9L_3, k9L_4, k9L_5, k9L_6, k9L_7, k9L_8, k9L_9, k9L_10, k9L_20, k9L_23, k9L_24, k9L_30, k9L_40, k9L_50, k9L_60, k9L_99, k9L_100, k9L_120, k9L_255, k9L_999, k9L_1000, k9_bs, k9_ba]
      repeat (first | ((with_reducible refine k9q_T ?_ ?_); · omega) | ((with_reducible refine k9q_F ?_ ?_); · omega) | ((with_reducible refine k9q_Tb ?_ ?_); · omega) | ((with_reducible refine k9q_Fb ?_ ?_); · omega) | (refine k9o_call (k9s_91 hz) ?_; simp (disch := omega) only [k9e_122_0, k9e_122_3, k9e_122_3b, k9e_122_10, k9e_122_11, k9e_122_13, k9e_122_14, k9e_122_16, k9e_122_22, k9e_122_26, k9e_122_28, k9e_122_30, k9e_122_32, k9e_144_0, k9e_144_2, k9e_144_5, k9e_144_9, k9e_144_10, k9e_144_11, k9e_144_11b, Nat.reduceEqDiff, Int.reduceEq, Int.reduceLT, Int.reduceLE, k9_ps_s, k9_ps_n, k9_ur, false_and, and_false, true_and, and_true, true_or, or_true, false_or, or_false, eq_self, ↓reduceIte, not_true_eq_false, not_false_eq_true, n_toInt, n_cl, nI_1, nI_add, n_a0, n_p2, n_p3, n_p4, n_x2, n_x3, n_x4, n_x60, n_x100, n_pm1, k9L_m2, k9L_m1, k9L_0, k9L_1, k9L_2, k9L_3, k9L_4, k9L_5, k9L_6, k9L_7, k9L_8, k9L_9, k9L_10, k9L_20, k9L_23, k9L_24, k9L_30, k9L_40, k9L_50, k9L_60, k9L_99, k9L_100, k9L_120, k9L_255, k9L_999, k9L_1000, k9_bs, k9_ba]) | (refine k9o_call (e1) ?_; simp (disch := omega) only [k9e_122_0, k9e_122_3, k9e_122_3b, k9e_122_10, k9e_122_11, k9e_122_13, k9e_122_14, k9e_122_16, k9e_122_22, k9e_122_26, k9e_122_28, k9e_122_30, k9e_122_32, k9e_144_0, k9e_144_2, k9e_144_5, k9e_144_9, k9e_144_10, k9e_144_11, k9e_144_11b, Nat.reduceEqDiff, Int.reduceEq, Int.reduceLT, Int.reduceLE, k9_ps_s, k9_ps_n, k9_ur, false_and, and_false, true_and, and_true, true_or, or_true, false_or, or_false, eq_self, ↓reduceIte, not_true_eq_false, not_false_eq_true, n_toInt, n_cl, nI_1, nI_add, n_a0, n_p2, n_p3, n_p4, n_x2, n_x3, n_x4, n_x60, n_x100, n_pm1, k9L_m2, k9L_m1, k9L_0, k9L_1, k9L_2, k9L_3, k9L_4, k9L_5, k9L_6, k9L_7, k9L_8, k9L_9, k9L_10, k9L_20, k9L_23, k9L_24, k9L_30, k9L_40, k9L_50, k9L_60, k9L_99, k9L_100, k9L_120, k9L_255, k9L_999, k9L_1000, k9_bs, k9_ba]) | simp (disch := omega) only [k9e_122_0, k9e_122_3, k9e_122_3b, k9e_122_10, k9e_122_11, k9e_122_13, k9e_122_14, k9e_122_16, k9e_122_22, k9e_122_26, k9e_122_28, k9e_122_30, k9e_122_32, k9e_144_0, k9e_144_2, k9e_144_5, k9e_144_9, k9e_144_10, k9e_144_11, k9e_144_11b, Nat.reduceEqDiff, Int.reduceEq, Int.reduceLT, Int.reduceLE, k9_ps_s, k9_ps_n, k9_ur, false_and, and_false, true_and, and_true, true_or, or_true, false_or, or_false, eq_self, ↓reduceIte, not_true_eq_false, not_false_eq_true, n_toInt, n_cl, nI_1, nI_add, n_a0, n_p2, n_p3, n_p4, n_x2, n_x3, n_x4, n_x60, n_x100, n_pm1, k9L_m2, k9L_m1, k9L_0, k9L_1, k9L_2, k9L_3, k9L_4, k9L_5, k9L_6, k9L_7, k9L_8, k9L_9, k9L_10, k9L_20, k9L_23, k9L_24, k9L_30, k9L_40, k9L_50, k9L_60, k9L_99, k9L_100, k9L_120, k9L_255, k9L_999, k9L_1000, k9_bs, k9_ba])
      obtain ⟨q1, c1, rfl⟩ := kc 1000 0 (by omega)
      refine k9o_to c1 ⟨_, _, _, rfl, ?_⟩
      simp (disch := omega) only [k9e_219_0, k9e_219_2, k9e_219_3, k9e_219_5, k9e_219_8, k9e_219_11, k9e_219_13, k9e_219_15, k9e_219_20, k9e_219_24, k9e_219_26, k9e_219_28, k9e_219_30, k9e_156_0, k9e_156_4, Nat.reduceEqDiff, Int.reduceEq, Int.reduceLT, Int.reduceLE, k9_ps_s, k9_ps_n, k9_ur, false_and, and_false, true_and, and_true, true_or, or_true, false_or, or_false, eq_self, ↓reduceIte, not_true_eq_false, not_false_eq_true, n_toInt, n_cl, nI_1, nI_add, n_a0, n_p2, n_p3, n_p4, n_x2, n_x3, n_x4, n_x60, n_x100, n_pm1, k9L_m2, k9L_m1, k9L_0, k9L_1, k9L_2, k9L_3, k9L_4, k9L_5, k9L_6, k9L_7, k9L_8, k9L_9, k9L_10, k9L_20, k9L_23, k9L_24, k9L_30, k9L_40, k9L_50, k9L_60, k9L_99, k9L_100, k9L_120, k9L_255, k9L_999, k9L_1000, k9_bs, k9_ba]
      repeat (first | ((with_reducible refine k9q_T ?_ ?_); · omega) | ((with_reducible refine k9q_F ?_ ?_); · omega) | ((with_reducible refine k9q_Tb ?_ ?_); · omega) | ((with_reducible refine k9q_Fb ?_ ?_); · omega) | (refine k9o_call (k9s_153 (by first | omega | (simp (disch := omega) only [n_toInt, n_pm1, k9L_m2, k9L_m1, k9L_0, k9L_1, k9L_2, k9L_3, k9L_4, k9L_5, k9L_6, k9L_7, k9L_8, k9L_9, k9L_10, k9L_20, k9L_23, k9L_24, k9L_30, k9L_40, k9L_50, k9L_60, k9L_99, k9L_100, k9L_120, k9L_255, k9L_999, k9L_1000]; omega))) ?_; simp (disch := omega) only [k9e_219_0, k9e_219_2, k9e_219_3, k9e_219_5, k9e_219_8, k9e_219_11, k9e_219_13, k9e_219_15, k9e_219_20, k9e_219_24, k9e_219_26, k9e_219_28, k9e_219_30, k9e_156_0, k9e_156_4, Nat.reduceEqDiff, Int.reduceEq, Int.reduceLT, Int.reduceLE, k9_ps_s, k9_ps_n, k9_ur, false_and, and_false, true_and, and_true, true_or, or_true, false_or, or_false, eq_self, ↓reduceIte, not_true_eq_false, not_false_eq_true, n_toInt, n_cl, nI_1, nI_add, n_a0, n_p2, n_p3, n_p4, n_x2, n_x3, n_x4, n_x60, n_x100, n_pm1, k9L_m2, k9L_m1, k9L_0, k9L_1, k9L_2, k9L_3, k9L_4, k9L_5, k9L_6, k9L_7, k9L_8, k9L_9, k9L_10, k9L_20, k9L_23, k9L_24, k9L_30, k9L_40, k9L_50, k9L_60, k9L_99, k9L_100, k9L_120, k9L_255, k9L_999, k9L_1000, k9_bs, k9_ba]) | (refine k9o_call (k9s_153x (by first | omega | (simp (disch := omega) only [n_toInt, n_pm1, k9L_m2, k9L_m1, k9L_0, k9L_1, k9L_2, k9L_3, k9L_4, k9L_5, k9L_6, k9L_7, k9L_8, k9L_9, k9L_10, k9L_20, k9L_23, k9L_24, k9L_30, k9L_40, k9L_50, k9L_60, k9L_99, k9L_100, k9L_120, k9L_255, k9L_999, k9L_1000]; omega))) ?_; simp (disch := omega) only [k9e_219_0, k9e_219_2, k9e_219_3, k9e_219_5, k9e_219_8, k9e_219_11, k9e_219_13, k9e_219_15, k9e_219_20, k9e_219_24, k9e_219_26, k9e_219_28, k9e_219_30, k9e_156_0, k9e_156_4, Nat.reduceEqDiff, Int.reduceEq, Int.reduceLT, Int.reduceLE, k9_ps_s, k9_ps_n, k9_ur, false_and, and_false, true_and, and_true, true_or, or_true, false_or, or_false, eq_self, ↓reduceIte, not_true_eq_false, not_false_eq_true, n_toInt, n_cl, nI_1, nI_add, n_a0, n_p2, n_p3, n_p4, n_x2, n_x3, n_x4, n_x60, n_x100, n_pm1, k9L_m2, k9L_m1, k9L_0, k9L_1, k9L_2, k9L_3, k9L_4, k9L_5, k9L_6, k9L_7, k9L_8, k9L_9, k9L_10, k9L_20, k9L_23, k9L_24, k9L_30, k9L_40, k9L_50, k9L_60, k9L_99, k9L_100, k9L_120, k9L_255, k9L_999, k9L_1000, k9_bs, k9_ba]) | (refine k9o_call (k9s_208 hs6 by1) ?_; simp (disch := omega) only [k9e_219_0, k9e_219_2, k9e_219_3, k9e_219_5, k9e_219_8, k9e_219_11, k9e_219_13, k9e_219_15, k9e_219_20, k9e_219_24, k9e_219_26, k9e_219_28, k9e_219_30, k9e_156_0, k9e_156_4, Nat.reduceEqDiff, Int.reduceEq, Int.reduceLT, Int.reduceLE, k9_ps_s, k9_ps_n, k9_ur, false_and, and_false, true_and, and_true, true_or, or_true, false_or, or_false, eq_self, ↓reduceIte, not_true_eq_false, not_false_eq_true, n_toInt, n_cl, nI_1, nI_add, n_a0, n_p2, n_p3, n_p4, n_x2, n_x3, n_x4, n_x60, n_x100, n_pm1, k9L_m2, k9L_m1, k9L_0, k9L_1, k9L_2, k9L_3, k9L_4, k9L_5, k9L_6, k9L_7, k9L_8, k9L_9, k9L_10, k9L_20, k9L_23, k9L_24, k9L_30, k9L_40, k9L_50, k9L_60, k9L_99, k9L_100, k9L_120, k9L_255, k9L_999, k9L_1000, k9_bs, k9_ba]) | (refine k9o_call (e2) ?_; simp (disch := omega) only [k9e_219_0, k9e_219_2, k9e_219_3, k9e_219_5, k9e_219_8, k9e_219_11, k9e_219_13, k9e_219_15, k9e_219_20, k9e_219_24, k9e_219_26, k9e_219_28, k9e_219_30, k9e_156_0, k9e_156_4, Nat.reduceEqDiff, Int.reduceEq, Int.reduceLT, Int.reduceLE, k9_ps_s, k9_ps_n, k9_ur, false_and, and_false, true_and, and_true, true_or, or_true, false_or, or_false, eq_self, ↓reduceIte, not_true_eq_false, not_false_eq_true, n_toInt, n_cl, nI_1, nI_add, n_a0, n_p2, n_p3, n_p4, n_x2, n_x3, n_x4, n_x60, n_x100, n_pm1, k9L_m2, k9L_m1, k9L_0, k9L_1, k9L_2, k9L_3, k9L_4, k9L_5, k9L_6, k9L_7, k9L_8, k9L_9, k9L_10, k9L_20, k9L_23, k9L_24, k9L_30, k9L_40, k9L_50, k9L_60, k9L_99, k9L_100, k9L_120, k9L_255, k9L_999, k9L_1000, k9_bs, k9_ba]) | simp (disch := omega) only [k9e_219_0, k9e_219_2, k9e_219_3, k9e_219_5, k9e_219_8, k9e_219_11, k9e_219_13, k9e_219_15, k9e_219_20, k9e_219_24, k9e_219_26, k9e_219_28, k9e_219_30, k9e_156_0, k9e_156_4, Nat.reduceEqDiff, Int.reduceEq, Int.reduceLT, Int.reduceLE, k9_ps_s, k9_ps_n, k9_ur, false_and, and_false, true_and, and_true, true_or, or_true, false_or, or_false, eq_self, ↓reduceIte, not_true_eq_false, not_false_eq_true, n_toInt, n_cl, nI_1, nI_add, n_a0, n_p2, n_p3, n_p4, n_x2, n_x3, n_x4, n_x60, n_x100, n_pm1, k9L_m2, k9L_m1, k9L_0, k9L_1, k9L_2, k9L_3, k9L_4, k9L_5, k9L_6, k9L_7, k9L_8, k9L_9, k9L_10, k9L_20, k9L_23, k9L_24, k9L_30, k9L_40, k9L_50, k9L_60, k9L_99, k9L_100, k9L_120, k9L_255, k9L_999, k9L_1000, k9_bs, k9_ba])
      obtain ⟨q2, c2, rfl⟩ := km 1000 0 (by omega)
      exact k9o_to c2 ⟨_, _, rfl, k9_Iv_e i2⟩
    · have hrr := k9_nb_r hr
      simp (disch := omega) only [k9e_122_0, k9e_122_3, k9e_122_3b, k9e_122_10, k9e_122_11, k9e_122_13, k9e_122_14, k9e_122_16, k9e_122_22, k9e_122_26, k9e_122_28, k9e_122_30, k9e_122_32, k9e_144_0, k9e_144_2, k9e_144_5, k9e_144_9, k9e_144_10, k9e_144_11, k9e_144_11b, Nat.reduceEqDiff, Int.reduceEq, Int.reduceLT, Int.reduceLE, k9_ps_s, k9_ps_n, k9_ur, false_and, and_false, true_and, and_true, true_or, or_true, false_or, or_false, eq_self, ↓reduceIte, not_true_eq_false, not_false_eq_true, n_toInt, n_cl, nI_1, nI_add, n_a0, n_p2, n_p3, n_p4, n_x2, n_x3, n_x4, n_x60, n_x100, n_pm1, k9L_m2, k9L_m1, k9L_0, k9L_1, k9L_2, k9L_3, k9L_4, k9L_5, k9L_6, k9L_7, k9L_8, k9L_9, k9L_10, k9L_20, k9L_23, k9L_24, k9L_30, k9L_40, k9L_50, k9L_60, k9L_99, k9L_100, k9L_120, k9L_255, k9L_999, k9L_1000, k9_bs, k9_ba]
      repeat (first | ((with_reducible refine k9q_T ?_ ?_); · omega) | ((with_reducible refine k9q_F ?_ ?_); · omega) | ((with_reducible refine k9q_Tb ?_ ?_); · omega) | ((with_reducible refine k9q_Fb ?_ ?_); · omega) | (refine k9o_call (k9s_91x hr) ?_; simp (disch := omega) only [k9e_122_0, k9e_122_3, k9e_122_3b, k9e_122_10, k9e_122_11, k9e_122_13, k9e_122_14, k9e_122_16, k9e_122_22, k9e_122_26, k9e_122_28, k9e_122_30, k9e_122_32, k9e_144_0, k9e_144_2, k9e_144_5, k9e_144_9, k9e_144_10, k9e_144_11, k9e_144_11b, Nat.reduceEqDiff, Int.reduceEq, Int.reduceLT, Int.reduceLE, k9_ps_s, k9_ps_n, k9_ur, false_and, and_false, true_and, and_true, true_or, or_true, false_or, or_false, eq_self, ↓reduceIte, not_true_eq_false, not_false_eq_true, n_toInt, n_cl, nI_1, nI_add, n_a0, n_p2, n_p3, n_p4, n_x2, n_x3, n_x4, n_x60, n_x100, n_pm1, k9L_m2, k9L_m1, k9L_0, k9L_1, k9L_2, k9L_3, k9L_4, k9L_5, k9L_6, k9L_7, k9L_8, k9L_9, k9L_10, k9L_20, k9L_23, k9L_24, k9L_30, k9L_40, k9L_50, k9L_60, k9L_99, k9L_100, k9L_120, k9L_255, k9L_999, k9L_1000, k9_bs, k9_ba]) | (refine k9o_call (k9s_92 hr) ?_; simp (disch := omega) only [k9e_122_0, k9e_122_3, k9e_122_3b, k9e_122_10, k9e_122_11, k9e_122_13, k9e_122_14, k9e_122_16, k9e_122_22, k9e_122_26, k9e_122_28, k9e_122_30, k9e_122_32, k9e_144_0, k9e_144_2, k9e_144_5, k9e_144_9, k9e_144_10, k9e_144_11, k9e_144_11b, Nat.reduceEqDiff, Int.reduceEq, Int.reduceLT, Int.reduceLE, k9_ps_s, k9_ps_n, k9_ur, false_and, and_false, true_and, and_true, true_or, or_true, false_or, or_false, eq_self, ↓reduceIte, not_true_eq_false, not_false_eq_true, n_toInt, n_cl, nI_1, nI_add, n_a0, n_p2, n_p3, n_p4, n_x2, n_x3, n_x4, n_x60, n_x100, n_pm1, k9L_m2, k9L_m1, k9L_0, k9L_1, k9L_2, k9L_3, k9L_4, k9L_5, k9L_6, k9L_7, k9L_8, k9L_9, k9L_10, k9L_20, k9L_23, k9L_24, k9L_30, k9L_40, k9L_50, k9L_60, k9L_99, k9L_100, k9L_120, k9L_255, k9L_999, k9L_1000, k9_bs, k9_ba]) | simp (disch := omega) only [k9e_122_0, k9e_122_3, k9e_122_3b, k9e_122_10, k9e_122_11, k9e_122_13, k9e_122_14, k9e_122_16, k9e_122_22, k9e_122_26, k9e_122_28, k9e_122_30, k9e_122_32, k9e_144_0, k9e_144_2, k9e_144_5, k9e_144_9, k9e_144_10, k9e_144_11, k9e_144_11b, Nat.reduceEqDiff, Int.reduceEq, Int.reduceLT, Int.reduceLE, k9_ps_s, k9_ps_n, k9_ur, false_and, and_false, true_and, and_true, true_or, or_true, false_or, or_false, eq_self, ↓reduceIte, not_true_eq_false, not_false_eq_true, n_toInt, n_cl, nI_1, nI_add, n_a0, n_p2, n_p3, n_p4, n_x2, n_x3, n_x4, n_x60, n_x100, n_pm1, k9L_m2, k9L_m1, k9L_0, k9L_1, k9L_2, k9L_3, k9L_4, k9L_5, k9L_6, k9L_7, k9L_8, k9L_9, k9L_10, k9L_20, k9L_23, k9L_24, k9L_30, k9L_40, k9L_50, k9L_60, k9L_99, k9L_100, k9L_120, k9L_255, k9L_999, k9L_1000, k9_bs, k9_ba])
      refine k9o_ret ⟨_, _, _, rfl, ?_⟩
      simp (disch := omega) only [k9e_219_0, k9e_219_2, k9e_219_3, k9e_219_5, k9e_219_8, k9e_219_11, k9e_219_13, k9e_219_15, k9e_219_20, k9e_219_24, k9e_219_26, k9e_219_28, k9e_219_30, k9e_156_0, k9e_156_4, Nat.reduceEqDiff, Int.reduceEq, Int.reduceLT, Int.reduceLE, k9_ps_s, k9_ps_n, k9_ur, false_and, and_false, true_and, and_true, true_or, or_true, false_or, or_false, eq_self, ↓reduceIte, not_true_eq_false, not_false_eq_true, n_toInt, n_cl, nI_1, nI_add, n_a0, n_p2, n_p3, n_p4, n_x2, n_x3, n_x4, n_x60, n_x100, n_pm1, k9L_m2, k9L_m1, k9L_0, k9L_1, k9L_2, k9L_3, k9L_4, k9L_5, k9L_6, k9L_7, k9L_8, k9L_9, k9L_10, k9L_20, k9L_23, k9L_24, k9L_30, k9L_40, k9L_50, k9L_60, k9L_99, k9L_100, k9L_120, k9L_255, k9L_999, k9L_1000, k9_bs, k9_ba]
      repeat (first | ((with_reducible refine k9q_T ?_ ?_); · omega) | ((with_reducible refine k9q_F ?_ ?_); · omega) | ((with_reducible refine k9q_Tb ?_ ?_); · omega) | ((with_reducible refine k9q_Fb ?_ ?_); · omega) | (refine k9o_call (k9s_153 (by first | omega | (simp (disch := omega) only [n_toInt, n_pm1, k9L_m2, k9L_m1, k9L_0, k9L_1, k9L_2, k9L_3, k9L_4, k9L_5, k9L_6, k9L_7, k9L_8, k9L_9, k9L_10, k9L_20, k9L_23, k9L_24, k9L_30, k9L_40, k9L_50, k9L_60, k9L_99, k9L_100, k9L_120, k9L_255, k9L_999, k9L_1000]; omega))) ?_; simp (disch := omega) only [k9e_219_0, k9e_219_2, k9e_219_3, k9e_219_5, k9e_219_8, k9e_219_11, k9e_219_13, k9e_219_15, k9e_219_20, k9e_219_24, k9e_219_26, k9e_219_28, k9e_219_30, k9e_156_0, k9e_156_4, Nat.reduceEqDiff, Int.reduceEq, Int.reduceLT, Int.reduceLE, k9_ps_s, k9_ps_n, k9_ur, false_and, and_false, true_and, and_true, true_or, or_true, false_or, or_false, eq_self, ↓reduceIte, not_true_eq_false, not_false_eq_true, n_toInt, n_cl, nI_1, nI_add, n_a0, n_p2, n_p3, n_p4, n_x2, n_x3, n_x4, n_x60, n_x100, n_pm1, k9L_m2, k9L_m1, k9L_0, k9L_1, k9L_2, k9L_3, k9L_4, k9L_5, k9L_6, k9L_7, k9L_8, k9L_9, k9L_10, k9L_20, k9L_23, k9L_24, k9L_30, k9L_40, k9L_50, k9L_60, k9L_99, k9L_100, k9L_120, k9L_255, k9L_999, k9L_1000, k9_bs, k9_ba]) | (refine k9o_call (k9s_153x (by first | omega | (simp (disch := omega) only [n_toInt, n_pm1, k9L_m2, k9L_m1, k9L_0, k9L_1, k9L_2, k9L_3, k9L_4, k9L_5, k9L_6, k9L_7, k9L_8, k9L_9, k9L_10, k9L_20, k9L_23, k9L_24, k9L_30, k9L_40, k9L_50, k9L_60, k9L_99, k9L_100, k9L_120, k9L_255, k9L_999, k9L_1000]; omega))) ?_; simp (disch := omega) only [k9e_219_0, k9e_219_2, k9e_219_3, k9e_219_5, k9e_219_8, k9e_219_11, k9e_219_13, k9e_219_15, k9e_219_20, k9e_219_24, k9e_219_26, k9e_219_28, k9e_219_30, k9e_156_0, k9e_156_4, Nat.reduceEqDiff, Int.reduceEq, Int.reduceLT, Int.reduceLE, k9_ps_s, k9_ps_n, k9_ur, false_and, and_false, true_and, and_true, true_or, or_true, false_or, or_false, eq_self, ↓reduceIte, not_true_eq_false, not_false_eq_true, n_toInt, n_cl, nI_1, nI_add, n_a0, n_p2, n_p3, n_p4, n_x2, n_x3, n_x4, n_x60, n_x100, n_pm1, k9L_m2, k9L_m1, k9L_0, k9L_1, k9L_2, k9L_3, k9L_4, k9L_5, k9L_6, k9L_7, k9L_8, k9L_9, k9L_10, k9L_20, k9L_23, k9L_24, k9L_30, k9L_40, k9L_50, k9L_60, k9L_99, k9L_100, k9L_120, k9L_255, k9L_999, k9L_1000, k9_bs, k9_ba]) | (refine k9o_call (k9s_208x hs6 hr) ?_; simp (disch := omega) only [k9e_219_0, k9e_219_2, k9e_219_3, k9e_219_5, k9e_219_8, k9e_219_11, k9e_219_13, k9e_219_15, k9e_219_20, k9e_219_24, k9e_219_26, k9e_219_28, k9e_219_30, k9e_156_0, k9e_156_4, Nat.reduceEqDiff, Int.reduceEq, Int.reduceLT, Int.reduceLE, k9_ps_s, k9_ps_n, k9_ur, false_and, and_false, true_and, and_true, true_or, or_true, false_or, or_false, eq_self, ↓reduceIte, not_true_eq_false, not_false_eq_true, n_toInt, n_cl, nI_1, nI_add, n_a0, n_p2, n_p3, n_p4, n_x2, n_x3, n_x4, n_x60, n_x100, n_pm1, k9L_m2, k9L_m1, k9L_0, k9L_1, k9L_2, k9L_3, k9L_4, k9L_5, k9L_6, k9L_7, k9L_8, k9L_9, k9L_10, k9L_20, k9L_23, k9L_24, k9L_30, k9L_40, k9L_50, k9L_60, k9L_99, k9L_100, k9L_120, k9L_255, k9L_999, k9L_1000, k9_bs, k9_ba]) | simp (disch := omega) only [k9e_219_0, k9e_219_2, k9e_219_3, k9e_219_5, k9e_219_8, k9e_219_11, k9e_219_13, k9e_219_15, k9e_219_20, k9e_219_24, k9e_219_26, k9e_219_28, k9e_219_30, k9e_156_0, k9e_156_4, Nat.reduceEqDiff, Int.reduceEq, Int.reduceLT, Int.reduceLE, k9_ps_s, k9_ps_n, k9_ur, false_and, and_false, true_and, and_true, true_or, or_true, false_or, or_false, eq_self, ↓reduceIte, not_true_eq_false, not_false_eq_true, n_toInt, n_cl, nI_1, nI_add, n_a0, n_p2, n_p3, n_p4, n_x2, n_x3, n_x4, n_x60, n_x100, n_pm1, k9L_m2, k9L_m1, k9L_0, k9L_1, k9L_2, k9L_3, k9L_4, k9L_5, k9L_6, k9L_7, k9L_8, k9L_9, k9L_10, k9L_20, k9L_23, k9L_24, k9L_30, k9L_40, k9L_50, k9L_60, k9L_99, k9L_100, k9L_120, k9L_255, k9L_999, k9L_1000, k9_bs, k9_ba])
      exact k9o_ret ⟨_, _, rfl, hI'⟩
  · repeat' (first | ((with_reducible refine k9q_T ?_ ?_); · omega) | ((with_reducible refine k9q_F ?_ ?_); · omega) | ((with_reducible refine k9q_Tb ?_ ?_); · omega) | ((with_reducible refine k9q_Fb ?_ ?_); · omega) | simp (disch := omega) only [k9e_122_0, k9e_122_3, k9e_122_3b, k9e_144_0, k9e_144_2, k9e_144_5, k9e_144_9, k9e_144_10, k9e_144_11, k9e_144_11b, Nat.reduceEqDiff, Int.reduceEq, Int.reduceLT, Int.reduceLE, k9_ps_s, k9_ps_n, k9_ur, false_and, and_false, true_and, and_true, true_or, or_true, false_or, or_false, eq_self, ↓reduceIte, not_true_eq_false, not_false_eq_true, n_toInt, n_cl, nI_1, nI_add, n_a0, n_p2, n_p3, n_p4, n_x2, n_x3, n_x4, n_x60, n_x100, n_pm1, k9L_m2, k9L_m1, k9L_0, k9L_1, k9L_2, k9L_3, k9L_4, k9L_5, k9L_6, k9L_7, k9L_8, k9L_9, k9L_10, k9L_20, k9L_23, k9L_24, k9L_30, k9L_40, k9L_50, k9L_60, k9L_99, k9L_100, k9L_120, k9L_255, k9L_999, k9L_1000, k9_bs, k9_ba] | (with_reducible refine k9q_if (fun _ => ?_) (fun _ => ?_)) | (with_reducible refine k9q_ifb (fun _ => ?_) (fun _ => ?_)))
    all_goals refine k9o_ret ⟨_, _, _, rfl, ?_⟩
    all_goals repeat' (first | ((with_reducible refine k9q_T ?_ ?_); · omega) | ((with_reducible refine k9q_F ?_ ?_); · omega) | ((with_reducible refine k9q_Tb ?_ ?_); · omega) | ((with_reducible refine k9q_Fb ?_ ?_); · omega) | (refine k9o_call (k9s_153 (by first | omega | (simp (disch := omega) only [n_toInt, n_pm1, k9L_m2, k9L_m1, k9L_0, k9L_1, k9L_2, k9L_3, k9L_4, k9L_5, k9L_6, k9L_7, k9L_8, k9L_9, k9L_10, k9L_20, k9L_23, k9L_24, k9L_30, k9L_40, k9L_50, k9L_60, k9L_99, k9L_100, k9L_120, k9L_255, k9L_999, k9L_1000]; omega))) ?_; simp (disch := omega) only [k9e_219_0, k9e_219_2, k9e_219_3, k9e_156_0, k9e_156_4, Nat.reduceEqDiff, Int.reduceEq, Int.reduceLT, Int.reduceLE, k9_ps_s, k9_ps_n, k9_ur, false_and, and_false, true_and, and_true, true_or, or_true, false_or, or_false, eq_self, ↓reduceIte, not_true_eq_false, not_false_eq_true, n_toInt, n_cl, nI_1, nI_add, n_a0, n_p2, n_p3, n_p4, n_x2, n_x3, n_x4, n_x60, n_x100, n_pm1, k9L_m2, k9L_m1, k9L_0, k9L_1, k9L_2, k9L_3, k9L_4, k9L_5, k9L_6, k9L_7, k9L_8, k9L_9, k9L_10, k9L_20, k9L_23, k9L_24, k9L_30, k9L_40, k9L_50, k9L_60, k9L_99, k9L_100, k9L_120, k9L_255, k9L_999, k9L_1000, k9_bs, k9_ba]) | (refine k9o_call (k9s_153x (by first | omega | (simp (disch := omega) only [n_toInt, n_pm1, k9L_m2, k9L_m1, k9L_0, k9L_1, k9L_2, k9L_3, k9L_4, k9L_5, k9L_6, k9L_7, k9L_8, k9L_9, k9L_10, k9L_20, k9L_23, k9L_24, k9L_30, k9L_40, k9L_50, k9L_60, k9L_99, k9L_100, k9L_120, k9L_255, k9L_999, k9L_1000]; omega))) ?_; simp (disch := omega) only [k9e_219_0, k9e_219_2, k9e_219_3, k9e_156_0, k9e_156_4, Nat.reduceEqDiff, Int.reduceEq, Int.reduceLT, Int.reduceLE, k9_ps_s, k9_ps_n, k9_ur, false_and, and_false, true_and, and_true, true_or, or_true, false_or, or_false, eq_self, ↓reduceIte, not_true_eq_false, not_false_eq_true, n_toInt, n_cl, nI_1, nI_add, n_a0, n_p2, n_p3, n_p4, n_x2, n_x3, n_x4, n_x60, n_x100, n_pm1, k9L_m2, k9L_m1, k9L_0, k9L_1, k9L_2, k9L_3, k9L_4, k9L_5, k9L_6, k9L_7, k9L_8, k9L_9, k9L_10, k9L_20, k9L_23, k9L_24, k9L_30, k9L_40, k9L_50, k9L_60, k9L_99, k9L_100, k9L_120, k9L_255, k9L_999, k9L_1000, k9_bs, k9_ba]) | simp (disch := omega) only [k9e_219_0, k9e_219_2, k9e_219_3, k9e_156_0, k9e_156_4, Nat.reduceEqDiff, Int.reduceEq, Int.reduceLT, Int.reduceLE, k9_ps_s, k9_ps_n, k9_ur, false_and, and_false, true_and, and_true, true_or, or_true, false_or, or_false, eq_self, ↓reduceIte, not_true_eq_false, not_false_eq_true, n_toInt, n_cl, nI_1, nI_add, n_a0, n_p2, n_p3, n_p4, n_x2, n_x3, n_x4, n_x60, n_x100, n_pm1, k9L_m2, k9L_m1, k9L_0, k9L_1, k9L_2, k9L_3, k9L_4, k9L_5, k9L_6, k9L_7, k9L_8, k9L_9, k9L_10, k9L_20, k9L_23, k9L_24, k9L_30, k9L_40, k9L_50, k9L_60, k9L_99, k9L_100, k9L_120, k9L_255, k9L_999, k9L_1000, k9_bs, k9_ba] | (with_reducible refine k9q_if (fun _ => ?_) (fun _ => ?_)) | (with_reducible refine k9q_ifb (fun _ => ?_) (fun _ => ?_)))
    all_goals exact k9o_ret ⟨_, _, rfl, hI'⟩
/-! patience -/
theorem p_sd_se (h : Nat → Nat) : ∀ t, (p_sd h (t + 1)).2.2 + p_se h t = t ∧ (p_sd h (t + 1)).1 = max (p_sd h t).1 (p_se h t + 1)
  | 0 => by simp [p_sd, p_sg, p_se]
  | t + 1 => by
    obtain ⟨h1, h2⟩ := p_sd_se h t
    have hb := p_se_b h t
    have e : p_sg h (t + 1) (p_sd h (t + 1)).2.2 + p_se h (t + 1) = t + 1 := by
      rw [p_sg, p_se, Nat.add_sub_cancel]
      by_cases c : h (t + 1) = h t
      · rw [if_neg (fun z => z.2 c), if_pos c]
        omega
      · rw [if_pos ⟨by omega, c⟩, if_neg c]
    constructor
    · rw [p_sd]
      exact e
    · rw [p_sd]
      simp only []
      split <;> omega
theorem p_sd_max (h : Nat → Nat) : ∀ N, (∀ t, t < N → p_se h t + 1 ≤ (p_sd h N).1) ∧ (0 < N → ∃ t, t < N ∧ (p_sd h N).1 = p_se h t + 1)
  | 0 => ⟨fun t ht => by omega, fun h => by omega⟩
  | N + 1 => by
    obtain ⟨h1, h2⟩ := p_sd_max h N
    obtain ⟨-, e⟩ := p_sd_se h N
    constructor
    · intro t ht
      by_cases c : t = N
      · subst c
        omega
      · have := h1 t (by omega)
        omega
    · intro _
      by_cases c : (p_sd h N).1 ≤ p_se h N + 1
      · exact ⟨N, by omega, by omega⟩
      · by_cases hN : 0 < N
        · obtain ⟨t, a, b⟩ := h2 hN
          exact ⟨t, by omega, by omega⟩
        · obtain rfl : N = 0 := by omega
          exact absurd (show (p_sd h 0).1 ≤ p_se h 0 + 1 from Nat.zero_le _) c
theorem p_dd_no (h : Nat → Nat) (x : Nat) : ∀ k t, (∀ s, t ≤ s → s < t + k → p_se h s < x) → p_dd h x k t = -2
  | 0, _, _ => rfl
  | k + 1, t, hs => by
    have := hs t (Nat.le_refl _) (by omega)
    rw [p_dd, if_neg (by omega)]
    exact p_dd_no h x k (t + 1) (fun s a b => hs s (by omega) (by omega))
theorem p_dd_yes (h : Nat → Nat) (x : Nat) : ∀ k t, t + k < 2000 → (∃ s, t ≤ s ∧ s < t + k ∧ x ≤ p_se h s) → p_dd h x k t ≠ -2
  | 0, t, _, ⟨s, a, b, _⟩ => by omega
  | k + 1, t, hk, ⟨s, a, b, c⟩ => by
    rw [p_dd]
    by_cases e : x ≤ p_se h t
    · rw [if_pos e]
      intro z
      have := congrArg Int32.toInt z
      rw [n_toInt (by omega), k9L_m2] at this
      omega
    · rw [if_neg e]
      refine p_dd_yes h x k (t + 1) (by omega) ⟨s, ?_, by omega, c⟩
      by_cases z : s = t
      · subst z
        exact absurd c e
      · omega
theorem t_patience (hI : k9_Inv I J) : k9_P S (d + 20) 112 203 [some (k9_r 1 0)] [some (k9_r 12 0), none] I J k9_Inv := by
  obtain ⟨w, V, b, v⟩ := hI
  have v : k9_Iv I J w V b := v
  have hf := v.1.2.2.1
  have hlen := p_len_b hf
  obtain ⟨I1, e1, b1, i1⟩ := k9s_148 (S := S) (d := d + 13) v
  obtain ⟨h, hh⟩ : ∃ h, h = p_sh w (p_tt w) V := ⟨_, rfl⟩
  have hsd := p_sd_b h (p_len w)
  obtain ⟨mx1, mx2⟩ := p_sd_max h (p_len w)
  have e10 := k9s_10 (S := S) (d := d + 17) (J := J) i1.1.1 hf
  have e60 := k9s_60 (S := S) (d := d + 18) (J := J) (q := 0) (N := p_len w) (x := nI (p_len w) - 1) b1 (n_pm1 (by omega)) (by omega) (by omega) (by omega) (fun t => p_sh_b t) (by omega)
  rw [if_pos rfl, ← hh] at e60
  obtain ⟨m, hm⟩ : ∃ m, m = max 1 (p_sd h (p_len w)).1 := ⟨_, rfl⟩
  obtain ⟨I2, e2, m2, i2⟩ := k9_run (S := S) (d := d + 14) i1
  rw [← hh] at m2
  have e201 := fun (x : Nat) (h0 : 1 ≤ x) (h1 : x ≤ 1000) => k9s_201 (S := S) (d := d + 19) (J := J) (x := x) m2 hlen (fun t => by rw [hh]; exact p_sh_b t) h1 h0
  have mn : (if (1 : Int32) < nI (p_sd h (p_len w)).1 then nI (p_sd h (p_len w)).1 else 1) = nI m := by
    rw [hm]
    exact n_max (a := 1) (by omega) (by omega)
  have km : ∀ k x, x + k = m → 1 ≤ x → k9_ok (k9_R S (d + 20) 203 4 [some (k9_r 12 0), some (k9_i (nI x))] [] I2 J) (fun q => q = (some (k9_i (nI m)), I2, J)) := by
    intro k
    induction k with
    | zero =>
      intro x hx h1
      obtain rfl : x = m := by omega
      have e := e201 x h1 (by omega)
      rw [p_dd_no h x _ _ (fun s a b => by
        have := mx1 s (by omega)
        omega)] at e
      refine k9o_eq k9e_203_4 (k9o_F (by rw [n_toInt (by omega)]; omega) (k9o_eq k9e_203_7 (k9o_call e ?_)))
      simp only [k9_ps_s]
      exact k9o_eq k9e_203_10 (k9o_T (by decide) (k9o_eq k9e_203_12 (k9o_ret rfl)))
    | succ k ih =>
      intro x hx h1
      have e := e201 x h1 (by omega)
      have hpos : 0 < p_len w := by
        apply Nat.pos_of_ne_zero
        intro z
        rw [z] at hm
        have : (p_sd h 0).1 = 0 := rfl
        omega
      obtain ⟨t, t1, t2⟩ := mx2 hpos
      have hne := p_dd_yes h x (p_len w - 1) 1 (by omega) ⟨t, by
        apply Nat.pos_of_ne_zero
        intro z
        subst z
        have : p_se h 0 = 0 := rfl
        omega, by omega, by omega⟩
      refine k9o_eq k9e_203_4 (k9o_F (by rw [n_toInt (by omega)]; omega) (k9o_eq k9e_203_7 (k9o_call e ?_)))
      simp only [k9_ps_s]
      refine k9o_eq k9e_203_10 (k9o_F (fun z => hne (n_ext (by rw [z]; decide))) (k9o_eq k9e_203_14 ?_))
      rw [nI_1]
      exact ih (x + 1) (by omega) (by omega)
  refine k9P_of ?_
  simp (disch := omega) only [k9e_112_0, k9e_112_3, k9e_112_8, k9e_112_11, Nat.reduceEqDiff, Int.reduceEq, Int.reduceLT, Int.reduceLE, k9_ps_s, k9_ps_n, k9_ur, false_and, and_false, true_and, and_true, true_or, or_true, false_or, or_false, eq_self, ↓reduceIte, not_true_eq_false, not_false_eq_true, n_toInt, n_cl, nI_1, nI_add, n_a0, n_p2, n_p3, n_p4, n_x2, n_x3, n_x4, n_x60, n_x100, n_pm1, k9L_m2, k9L_m1, k9L_0, k9L_1, k9L_2, k9L_3, k9L_4, k9L_5, k9L_6, k9L_7, k9L_8, k9L_9, k9L_10, k9L_20, k9L_23, k9L_24, k9L_30, k9L_40, k9L_50, k9L_60, k9L_99, k9L_100, k9L_120, k9L_255, k9L_999, k9L_1000, k9_bs, k9_ba]
  repeat (first | ((with_reducible refine k9q_T ?_ ?_); · omega) | ((with_reducible refine k9q_F ?_ ?_); · omega) | ((with_reducible refine k9q_Tb ?_ ?_); · omega) | ((with_reducible refine k9q_Fb ?_ ?_); · omega) | (refine k9o_call (e1) ?_; simp (disch := omega) only [k9e_112_0, k9e_112_3, k9e_112_8, k9e_112_11, Nat.reduceEqDiff, Int.reduceEq, Int.reduceLT, Int.reduceLE, k9_ps_s, k9_ps_n, k9_ur, false_and, and_false, true_and, and_true, true_or, or_true, false_or, or_false, eq_self, ↓reduceIte, not_true_eq_false, not_false_eq_true, n_toInt, n_cl, nI_1, nI_add, n_a0, n_p2, n_p3, n_p4, n_x2, n_x3, n_x4, n_x60, n_x100, n_pm1, k9L_m2, k9L_m1, k9L_0, k9L_1, k9L_2, k9L_3, k9L_4, k9L_5, k9L_6, k9L_7, k9L_8, k9L_9, k9L_10, k9L_20, k9L_23, k9L_24, k9L_30, k9L_40, k9L_50, k9L_60, k9L_99, k9L_100, k9L_120, k9L_255, k9L_999, k9L_1000, k9_bs, k9_ba]) | (refine k9o_call (e10) ?_; simp (disch := omega) only [k9e_112_0, k9e_112_3, k9e_112_8, k9e_112_11, Nat.reduceEqDiff, Int.reduceEq, Int.reduceLT, Int.reduceLE, k9_ps_s, k9_ps_n, k9_ur, false_and, and_false, true_and, and_true, true_or, or_true, false_or, or_false, eq_self, ↓reduceIte, not_true_eq_false, not_false_eq_true, n_toInt, n_cl, nI_1, nI_add, n_a0, n_p2, n_p3, n_p4, n_x2, n_x3, n_x4, n_x60, n_x100, n_pm1, k9L_m2, k9L_m1, k9L_0, k9L_1, k9L_2, k9L_3, k9L_4, k9L_5, k9L_6, k9L_7, k9L_8, k9L_9, k9L_10, k9L_20, k9L_23, k9L_24, k9L_30, k9L_40, k9L_50, k9L_60, k9L_99, k9L_100, k9L_120, k9L_255, k9L_999, k9L_1000, k9_bs, k9_ba]) | (refine k9o_call (e60) ?_; simp (disch := omega) only [k9e_112_0, k9e_112_3, k9e_112_8, k9e_112_11, Nat.reduceEqDiff, Int.reduceEq, Int.reduceLT, Int.reduceLE, k9_ps_s, k9_ps_n, k9_ur, false_and, and_false, true_and, and_true, true_or, or_true, false_or, or_false, eq_self, ↓reduceIte, not_true_eq_false, not_false_eq_true, n_toInt, n_cl, nI_1, nI_add, n_a0, n_p2, n_p3, n_p4, n_x2, n_x3, n_x4, n_x60, n_x100, n_pm1, k9L_m2, k9L_m1, k9L_0, k9L_1, k9L_2, k9L_3, k9L_4, k9L_5, k9L_6, k9L_7, k9L_8, k9L_9, k9L_10, k9L_20, k9L_23, k9L_24, k9L_30, k9L_40, k9L_50, k9L_60, k9L_99, k9L_100, k9L_120, k9L_255, k9L_999, k9L_1000, k9_bs, k9_ba]) | simp (disch := omega) only [k9e_112_0, k9e_112_3, k9e_112_8, k9e_112_11, Nat.reduceEqDiff, Int.reduceEq, Int.reduceLT, Int.reduceLE, k9_ps_s, k9_ps_n, k9_ur, false_and, and_false, true_and, and_true, true_or, or_true, false_or, or_false, eq_self, ↓reduceIte, not_true_eq_false, not_false_eq_true, n_toInt, n_cl, nI_1, nI_add, n_a0, n_p2, n_p3, n_p4, n_x2, n_x3, n_x4, n_x60, n_x100, n_pm1, k9L_m2, k9L_m1, k9L_0, k9L_1, k9L_2, k9L_3, k9L_4, k9L_5, k9L_6, k9L_7, k9L_8, k9L_9, k9L_10, k9L_20, k9L_23, k9L_24, k9L_30, k9L_40, k9L_50, k9L_60, k9L_99, k9L_100, k9L_120, k9L_255, k9L_999, k9L_1000, k9_bs, k9_ba])
  rw [mn]
  refine k9o_ret ⟨_, _, _, rfl, ?_⟩
  simp (disch := omega) only [k9e_203_0, k9e_203_2, k9e_203_7, k9e_203_10, k9e_203_12, k9e_203_14, k9e_203_16, Nat.reduceEqDiff, Int.reduceEq, Int.reduceLT, Int.reduceLE, k9_ps_s, k9_ps_n, k9_ur, false_and, and_false, true_and, and_true, true_or, or_true, false_or, or_false, eq_self, ↓reduceIte, not_true_eq_false, not_false_eq_true, n_toInt, n_cl, nI_1, nI_add, n_a0, n_p2, n_p3, n_p4, n_x2, n_x3, n_x4, n_x60, n_x100, n_pm1, k9L_m2, k9L_m1, k9L_0, k9L_1, k9L_2, k9L_3, k9L_4, k9L_5, k9L_6, k9L_7, k9L_8, k9L_9, k9L_10, k9L_20, k9L_23, k9L_24, k9L_30, k9L_40, k9L_50, k9L_60, k9L_99, k9L_100, k9L_120, k9L_255, k9L_999, k9L_1000, k9_bs, k9_ba]
  repeat (first | ((with_reducible refine k9q_T ?_ ?_); · omega) | ((with_reducible refine k9q_F ?_ ?_); · omega) | ((with_reducible refine k9q_Tb ?_ ?_); · omega) | ((with_reducible refine k9q_Fb ?_ ?_); · omega) | (refine k9o_call (e2) ?_; simp (disch := omega) only [k9e_203_0, k9e_203_2, k9e_203_7, k9e_203_10, k9e_203_12, k9e_203_14, k9e_203_16, Nat.reduceEqDiff, Int.reduceEq, Int.reduceLT, Int.reduceLE, k9_ps_s, k9_ps_n, k9_ur, false_and, and_false, true_and, and_true, true_or, or_true, false_or, or_false, eq_self, ↓reduceIte, not_true_eq_false, not_false_eq_true, n_toInt, n_cl, nI_1, nI_add, n_a0, n_p2, n_p3, n_p4, n_x2, n_x3, n_x4, n_x60, n_x100, n_pm1, k9L_m2, k9L_m1, k9L_0, k9L_1, k9L_2, k9L_3, k9L_4, k9L_5, k9L_6, k9L_7, k9L_8, k9L_9, k9L_10, k9L_20, k9L_23, k9L_24, k9L_30, k9L_40, k9L_50, k9L_60, k9L_99, k9L_100, k9L_120, k9L_255, k9L_999, k9L_1000, k9_bs, k9_ba]) | simp (disch := omega) only [k9e_203_0, k9e_203_2, k9e_203_7, k9e_203_10, k9e_203_12, k9e_203_14, k9e_203_16, Nat.reduceEqDiff, Int.reduceEq, Int.reduceLT, Int.reduceLE, k9_ps_s, k9_ps_n, k9_ur, false_and, and_false, true_and, and_true, true_or, or_true, false_or, or_false, eq_self, ↓reduceIte, not_true_eq_false, not_false_eq_true, n_toInt, n_cl, nI_1, nI_add, n_a0, n_p2, n_p3, n_p4, n_x2, n_x3, n_x4, n_x60, n_x100, n_pm1, k9L_m2, k9L_m1, k9L_0, k9L_1, k9L_2, k9L_3, k9L_4, k9L_5, k9L_6, k9L_7, k9L_8, k9L_9, k9L_10, k9L_20, k9L_23, k9L_24, k9L_30, k9L_40, k9L_50, k9L_60, k9L_99, k9L_100, k9L_120, k9L_255, k9L_999, k9L_1000, k9_bs, k9_ba])
  obtain ⟨q2, c2, rfl⟩ := km (m - 1) 1 (by omega) (Nat.le_refl _)
  exact k9o_to c2 ⟨_, _, rfl, k9_Iv_e i2⟩
end KT18
