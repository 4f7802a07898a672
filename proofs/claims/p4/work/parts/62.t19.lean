/-! SEEN: what a trial shows; which -/
section KT19
variable {S : k9_S} {d : Nat} {I I' : k9_I} {J J' : k9_J} {w : Nat → Nat → Nat} {V : (Nat → Int32) → Int32} {b : Nat} {x1 x2 x3 : Int32} {h c : Nat → Nat} {L A f M : Nat}
def k9_Ft (k i p : Nat) : Bool := k9_Fw 1 k i p || k9_Fb 1 k i p
theorem k9_Ft_b {I1 I2 : k9_I} (h : k9_fx (k9_Fb 1) I1 I2) : k9_fx k9_Ft I1 I2 := k9_fx_w h (fun k i p e => by
  unfold k9_Ft at e
  exact (Bool.or_eq_false_iff.mp e).2)
theorem k9_Ft_w {I1 I2 : k9_I} (h : k9_fx (k9_Fw 1) I1 I2) : k9_fx k9_Ft I1 I2 := k9_fx_w h (fun k i p e => by
  unfold k9_Ft at e
  exact (Bool.or_eq_false_iff.mp e).1)
theorem k9_Fw1_X {X : Nat → Bool} (hX : X 0 = true) : ∀ k i p, k9_Fw 1 k i p = true → X (v_cl k i p) = true := by
  intro k i p e
  simp only [k9_Fw, Bool.or_eq_true, Bool.and_eq_true] at e
  obtain ⟨e, e0⟩ := e
  have e0 := k9_beq_of e0
  subst e0
  rcases e with (((e | e) | e) | e) | e <;> (rw [k9_beq_of e]; exact hX)
theorem k9_Ft_X {X : Nat → Bool} (hX : X 0 = true) : ∀ k i p, k9_Ft k i p = true → X (v_cl k i p) = true := by
  intro k i p e
  rcases Bool.or_eq_true_iff.mp e with e | e
  · exact k9_Fw1_X hX k i p e
  · exact k9_Fb1_X hX k i p e
theorem p_fu_ne (h : Nat → Nat) (g : Nat → Int32) (t : Nat) : ∀ k i, t ≤ 999 → i + k ≤ 1000 → (∃ j, i ≤ j ∧ j < i + k ∧ 999 < t + j) → p_fu h g t k i ≠ -2
  | 0, i, _, _, ⟨j, a, b, _⟩ => by omega
  | k + 1, i, ht, hi, ⟨j, a, b, c⟩ => by
    rw [p_fu]
    by_cases e : 999 < t + i ∨ ¬ nI (h (t + i)) = g i
    · rw [if_pos e]
      intro z
      have := congrArg Int32.toInt z
      rw [n_toInt (by omega), k9L_m2] at this
      omega
    · rw [if_neg e]
      refine p_fu_ne h g t k (i + 1) ht (by omega) ⟨j, ?_, by omega, c⟩
      by_cases z : j = i
      · subst z
        exact absurd (Or.inl c) e
      · omega
theorem k9s_53 (hW : k9_Wk I 1 w) (hf : k9_wf w) (hl : I 6 0 0 = 0 ∨ I 6 0 0 = 1) : k9_R S d 53 0 [some (k9_r 2 1), some (k9_r 6 0)] [] I J = some (some (k9_i (@ite _ (p_lb w (I 6 0 0)) (Classical.propDecidable _) 1 0)), I, J) := by
  have h4 := hf.2.1
  have h5 := hf.2.2.1
  have h7 := hf.2.2.2.1
  refine k9o_of ?_
  by_cases a : w 6 0 = 1
  · rw [if_pos (show p_lb w (I 6 0 0) from Or.inl a)]
    simp (disch := omega) only [k9e_53_0, k9e_53_5, k9e_53_9, k9e_53_14, k9e_53_17, k9e_53_19, k9e_53_20, Nat.reduceEqDiff, Int.reduceEq, Int.reduceLT, Int.reduceLE, k9_ps_s, k9_ps_n, k9_ur, false_and, and_false, true_and, and_true, true_or, or_true, false_or, or_false, eq_self, ↓reduceIte, not_true_eq_false, not_false_eq_true, n_toInt, n_cl, nI_1, nI_add, n_a0, n_p2, n_p3, n_p4, n_x2, n_x3, n_x4, n_x60, n_x100, n_pm1, k9L_m2, k9L_m1, k9L_0, k9L_1, k9L_2, k9L_3, k9L_4, k9L_5, k9L_6, k9L_7, k9L_8, k9L_9, k9L_10, k9L_20, k9L_23, k9L_24, k9L_30, k9L_40, k9L_50, k9L_60, k9L_99, k9L_100, k9L_120, k9L_255, k9L_999, k9L_1000, k9_bs, k9_ba, hW.2.2.2.1]
    repeat (first | ((with_reducible refine k9q_T ?_ ?_); · omega) | ((with_reducible refine k9q_F ?_ ?_); · omega) | ((with_reducible refine k9q_Tb ?_ ?_); · omega) | ((with_reducible refine k9q_Fb ?_ ?_); · omega) | simp (disch := omega) only [k9e_53_0, k9e_53_5, k9e_53_9, k9e_53_14, k9e_53_17, k9e_53_19, k9e_53_20, Nat.reduceEqDiff, Int.reduceEq, Int.reduceLT, Int.reduceLE, k9_ps_s, k9_ps_n, k9_ur, false_and, and_false, true_and, and_true, true_or, or_true, false_or, or_false, eq_self, ↓reduceIte, not_true_eq_false, not_false_eq_true, n_toInt, n_cl, nI_1, nI_add, n_a0, n_p2, n_p3, n_p4, n_x2, n_x3, n_x4, n_x60, n_x100, n_pm1, k9L_m2, k9L_m1, k9L_0, k9L_1, k9L_2, k9L_3, k9L_4, k9L_5, k9L_6, k9L_7, k9L_8, k9L_9, k9L_10, k9L_20, k9L_23, k9L_24, k9L_30, k9L_40, k9L_50, k9L_60, k9L_99, k9L_100, k9L_120, k9L_255, k9L_999, k9L_1000, k9_bs, k9_ba, hW.2.2.2.1])
    exact k9o_ret rfl
  · by_cases b : 0 < w 5 0
    · rw [if_pos (show p_lb w (I 6 0 0) from Or.inr (Or.inl b))]
      simp (disch := omega) only [k9e_53_0, k9e_53_5, k9e_53_9, k9e_53_14, k9e_53_17, k9e_53_19, k9e_53_20, Nat.reduceEqDiff, Int.reduceEq, Int.reduceLT, Int.reduceLE, k9_ps_s, k9_ps_n, k9_ur, false_and, and_false, true_and, and_true, true_or, or_true, false_or, or_false, eq_self, ↓reduceIte, not_true_eq_false, not_false_eq_true, n_toInt, n_cl, nI_1, nI_add, n_a0, n_p2, n_p3, n_p4, n_x2, n_x3, n_x4, n_x60, n_x100, n_pm1, k9L_m2, k9L_m1, k9L_0, k9L_1, k9L_2, k9L_3, k9L_4, k9L_5, k9L_6, k9L_7, k9L_8, k9L_9, k9L_10, k9L_20, k9L_23, k9L_24, k9L_30, k9L_40, k9L_50, k9L_60, k9L_99, k9L_100, k9L_120, k9L_255, k9L_999, k9L_1000, k9_bs, k9_ba, hW.2.2.2.1, hW.2.2.1]
      repeat (first | ((with_reducible refine k9q_T ?_ ?_); · omega) | ((with_reducible refine k9q_F ?_ ?_); · omega) | ((with_reducible refine k9q_Tb ?_ ?_); · omega) | ((with_reducible refine k9q_Fb ?_ ?_); · omega) | simp (disch := omega) only [k9e_53_0, k9e_53_5, k9e_53_9, k9e_53_14, k9e_53_17, k9e_53_19, k9e_53_20, Nat.reduceEqDiff, Int.reduceEq, Int.reduceLT, Int.reduceLE, k9_ps_s, k9_ps_n, k9_ur, false_and, and_false, true_and, and_true, true_or, or_true, false_or, or_false, eq_self, ↓reduceIte, not_true_eq_false, not_false_eq_true, n_toInt, n_cl, nI_1, nI_add, n_a0, n_p2, n_p3, n_p4, n_x2, n_x3, n_x4, n_x60, n_x100, n_pm1, k9L_m2, k9L_m1, k9L_0, k9L_1, k9L_2, k9L_3, k9L_4, k9L_5, k9L_6, k9L_7, k9L_8, k9L_9, k9L_10, k9L_20, k9L_23, k9L_24, k9L_30, k9L_40, k9L_50, k9L_60, k9L_99, k9L_100, k9L_120, k9L_255, k9L_999, k9L_1000, k9_bs, k9_ba, hW.2.2.2.1, hW.2.2.1])
      exact k9o_ret rfl
    · by_cases c : w 4 0 = 4
      · rcases hl with hl | hl
        · rw [if_neg (fun z => by
            rcases z with z | z | ⟨-, z⟩
            · exact a z
            · exact b z
            · rw [hl] at z
              exact absurd z (by decide))]
          simp (disch := omega) only [k9e_53_0, k9e_53_5, k9e_53_9, k9e_53_14, k9e_53_17, k9e_53_19, k9e_53_20, Nat.reduceEqDiff, Int.reduceEq, Int.reduceLT, Int.reduceLE, k9_ps_s, k9_ps_n, k9_ur, false_and, and_false, true_and, and_true, true_or, or_true, false_or, or_false, eq_self, ↓reduceIte, not_true_eq_false, not_false_eq_true, n_toInt, n_cl, nI_1, nI_add, n_a0, n_p2, n_p3, n_p4, n_x2, n_x3, n_x4, n_x60, n_x100, n_pm1, k9L_m2, k9L_m1, k9L_0, k9L_1, k9L_2, k9L_3, k9L_4, k9L_5, k9L_6, k9L_7, k9L_8, k9L_9, k9L_10, k9L_20, k9L_23, k9L_24, k9L_30, k9L_40, k9L_50, k9L_60, k9L_99, k9L_100, k9L_120, k9L_255, k9L_999, k9L_1000, k9_bs, k9_ba, hW.2.2.2.1, hW.2.2.1, hW.2.1, hl]
          repeat (first | ((with_reducible refine k9q_T ?_ ?_); · omega) | ((with_reducible refine k9q_F ?_ ?_); · omega) | ((with_reducible refine k9q_Tb ?_ ?_); · omega) | ((with_reducible refine k9q_Fb ?_ ?_); · omega) | simp (disch := omega) only [k9e_53_0, k9e_53_5, k9e_53_9, k9e_53_14, k9e_53_17, k9e_53_19, k9e_53_20, Nat.reduceEqDiff, Int.reduceEq, Int.reduceLT, Int.reduceLE, k9_ps_s, k9_ps_n, k9_ur, false_and, and_false, true_and, and_true, true_or, or_true, false_or, or_false, eq_self, ↓reduceIte, not_true_eq_false, not_false_eq_true, n_toInt, n_cl, nI_1, nI_add, n_a0, n_p2, n_p3, n_p4, n_x2, n_x3, n_x4, n_x60, n_x100, n_pm1, k9L_m2, k9L_m1, k9L_0, k9L_1, k9L_2, k9L_3, k9L_4, k9L_5, k9L_6, k9L_7, k9L_8, k9L_9, k9L_10, k9L_20, k9L_23, k9L_24, k9L_30, k9L_40, k9L_50, k9L_60, k9L_99, k9L_100, k9L_120, k9L_255, k9L_999, k9L_1000, k9_bs, k9_ba, hW.2.2.2.1, hW.2.2.1, hW.2.1, hl])
          exact k9o_ret rfl
        · rw [if_pos (show p_lb w (I 6 0 0) from Or.inr (Or.inr ⟨c, hl⟩))]
          simp (disch := omega) only [k9e_53_0, k9e_53_5, k9e_53_9, k9e_53_14, k9e_53_17, k9e_53_19, k9e_53_20, Nat.reduceEqDiff, Int.reduceEq, Int.reduceLT, Int.reduceLE, k9_ps_s, k9_ps_n, k9_ur, false_and, and_false, true_and, and_true, true_or, or_true, false_or, or_false, eq_self, ↓reduceIte, not_true_eq_false, not_false_eq_true, n_toInt, n_cl, nI_1, nI_add, n_a0, n_p2, n_p3, n_p4, n_x2, n_x3, n_x4, n_x60, n_x100, n_pm1, k9L_m2, k9L_m1, k9L_0, k9L_1, k9L_2, k9L_3, k9L_4, k9L_5, k9L_6, k9L_7, k9L_8, k9L_9, k9L_10, k9L_20, k9L_23, k9L_24, k9L_30, k9L_40, k9L_50, k9L_60, k9L_99, k9L_100, k9L_120, k9L_255, k9L_999, k9L_1000, k9_bs, k9_ba, hW.2.2.2.1, hW.2.2.1, hW.2.1, hl]
          repeat (first | ((with_reducible refine k9q_T ?_ ?_); · omega) | ((with_reducible refine k9q_F ?_ ?_); · omega) | ((with_reducible refine k9q_Tb ?_ ?_); · omega) | ((with_reducible refine k9q_Fb ?_ ?_); · omega) | simp (disch := omega) only [k9e_53_0, k9e_53_5, k9e_53_9, k9e_53_14, k9e_53_17, k9e_53_19, k9e_53_20, Nat.reduceEqDiff, Int.reduceEq, Int.reduceLT, Int.reduceLE, k9_ps_s, k9_ps_n, k9_ur, false_and, and_false, true_and, and_true, true_or, or_true, false_or, or_false, eq_self, ↓reduceIte, not_true_eq_false, not_false_eq_true, n_toInt, n_cl, nI_1, nI_add, n_a0, n_p2, n_p3, n_p4, n_x2, n_x3, n_x4, n_x60, n_x100, n_pm1, k9L_m2, k9L_m1, k9L_0, k9L_1, k9L_2, k9L_3, k9L_4, k9L_5, k9L_6, k9L_7, k9L_8, k9L_9, k9L_10, k9L_20, k9L_23, k9L_24, k9L_30, k9L_40, k9L_50, k9L_60, k9L_99, k9L_100, k9L_120, k9L_255, k9L_999, k9L_1000, k9_bs, k9_ba, hW.2.2.2.1, hW.2.2.1, hW.2.1, hl])
          exact k9o_ret rfl
      · rw [if_neg (fun z => by
          rcases z with z | z | ⟨z, -⟩
          · exact a z
          · exact b z
          · exact c z)]
        simp (disch := omega) only [k9e_53_0, k9e_53_5, k9e_53_9, k9e_53_14, k9e_53_17, k9e_53_19, k9e_53_20, Nat.reduceEqDiff, Int.reduceEq, Int.reduceLT, Int.reduceLE, k9_ps_s, k9_ps_n, k9_ur, false_and, and_false, true_and, and_true, true_or, or_true, false_or, or_false, eq_self, ↓reduceIte, not_true_eq_false, not_false_eq_true, n_toInt, n_cl, nI_1, nI_add, n_a0, n_p2, n_p3, n_p4, n_x2, n_x3, n_x4, n_x60, n_x100, n_pm1, k9L_m2, k9L_m1, k9L_0, k9L_1, k9L_2, k9L_3, k9L_4, k9L_5, k9L_6, k9L_7, k9L_8, k9L_9, k9L_10, k9L_20, k9L_23, k9L_24, k9L_30, k9L_40, k9L_50, k9L_60, k9L_99, k9L_100, k9L_120, k9L_255, k9L_999, k9L_1000, k9_bs, k9_ba, hW.2.2.2.1, hW.2.2.1, hW.2.1]
        repeat (first | ((with_reducible refine k9q_T ?_ ?_); · omega) | ((with_reducible refine k9q_F ?_ ?_); · omega) | ((with_reducible refine k9q_Tb ?_ ?_); · omega) | ((with_reducible refine k9q_Fb ?_ ?_); · omega) | simp (disch := omega) only [k9e_53_0, k9e_53_5, k9e_53_9, k9e_53_14, k9e_53_17, k9e_53_19, k9e_53_20, Nat.reduceEqDiff, Int.reduceEq, Int.reduceLT, Int.reduceLE, k9_ps_s, k9_ps_n, k9_ur, false_and, and_false, true_and, and_true, true_or, or_true, false_or, or_false, eq_self, ↓reduceIte, not_true_eq_false, not_false_eq_true, n_toInt, n_cl, nI_1, nI_add, n_a0, n_p2, n_p3, n_p4, n_x2, n_x3, n_x4, n_x60, n_x100, n_pm1, k9L_m2, k9L_m1, k9L_0, k9L_1, k9L_2, k9L_3, k9L_4, k9L_5, k9L_6, k9L_7, k9L_8, k9L_9, k9L_10, k9L_20, k9L_23, k9L_24, k9L_30, k9L_40, k9L_50, k9L_60, k9L_99, k9L_100, k9L_120, k9L_255, k9L_999, k9L_1000, k9_bs, k9_ba, hW.2.2.2.1, hW.2.2.1, hW.2.1])
        exact k9o_ret rfl
theorem k9s_151 {s z t : Nat} (hW : k9_Wk I 1 w) (hf : k9_wf w) (hC : k9_CL I V) (hz : k9_byr I s z) (ht : t ≤ 999) : ∃ I', k9_R S (d + 6) 151 0 [some (k9_r 1 0), some (k9_r 11 s), some (k9_i (nI t)), none] [] I J = some (some (k9_i (if p_fu (p_sh w (p_tt w) V) (fun i => (J 37 s i).toInt32) t z 0 = -2 then 1 else 0)), I', J) ∧ k9_fx (k9_Fb 1) I I' := by
  have hz60 := hz.2.2.2.2.2
  have hend : (nI (t + z) - 1).toInt = ((t + z : Nat) : Int) - 1 := n_pm1 (by omega)
  by_cases he : t + z ≤ 1000
  · have e53 := k9s_53 (S := S) (d := d + 5) (J := J) hW hf hC.2.1
    -- from whichever second it is rolled
    have rest : ∀ f : Nat, f ≤ t → (f = 0 ∨ ¬ p_lb w (I 6 0 0)) → ∃ I', k9_ok (k9_R S (d + 6) 151 25 [some (k9_r 1 0), some (k9_r 11 s), some (k9_i (nI t)), some (k9_i (nI (t + z) - 1))] [k9_i (nI f), k9_r 6 0, k9_r 2 1] I J) (fun q => q = (some (k9_i (if p_fu (p_sh w (p_tt w) V) (fun i => (J 37 s i).toInt32) t z 0 = -2 then 1 else 0)), I', J)) ∧ k9_fx (k9_Fb 1) I I' := by
      intro f hft hlb
      obtain ⟨I1, e1, r1, x1⟩ := k9s_54 (S := S) (d := d + 1) (I := I) (J := J) (i0 := 1) (w := w) (V := V) (f := f) (L := t + z) (x := nI (t + z) - 1) hW hf hC hend he (by omega) hlb
      refine ⟨I1, ?_, x1⟩
      have e66 := k9s_66 (S := S) (d := d + 3) (J := J) (t := t) (n := z) (i1 := s) (M := t + z) (f := f) (I := I1) (i0 := 1) (h := p_sh w (p_tt w) V) (c := p_co w) (L := p_len w) (A := p_tt w 0) r1 hft ((x1 11 s 3 rfl).trans hz.2.2.1) hz60 he ht (Or.inl (Nat.le_refl _))
      refine k9o_eq k9e_151_25 (k9o_call e1 ?_)
      simp only [k9_ps_n]
      refine k9o_eq k9e_151_27 (k9o_call e66 ?_)
      simp only [k9_ps_s]
      refine k9o_eq k9e_151_32 ?_
      by_cases c : p_fu (p_sh w (p_tt w) V) (fun i => (J 37 s i).toInt32) t z 0 = -2
      · rw [if_pos c]
        refine k9o_T (by rw [c]; decide) ?_
        simp (disch := omega) only [k9e_151_34, k9e_151_36, k9e_151_37, Nat.reduceEqDiff, Int.reduceEq, Int.reduceLT, Int.reduceLE, k9_ps_s, k9_ps_n, k9_ur, false_and, and_false, true_and, and_true, true_or, or_true, false_or, or_false, eq_self, ↓reduceIte, not_true_eq_false, not_false_eq_true, n_toInt, n_cl, nI_1, nI_add, n_a0, n_p2, n_p3, n_p4, n_x2, n_x3, n_x4, n_x60, n_x100, n_pm1, k9L_m2, k9L_m1, k9L_0, k9L_1, k9L_2, k9L_3, k9L_4, k9L_5, k9L_6, k9L_7, k9L_8, k9L_9, k9L_10, k9L_20, k9L_23, k9L_24, k9L_30, k9L_40, k9L_50, k9L_60, k9L_99, k9L_100, k9L_120, k9L_255, k9L_999, k9L_1000, k9_bs, k9_ba]
        repeat (first | ((with_reducible refine k9q_T ?_ ?_); · omega) | ((with_reducible refine k9q_F ?_ ?_); · omega) | ((with_reducible refine k9q_Tb ?_ ?_); · omega) | ((with_reducible refine k9q_Fb ?_ ?_); · omega) | simp (disch := omega) only [k9e_151_34, k9e_151_36, k9e_151_37, Nat.reduceEqDiff, Int.reduceEq, Int.reduceLT, Int.reduceLE, k9_ps_s, k9_ps_n, k9_ur, false_and, and_false, true_and, and_true, true_or, or_true, false_or, or_false, eq_self, ↓reduceIte, not_true_eq_false, not_false_eq_true, n_toInt, n_cl, nI_1, nI_add, n_a0, n_p2, n_p3, n_p4, n_x2, n_x3, n_x4, n_x60, n_x100, n_pm1, k9L_m2, k9L_m1, k9L_0, k9L_1, k9L_2, k9L_3, k9L_4, k9L_5, k9L_6, k9L_7, k9L_8, k9L_9, k9L_10, k9L_20, k9L_23, k9L_24, k9L_30, k9L_40, k9L_50, k9L_60, k9L_99, k9L_100, k9L_120, k9L_255, k9L_999, k9L_1000, k9_bs, k9_ba])
        exact k9o_ret rfl
      · rw [if_neg c]
        refine k9o_F (fun y => c (n_ext (by rw [y]; decide))) ?_
        simp (disch := omega) only [k9e_151_34, k9e_151_36, k9e_151_37, Nat.reduceEqDiff, Int.reduceEq, Int.reduceLT, Int.reduceLE, k9_ps_s, k9_ps_n, k9_ur, false_and, and_false, true_and, and_true, true_or, or_true, false_or, or_false, eq_self, ↓reduceIte, not_true_eq_false, not_false_eq_true, n_toInt, n_cl, nI_1, nI_add, n_a0, n_p2, n_p3, n_p4, n_x2, n_x3, n_x4, n_x60, n_x100, n_pm1, k9L_m2, k9L_m1, k9L_0, k9L_1, k9L_2, k9L_3, k9L_4, k9L_5, k9L_6, k9L_7, k9L_8, k9L_9, k9L_10, k9L_20, k9L_23, k9L_24, k9L_30, k9L_40, k9L_50, k9L_60, k9L_99, k9L_100, k9L_120, k9L_255, k9L_999, k9L_1000, k9_bs, k9_ba]
        repeat (first | ((with_reducible refine k9q_T ?_ ?_); · omega) | ((with_reducible refine k9q_F ?_ ?_); · omega) | ((with_reducible refine k9q_Tb ?_ ?_); · omega) | ((with_reducible refine k9q_Fb ?_ ?_); · omega) | simp (disch := omega) only [k9e_151_34, k9e_151_36, k9e_151_37, Nat.reduceEqDiff, Int.reduceEq, Int.reduceLT, Int.reduceLE, k9_ps_s, k9_ps_n, k9_ur, false_and, and_false, true_and, and_true, true_or, or_true, false_or, or_false, eq_self, ↓reduceIte, not_true_eq_false, not_false_eq_true, n_toInt, n_cl, nI_1, nI_add, n_a0, n_p2, n_p3, n_p4, n_x2, n_x3, n_x4, n_x60, n_x100, n_pm1, k9L_m2, k9L_m1, k9L_0, k9L_1, k9L_2, k9L_3, k9L_4, k9L_5, k9L_6, k9L_7, k9L_8, k9L_9, k9L_10, k9L_20, k9L_23, k9L_24, k9L_30, k9L_40, k9L_50, k9L_60, k9L_99, k9L_100, k9L_120, k9L_255, k9L_999, k9L_1000, k9_bs, k9_ba])
        exact k9o_ret rfl
    by_cases hlb : p_lb w (I 6 0 0)
    · rw [if_pos hlb] at e53
      obtain ⟨I1, o1, x1⟩ := rest 0 (Nat.zero_le _) (Or.inl rfl)
      refine ⟨I1, k9o_of ?_, x1⟩
      refine k9o_eq k9e_151_0 ?_
      rw [hz.2.2.1, nI_add]
      refine k9o_T (by rw [hend]; omega) (k9o_eq k9e_151_12 (k9o_call e53 ?_))
      simp only [k9_ps_s]
      exact k9o_eq k9e_151_21 (k9o_F (by decide) (k9o_eq k9e_151_22 o1))
    · rw [if_neg hlb] at e53
      obtain ⟨I1, o1, x1⟩ := rest t (Nat.le_refl _) (Or.inr hlb)
      refine ⟨I1, k9o_of ?_, x1⟩
      refine k9o_eq k9e_151_0 ?_
      rw [hz.2.2.1, nI_add]
      refine k9o_T (by rw [hend]; omega) (k9o_eq k9e_151_12 (k9o_call e53 ?_))
      simp only [k9_ps_s]
      exact k9o_eq k9e_151_21 (k9o_T (by decide) (k9o_eq k9e_151_24 o1))
  · refine ⟨I, k9o_of ?_, k9_fx_rf _ _⟩
    rw [if_neg (p_fu_ne _ _ t z 0 ht (by omega) ⟨z - 1, by omega, by omega, by omega⟩)]
    refine k9o_eq k9e_151_0 ?_
    rw [hz.2.2.1, nI_add]
    exact k9o_F (by rw [hend]; omega) (k9o_eq k9e_151_10 (k9o_ret rfl))
theorem p_up_up (w : Nat → Nat → Nat) (q p a b : Nat) : p_up (p_up w q p a) q p b = p_up w q p b := by
  funext q' p'
  unfold p_up
  split <;> rfl
theorem p_up_id (w : Nat → Nat → Nat) (q p : Nat) : p_up w q p (w q p) = w := by
  funext q' p'
  unfold p_up
  split
  · rename_i h
    rw [h.1, h.2]
  · rfl
end KT19
