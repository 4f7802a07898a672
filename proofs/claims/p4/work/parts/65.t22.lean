/-! LIES: pleases -/
section KT22
variable {S : k9_S} {d : Nat} {I I' : k9_I} {J J' : k9_J} {w : Nat → Nat → Nat} {V : (Nat → Int32) → Int32} {b : Nat} {x1 x2 x3 : Int32} {h c : Nat → Nat} {L A f M : Nat}
def p_mx (f : Nat → Int32) : Nat → Nat × Int32
  | 0 => (0, f 0)
  | k + 1 => if (p_mx f k).2.toInt < (f (k + 1)).toInt then (k + 1, f (k + 1)) else p_mx f k
theorem p_mx_b (f : Nat → Int32) : ∀ k, (p_mx f k).1 ≤ k
  | 0 => Nat.le_refl _
  | k + 1 => by
    have := p_mx_b f k
    rw [p_mx]
    split
    · exact Nat.le_refl _
    · omega
/-- the reference's sum -/
theorem k9s_214p {Q : k9_A → Prop} {a1 a2 a3 a4 a5 a6 : Int32} (hR : k9_Mr I L h c) (hL : L ≤ 954) (g : k9_ok (k9_R S d 214 56 [some (k9_r 12 0), some (k9_i a1), some (k9_i a2), some (k9_i a3), some (k9_i a4), some (k9_i a5), some (k9_i a6), some (k9_i (p_pl h L)), some (k9_i (nI (L + 1)))] [] I J) Q) : k9_ok (k9_R S d 214 34 [some (k9_r 12 0), some (k9_i a1), some (k9_i a2), some (k9_i a3), some (k9_i a4), some (k9_i a5), some (k9_i a6), some (k9_i 0), some (k9_i 1)] [] I J) Q := by
  have key : ∀ k t, t + k = L → k9_ok (k9_R S d 214 34 [some (k9_r 12 0), some (k9_i a1), some (k9_i a2), some (k9_i a3), some (k9_i a4), some (k9_i a5), some (k9_i a6), some (k9_i (p_pl h t)), some (k9_i (nI (t + 1)))] [] I J) Q := by
    intro k
    induction k with
    | zero =>
      intro t ht
      obtain rfl : t = L := by omega
      exact k9o_eq k9e_214_34 (k9o_T (by rw [hR.1, n_toInt (by omega), n_toInt (by omega)]; omega) g)
    | succ k ih =>
      intro t ht
      have e := ih (t + 1) (by omega)
      have a := (hR.2 (t + 1) (by omega)).2.2
      have a' := (hR.2 t (by omega)).2.2
      refine k9o_eq k9e_214_34 (k9o_F (by rw [hR.1, n_toInt (by omega), n_toInt (by omega)]; omega) ?_)
      simp (disch := omega) only [k9e_214_38, k9e_214_43, k9e_214_49, Nat.reduceEqDiff, Int.reduceEq, Int.reduceLT, Int.reduceLE, k9_ps_s, k9_ps_n, k9_ur, false_and, and_false, true_and, and_true, true_or, or_true, false_or, or_false, eq_self, ↓reduceIte, not_true_eq_false, not_false_eq_true, n_toInt, n_cl, nI_1, nI_add, n_a0, n_p2, n_p3, n_p4, n_x2, n_x3, n_x4, n_x60, n_x100, n_pm1, k9L_m2, k9L_m1, k9L_0, k9L_1, k9L_2, k9L_3, k9L_4, k9L_5, k9L_6, k9L_7, k9L_8, k9L_9, k9L_10, k9L_20, k9L_23, k9L_24, k9L_30, k9L_40, k9L_50, k9L_60, k9L_99, k9L_100, k9L_120, k9L_255, k9L_999, k9L_1000, k9_bs, k9_ba, hR.1, a, a', n_s1, Nat.add_sub_cancel]
      repeat (first | ((with_reducible refine k9q_T ?_ ?_); · omega) | ((with_reducible refine k9q_F ?_ ?_); · omega) | ((with_reducible refine k9q_Tb ?_ ?_); · omega) | ((with_reducible refine k9q_Fb ?_ ?_); · omega) | simp (disch := omega) only [k9e_214_38, k9e_214_43, k9e_214_49, Nat.reduceEqDiff, Int.reduceEq, Int.reduceLT, Int.reduceLE, k9_ps_s, k9_ps_n, k9_ur, false_and, and_false, true_and, and_true, true_or, or_true, false_or, or_false, eq_self, ↓reduceIte, not_true_eq_false, not_false_eq_true, n_toInt, n_cl, nI_1, nI_add, n_a0, n_p2, n_p3, n_p4, n_x2, n_x3, n_x4, n_x60, n_x100, n_pm1, k9L_m2, k9L_m1, k9L_0, k9L_1, k9L_2, k9L_3, k9L_4, k9L_5, k9L_6, k9L_7, k9L_8, k9L_9, k9L_10, k9L_20, k9L_23, k9L_24, k9L_30, k9L_40, k9L_50, k9L_60, k9L_99, k9L_100, k9L_120, k9L_255, k9L_999, k9L_1000, k9_bs, k9_ba, hR.1, a, a', n_s1, Nat.add_sub_cancel])
      exact e
  exact key L 0 (by omega)
theorem t_pleases (hI : k9_Inv I J) : k9_P S (d + 20) 118 214 [some (k9_r 1 0), some (k9_i x1), none, none, none, none] [some (k9_r 12 0), some (k9_i x1), none, none, none, none, none, none, none] I J k9_Inv := by
  have hI' := hI
  obtain ⟨w, V, b, v⟩ := hI
  have v : k9_Iv I J w V b := v
  have hf := v.1.2.2.1
  have hlen := p_len_b hf
  have h5 := hf.2.2.1
  refine k9P_of ?_
  by_cases h1 : 0 ≤ x1.toInt ∧ x1.toInt ≤ 1
  · obtain ⟨q, rfl, hq, -⟩ := n_of (x := x1) (by omega)
    obtain ⟨u, hu⟩ : ∃ u : Nat → Nat → Nat → Nat, u = fun m => p_up w 5 0 m := ⟨_, rfl⟩
    have huu : ∀ m, u m = p_up w 5 0 m := fun m => by rw [hu]
    have hlu : ∀ m, p_len (u m) = p_len w := fun m => by
      rw [huu]
      have hst : ∀ k, p_st (p_up w 5 0 m) k = p_st w k := by
        intro k
        induction k with
        | zero => rfl
        | succ k ih => rw [p_st, p_st, ih]; rfl
      exact hst _
    obtain ⟨g, hg⟩ : ∃ g : Nat → Int32, g = fun m => p_pl (p_sh (u m) (p_tt (u m)) V) (p_len (u m)) := ⟨_, rfl⟩
    have hgu : ∀ m, g m = p_pl (p_sh (u m) (p_tt (u m)) V) (p_len (u m)) := fun m => by rw [hg]
    have hgw : g (w 5 0) = p_pl (p_sh w (p_tt w) V) (p_len w) := by rw [hgu, huu, p_up_id]
    have hwf : ∀ m, m ≤ 9 → k9_wf (u m) := fun m hm => by rw [huu]; exact k9_wf_up hf (Or.inr ⟨by omega, by omega, rfl⟩) (by simp [p_lo]) (by simp [p_hi]; omega)
    -- the reference, from any memory that the invariant holds of
    have ref : ∀ I3 : k9_I, k9_Iv I3 J w V b → k9_ok (k9_R S (d + 20) 214 0 [some (k9_r 12 0), some (k9_i (nI q)), none, none, none, none, none, none, none] [] I3 J) (fun q' => ∃ I5 J5, q' = (some (k9_i (if q = 0 then g (w 5 0) else nI (p_mx g 9).1)), I5, J5) ∧ k9_Inv I5 J5) := by
      intro I3 i3
      have had : I3 44 0 1 = nI (w 5 0) := i3.1.2.1.2.2.1
      have onem : ∀ m I4, m ≤ 9 → k9_fx (k9_F2 1) I3 I4 → ∃ I5, (∀ Q : k9_A → Prop, ∀ x3' x4' x5' : Int32, k9_ok (k9_R S (d + 20) 214 61 [some (k9_r 12 0), some (k9_i (nI q)), some (k9_i (nI (w 5 0))), some (k9_i x3'), some (k9_i x4'), some (k9_i (if m = w 5 0 then g m else x5')), some (k9_i (nI m)), some (k9_i (g m)), some (k9_i (nI (p_len w + 1)))] [] I5 J) Q → k9_ok (k9_R S (d + 20) 214 23 [some (k9_r 12 0), some (k9_i (nI q)), some (k9_i (nI (w 5 0))), some (k9_i x3'), some (k9_i x4'), some (k9_i x5'), some (k9_i (nI m)), none, none] [] I4 J) Q) ∧ k9_fx (k9_F2 1) I3 I5 := by
        intro m I4 hm hx
        obtain ⟨I5, e5, m5, x5⟩ := k9_run2 (S := S) (d := d + 14) (p0 := 1) (m := m) i3 hx (by omega) (by simp [p_lo]) (by simp [p_hi]; omega)
        have m5 : k9_Mr I5 (p_len (u m)) (p_sh (u m) (p_tt (u m)) V) (p_co (u m)) := by rw [huu m]; exact m5
        have hl := hlu m
        refine ⟨I5, fun Q x3' x4' x5' o => ?_, x5⟩
        refine k9o_eq k9e_214_23 (k9o_call e5 ?_)
        simp only [k9_ps_n]
        refine k9o_eq k9e_214_30 (k9s_214p m5 (by omega) ?_)
        rw [← hgu m, hl]
        refine k9o_eq k9e_214_56 ?_
        by_cases c : m = w 5 0
        · rw [if_pos c] at o
          refine k9o_T (by rw [c]) (k9o_eq k9e_214_59 o)
        · rw [if_neg c] at o
          refine k9o_F (by rw [n_toInt (by omega), n_toInt (by omega)]; omega) o
      have km : ∀ k m I4, m + k = 9 → k9_fx (k9_F2 1) I3 I4 → k9_ok (k9_R S (d + 20) 214 20 [some (k9_r 12 0), some (k9_i (nI q)), some (k9_i (nI (w 5 0))), some (k9_i (nI (p_mx g m).1)), some (k9_i (p_mx g m).2), some (k9_i (if w 5 0 ≤ m then g (w 5 0) else 0)), some (k9_i (nI (m + 1))), none, none] [] I4 J) (fun q' => ∃ I5 J5, q' = (some (k9_i (if q = 0 then g (w 5 0) else nI (p_mx g 9).1)), I5, J5) ∧ k9_Inv I5 J5) := by
        intro k
        induction k with
        | zero =>
          intro m I4 hm hx
          obtain rfl : m = 9 := by omega
          have hfin := k9_Iv_e (k9_Iv_0 (k9_F2_e (by omega) hx) i3)
          rw [had] at hfin
          refine k9o_eq k9e_214_20 (k9o_T (by decide) (k9o_eq k9e_214_74 ?_))
          rw [if_pos h5]
          by_cases h0 : q = 0
          · rw [if_pos h0]
            refine k9o_T (by rw [n_toInt (by omega)]; omega) (k9o_eq k9e_214_81 (k9o_eq k9e_214_84 (k9o_ret ⟨_, _, rfl, hfin⟩)))
          · rw [if_neg h0]
            refine k9o_F (by rw [n_toInt (by omega)]; omega) (k9o_eq k9e_214_83 (k9o_eq k9e_214_84 (k9o_ret ⟨_, _, rfl, hfin⟩)))
        | succ k ih =>
          intro m I4 hm hx
          obtain ⟨I5, o5, x5⟩ := onem (m + 1) I4 (by omega) hx
          have o6 := ih (m + 1) I5 (by omega) x5
          have hb := p_mx_b g m
          refine k9o_eq k9e_214_20 (k9o_F (by rw [n_toInt (by omega)]; omega) (o5 _ _ _ _ ?_))
          have eth : (if m + 1 = w 5 0 then g (m + 1) else if w 5 0 ≤ m then g (w 5 0) else 0) = if w 5 0 ≤ m + 1 then g (w 5 0) else 0 := by
            by_cases c : m + 1 = w 5 0
            · rw [if_pos c, if_pos (by omega), c]
            · rw [if_neg c]
              by_cases c2 : w 5 0 ≤ m
              · rw [if_pos c2, if_pos (by omega)]
              · rw [if_neg c2, if_neg (by omega)]
          rw [eth]
          refine k9o_eq k9e_214_61 (k9o_F (by rw [n_toInt (by omega)]; omega) (k9o_eq k9e_214_64 ?_))
          rw [p_mx] at o6
          by_cases c : (p_mx g m).2.toInt < (g (m + 1)).toInt
          · rw [if_pos c] at o6
            refine k9o_T c (k9o_eq k9e_214_68 (k9o_eq k9e_214_72 ?_))
            rw [nI_1]
            exact o6
          · rw [if_neg c] at o6
            refine k9o_F c (k9o_eq k9e_214_67 (k9o_eq k9e_214_72 ?_))
            rw [nI_1]
            exact o6
      obtain ⟨I5, o5, x5⟩ := onem 0 I3 (by omega) (k9_fx_rf _ _)
      have o6 := km 9 0 I5 (by omega) x5
      simp (disch := omega) only [k9e_214_0, k9e_214_4, k9e_214_5, k9e_214_7, Nat.reduceEqDiff, Int.reduceEq, Int.reduceLT, Int.reduceLE, k9_ps_s, k9_ps_n, k9_ur, false_and, and_false, true_and, and_true, true_or, or_true, false_or, or_false, eq_self, ↓reduceIte, not_true_eq_false, not_false_eq_true, n_toInt, n_cl, nI_1, nI_add, n_a0, n_p2, n_p3, n_p4, n_x2, n_x3, n_x4, n_x60, n_x100, n_pm1, k9L_m2, k9L_m1, k9L_0, k9L_1, k9L_2, k9L_3, k9L_4, k9L_5, k9L_6, k9L_7, k9L_8, k9L_9, k9L_10, k9L_20, k9L_23, k9L_24, k9L_30, k9L_40, k9L_50, k9L_60, k9L_99, k9L_100, k9L_120, k9L_255, k9L_999, k9L_1000, k9_bs, k9_ba, had]
      repeat (first | ((with_reducible refine k9q_T ?_ ?_); · omega) | ((with_reducible refine k9q_F ?_ ?_); · omega) | ((with_reducible refine k9q_Tb ?_ ?_); · omega) | ((with_reducible refine k9q_Fb ?_ ?_); · omega) | (refine k9o_call (k9s_153 (by first | omega | (simp (disch := omega) only [n_toInt, n_pm1, k9L_m2, k9L_m1, k9L_0, k9L_1, k9L_2, k9L_3, k9L_4, k9L_5, k9L_6, k9L_7, k9L_8, k9L_9, k9L_10, k9L_20, k9L_23, k9L_24, k9L_30, k9L_40, k9L_50, k9L_60, k9L_99, k9L_100, k9L_120, k9L_255, k9L_999, k9L_1000]; omega))) ?_; simp (disch := omega) only [k9e_214_0, k9e_214_4, k9e_214_5, k9e_214_7, Nat.reduceEqDiff, Int.reduceEq, Int.reduceLT, Int.reduceLE, k9_ps_s, k9_ps_n, k9_ur, false_and, and_false, true_and, and_true, true_or, or_true, false_or, or_false, eq_self, ↓reduceIte, not_true_eq_false, not_false_eq_true, n_toInt, n_cl, nI_1, nI_add, n_a0, n_p2, n_p3, n_p4, n_x2, n_x3, n_x4, n_x60, n_x100, n_pm1, k9L_m2, k9L_m1, k9L_0, k9L_1, k9L_2, k9L_3, k9L_4, k9L_5, k9L_6, k9L_7, k9L_8, k9L_9, k9L_10, k9L_20, k9L_23, k9L_24, k9L_30, k9L_40, k9L_50, k9L_60, k9L_99, k9L_100, k9L_120, k9L_255, k9L_999, k9L_1000, k9_bs, k9_ba, had]) | (refine k9o_call (k9s_153x (by first | omega | (simp (disch := omega) only [n_toInt, n_pm1, k9L_m2, k9L_m1, k9L_0, k9L_1, k9L_2, k9L_3, k9L_4, k9L_5, k9L_6, k9L_7, k9L_8, k9L_9, k9L_10, k9L_20, k9L_23, k9L_24, k9L_30, k9L_40, k9L_50, k9L_60, k9L_99, k9L_100, k9L_120, k9L_255, k9L_999, k9L_1000]; omega))) ?_; simp (disch := omega) only [k9e_214_0, k9e_214_4, k9e_214_5, k9e_214_7, Nat.reduceEqDiff, Int.reduceEq, Int.reduceLT, Int.reduceLE, k9_ps_s, k9_ps_n, k9_ur, false_and, and_false, true_and, and_true, true_or, or_true, false_or, or_false, eq_self, ↓reduceIte, not_true_eq_false, not_false_eq_true, n_toInt, n_cl, nI_1, nI_add, n_a0, n_p2, n_p3, n_p4, n_x2, n_x3, n_x4, n_x60, n_x100, n_pm1, k9L_m2, k9L_m1, k9L_0, k9L_1, k9L_2, k9L_3, k9L_4, k9L_5, k9L_6, k9L_7, k9L_8, k9L_9, k9L_10, k9L_20, k9L_23, k9L_24, k9L_30, k9L_40, k9L_50, k9L_60, k9L_99, k9L_100, k9L_120, k9L_255, k9L_999, k9L_1000, k9_bs, k9_ba, had]) | simp (disch := omega) only [k9e_214_0, k9e_214_4, k9e_214_5, k9e_214_7, Nat.reduceEqDiff, Int.reduceEq, Int.reduceLT, Int.reduceLE, k9_ps_s, k9_ps_n, k9_ur, false_and, and_false, true_and, and_true, true_or, or_true, false_or, or_false, eq_self, ↓reduceIte, not_true_eq_false, not_false_eq_true, n_toInt, n_cl, nI_1, nI_add, n_a0, n_p2, n_p3, n_p4, n_x2, n_x3, n_x4, n_x60, n_x100, n_pm1, k9L_m2, k9L_m1, k9L_0, k9L_1, k9L_2, k9L_3, k9L_4, k9L_5, k9L_6, k9L_7, k9L_8, k9L_9, k9L_10, k9L_20, k9L_23, k9L_24, k9L_30, k9L_40, k9L_50, k9L_60, k9L_99, k9L_100, k9L_120, k9L_255, k9L_999, k9L_1000, k9_bs, k9_ba, had])
      refine k9o_eq k9e_214_20 (k9o_F (by decide) ?_)
      refine o5 _ _ _ 0 ?_
      have eth : (if 0 = w 5 0 then g 0 else 0) = if w 5 0 ≤ 0 then g (w 5 0) else 0 := by
        by_cases c : 0 = w 5 0
        · rw [if_pos c, if_pos (by omega), ← c]
        · rw [if_neg c, if_neg (by omega)]
      rw [eth]
      exact k9o_eq k9e_214_61 (k9o_T (by decide) (k9o_eq k9e_214_68 (k9o_eq k9e_214_72 o6)))
    by_cases h0 : q = 0
    · obtain ⟨I1, e1, b1, i1⟩ := k9s_148 (S := S) (d := d + 13) v
      have e65 := k9s_65 (S := S) (d := d + 19) (J := J) b1 (by omega) (by omega)
      rw [← hgw] at e65
      have rr := ref I1 i1
      rw [if_pos h0] at rr
      simp (disch := omega) only [k9e_118_0, k9e_118_2, k9e_118_5, k9e_118_7, k9e_118_9, k9e_118_11, k9e_118_12, Nat.reduceEqDiff, Int.reduceEq, Int.reduceLT, Int.reduceLE, k9_ps_s, k9_ps_n, k9_ur, false_and, and_false, true_and, and_true, true_or, or_true, false_or, or_false, eq_self, ↓reduceIte, not_true_eq_false, not_false_eq_true, n_toInt, n_cl, nI_1, nI_add, n_a0, n_p2, n_p3, n_p4, n_x2, n_x3, n_x4, n_x60, n_x100, n_pm1, k9L_m2, k9L_m1, k9L_0, k9L_1, k9L_2, k9L_3, k9L_4, k9L_5, k9L_6, k9L_7, k9L_8, k9L_9, k9L_10, k9L_20, k9L_23, k9L_24, k9L_30, k9L_40, k9L_50, k9L_60, k9L_99, k9L_100, k9L_120, k9L_255, k9L_999, k9L_1000, k9_bs, k9_ba]
      repeat (first | ((with_reducible refine k9q_T ?_ ?_); · omega) | ((with_reducible refine k9q_F ?_ ?_); · omega) | ((with_reducible refine k9q_Tb ?_ ?_); · omega) | ((with_reducible refine k9q_Fb ?_ ?_); · omega) | (refine k9o_call (e1) ?_; simp (disch := omega) only [k9e_118_0, k9e_118_2, k9e_118_5, k9e_118_7, k9e_118_9, k9e_118_11, k9e_118_12, Nat.reduceEqDiff, Int.reduceEq, Int.reduceLT, Int.reduceLE, k9_ps_s, k9_ps_n, k9_ur, false_and, and_false, true_and, and_true, true_or, or_true, false_or, or_false, eq_self, ↓reduceIte, not_true_eq_false, not_false_eq_true, n_toInt, n_cl, nI_1, nI_add, n_a0, n_p2, n_p3, n_p4, n_x2, n_x3, n_x4, n_x60, n_x100, n_pm1, k9L_m2, k9L_m1, k9L_0, k9L_1, k9L_2, k9L_3, k9L_4, k9L_5, k9L_6, k9L_7, k9L_8, k9L_9, k9L_10, k9L_20, k9L_23, k9L_24, k9L_30, k9L_40, k9L_50, k9L_60, k9L_99, k9L_100, k9L_120, k9L_255, k9L_999, k9L_1000, k9_bs, k9_ba]) | (refine k9o_call (e65) ?_; simp (disch := omega) only [k9e_118_0, k9e_118_2, k9e_118_5, k9e_118_7, k9e_118_9, k9e_118_11, k9e_118_12, Nat.reduceEqDiff, Int.reduceEq, Int.reduceLT, Int.reduceLE, k9_ps_s, k9_ps_n, k9_ur, false_and, and_false, true_and, and_true, true_or, or_true, false_or, or_false, eq_self, ↓reduceIte, not_true_eq_false, not_false_eq_true, n_toInt, n_cl, nI_1, nI_add, n_a0, n_p2, n_p3, n_p4, n_x2, n_x3, n_x4, n_x60, n_x100, n_pm1, k9L_m2, k9L_m1, k9L_0, k9L_1, k9L_2, k9L_3, k9L_4, k9L_5, k9L_6, k9L_7, k9L_8, k9L_9, k9L_10, k9L_20, k9L_23, k9L_24, k9L_30, k9L_40, k9L_50, k9L_60, k9L_99, k9L_100, k9L_120, k9L_255, k9L_999, k9L_1000, k9_bs, k9_ba]) | simp (disch := omega) only [k9e_118_0, k9e_118_2, k9e_118_5, k9e_118_7, k9e_118_9, k9e_118_11, k9e_118_12, Nat.reduceEqDiff, Int.reduceEq, Int.reduceLT, Int.reduceLE, k9_ps_s, k9_ps_n, k9_ur, false_and, and_false, true_and, and_true, true_or, or_true, false_or, or_false, eq_self, ↓reduceIte, not_true_eq_false, not_false_eq_true, n_toInt, n_cl, nI_1, nI_add, n_a0, n_p2, n_p3, n_p4, n_x2, n_x3, n_x4, n_x60, n_x100, n_pm1, k9L_m2, k9L_m1, k9L_0, k9L_1, k9L_2, k9L_3, k9L_4, k9L_5, k9L_6, k9L_7, k9L_8, k9L_9, k9L_10, k9L_20, k9L_23, k9L_24, k9L_30, k9L_40, k9L_50, k9L_60, k9L_99, k9L_100, k9L_120, k9L_255, k9L_999, k9L_1000, k9_bs, k9_ba])
      exact k9o_ret ⟨_, _, _, rfl, rr⟩
    · obtain ⟨I1, e1, w1, x1'⟩ := k9s_15 (S := S) (d := d + 17) (I := I) (J := J) (i0 := 1) (i1 := 0) (by decide) v.1.1 hf
      have one : ∀ m I2, m ≤ 9 → (∃ a, k9_Wk I2 1 (p_up w 5 0 a)) → k9_fx k9_Ft I I2 → ∃ I3, (∀ Q : k9_A → Prop, ∀ x2' x3' : Int32, k9_ok (k9_R S (d + 20) 118 47 [some (k9_r 1 0), some (k9_i (nI q)), some (k9_i x2'), some (k9_i x3'), some (k9_i (nI m)), none] [k9_i (g m)] I3 J) Q → k9_ok (k9_R S (d + 20) 118 29 [some (k9_r 1 0), some (k9_i (nI q)), some (k9_i x2'), some (k9_i x3'), some (k9_i (nI m)), none] [] I2 J) Q) ∧ (∃ a, k9_Wk I3 1 (p_up w 5 0 a)) ∧ k9_fx k9_Ft I I3 := by
        intro m I2 hm ha hx
        obtain ⟨a, ha⟩ := ha
        have hW2 := k9_Wk_m (m := m) (Or.inr (Or.inl rfl)) ha
        rw [← huu m] at hW2
        have hx2 : k9_fx k9_Ft I (k9_u I2 3 1 2 (nI m)) := k9_fx_u hx rfl
        obtain ⟨e10, I3, e3, b3, w3, x3⟩ := k9_troll (S := S) (d := d + 15) (J := J) hW2 (hwf m hm) (k9_CL_t hx2 v.2.2.1.1)
        have e10' := k9s_10 (S := S) (d := d + 17) (J := J) hW2 (hwf m hm)
        have hl := hlu m
        have e65 := k9s_65 (S := S) (d := d + 19) (J := J) b3 (by omega) (by omega)
        rw [← hgu m] at e65
        refine ⟨I3, fun Q x2' x3' o => ?_, ⟨m, by rw [← huu m]; exact w3⟩, k9_fx_tr hx2 (k9_Ft_b x3)⟩
        refine k9o_eq k9e_118_29 (k9o_call e10' ?_)
        simp only [k9_ps_s]
        refine k9o_eq k9e_118_43 (k9o_call e3 ?_)
        simp only [k9_ps_n]
        refine k9o_eq k9e_118_44 (k9o_call e65 ?_)
        simp only [k9_ps_s]
        exact o
      have kc : ∀ k m I2, m + k = 9 → (∃ a, k9_Wk I2 1 (p_up w 5 0 a)) → k9_fx k9_Ft I I2 → ∃ I3, k9_ok (k9_R S (d + 20) 118 26 [some (k9_r 1 0), some (k9_i (nI q)), some (k9_i (nI (p_mx g m).1)), some (k9_i (p_mx g m).2), some (k9_i (nI (m + 1))), none] [] I2 J) (fun q' => q' = (some (k9_i (nI (p_mx g 9).1)), I3, J)) ∧ k9_fx k9_Ft I I3 := by
        intro k
        induction k with
        | zero =>
          intro m I2 hm ha hx
          obtain rfl : m = 9 := by omega
          exact ⟨I2, k9o_eq k9e_118_26 (k9o_T (by decide) (k9o_eq k9e_118_59 (k9o_ret rfl))), hx⟩
        | succ k ih =>
          intro m I2 hm ha hx
          obtain ⟨I3, o3, a3, x3⟩ := one (m + 1) I2 (by omega) ha hx
          obtain ⟨I4, o4, x4⟩ := ih (m + 1) I3 (by omega) a3 x3
          refine ⟨I4, k9o_eq k9e_118_26 (k9o_F (by rw [n_toInt (by omega)]; omega) (o3 _ _ _ (k9o_eq k9e_118_47 (k9o_F (by rw [n_toInt (by omega)]; omega) (k9o_eq k9e_118_50 ?_))))), x4⟩
          rw [p_mx] at o4
          by_cases c : (p_mx g m).2.toInt < (g (m + 1)).toInt
          · rw [if_pos c] at o4
            refine k9o_F (by omega) (k9o_eq k9e_118_53 (k9o_eq k9e_118_57 ?_))
            rw [nI_1]
            exact o4
          · rw [if_neg c] at o4
            refine k9o_T (by omega) (k9o_eq k9e_118_57 ?_)
            rw [nI_1]
            exact o4
      obtain ⟨I2, o2, a2, x2⟩ := one 0 I1 (by omega) ⟨w 5 0, by rw [p_up_id]; exact w1⟩ (k9_Ft_w x1')
      obtain ⟨I3, o3, x3⟩ := kc 9 0 I2 (by omega) a2 x2
      have i3 : k9_Iv I3 J w V b := k9_Iv_0 (k9_fp_x x3 (k9_Ft_X rfl)) v
      have rr := ref I3 i3
      rw [if_neg h0] at rr
      simp (disch := omega) only [k9e_118_0, k9e_118_2, k9e_118_5, k9e_118_7, k9e_118_9, k9e_118_11, k9e_118_12, k9e_118_13, k9e_118_20, Nat.reduceEqDiff, Int.reduceEq, Int.reduceLT, Int.reduceLE, k9_ps_s, k9_ps_n, k9_ur, false_and, and_false, true_and, and_true, true_or, or_true, false_or, or_false, eq_self, ↓reduceIte, not_true_eq_false, not_false_eq_true, n_toInt, n_cl, nI_1, nI_add, n_a0, n_p2, n_p3, n_p4, n_x2, n_x3, n_x4, n_x60, n_x100, n_pm1, k9L_m2, k9L_m1, k9L_0, k9L_1, k9L_2, k9L_3, k9L_4, k9L_5, k9L_6, k9L_7, k9L_8, k9L_9, k9L_10, k9L_20, k9L_23, k9L_24, k9L_30, k9L_40, k9L_50, k9L_60, k9L_99, k9L_100, k9L_120, k9L_255, k9L_999, k9L_1000, k9_bs, k9_ba]
      repeat (first | ((with_reducible refine k9q_T ?_ ?_); · omega) | ((with_reducible refine k9q_F ?_ ?_); · omega) | ((with_reducible refine k9q_Tb ?_ ?_); · omega) | ((with_reducible refine k9q_Fb ?_ ?_); · omega) | (refine k9o_call (e1) ?_; simp (disch := omega) only [k9e_118_0, k9e_118_2, k9e_118_5, k9e_118_7, k9e_118_9, k9e_118_11, k9e_118_12, k9e_118_13, k9e_118_20, Nat.reduceEqDiff, Int.reduceEq, Int.reduceLT, Int.reduceLE, k9_ps_s, k9_ps_n, k9_ur, false_and, and_false, true_and, and_true, true_or, or_true, false_or, or_false, eq_self, ↓reduceIte, not_true_eq_false, not_false_eq_true, n_toInt, n_cl, nI_1, nI_add, n_a0, n_p2, n_p3, n_p4, n_x2, n_x3, n_x4, n_x60, n_x100, n_pm1, k9L_m2, k9L_m1, k9L_0, k9L_1, k9L_2, k9L_3, k9L_4, k9L_5, k9L_6, k9L_7, k9L_8, k9L_9, k9L_10, k9L_20, k9L_23, k9L_24, k9L_30, k9L_40, k9L_50, k9L_60, k9L_99, k9L_100, k9L_120, k9L_255, k9L_999, k9L_1000, k9_bs, k9_ba]) | simp (disch := omega) only [k9e_118_0, k9e_118_2, k9e_118_5, k9e_118_7, k9e_118_9, k9e_118_11, k9e_118_12, k9e_118_13, k9e_118_20, Nat.reduceEqDiff, Int.reduceEq, Int.reduceLT, Int.reduceLE, k9_ps_s, k9_ps_n, k9_ur, false_and, and_false, true_and, and_true, true_or, or_true, false_or, or_false, eq_self, ↓reduceIte, not_true_eq_false, not_false_eq_true, n_toInt, n_cl, nI_1, nI_add, n_a0, n_p2, n_p3, n_p4, n_x2, n_x3, n_x4, n_x60, n_x100, n_pm1, k9L_m2, k9L_m1, k9L_0, k9L_1, k9L_2, k9L_3, k9L_4, k9L_5, k9L_6, k9L_7, k9L_8, k9L_9, k9L_10, k9L_20, k9L_23, k9L_24, k9L_30, k9L_40, k9L_50, k9L_60, k9L_99, k9L_100, k9L_120, k9L_255, k9L_999, k9L_1000, k9_bs, k9_ba])
      have oc := o2 _ 0 0 (k9o_eq k9e_118_47 (k9o_T (by decide) (k9o_eq k9e_118_53 (k9o_eq k9e_118_57 o3))))
      refine k9o_eq k9e_118_26 (k9o_F (by decide) ?_)
      obtain ⟨q1, c1, rfl⟩ := oc
      exact k9o_to c1 ⟨_, _, _, rfl, rr⟩
  · repeat' (first | ((with_reducible refine k9q_T ?_ ?_); · omega) | ((with_reducible refine k9q_F ?_ ?_); · omega) | ((with_reducible refine k9q_Tb ?_ ?_); · omega) | ((with_reducible refine k9q_Fb ?_ ?_); · omega) | simp (disch := omega) only [k9e_118_0, k9e_118_2, k9e_118_5, Nat.reduceEqDiff, Int.reduceEq, Int.reduceLT, Int.reduceLE, k9_ps_s, k9_ps_n, k9_ur, false_and, and_false, true_and, and_true, true_or, or_true, false_or, or_false, eq_self, ↓reduceIte, not_true_eq_false, not_false_eq_true, n_toInt, n_cl, nI_1, nI_add, n_a0, n_p2, n_p3, n_p4, n_x2, n_x3, n_x4, n_x60, n_x100, n_pm1, k9L_m2, k9L_m1, k9L_0, k9L_1, k9L_2, k9L_3, k9L_4, k9L_5, k9L_6, k9L_7, k9L_8, k9L_9, k9L_10, k9L_20, k9L_23, k9L_24, k9L_30, k9L_40, k9L_50, k9L_60, k9L_99, k9L_100, k9L_120, k9L_255, k9L_999, k9L_1000, k9_bs, k9_ba] | (with_reducible refine k9q_if (fun _ => ?_) (fun _ => ?_)) | (with_reducible refine k9q_ifb (fun _ => ?_) (fun _ => ?_)))
    all_goals refine k9o_ret ⟨_, _, _, rfl, ?_⟩
    all_goals repeat' (first | ((with_reducible refine k9q_T ?_ ?_); · omega) | ((with_reducible refine k9q_F ?_ ?_); · omega) | ((with_reducible refine k9q_Tb ?_ ?_); · omega) | ((with_reducible refine k9q_Fb ?_ ?_); · omega) | (refine k9o_call (k9s_153 (by first | omega | (simp (disch := omega) only [n_toInt, n_pm1, k9L_m2, k9L_m1, k9L_0, k9L_1, k9L_2, k9L_3, k9L_4, k9L_5, k9L_6, k9L_7, k9L_8, k9L_9, k9L_10, k9L_20, k9L_23, k9L_24, k9L_30, k9L_40, k9L_50, k9L_60, k9L_99, k9L_100, k9L_120, k9L_255, k9L_999, k9L_1000]; omega))) ?_; simp (disch := omega) only [k9e_214_0, k9e_214_4, k9e_214_5, Nat.reduceEqDiff, Int.reduceEq, Int.reduceLT, Int.reduceLE, k9_ps_s, k9_ps_n, k9_ur, false_and, and_false, true_and, and_true, true_or, or_true, false_or, or_false, eq_self, ↓reduceIte, not_true_eq_false, not_false_eq_true, n_toInt, n_cl, nI_1, nI_add, n_a0, n_p2, n_p3, n_p4, n_x2, n_x3, n_x4, n_x60, n_x100, n_pm1, k9L_m2, k9L_m1, k9L_0, k9L_1, k9L_2, k9L_3, k9L_4, k9L_5, k9L_6, k9L_7, k9L_8, k9L_9, k9L_10, k9L_20, k9L_23, k9L_24, k9L_30, k9L_40, k9L_50, k9L_60, k9L_99, k9L_100, k9L_120, k9L_255, k9L_999, k9L_1000, k9_bs, k9_ba]) | (refine k9o_call (k9s_153x (by first | omega | (simp (disch := omega) only [n_toInt, n_pm1, k9L_m2, k9L_m1, k9L_0, k9L_1, k9L_2, k9L_3, k9L_4, k9L_5, k9L_6, k9L_7, k9L_8, k9L_9, k9L_10, k9L_20, k9L_23, k9L_24, k9L_30, k9L_40, k9L_50, k9L_60, k9L_99, k9L_100, k9L_120, k9L_255, k9L_999, k9L_1000]; omega))) ?_; simp (disch := omega) only [k9e_214_0, k9e_214_4, k9e_214_5, Nat.reduceEqDiff, Int.reduceEq, Int.reduceLT, Int.reduceLE, k9_ps_s, k9_ps_n, k9_ur, false_and, and_false, true_and, and_true, true_or, or_true, false_or, or_false, eq_self, ↓reduceIte, not_true_eq_false, not_false_eq_true, n_toInt, n_cl, nI_1, nI_add, n_a0, n_p2, n_p3, n_p4, n_x2, n_x3, n_x4, n_x60, n_x100, n_pm1, k9L_m2, k9L_m1, k9L_0, k9L_1, k9L_2, k9L_3, k9L_4, k9L_5, k9L_6, k9L_7, k9L_8, k9L_9, k9L_10, k9L_20, k9L_23, k9L_24, k9L_30, k9L_40, k9L_50, k9L_60, k9L_99, k9L_100, k9L_120, k9L_255, k9L_999, k9L_1000, k9_bs, k9_ba]) | simp (disch := omega) only [k9e_214_0, k9e_214_4, k9e_214_5, Nat.reduceEqDiff, Int.reduceEq, Int.reduceLT, Int.reduceLE, k9_ps_s, k9_ps_n, k9_ur, false_and, and_false, true_and, and_true, true_or, or_true, false_or, or_false, eq_self, ↓reduceIte, not_true_eq_false, not_false_eq_true, n_toInt, n_cl, nI_1, nI_add, n_a0, n_p2, n_p3, n_p4, n_x2, n_x3, n_x4, n_x60, n_x100, n_pm1, k9L_m2, k9L_m1, k9L_0, k9L_1, k9L_2, k9L_3, k9L_4, k9L_5, k9L_6, k9L_7, k9L_8, k9L_9, k9L_10, k9L_20, k9L_23, k9L_24, k9L_30, k9L_40, k9L_50, k9L_60, k9L_99, k9L_100, k9L_120, k9L_255, k9L_999, k9L_1000, k9_bs, k9_ba] | (with_reducible refine k9q_if (fun _ => ?_) (fun _ => ?_)) | (with_reducible refine k9q_ifb (fun _ => ?_) (fun _ => ?_)))
    all_goals exact k9o_ret ⟨_, _, rfl, hI'⟩
end KT22
