/-! LIES: measure -/
section KT21
variable {S : k9_S} {d : Nat} {I I' : k9_I} {J J' : k9_J} {w : Nat → Nat → Nat} {V : (Nat → Int32) → Int32} {b : Nat} {x1 x2 x3 : Int32} {h c : Nat → Nat} {L A f M : Nat}
theorem p_mn_b (h : Nat → Nat) (x : Nat) : ∀ k, p_mn h x k ≤ k
  | 0 => Nat.le_refl _
  | k + 1 => by
    have := p_mn_b h x k
    rw [p_mn]
    split <;> omega
/-- the trial is rolled to its last second -/
theorem k9_troll {I1 : k9_I} (hW : k9_Wk I1 1 w) (hf : k9_wf w) (hC : k9_CL I1 V) : k9_R S (d + 2) 10 0 [some (k9_r 3 1), none, none] [] I1 J = some (some (k9_i (nI (p_len w))), I1, J) ∧ ∃ I2, k9_R S (d + 4) 54 0 [some (k9_r 2 1), some (k9_r 6 0), some (k9_i 0), some (k9_i (nI (p_len w))), none, none, none] [] I1 J = some (none, I2, J) ∧ k9_Br I2 1 (p_len w) (p_tt w 0) (p_sh w (p_tt w) V) (p_co w) 0 (p_len w + 1) ∧ k9_Wk I2 1 w ∧ k9_fx (k9_Fb 1) I1 I2 := by
  have hlen := p_len_b hf
  refine ⟨k9s_10 hW hf, ?_⟩
  obtain ⟨I2, e2, r2, x2⟩ := k9s_54 (S := S) (d := d) (I := I1) (J := J) (i0 := 1) (w := w) (V := V) (f := 0) (L := p_len w + 1) (x := nI (p_len w)) hW hf hC (by rw [n_toInt (by omega)]; omega) (by omega) (by omega) (Or.inl rfl)
  exact ⟨I2, e2, r2, k9_Wk_fx x2 (fun _ => ⟨rfl, rfl, rfl, rfl, rfl⟩) hW, x2⟩
theorem t_measure (hI : k9_Inv I J) : k9_P S (d + 20) 117 213 [some (k9_r 1 0), some (k9_i x1), none, none, none, none] [some (k9_r 12 0), some (k9_i x1), none, none, none, none, none] I J k9_Inv := by
  have hI' := hI
  obtain ⟨w, V, b, v⟩ := hI
  have v : k9_Iv I J w V b := v
  have hf := v.1.2.2.1
  refine k9P_of ?_
  by_cases h1 : 0 ≤ x1.toInt ∧ x1.toInt ≤ 1
  · obtain ⟨q, rfl, hq, -⟩ := n_of (x := x1) (by omega)
    obtain ⟨I1, e1, w1, x1'⟩ := k9s_15 (S := S) (d := d + 17) (I := I) (J := J) (i0 := 1) (i1 := 0) (by decide) v.1.1 hf
    obtain ⟨u, hu⟩ : ∃ u : Nat → Nat → Nat → Nat, u = fun m => p_up w 4 0 m := ⟨_, rfl⟩
    have huu : ∀ m, u m = p_up w 4 0 m := fun m => by rw [hu]
    obtain ⟨g, hg⟩ : ∃ g : Nat → Nat, g = fun m => if q = 0 then (p_of (p_sh (u m) (p_tt (u m)) V) (fun t => p_ct (p_len (u m)) (min t (p_len (u m)))) (p_len (u m) + 1)).2.1 else p_mn (p_sh (u m) (p_tt (u m)) V) 99 (p_len (u m) + 1) := ⟨_, rfl⟩
    have hgu : ∀ m, g m = if q = 0 then (p_of (p_sh (u m) (p_tt (u m)) V) (fun t => p_ct (p_len (u m)) (min t (p_len (u m)))) (p_len (u m) + 1)).2.1 else p_mn (p_sh (u m) (p_tt (u m)) V) 99 (p_len (u m) + 1) := fun m => by rw [hg]
    have hlu : ∀ m, p_len (u m) = p_len w := fun m => by
      rw [huu]
      have hst : ∀ k, p_st (p_up w 4 0 m) k = p_st w k := by
        intro k
        induction k with
        | zero => rfl
        | succ k ih => rw [p_st, p_st, ih]; rfl
      exact hst _
    have hlen := p_len_b hf
    have hgb : ∀ m, g m ≤ 100000 := fun m => by
      rw [hgu]
      split
      · have := (p_of_b (h := p_sh (u m) (p_tt (u m)) V) (fun t => p_sh_b t) (fun t => p_ct_b (Nat.min_le_right t (p_len (u m)))) (p_len (u m) + 1)).2.1
        have := hlu m
        omega
      · have := p_mn_b (p_sh (u m) (p_tt (u m)) V) 99 (p_len (u m) + 1)
        have := hlu m
        omega
    have hwf : ∀ m, m ≤ 3 → k9_wf (u m) := fun m hm => by rw [huu]; exact k9_wf_up hf (Or.inr ⟨by omega, by omega, rfl⟩) (by simp [p_lo]) (by simp [p_hi]; omega)
    -- one measure, in the class
    have one : ∀ m I2, m ≤ 3 → (∃ a, k9_Wk I2 1 (p_up w 4 0 a)) → k9_fx k9_Ft I I2 → ∃ I3, (∀ Q : k9_A → Prop, ∀ x2' x3' : Int32, k9_ok (k9_R S (d + 20) 117 49 [some (k9_r 1 0), some (k9_i (nI q)), some (k9_i x2'), some (k9_i x3'), some (k9_i (nI m)), none] [k9_i (nI (g m))] I3 J) Q → k9_ok (k9_R S (d + 20) 117 23 [some (k9_r 1 0), some (k9_i (nI q)), some (k9_i x2'), some (k9_i x3'), some (k9_i (nI m)), none] [] I2 J) Q) ∧ (∃ a, k9_Wk I3 1 (p_up w 4 0 a)) ∧ k9_fx k9_Ft I I3 := by
      intro m I2 hm ha hx
      obtain ⟨a, ha⟩ := ha
      have hW2 := k9_Wk_m (m := m) (Or.inl rfl) ha
      rw [← huu m] at hW2
      have hx2 : k9_fx k9_Ft I (k9_u I2 3 1 1 (nI m)) := k9_fx_u hx rfl
      obtain ⟨e10, I3, e3, b3, w3, x3⟩ := k9_troll (S := S) (d := d + 15) (J := J) hW2 (hwf m hm) (k9_CL_t hx2 v.2.2.1.1)
      have e10' := k9s_10 (S := S) (d := d + 17) (J := J) hW2 (hwf m hm)
      have hl := hlu m
      refine ⟨I3, fun Q x2' x3' o => ?_, ⟨m, by rw [← huu m]; exact w3⟩, k9_fx_tr hx2 (k9_Ft_b x3)⟩
      refine k9o_eq k9e_117_23 (k9o_call e10' ?_)
      simp only [k9_ps_s]
      refine k9o_eq k9e_117_37 (k9o_call e3 ?_)
      simp only [k9_ps_n]
      refine k9o_eq k9e_117_38 ?_
      have hgm := hgu m
      by_cases h0 : q = 0
      · rw [if_pos h0] at hgm
        have e61 := k9s_61 (S := S) (d := d + 17) (J := J) (q := 1) b3 (by omega) (by omega) (fun t => p_sh_b t) (by omega)
        rw [if_neg (by decide), if_pos rfl, ← hgm] at e61
        refine k9o_T (by rw [n_toInt (by omega)]; omega) (k9o_eq k9e_117_40 (k9o_call e61 ?_))
        simp only [k9_ps_s]
        exact k9o_eq k9e_117_44 o
      · rw [if_neg h0] at hgm
        have e59 := k9s_59 (S := S) (d := d + 19) (J := J) (x := 99) b3 (by omega) (by omega) (by omega) (fun t => p_sh_b t)
        rw [← hgm] at e59
        refine k9o_F (by rw [n_toInt (by omega)]; omega) (k9o_eq k9e_117_45 (k9o_call e59 ?_))
        simp only [k9_ps_s]
        exact o
    have kc : ∀ k m I2, m + k = 3 → (∃ a, k9_Wk I2 1 (p_up w 4 0 a)) → k9_fx k9_Ft I I2 → ∃ I3, k9_ok (k9_R S (d + 20) 117 20 [some (k9_r 1 0), some (k9_i (nI q)), some (k9_i (nI (p_mi g m).1)), some (k9_i (nI (p_mi g m).2)), some (k9_i (nI (m + 1))), none] [] I2 J) (fun q' => q' = (some (k9_i (nI (p_mi g 3).1)), I3, J)) ∧ k9_fx k9_Ft I I3 := by
      intro k
      induction k with
      | zero =>
        intro m I2 hm ha hx
        obtain rfl : m = 3 := by omega
        exact ⟨I2, k9o_eq k9e_117_20 (k9o_T (by decide) (k9o_eq k9e_117_61 (k9o_ret rfl))), hx⟩
      | succ k ih =>
        intro m I2 hm ha hx
        obtain ⟨I3, o3, a3, x3⟩ := one (m + 1) I2 (by omega) ha hx
        obtain ⟨I4, o4, x4⟩ := ih (m + 1) I3 (by omega) a3 x3
        refine ⟨I4, k9o_eq k9e_117_20 (k9o_F (by rw [n_toInt (by omega)]; omega) (o3 _ _ _ (k9o_eq k9e_117_49 (k9o_F (by rw [n_toInt (by omega)]; omega) (k9o_eq k9e_117_52 ?_))))), x4⟩
        have hb := p_mi_b hgb m
        have hb2 := hgb (m + 1)
        rw [p_mi] at o4
        by_cases c : g (m + 1) < (p_mi g m).2
        · rw [if_pos c] at o4
          refine k9o_F (by rw [n_toInt (by omega), n_toInt (by omega)]; omega) (k9o_eq k9e_117_55 (k9o_eq k9e_117_59 ?_))
          rw [nI_1]
          exact o4
        · rw [if_neg c] at o4
          refine k9o_T (by rw [n_toInt (by omega), n_toInt (by omega)]; omega) (k9o_eq k9e_117_59 ?_)
          rw [nI_1]
          exact o4
    obtain ⟨I2, o2, a2, x2⟩ := one 0 I1 (by omega) ⟨w 4 0, by rw [p_up_id]; exact w1⟩ (k9_Ft_w x1')
    obtain ⟨I3, o3, x3⟩ := kc 3 0 I2 (by omega) a2 x2
    have i3 : k9_Iv I3 J w V b := k9_Iv_0 (k9_fp_x x3 (k9_Ft_X rfl)) v
    simp (disch := omega) only [k9e_117_0, k9e_117_2, k9e_117_5, k9e_117_7, k9e_117_14, Nat.reduceEqDiff, Int.reduceEq, Int.reduceLT, Int.reduceLE, k9_ps_s, k9_ps_n, k9_ur, false_and, and_false, true_and, and_true, true_or, or_true, false_or, or_false, eq_self, ↓reduceIte, not_true_eq_false, not_false_eq_true, n_toInt, n_cl, nI_1, nI_add, n_a0, n_p2, n_p3, n_p4, n_x2, n_x3, n_x4, n_x60, n_x100, n_pm1, k9L_m2, k9L_m1, k9L_0, k9L_1, k9L_2, k9L_3, k9L_4, k9L_5, k9L_6, k9L_7, k9L_8, k9L_9, k9L_10, k9L_20, k9L_23, k9L_24, k9L_30, k9L_40, k9L_50, k9L_60, k9L_99, k9L_100, k9L_120, k9L_255, k9L_999, k9L_1000, k9_bs, k9_ba]
    repeat (first | ((with_reducible refine k9q_T ?_ ?_); · omega) | ((with_reducible refine k9q_F ?_ ?_); · omega) | ((with_reducible refine k9q_Tb ?_ ?_); · omega) | ((with_reducible refine k9q_Fb ?_ ?_); · omega) | (refine k9o_call (e1) ?_; simp (disch := omega) only [k9e_117_0, k9e_117_2, k9e_117_5, k9e_117_7, k9e_117_14, Nat.reduceEqDiff, Int.reduceEq, Int.reduceLT, Int.reduceLE, k9_ps_s, k9_ps_n, k9_ur, false_and, and_false, true_and, and_true, true_or, or_true, false_or, or_false, eq_self, ↓reduceIte, not_true_eq_false, not_false_eq_true, n_toInt, n_cl, nI_1, nI_add, n_a0, n_p2, n_p3, n_p4, n_x2, n_x3, n_x4, n_x60, n_x100, n_pm1, k9L_m2, k9L_m1, k9L_0, k9L_1, k9L_2, k9L_3, k9L_4, k9L_5, k9L_6, k9L_7, k9L_8, k9L_9, k9L_10, k9L_20, k9L_23, k9L_24, k9L_30, k9L_40, k9L_50, k9L_60, k9L_99, k9L_100, k9L_120, k9L_255, k9L_999, k9L_1000, k9_bs, k9_ba]) | simp (disch := omega) only [k9e_117_0, k9e_117_2, k9e_117_5, k9e_117_7, k9e_117_14, Nat.reduceEqDiff, Int.reduceEq, Int.reduceLT, Int.reduceLE, k9_ps_s, k9_ps_n, k9_ur, false_and, and_false, true_and, and_true, true_or, or_true, false_or, or_false, eq_self, ↓reduceIte, not_true_eq_false, not_false_eq_true, n_toInt, n_cl, nI_1, nI_add, n_a0, n_p2, n_p3, n_p4, n_x2, n_x3, n_x4, n_x60, n_x100, n_pm1, k9L_m2, k9L_m1, k9L_0, k9L_1, k9L_2, k9L_3, k9L_4, k9L_5, k9L_6, k9L_7, k9L_8, k9L_9, k9L_10, k9L_20, k9L_23, k9L_24, k9L_30, k9L_40, k9L_50, k9L_60, k9L_99, k9L_100, k9L_120, k9L_255, k9L_999, k9L_1000, k9_bs, k9_ba])
    have oc := o2 _ 0 0 (k9o_eq k9e_117_49 (k9o_T (by decide) (k9o_eq k9e_117_55 (k9o_eq k9e_117_59 o3))))
    refine k9o_eq k9e_117_20 (k9o_F (by decide) ?_)
    obtain ⟨q1, c1, rfl⟩ := oc
    refine k9o_to c1 ⟨_, _, _, rfl, ?_⟩
    -- one measure, in the reference
    have onem : ∀ m I4, m ≤ 3 → k9_fx (k9_F2 0) I3 I4 → ∃ I5, (∀ Q : k9_A → Prop, ∀ x2' x3' x4' : Int32, k9_ok (k9_R S (d + 20) 213 38 [some (k9_r 12 0), some (k9_i (nI q)), some (k9_i x2'), some (k9_i x3'), some (k9_i x4'), some (k9_i (nI m)), none] [k9_i (nI (g m))] I5 J) Q → k9_ok (k9_R S (d + 20) 213 21 [some (k9_r 12 0), some (k9_i (nI q)), some (k9_i x2'), some (k9_i x3'), some (k9_i x4'), some (k9_i (nI m)), none] [] I4 J) Q) ∧ k9_fx (k9_F2 0) I3 I5 := by
      intro m I4 hm hx
      obtain ⟨I5, e5, m5, x5⟩ := k9_run2 (S := S) (d := d + 14) (p0 := 0) (m := m) i3 hx (by omega) (by simp [p_lo]) (by simp [p_hi]; omega)
      have m5 : k9_Mr I5 (p_len (u m)) (p_sh (u m) (p_tt (u m)) V) (p_co (u m)) := by rw [huu m]; exact m5
      have hl := hlu m
      obtain ⟨I6, e6, k6, x6⟩ := k9s_191 (S := S) (d := d + 19) (J := J) m5 (by omega) (fun t => p_sh_b t)
      have m6 := k9_Mr_fx x6 rfl (fun _ => ⟨rfl, rfl, rfl⟩) m5
      refine ⟨I6, fun Q x2' x3' x4' o => ?_, k9_fx_tr x5 (k9_F2_44 x6)⟩
      refine k9o_eq k9e_213_21 (k9o_call e5 ?_)
      simp only [k9_ps_n]
      refine k9o_eq k9e_213_28 (k9o_call e6 ?_)
      simp only [k9_ps_n]
      refine k9o_eq k9e_213_30 ?_
      have hgm := hgu m
      by_cases h0 : q = 0
      · rw [if_pos h0] at hgm
        refine k9o_T (by rw [n_toInt (by omega)]; omega) (k9o_eq k9e_213_32 ?_)
        rw [k6.2.1, ← hgm]
        exact o
      · rw [if_neg h0] at hgm
        have e193 := k9s_193 (S := S) (d := d + 19) (J := J) (x := 99) m6 (by omega) (by omega) (fun t => p_sh_b t)
        rw [← hgm] at e193
        refine k9o_F (by rw [n_toInt (by omega)]; omega) (k9o_eq k9e_213_35 (k9o_call e193 ?_))
        simp only [k9_ps_s]
        exact o
    have km : ∀ k m I4, m + k = 3 → k9_fx (k9_F2 0) I3 I4 → k9_ok (k9_R S (d + 20) 213 18 [some (k9_r 12 0), some (k9_i (nI q)), some (k9_i (I3 44 0 0)), some (k9_i (nI (p_mi g m).1)), some (k9_i (nI (p_mi g m).2)), some (k9_i (nI (m + 1))), none] [] I4 J) (fun q' => ∃ I5 J5, q' = (some (k9_i (nI (p_mi g 3).1)), I5, J5) ∧ k9_Inv I5 J5) := by
      intro k
      induction k with
      | zero =>
        intro m I4 hm hx
        obtain rfl : m = 3 := by omega
        exact k9o_eq k9e_213_18 (k9o_T (by decide) (k9o_eq k9e_213_51 (k9o_ret ⟨_, _, rfl, k9_Iv_e (k9_Iv_0 (k9_F2_e (by omega) hx) i3)⟩)))
      | succ k ih =>
        intro m I4 hm hx
        obtain ⟨I5, o5, x5⟩ := onem (m + 1) I4 (by omega) hx
        have o6 := ih (m + 1) I5 (by omega) x5
        have hb := p_mi_b hgb m
        have hb2 := hgb (m + 1)
        refine k9o_eq k9e_213_18 (k9o_F (by rw [n_toInt (by omega)]; omega) (o5 _ _ _ _ (k9o_eq k9e_213_38 (k9o_F (by rw [n_toInt (by omega)]; omega) (k9o_eq k9e_213_41 ?_)))))
        rw [p_mi] at o6
        by_cases c : g (m + 1) < (p_mi g m).2
        · rw [if_pos c] at o6
          refine k9o_T (by rw [n_toInt (by omega), n_toInt (by omega)]; omega) (k9o_eq k9e_213_45 (k9o_eq k9e_213_49 ?_))
          rw [nI_1]
          exact o6
        · rw [if_neg c] at o6
          refine k9o_F (by rw [n_toInt (by omega), n_toInt (by omega)]; omega) (k9o_eq k9e_213_44 (k9o_eq k9e_213_49 ?_))
          rw [nI_1]
          exact o6
    obtain ⟨I5, o5, x5⟩ := onem 0 I3 (by omega) (k9_fx_rf _ _)
    have o6 := km 3 0 I5 (by omega) x5
    simp (disch := omega) only [k9e_213_0, k9e_213_4, k9e_213_5, k9e_213_7, Nat.reduceEqDiff, Int.reduceEq, Int.reduceLT, Int.reduceLE, k9_ps_s, k9_ps_n, k9_ur, false_and, and_false, true_and, and_true, true_or, or_true, false_or, or_false, eq_self, ↓reduceIte, not_true_eq_false, not_false_eq_true, n_toInt, n_cl, nI_1, nI_add, n_a0, n_p2, n_p3, n_p4, n_x2, n_x3, n_x4, n_x60, n_x100, n_pm1, k9L_m2, k9L_m1, k9L_0, k9L_1, k9L_2, k9L_3, k9L_4, k9L_5, k9L_6, k9L_7, k9L_8, k9L_9, k9L_10, k9L_20, k9L_23, k9L_24, k9L_30, k9L_40, k9L_50, k9L_60, k9L_99, k9L_100, k9L_120, k9L_255, k9L_999, k9L_1000, k9_bs, k9_ba]
    repeat (first | ((with_reducible refine k9q_T ?_ ?_); · omega) | ((with_reducible refine k9q_F ?_ ?_); · omega) | ((with_reducible refine k9q_Tb ?_ ?_); · omega) | ((with_reducible refine k9q_Fb ?_ ?_); · omega) | (refine k9o_call (k9s_153 (by first | omega | (simp (disch := omega) only [n_toInt, n_pm1, k9L_m2, k9L_m1, k9L_0, k9L_1, k9L_2, k9L_3, k9L_4, k9L_5, k9L_6, k9L_7, k9L_8, k9L_9, k9L_10, k9L_20, k9L_23, k9L_24, k9L_30, k9L_40, k9L_50, k9L_60, k9L_99, k9L_100, k9L_120, k9L_255, k9L_999, k9L_1000]; omega))) ?_; simp (disch := omega) only [k9e_213_0, k9e_213_4, k9e_213_5, k9e_213_7, Nat.reduceEqDiff, Int.reduceEq, Int.reduceLT, Int.reduceLE, k9_ps_s, k9_ps_n, k9_ur, false_and, and_false, true_and, and_true, true_or, or_true, false_or, or_false, eq_self, ↓reduceIte, not_true_eq_false, not_false_eq_true, n_toInt, n_cl, nI_1, nI_add, n_a0, n_p2, n_p3, n_p4, n_x2, n_x3, n_x4, n_x60, n_x100, n_pm1, k9L_m2, k9L_m1, k9L_0, k9L_1, k9L_2, k9L_3, k9L_4, k9L_5, k9L_6, k9L_7, k9L_8, k9L_9, k9L_10, k9L_20, k9L_23, k9L_24, k9L_30, k9L_40, k9L_50, k9L_60, k9L_99, k9L_100, k9L_120, k9L_255, k9L_999, k9L_1000, k9_bs, k9_ba]) | (refine k9o_call (k9s_153x (by first | omega | (simp (disch := omega) only [n_toInt, n_pm1, k9L_m2, k9L_m1, k9L_0, k9L_1, k9L_2, k9L_3, k9L_4, k9L_5, k9L_6, k9L_7, k9L_8, k9L_9, k9L_10, k9L_20, k9L_23, k9L_24, k9L_30, k9L_40, k9L_50, k9L_60, k9L_99, k9L_100, k9L_120, k9L_255, k9L_999, k9L_1000]; omega))) ?_; simp (disch := omega) only [k9e_213_0, k9e_213_4, k9e_213_5, k9e_213_7, Nat.reduceEqDiff, Int.reduceEq, Int.reduceLT, Int.reduceLE, k9_ps_s, k9_ps_n, k9_ur, false_and, and_false, true_and, and_true, true_or, or_true, false_or, or_false, eq_self, ↓reduceIte, not_true_eq_false, not_false_eq_true, n_toInt, n_cl, nI_1, nI_add, n_a0, n_p2, n_p3, n_p4, n_x2, n_x3, n_x4, n_x60, n_x100, n_pm1, k9L_m2, k9L_m1, k9L_0, k9L_1, k9L_2, k9L_3, k9L_4, k9L_5, k9L_6, k9L_7, k9L_8, k9L_9, k9L_10, k9L_20, k9L_23, k9L_24, k9L_30, k9L_40, k9L_50, k9L_60, k9L_99, k9L_100, k9L_120, k9L_255, k9L_999, k9L_1000, k9_bs, k9_ba]) | simp (disch := omega) only [k9e_213_0, k9e_213_4, k9e_213_5, k9e_213_7, Nat.reduceEqDiff, Int.reduceEq, Int.reduceLT, Int.reduceLE, k9_ps_s, k9_ps_n, k9_ur, false_and, and_false, true_and, and_true, true_or, or_true, false_or, or_false, eq_self, ↓reduceIte, not_true_eq_false, not_false_eq_true, n_toInt, n_cl, nI_1, nI_add, n_a0, n_p2, n_p3, n_p4, n_x2, n_x3, n_x4, n_x60, n_x100, n_pm1, k9L_m2, k9L_m1, k9L_0, k9L_1, k9L_2, k9L_3, k9L_4, k9L_5, k9L_6, k9L_7, k9L_8, k9L_9, k9L_10, k9L_20, k9L_23, k9L_24, k9L_30, k9L_40, k9L_50, k9L_60, k9L_99, k9L_100, k9L_120, k9L_255, k9L_999, k9L_1000, k9_bs, k9_ba])
    refine k9o_eq k9e_213_18 (k9o_F (by decide) ?_)
    exact o5 _ _ _ _ (k9o_eq k9e_213_38 (k9o_T (by decide) (k9o_eq k9e_213_45 (k9o_eq k9e_213_49 o6))))
  · repeat' (first | ((with_reducible refine k9q_T ?_ ?_); · omega) | ((with_reducible refine k9q_F ?_ ?_); · omega) | ((with_reducible refine k9q_Tb ?_ ?_); · omega) | ((with_reducible refine k9q_Fb ?_ ?_); · omega) | simp (disch := omega) only [k9e_117_0, k9e_117_2, k9e_117_5, Nat.reduceEqDiff, Int.reduceEq, Int.reduceLT, Int.reduceLE, k9_ps_s, k9_ps_n, k9_ur, false_and, and_false, true_and, and_true, true_or, or_true, false_or, or_false, eq_self, ↓reduceIte, not_true_eq_false, not_false_eq_true, n_toInt, n_cl, nI_1, nI_add, n_a0, n_p2, n_p3, n_p4, n_x2, n_x3, n_x4, n_x60, n_x100, n_pm1, k9L_m2, k9L_m1, k9L_0, k9L_1, k9L_2, k9L_3, k9L_4, k9L_5, k9L_6, k9L_7, k9L_8, k9L_9, k9L_10, k9L_20, k9L_23, k9L_24, k9L_30, k9L_40, k9L_50, k9L_60, k9L_99, k9L_100, k9L_120, k9L_255, k9L_999, k9L_1000, k9_bs, k9_ba] | (with_reducible refine k9q_if (fun _ => ?_) (fun _ => ?_)) | (with_reducible refine k9q_ifb (fun _ => ?_) (fun _ => ?_)))
    all_goals refine k9o_ret ⟨_, _, _, rfl, ?_⟩
    all_goals repeat' (first | ((with_reducible refine k9q_T ?_ ?_); · omega) | ((with_reducible refine k9q_F ?_ ?_); · omega) | ((with_reducible refine k9q_Tb ?_ ?_); · omega) | ((with_reducible refine k9q_Fb ?_ ?_); · omega) | (refine k9o_call (k9s_153 (by first | omega | (simp (disch := omega) only [n_toInt, n_pm1, k9L_m2, k9L_m1, k9L_0, k9L_1, k9L_2, k9L_3, k9L_4, k9L_5, k9L_6, k9L_7, k9L_8, k9L_9, k9L_10, k9L_20, k9L_23, k9L_24, k9L_30, k9L_40, k9L_50, k9L_60, k9L_99, k9L_100, k9L_120, k9L_255, k9L_999, k9L_1000]; omega))) ?_; simp (disch := omega) only [k9e_213_0, k9e_213_4, k9e_213_5, Nat.reduceEqDiff, Int.reduceEq, Int.reduceLT, Int.reduceLE, k9_ps_s, k9_ps_n, k9_ur, false_and, and_false, true_and, and_true, true_or, or_true, false_or, or_false, eq_self, ↓reduceIte, not_true_eq_false, not_false_eq_true, n_toInt, n_cl, nI_1, nI_add, n_a0, n_p2, n_p3, n_p4, n_x2, n_x3, n_x4, n_x60, n_x100, n_pm1, k9L_m2, k9L_m1, k9L_0, k9L_1, k9L_2, k9L_3, k9L_4, k9L_5, k9L_6, k9L_7, k9L_8, k9L_9, k9L_10, k9L_20, k9L_23, k9L_24, k9L_30, k9L_40, k9L_50, k9L_60, k9L_99, k9L_100, k9L_120, k9L_255, k9L_999, k9L_1000, k9_bs, k9_ba]) | (refine k9o_call (k9s_153x (by first | omega | (simp (disch := omega) only [n_toInt, n_pm1, k9L_m2, k9L_m1, k9L_0, k9L_1, k9L_2, k9L_3, k9L_4, k9L_5, k9L_6, k9L_7, k9L_8, k9L_9, k9L_10, k9L_20, k9L_23, k9L_24, k9L_30, k9L_40, k9L_50, k9L_60, k9L_99, k9L_100, k9L_120, k9L_255, k9L_999, k9L_1000]; omega))) ?_; simp (disch := omega) only [k9e_213_0, k9e_213_4, k9e_213_5, Nat.reduceEqDiff, Int.reduceEq, Int.reduceLT, Int.reduceLE, k9_ps_s, k9_ps_n, k9_ur, false_and, and_false, true_and, and_true, true_or, or_true, false_or, or_false, eq_self, ↓reduceIte, not_true_eq_false, not_false_eq_true, n_toInt, n_cl, nI_1, nI_add, n_a0, n_p2, n_p3, n_p4, n_x2, n_x3, n_x4, n_x60, n_x100, n_pm1, k9L_m2, k9L_m1, k9L_0, k9L_1, k9L_2, k9L_3, k9L_4, k9L_5, k9L_6, k9L_7, k9L_8, k9L_9, k9L_10, k9L_20, k9L_23, k9L_24, k9L_30, k9L_40, k9L_50, k9L_60, k9L_99, k9L_100, k9L_120, k9L_255, k9L_999, k9L_1000, k9_bs, k9_ba]) | simp (disch := omega) only [k9e_213_0, k9e_213_4, k9e_213_5, Nat.reduceEqDiff, Int.reduceEq, Int.reduceLT, Int.reduceLE, k9_ps_s, k9_ps_n, k9_ur, false_and, and_false, true_and, and_true, true_or, or_true, false_or, or_false, eq_self, ↓reduceIte, not_true_eq_false, not_false_eq_true, n_toInt, n_cl, nI_1, nI_add, n_a0, n_p2, n_p3, n_p4, n_x2, n_x3, n_x4, n_x60, n_x100, n_pm1, k9L_m2, k9L_m1, k9L_0, k9L_1, k9L_2, k9L_3, k9L_4, k9L_5, k9L_6, k9L_7, k9L_8, k9L_9, k9L_10, k9L_20, k9L_23, k9L_24, k9L_30, k9L_40, k9L_50, k9L_60, k9L_99, k9L_100, k9L_120, k9L_255, k9L_999, k9L_1000, k9_bs, k9_ba] | (with_reducible refine k9q_if (fun _ => ?_) (fun _ => ?_)) | (with_reducible refine k9q_ifb (fun _ => ?_) (fun _ => ?_)))
    all_goals exact k9o_ret ⟨_, _, rfl, hI'⟩
end KT21
