/-! BODIES: act -/
section KT38
variable {S : k9_S} {d : Nat} {I I' I'' : k9_I} {J J' : k9_J} {w : Nat → Nat → Nat} {V : (Nat → Int32) → Int32} {b : Nat} {x1 x2 x3 : Int32} {g a t : Nat} {u : List Nat × Int32}
theorem p_act (hg : g ≤ 7) (ha : a ≤ 3) : ∃ u, p_ca g x1 8 g a x3 = some u ∧ p_ra g x1 16 a g x3 = some u ∧ u.1.length ≤ 1000 := by
  obtain rfl | rfl | rfl | rfl : a = 0 ∨ a = 1 ∨ a = 2 ∨ a = 3 := by omega
  all_goals rcases n_8 hg with rfl | rfl | rfl | rfl | rfl | rfl | rfl | rfl
  all_goals exact ⟨_, rfl, rfl, Nat.le_of_ble_eq_true rfl⟩
def k9_Fact (k _ p : Nat) : Bool := Nat.beq k 36 || Nat.beq k 59 || (Nat.beq k 10 && (Nat.beq p 1 || Nat.beq p 4)) || (Nat.beq k 12 && Nat.beq p 33)
theorem k9_Fact_X (k i p : Nat) (h : k9_Fact k i p = true) : k9_Xs [5] (v_cl k i p) = true := by
  simp only [k9_Fact, Bool.or_eq_true, Bool.and_eq_true, Nat.beq_eq] at h
  rcases h with ((rfl | rfl) | ⟨rfl, rfl | rfl⟩) | ⟨rfl, rfl⟩
  all_goals rfl
theorem k9_Inv_5 (hI : k9_Inv I J) (hx : k9_fx k9_Fact I I') (h1 : I' 10 0 1 = nI t) (h2 : I' 12 0 33 = nI t) (ht : t ≤ 1000) (hr : ∀ k, k < t → k < 24 → I' 36 0 k = I' 59 0 k) : k9_Inv I' J := by
  obtain ⟨w, V, b, v1, v2, v3, v4, v5, v6, v7, v8, v9⟩ := hI
  obtain ⟨hb, b1, b2, b3, -⟩ := v5
  have hfp : k9_fp (k9_Xs [5]) I I' := k9_fp_x hx k9_Fact_X
  refine ⟨w, V, b, k9_vW_c (k9_fp_c hfp rfl) v1, k9_vT_c (k9_fp_c hfp rfl) v2, k9_vL_c (k9_fp_c hfp rfl) v3, k9_vC_c (k9_fp_c hfp rfl) v4, ⟨hb, (hx 10 0 0 rfl).trans b1, (hx 12 0 31 rfl).trans b2, fun k hk => ?_, t, ht, h1, h2, hr⟩, k9_vS_c (k9_fp_c hfp rfl) v6, k9_vD_c (k9_fp_c hfp rfl) v7, k9_vR_c (k9_fp_c hfp rfl) v8, k9_vO_c (k9_fp_c hfp rfl) v9⟩
  obtain ⟨g, c, c1, c2⟩ := b3 k hk
  exact ⟨g, c, (hx 35 0 k rfl).trans c1, (hx 58 0 k rfl).trans c2⟩
theorem k9_nt_x (h : k9_fx k9_Fact I I') (n : Nat) : k9_fx k9_Fact I (k9_nt I' n) := by
  unfold k9_nt
  split
  · exact k9_fx_u (k9_fx_u h rfl) rfl
  · exact k9_fx_u h rfl
theorem k9_tc_x (l : List Nat) (h : k9_fx k9_Fact I I') : k9_fx k9_Fact I (k9_tc I' l) := by
  induction l generalizing I' with
  | nil => exact h
  | cons n l ih => exact ih (k9_nt_x h n)
theorem k9_nr_x (h : k9_fx k9_Fact I I') (n t : Nat) : k9_fx k9_Fact I (k9_nr I' n t) := by
  unfold k9_nr
  split
  · exact k9_fx_u (k9_fx_u h rfl) rfl
  · exact k9_fx_u h rfl
theorem k9_tr_x (l : List Nat) (t : Nat) (h : k9_fx k9_Fact I I') : k9_fx k9_Fact I (k9_tr l I' t) := by
  induction l generalizing I' t with
  | nil => exact h
  | cons n l ih => exact ih (t + 1) (k9_nr_x h n t)
def p_acr (l : List Nat) (t k : Nat) (x : Int32) : Int32 := if t ≤ k ∧ k < t + l.length ∧ k < 24 then nI (l.getD (k - t) 0) else x
theorem p_acr_c (n : Nat) (l : List Nat) (t k : Nat) (x : Int32) : p_acr l (t + 1) k (if k = t ∧ t < 24 then nI n else x) = p_acr (n :: l) t k x := by
  unfold p_acr
  rw [List.length_cons]
  by_cases c : k = t
  · subst c
    rw [if_neg (by omega)]
    by_cases c2 : k < 24
    · rw [if_pos ⟨rfl, c2⟩, if_pos (by omega), Nat.sub_self]
      rfl
    · rw [if_neg (by omega), if_neg (by omega)]
  · rw [if_neg (show ¬ (k = t ∧ t < 24) by omega)]
    by_cases c2 : t + 1 ≤ k ∧ k < t + 1 + l.length ∧ k < 24
    · rw [if_pos c2, if_pos (by omega)]
      obtain ⟨z, rfl⟩ : ∃ z, k = t + 1 + z := ⟨k - (t + 1), by omega⟩
      rw [show t + 1 + z - (t + 1) = z by omega, show t + 1 + z - t = z + 1 by omega]
      rfl
    · rw [if_neg c2, if_neg (by omega)]
theorem k9_tc_v (l : List Nat) (h : I 10 0 1 = nI t) (ht : t + l.length ≤ 1000) : (k9_tc I l) 10 0 1 = nI (t + l.length) ∧ ∀ k, (k9_tc I l) 36 0 k = p_acr l t k (I 36 0 k) := by
  induction l generalizing I t with
  | nil =>
    refine ⟨h, fun k => ?_⟩
    unfold p_acr
    rw [if_neg (by simp only [List.length_nil]; omega)]
    rfl
  | cons n l ih =>
    rw [List.length_cons] at ht ⊢
    have e : (k9_nt I n) 10 0 1 = nI (t + 1) := by
      unfold k9_nt
      rw [h]
      simp [k9_ur, nI_1]
    obtain ⟨i1, i2⟩ := ih e (by omega)
    refine ⟨?_, fun k => ?_⟩
    · rw [show t + (l.length + 1) = t + 1 + l.length by omega]
      exact i1
    · rw [← p_acr_c]
      refine (i2 k).trans (congrArg _ ?_)
      unfold k9_nt
      rw [h, n_toInt (by omega), n_cl (by omega)]
      by_cases c2 : t < 24
      · rw [if_pos (by omega)]
        by_cases c : k = t
        · simp [k9_ur, c, c2]
        · simp [k9_ur, c]
      · rw [if_neg (by omega), if_neg (by omega)]
        simp [k9_ur]
theorem k9_tr_v (l : List Nat) (h : I 12 0 33 = nI t) : (k9_tr l I t) 12 0 33 = nI (t + l.length) ∧ (k9_tr l I t) 10 0 1 = I 10 0 1 ∧ ∀ k, (k9_tr l I t) 36 0 k = I 36 0 k ∧ (k9_tr l I t) 59 0 k = p_acr l t k (I 59 0 k) := by
  induction l generalizing I t with
  | nil =>
    refine ⟨h, rfl, fun k => ⟨rfl, ?_⟩⟩
    unfold p_acr
    rw [if_neg (by simp only [List.length_nil]; omega)]
    rfl
  | cons n l ih =>
    rw [List.length_cons]
    have e : (k9_nr I n t) 12 0 33 = nI (t + 1) := by
      unfold k9_nr
      simp [k9_ur]
    obtain ⟨i1, i2, i3⟩ := ih e
    refine ⟨?_, ?_, fun k => ⟨?_, ?_⟩⟩
    · rw [show t + (l.length + 1) = t + 1 + l.length by omega]
      exact i1
    · refine i2.trans ?_
      unfold k9_nr
      split <;> simp [k9_ur]
    · refine (i3 k).1.trans ?_
      unfold k9_nr
      split <;> simp [k9_ur]
    · rw [← p_acr_c]
      refine (i3 k).2.trans (congrArg _ ?_)
      unfold k9_nr
      by_cases c2 : t < 24
      · rw [if_pos c2]
        by_cases c : k = t
        · simp [k9_ur, c, c2]
        · simp [k9_ur, c]
      · rw [if_neg c2, if_neg (by omega)]
        simp [k9_ur]
theorem t_act (hI : k9_Inv I J) : k9_P S (d + 60) 135 236 [some (k9_r 1 0), some (k9_i x1), some (k9_i x2), some (k9_i x3)] [some (k9_r 12 0), some (k9_i x1), some (k9_i x2), some (k9_i x3), none] I J k9_Inv := by
  have hI' := hI
  obtain ⟨w, V, b, v1, v2, v3, v4, v5, v6, v7, v8, v9⟩ := hI
  obtain ⟨hb, b1, b2, b3, -⟩ := v5
  refine k9P_of ?_
  have inv0 : k9_Inv (k9_u (k9_u I 10 0 1 0) 12 0 33 0) J := k9_Inv_5 (t := 0) hI' (k9_fx_u (k9_fx_u (k9_fx_rf _ _) rfl) rfl) (by simp [k9_ur]; rfl) (by simp [k9_ur]; rfl) (by omega) (fun k hk => by omega)
  by_cases h1 : 0 ≤ x1.toInt ∧ x1.toInt < b
  · obtain ⟨i, rfl, hi, -⟩ := n_of (x := x1) (by omega)
    have hib : i < b := by omega
    obtain ⟨g, hg, g1, g2⟩ := b3 i hib
    by_cases h2 : 0 ≤ x2.toInt ∧ x2.toInt ≤ 3
    · obtain ⟨a, rfl, ha, -⟩ := n_of (x := x2) (by omega)
      have ha3 : a ≤ 3 := by omega
      obtain ⟨u, u1, u2, ul⟩ := p_act (x1 := nI i) (x3 := x3) hg ha3
      obtain ⟨Ia, hIa⟩ : ∃ Ia, Ia = k9_u (k9_u I 10 0 1 0) 10 0 4 (nI i) := ⟨_, rfl⟩
      have hA : k9_ac Ia g (nI i) := by
        rw [hIa]
        exact ⟨by simp [k9_ur], b, i, hb, by simp [k9_ur, b1], hib, rfl, by simp [k9_ur, g1]⟩
      have e84 := k9a_84 (S := S) (d := d + 33) (J := J) (e := 0) (x3 := x3) hg (k9a_85_a hg 8) hA ha3 (by omega) u1
      rw [show d + 33 + 3 * 8 + 1 = d + 58 by omega] at e84
      have xa : k9_fx k9_Fact I Ia := by
        rw [hIa]
        exact k9_fx_u (k9_fx_u (k9_fx_rf _ _) rfl) rfl
      have xc := k9_tc_x u.1 xa
      obtain ⟨tv1, tv2⟩ := k9_tc_v (I := Ia) (t := 0) u.1 (by rw [hIa]; simp [k9_ur]; rfl) (by omega)
      obtain ⟨Ic, hIc⟩ : ∃ Ic, Ic = k9_tc Ia u.1 := ⟨_, rfl⟩
      rw [← hIc] at e84 xc tv1 tv2
      have cls : k9_R S (d + 60) 135 0 [some (k9_r 1 0), some (k9_i (nI i)), some (k9_i (nI a)), some (k9_i x3)] [] I J = some (some (k9_i u.2), Ic, J) := by
        have e78 : k9_R S (d + 58) 78 0 [some (k9_r 10 0), some (k9_i (nI i))] [] (k9_u I 10 0 1 0) J = some (some (k9_i (nI g)), k9_u I 10 0 1 0, J) := by
          refine k9o_of ?_
          simp (disch := omega) only [k9e_78_0, k9e_78_2, k9e_78_6, k9e_78_9, k9e_78_13, k9e_78_14, k9e_78_15, Nat.reduceEqDiff, Int.reduceEq, Int.reduceLT, Int.reduceLE, k9_ps_s, k9_ps_n, k9_ur, false_and, and_false, true_and, and_true, true_or, or_true, false_or, or_false, eq_self, ↓reduceIte, not_true_eq_false, not_false_eq_true, n_toInt, n_cl, nI_1, nI_add, n_a0, n_p2, n_p3, n_p4, n_x2, n_x3, n_x4, n_x60, n_x100, n_pm1, k9L_m2, k9L_m1, k9L_0, k9L_1, k9L_2, k9L_3, k9L_4, k9L_5, k9L_6, k9L_7, k9L_8, k9L_9, k9L_10, k9L_20, k9L_23, k9L_24, k9L_30, k9L_40, k9L_50, k9L_60, k9L_99, k9L_100, k9L_120, k9L_255, k9L_999, k9L_1000, k9_bs, k9_ba, b1, g1]
          repeat (first | ((with_reducible refine k9q_T ?_ ?_); · omega) | ((with_reducible refine k9q_F ?_ ?_); · omega) | ((with_reducible refine k9q_Tb ?_ ?_); · omega) | ((with_reducible refine k9q_Fb ?_ ?_); · omega) | simp (disch := omega) only [k9e_78_0, k9e_78_2, k9e_78_6, k9e_78_9, k9e_78_13, k9e_78_14, k9e_78_15, Nat.reduceEqDiff, Int.reduceEq, Int.reduceLT, Int.reduceLE, k9_ps_s, k9_ps_n, k9_ur, false_and, and_false, true_and, and_true, true_or, or_true, false_or, or_false, eq_self, ↓reduceIte, not_true_eq_false, not_false_eq_true, n_toInt, n_cl, nI_1, nI_add, n_a0, n_p2, n_p3, n_p4, n_x2, n_x3, n_x4, n_x60, n_x100, n_pm1, k9L_m2, k9L_m1, k9L_0, k9L_1, k9L_2, k9L_3, k9L_4, k9L_5, k9L_6, k9L_7, k9L_8, k9L_9, k9L_10, k9L_20, k9L_23, k9L_24, k9L_30, k9L_40, k9L_50, k9L_60, k9L_99, k9L_100, k9L_120, k9L_255, k9L_999, k9L_1000, k9_bs, k9_ba, b1, g1])
          exact k9o_ret rfl
        refine k9o_of (k9o_eq k9e_135_0 ?_)
        refine k9o_bind (P := fun q => q = (some (k9_i u.2), Ic, J)) ?_ ?_
        · refine k9o_eq k9e_83_0 (k9o_call e78 ?_)
          simp only [k9_ps_s]
          refine k9o_eq k9e_83_6 (k9o_F (by rw [n_toInt (by omega)]; omega) (k9o_eq k9e_83_7 (k9o_F (by rw [n_toInt (by omega)]; omega) (k9o_eq k9e_83_9 (k9o_T (by rw [n_toInt (by omega)]; omega) (k9o_eq k9e_83_14 ?_))))))
          rw [← hIa]
          refine k9o_call e84 ?_
          simp only [k9_ps_s]
          exact k9o_eq k9e_83_22 (k9o_ret rfl)
        · rintro a1 I1 J1 q
          obtain ⟨rfl, rfl, rfl⟩ : a1 = some (k9_i u.2) ∧ I1 = Ic ∧ J1 = J := by
            cases q
            exact ⟨rfl, rfl, rfl⟩
          simp only [k9_ps_s]
          exact k9o_eq k9e_135_6 (k9o_ret rfl)
      refine k9o_to cls ⟨_, _, _, rfl, ?_⟩
      obtain ⟨Im, hIm⟩ : ∃ Im, Im = k9_u Ic 12 0 33 0 := ⟨_, rfl⟩
      have m31 : Im 12 0 31 = nI b := by
        rw [hIm]
        exact (xc 12 0 31 rfl).trans b2
      have m58 : Im 58 0 i = nI g := by
        rw [hIm]
        exact (xc 58 0 i rfl).trans g2
      have m33 : Im 12 0 33 = nI 0 := by
        rw [hIm]
        simp [k9_ur]
        rfl
      have r := k9_rq_a (S := S) hg (show i < 50 by omega) 16 (d + 43) Im J a g 0 x3 u ⟨m58, m33⟩ hg ha3 u2 (by omega)
      have xr : k9_fx k9_Fact I (k9_tr u.1 Im 0) := k9_tr_x u.1 0 (by rw [hIm]; exact k9_fx_u xc rfl)
      obtain ⟨r1, r2, r3⟩ := k9_tr_v (t := 0) u.1 m33
      have fin : k9_Inv (k9_tr u.1 Im 0) J := by
        refine k9_Inv_5 (t := 0 + u.1.length) hI' xr ?_ r1 (by omega) (fun k hk hk2 => ?_)
        · rw [r2, hIm]
          exact tv1
        · rw [(r3 k).1, (r3 k).2, hIm]
          show Ic 36 0 k = p_acr u.1 0 k (Ic 59 0 k)
          rw [tv2]
          unfold p_acr
          rw [if_pos ⟨Nat.zero_le _, hk, hk2⟩, if_pos ⟨Nat.zero_le _, hk, hk2⟩]
      refine k9o_eq k9e_236_0 ?_
      rw [← hIm, m31]
      refine k9o_call (k9s_153 (by first | omega | (simp (disch := omega) only [n_toInt, n_pm1, k9L_m2, k9L_m1, k9L_0, k9L_1, k9L_2, k9L_3, k9L_4, k9L_5, k9L_6, k9L_7, k9L_8, k9L_9, k9L_10, k9L_20, k9L_23, k9L_24, k9L_30, k9L_40, k9L_50, k9L_60, k9L_99, k9L_100, k9L_120, k9L_255, k9L_999, k9L_1000]; omega))) ?_
      simp only [k9_ps_s]
      refine k9o_eq k9e_236_10 (k9o_F (by decide) (k9o_eq k9e_236_11 (k9o_call (k9s_153 (by first | omega | (simp (disch := omega) only [n_toInt, n_pm1, k9L_m2, k9L_m1, k9L_0, k9L_1, k9L_2, k9L_3, k9L_4, k9L_5, k9L_6, k9L_7, k9L_8, k9L_9, k9L_10, k9L_20, k9L_23, k9L_24, k9L_30, k9L_40, k9L_50, k9L_60, k9L_99, k9L_100, k9L_120, k9L_255, k9L_999, k9L_1000]; omega))) ?_)))
      simp only [k9_ps_s]
      refine k9o_eq k9e_236_15 (k9o_F (by decide) (k9o_eq k9e_236_18 (k9o_T (by rw [n_toInt (by omega)]; omega) ?_)))
      rw [n_cl (by omega), m58]
      refine k9o_eq k9e_236_22 ?_
      obtain rfl | rfl | rfl | rfl : a = 0 ∨ a = 1 ∨ a = 2 ∨ a = 3 := by omega
      · refine k9o_T (by decide) (k9o_eq k9e_236_25 (k9o_call r ?_))
        simp only [k9_ps_s]
        exact k9o_eq k9e_236_30 (k9o_eq k9e_236_54 (k9o_ret ⟨_, _, rfl, fin⟩))
      · refine k9o_F (by decide) (k9o_eq k9e_236_31 (k9o_T (by decide) (k9o_eq k9e_236_34 (k9o_call r ?_))))
        simp only [k9_ps_s]
        exact k9o_eq k9e_236_39 (k9o_eq k9e_236_54 (k9o_ret ⟨_, _, rfl, fin⟩))
      · refine k9o_F (by decide) (k9o_eq k9e_236_31 (k9o_F (by decide) (k9o_eq k9e_236_40 (k9o_T (by decide) (k9o_eq k9e_236_43 (k9o_call r ?_))))))
        simp only [k9_ps_s]
        exact k9o_eq k9e_236_48 (k9o_eq k9e_236_54 (k9o_ret ⟨_, _, rfl, fin⟩))
      · refine k9o_F (by decide) (k9o_eq k9e_236_31 (k9o_F (by decide) (k9o_eq k9e_236_40 (k9o_F (by decide) (k9o_eq k9e_236_49 (k9o_call r ?_))))))
        simp only [k9_ps_s]
        exact k9o_eq k9e_236_54 (k9o_ret ⟨_, _, rfl, fin⟩)
    · repeat' (first | ((with_reducible refine k9q_T ?_ ?_); · omega) | ((with_reducible refine k9q_F ?_ ?_); · omega) | ((with_reducible refine k9q_Tb ?_ ?_); · omega) | ((with_reducible refine k9q_Fb ?_ ?_); · omega) | simp (disch := omega) only [k9e_135_0, k9e_135_6, k9e_83_0, k9e_83_6, k9e_83_7, k9e_83_9, k9e_83_12, k9e_83_14, k9e_83_22, k9e_78_0, k9e_78_2, k9e_78_6, k9e_78_9, k9e_78_13, k9e_78_14, k9e_78_15, Nat.reduceEqDiff, Int.reduceEq, Int.reduceLT, Int.reduceLE, k9_ps_s, k9_ps_n, k9_ur, false_and, and_false, true_and, and_true, true_or, or_true, false_or, or_false, eq_self, ↓reduceIte, not_true_eq_false, not_false_eq_true, n_toInt, n_cl, nI_1, nI_add, n_a0, n_p2, n_p3, n_p4, n_x2, n_x3, n_x4, n_x60, n_x100, n_pm1, k9L_m2, k9L_m1, k9L_0, k9L_1, k9L_2, k9L_3, k9L_4, k9L_5, k9L_6, k9L_7, k9L_8, k9L_9, k9L_10, k9L_20, k9L_23, k9L_24, k9L_30, k9L_40, k9L_50, k9L_60, k9L_99, k9L_100, k9L_120, k9L_255, k9L_999, k9L_1000, k9_bs, k9_ba, b1, g1] | (with_reducible refine k9q_if (fun _ => ?_) (fun _ => ?_)) | (with_reducible refine k9q_ifb (fun _ => ?_) (fun _ => ?_)))
      all_goals refine k9o_ret ⟨_, _, _, rfl, ?_⟩
      all_goals repeat' (first | ((with_reducible refine k9q_T ?_ ?_); · omega) | ((with_reducible refine k9q_F ?_ ?_); · omega) | ((with_reducible refine k9q_Tb ?_ ?_); · omega) | ((with_reducible refine k9q_Fb ?_ ?_); · omega) | (refine k9o_call (k9s_153 (by first | omega | (simp (disch := omega) only [n_toInt, n_pm1, k9L_m2, k9L_m1, k9L_0, k9L_1, k9L_2, k9L_3, k9L_4, k9L_5, k9L_6, k9L_7, k9L_8, k9L_9, k9L_10, k9L_20, k9L_23, k9L_24, k9L_30, k9L_40, k9L_50, k9L_60, k9L_99, k9L_100, k9L_120, k9L_255, k9L_999, k9L_1000]; omega))) ?_; simp (disch := omega) only [k9e_236_0, k9e_236_10, k9e_236_11, k9e_236_15, k9e_236_16, Nat.reduceEqDiff, Int.reduceEq, Int.reduceLT, Int.reduceLE, k9_ps_s, k9_ps_n, k9_ur, false_and, and_false, true_and, and_true, true_or, or_true, false_or, or_false, eq_self, ↓reduceIte, not_true_eq_false, not_false_eq_true, n_toInt, n_cl, nI_1, nI_add, n_a0, n_p2, n_p3, n_p4, n_x2, n_x3, n_x4, n_x60, n_x100, n_pm1, k9L_m2, k9L_m1, k9L_0, k9L_1, k9L_2, k9L_3, k9L_4, k9L_5, k9L_6, k9L_7, k9L_8, k9L_9, k9L_10, k9L_20, k9L_23, k9L_24, k9L_30, k9L_40, k9L_50, k9L_60, k9L_99, k9L_100, k9L_120, k9L_255, k9L_999, k9L_1000, k9_bs, k9_ba, b2]) | (refine k9o_call (k9s_153x (by first | omega | (simp (disch := omega) only [n_toInt, n_pm1, k9L_m2, k9L_m1, k9L_0, k9L_1, k9L_2, k9L_3, k9L_4, k9L_5, k9L_6, k9L_7, k9L_8, k9L_9, k9L_10, k9L_20, k9L_23, k9L_24, k9L_30, k9L_40, k9L_50, k9L_60, k9L_99, k9L_100, k9L_120, k9L_255, k9L_999, k9L_1000]; omega))) ?_; simp (disch := omega) only [k9e_236_0, k9e_236_10, k9e_236_11, k9e_236_15, k9e_236_16, Nat.reduceEqDiff, Int.reduceEq, Int.reduceLT, Int.reduceLE, k9_ps_s, k9_ps_n, k9_ur, false_and, and_false, true_and, and_true, true_or, or_true, false_or, or_false, eq_self, ↓reduceIte, not_true_eq_false, not_false_eq_true, n_toInt, n_cl, nI_1, nI_add, n_a0, n_p2, n_p3, n_p4, n_x2, n_x3, n_x4, n_x60, n_x100, n_pm1, k9L_m2, k9L_m1, k9L_0, k9L_1, k9L_2, k9L_3, k9L_4, k9L_5, k9L_6, k9L_7, k9L_8, k9L_9, k9L_10, k9L_20, k9L_23, k9L_24, k9L_30, k9L_40, k9L_50, k9L_60, k9L_99, k9L_100, k9L_120, k9L_255, k9L_999, k9L_1000, k9_bs, k9_ba, b2]) | simp (disch := omega) only [k9e_236_0, k9e_236_10, k9e_236_11, k9e_236_15, k9e_236_16, Nat.reduceEqDiff, Int.reduceEq, Int.reduceLT, Int.reduceLE, k9_ps_s, k9_ps_n, k9_ur, false_and, and_false, true_and, and_true, true_or, or_true, false_or, or_false, eq_self, ↓reduceIte, not_true_eq_false, not_false_eq_true, n_toInt, n_cl, nI_1, nI_add, n_a0, n_p2, n_p3, n_p4, n_x2, n_x3, n_x4, n_x60, n_x100, n_pm1, k9L_m2, k9L_m1, k9L_0, k9L_1, k9L_2, k9L_3, k9L_4, k9L_5, k9L_6, k9L_7, k9L_8, k9L_9, k9L_10, k9L_20, k9L_23, k9L_24, k9L_30, k9L_40, k9L_50, k9L_60, k9L_99, k9L_100, k9L_120, k9L_255, k9L_999, k9L_1000, k9_bs, k9_ba, b2] | (with_reducible refine k9q_if (fun _ => ?_) (fun _ => ?_)) | (with_reducible refine k9q_ifb (fun _ => ?_) (fun _ => ?_)))
      all_goals exact k9o_ret ⟨_, _, rfl, inv0⟩
  · repeat' (first | ((with_reducible refine k9q_T ?_ ?_); · omega) | ((with_reducible refine k9q_F ?_ ?_); · omega) | ((with_reducible refine k9q_Tb ?_ ?_); · omega) | ((with_reducible refine k9q_Fb ?_ ?_); · omega) | simp (disch := omega) only [k9e_135_0, k9e_135_6, k9e_83_0, k9e_83_6, k9e_83_7, k9e_83_9, k9e_83_12, k9e_83_14, k9e_83_22, k9e_78_0, k9e_78_2, k9e_78_6, k9e_78_9, k9e_78_13, k9e_78_14, k9e_78_15, Nat.reduceEqDiff, Int.reduceEq, Int.reduceLT, Int.reduceLE, k9_ps_s, k9_ps_n, k9_ur, false_and, and_false, true_and, and_true, true_or, or_true, false_or, or_false, eq_self, ↓reduceIte, not_true_eq_false, not_false_eq_true, n_toInt, n_cl, nI_1, nI_add, n_a0, n_p2, n_p3, n_p4, n_x2, n_x3, n_x4, n_x60, n_x100, n_pm1, k9L_m2, k9L_m1, k9L_0, k9L_1, k9L_2, k9L_3, k9L_4, k9L_5, k9L_6, k9L_7, k9L_8, k9L_9, k9L_10, k9L_20, k9L_23, k9L_24, k9L_30, k9L_40, k9L_50, k9L_60, k9L_99, k9L_100, k9L_120, k9L_255, k9L_999, k9L_1000, k9_bs, k9_ba, b1] | (with_reducible refine k9q_if (fun _ => ?_) (fun _ => ?_)) | (with_reducible refine k9q_ifb (fun _ => ?_) (fun _ => ?_)))
    all_goals refine k9o_ret ⟨_, _, _, rfl, ?_⟩
    all_goals repeat' (first | ((with_reducible refine k9q_T ?_ ?_); · omega) | ((with_reducible refine k9q_F ?_ ?_); · omega) | ((with_reducible refine k9q_Tb ?_ ?_); · omega) | ((with_reducible refine k9q_Fb ?_ ?_); · omega) | (refine k9o_call (k9s_153 (by first | omega | (simp (disch := omega) only [n_toInt, n_pm1, k9L_m2, k9L_m1, k9L_0, k9L_1, k9L_2, k9L_3, k9L_4, k9L_5, k9L_6, k9L_7, k9L_8, k9L_9, k9L_10, k9L_20, k9L_23, k9L_24, k9L_30, k9L_40, k9L_50, k9L_60, k9L_99, k9L_100, k9L_120, k9L_255, k9L_999, k9L_1000]; omega))) ?_; simp (disch := omega) only [k9e_236_0, k9e_236_10, k9e_236_11, k9e_236_15, k9e_236_16, Nat.reduceEqDiff, Int.reduceEq, Int.reduceLT, Int.reduceLE, k9_ps_s, k9_ps_n, k9_ur, false_and, and_false, true_and, and_true, true_or, or_true, false_or, or_false, eq_self, ↓reduceIte, not_true_eq_false, not_false_eq_true, n_toInt, n_cl, nI_1, nI_add, n_a0, n_p2, n_p3, n_p4, n_x2, n_x3, n_x4, n_x60, n_x100, n_pm1, k9L_m2, k9L_m1, k9L_0, k9L_1, k9L_2, k9L_3, k9L_4, k9L_5, k9L_6, k9L_7, k9L_8, k9L_9, k9L_10, k9L_20, k9L_23, k9L_24, k9L_30, k9L_40, k9L_50, k9L_60, k9L_99, k9L_100, k9L_120, k9L_255, k9L_999, k9L_1000, k9_bs, k9_ba, b2]) | (refine k9o_call (k9s_153x (by first | omega | (simp (disch := omega) only [n_toInt, n_pm1, k9L_m2, k9L_m1, k9L_0, k9L_1, k9L_2, k9L_3, k9L_4, k9L_5, k9L_6, k9L_7, k9L_8, k9L_9, k9L_10, k9L_20, k9L_23, k9L_24, k9L_30, k9L_40, k9L_50, k9L_60, k9L_99, k9L_100, k9L_120, k9L_255, k9L_999, k9L_1000]; omega))) ?_; simp (disch := omega) only [k9e_236_0, k9e_236_10, k9e_236_11, k9e_236_15, k9e_236_16, Nat.reduceEqDiff, Int.reduceEq, Int.reduceLT, Int.reduceLE, k9_ps_s, k9_ps_n, k9_ur, false_and, and_false, true_and, and_true, true_or, or_true, false_or, or_false, eq_self, ↓reduceIte, not_true_eq_false, not_false_eq_true, n_toInt, n_cl, nI_1, nI_add, n_a0, n_p2, n_p3, n_p4, n_x2, n_x3, n_x4, n_x60, n_x100, n_pm1, k9L_m2, k9L_m1, k9L_0, k9L_1, k9L_2, k9L_3, k9L_4, k9L_5, k9L_6, k9L_7, k9L_8, k9L_9, k9L_10, k9L_20, k9L_23, k9L_24, k9L_30, k9L_40, k9L_50, k9L_60, k9L_99, k9L_100, k9L_120, k9L_255, k9L_999, k9L_1000, k9_bs, k9_ba, b2]) | simp (disch := omega) only [k9e_236_0, k9e_236_10, k9e_236_11, k9e_236_15, k9e_236_16, Nat.reduceEqDiff, Int.reduceEq, Int.reduceLT, Int.reduceLE, k9_ps_s, k9_ps_n, k9_ur, false_and, and_false, true_and, and_true, true_or, or_true, false_or, or_false, eq_self, ↓reduceIte, not_true_eq_false, not_false_eq_true, n_toInt, n_cl, nI_1, nI_add, n_a0, n_p2, n_p3, n_p4, n_x2, n_x3, n_x4, n_x60, n_x100, n_pm1, k9L_m2, k9L_m1, k9L_0, k9L_1, k9L_2, k9L_3, k9L_4, k9L_5, k9L_6, k9L_7, k9L_8, k9L_9, k9L_10, k9L_20, k9L_23, k9L_24, k9L_30, k9L_40, k9L_50, k9L_60, k9L_99, k9L_100, k9L_120, k9L_255, k9L_999, k9L_1000, k9_bs, k9_ba, b2] | (with_reducible refine k9q_if (fun _ => ?_) (fun _ => ?_)) | (with_reducible refine k9q_ifb (fun _ => ?_) (fun _ => ?_)))
    all_goals exact k9o_ret ⟨_, _, rfl, inv0⟩
end KT38
