/-! BODIES: act -/
section KT38
variable {S : k9_S} {d : Nat} {I I' I'' : k9_I} {J J' : k9_J} {w : Nat → Nat → Nat} {V : (Nat → Int32) → Int32} {b : Nat} {x1 x2 x3 : Int32} {g a t : Nat} {u : List Nat × Int32}
theorem p_act (hg : g ≤ 7) (ha : a ≤ 3) : ∃ u, p_ca g x1 8 g a x3 = some u ∧ p_ra g x1 16 a g x3 = some u ∧ u.1.length ≤ 1000 := by
  obtain rfl | rfl | rfl | rfl : a = 0 ∨ a = 1 ∨ a = 2 ∨ a = 3 := by omega
  all_goals rcases n_8 hg with rfl | rfl | rfl | rfl | rfl | rfl | rfl | rfl
  all_goals exact ⟨_, rfl, rfl, Nat.le_of_ble_eq_true rfl⟩
def k9_Fact (k _ p : Nat) : Bool := Nat.beq k 36 || Nat.beq k 59 || (Nat.beq k 10 && (Nat.beq p 1 || Nat.beq p 4)) || (Nat.beq k 12 && Nat.beq p 33)
theorem k9_Fact_X (k i p : Nat) (h : k9_Fact k i p = true) : k9_Xs [5] (v_cl k i p) = true := by
  simp only [k9_Fact, Bool.or_eq_true, Bool.and_eq_true, Nat.beq_eq] at h
  rcases h with ((rfl | rfl) | ⟨rfl, rfl | rfl⟩) | ⟨rfl, rfl⟩
  all_goals rfl
theorem k9_Inv_5 (hI : k9_Inv I J) (hx : k9_fx k9_Fact I I') (h1 : I' 10 0 1 = nI t) (h2 : I' 12 0 33 = nI t) (ht : t ≤ 1000) (hr : ∀ k, k < t → k < 24 → I' 36 0 k = I' 59 0 k) : k9_Inv I' J := by
  obtain ⟨w, V, b, v1, v2, v3, v4, v5, v6, v7, v8, v9⟩ := hI
  obtain ⟨hb, b1, b2, b3, -⟩ := v5
  have hfp : k9_fp (k9_Xs [5]) I I' := k9_fp_x hx k9_Fact_X
  refine ⟨w, V, b, k9_vW_c (k9_fp_c hfp rfl) v1, k9_vT_c (k9_fp_c hfp rfl) v2, k9_vL_c (k9_fp_c hfp rfl) v3, k9_vC_c (k9_fp_c hfp rfl) v4, ⟨hb, (hx 10 0 0 rfl).trans b1, (hx 12 0 31 rfl).trans b2, fun k hk => ?_, t, ht, h1, h2, hr⟩, k9_vS_c (k9_fp_c hfp rfl) v6, k9_vD_c (k9_fp_c hfp rfl) v7, k9_vR_c (k9_fp_c hfp rfl) v8, k9_vO_c (k9_fp_c hfp rfl) v9⟩
  obtain ⟨g, c, c1, c2⟩ := b3 k hk
  exact ⟨g, c, (hx 35 0 k rfl).trans c1, (hx 58 0 k rfl).trans c2⟩
theorem k9_nt_x (h : k9_fx k9_Fact I I') (n : Nat) : k9_fx k9_Fact I (k9_nt I' n) := by
  unfold k9_nt
  split
  · exact k9_fx_u (k9_fx_u h rfl) rfl
  · exact k9_fx_u h rfl
theorem k9_tc_x (l : List Nat) (h : k9_fx k9_Fact I I') : k9_fx k9_Fact I (k9_tc I' l) := by
  induction l generalizing I' with
  | nil => exact h
  | cons n l ih => exact ih (k9_nt_x h n)
theorem k9_nr_x (h : k9_fx k9_Fact I I') (n t : Nat) : k9_fx k9_Fact I (k9_nr I' n t) := by
  unfold k9_nr
  split
  · exact k9_fx_u (k9_fx_u h rfl) rfl
  · exact k9_fx_u h rfl
theorem k9_tr_x (l : List Nat) (t : Nat) (h : k9_fx k9_Fact I I') : k9_fx k9_Fact I (k9_tr l I' t) := by
  induction l generalizing I' t with
  | nil => exact h
  | cons n l ih => exact ih (t + 1) (k9_nr_x h n t)
def p_acr (l : List Nat) (t k : Nat) (x : Int32) : Int32 := if t ≤ k ∧ k < t + l.length ∧ k < 24 then nI (l.getD (k - t) 0) else x
theorem p_acr_c (n : Nat) (l : List Nat) (t k : Nat) (x : Int32) : p_acr l (t + 1) k (if k = t ∧ t < 24 then nI n else x) = p_acr (n :: l) t k x := by
  unfold p_acr
  rw [List.length_cons]
  by_cases c : k = t
  · subst c
    rw [if_neg (by omega)]
    by_cases c2 : k < 24
    · rw [if_pos ⟨rfl, c2⟩, if_pos (by omega), Nat.sub_self]
      rfl
    · rw [if_neg (by omega), if_neg (by omega)]
  · rw [if_neg (show ¬ (k = t ∧ t < 24) by omega)]
    by_cases c2 : t + 1 ≤ k ∧ k < t + 1 + l.length ∧ k < 24
    · rw [if_pos c2, if_pos (by omega)]
      obtain ⟨z, rfl⟩ : ∃ z, k = t + 1 + z := ⟨k - (t + 1), by omega⟩
      rw [show t + 1 + z - (t + 1) = z by omega, show t + 1 + z - t = z + 1 by omega]
      rfl
    · rw [if_neg c2, if_neg (by omega)]
theorem k9_tc_v (l : List Nat) (h : I 10 0 1 = nI t) (ht : t + l.length ≤ 1000) : (k9_tc I l) 10 0 1 = nI (t + l.length) ∧ ∀ k, (k9_tc I l) 36 0 k = p_acr l t k (I 36 0 k) := by
  induction l generalizing I t with
  | nil =>
    refine ⟨h, fun k => ?_⟩
    unfold p_acr
    rw [if_neg (by simp only [List.length_nil]; omega)]
    rfl
  | cons n l ih =>
    rw [List.length_cons] at ht ⊢
    have e : (k9_nt I n) 10 0 1 = nI (t + 1) := by
      unfold k9_nt
      rw [h]
      simp [k9_ur, nI_1]
    obtain ⟨i1, i2⟩ := ih e (by omega)
    refine ⟨?_, fun k => ?_⟩
    · rw [show t + (l.length + 1) = t + 1 + l.length by omega]
      exact i1
    · rw [← p_acr_c]
      refine (i2 k).trans (congrArg _ ?_)
      unfold k9_nt
      rw [h, n_toInt (by omega), n_cl (by omega)]
      by_cases c2 : t < 24
      · rw [if_pos (by omega)]
        by_cases c : k = t
        · simp [k9_ur, c, c2]
        · simp [k9_ur, c]
      · rw [if_neg (by omega), if_neg (by omega)]
        simp [k9_ur]
theorem k9_tr_v (l : List Nat) (h : I 12 0 33 = nI t) : (k9_tr l I t) 12 0 33 = nI (t + l.length) ∧ (k9_tr l I t) 10 0 1 = I 10 0 1 ∧ ∀ k, (k9_tr l I t) 36 0 k = I 36 0 k ∧ (k9_tr l I t) 59 0 k = p_acr l t k (I 59 0 k) := by
  induction l generalizing I t with
  | nil =>
    refine ⟨h, rfl, fun k => ⟨rfl, ?_⟩⟩
    unfold p_acr
    rw [if_neg (by simp only [List.length_nil]; omega)]
    rfl
  | cons n l ih =>
    rw [List.length_cons]
    have e : (k9_nr I n t) 12 0 33 = nI (t + 1) := by
      unfold k9_nr
      simp [k9_ur]
    obtain ⟨i1, i2, i3⟩ := ih e
    refine ⟨?_, ?_, fun k => ⟨?_, ?_⟩⟩
    · rw [show t + (l.length + 1) = t + 1 + l.length by omega]
      exact i1
    · refine i2.trans ?_
      unfold k9_nr
      split <;> simp [k9_ur]
    · refine (i3 k).1.trans ?_
      unfold k9_nr
      split <;> simp [k9_ur]
    · rw [← p_acr_c]
      refine (i3 k).2.trans (congrArg _ ?_)
      unfold k9_nr
      by_cases c2 : t < 24
      · rw [if_pos c2]
        by_cases c : k = t
        · simp [k9_ur, c, c2]
        · simp [k9_ur, c]
      · rw [if_neg c2, if_neg (by omega)]
        simp [k9_ur]
theorem t_act (hI : k9_Inv I J) : k9_P S (d + 60) 135 236 [some (k9_r 1 0), some (k9_i x1), some (k9_i x2), some (k9_i x3)] [some (k9_r 12 0), some (k9_i x1), some (k9_i x2), some (k9_i x3), none] I J k9_Inv := by
  have hI' := hI
  obtain ⟨w, V, b, v1, v2, v3, v4, v5, v6, v7, v8, v9⟩ := hI
  obtain ⟨hb, b1, b2, b3, -⟩ := v5
  refine k9P_of ?_
  have inv0 : k9_Inv (k9_u (k9_u I 10 0 1 0) 12 0 33 0) J := k9_Inv_5 (t := 0) hI' (k9_fx_u (k9_fx_u (k9_fx_rf _ _) rfl) rfl) (by simp [k9_ur]; rfl) (by simp [k9_ur]; rfl) (by omega) (fun k hk => by omega)
  by_cases h1 : 0 ≤ x1.toInt ∧ x1.toInt < b
  · obtain ⟨i, rfl, hi, -⟩ := n_of (x := x1) (by omega)
    have hib : i < b := by omega
    obtain ⟨g, hg, g1, g2⟩ := b3 i hib
    by_cases h2 : 0 ≤ x2.toInt ∧ x2.toInt ≤ 3
    · obtain ⟨a, rfl, ha, -⟩ := n_of (x := x2) (by omega)
      have ha3 : a ≤ 3 := by omega
      obtain ⟨u, u1, u2, ul⟩ := p_act (x1 := nI i) (x3 := x3) hg ha3
      obtain ⟨Ia, hIa⟩ : ∃ Ia, Ia = k9_u (k9_u I 10 0 1 0) 10 0 4 (nI i) := ⟨_, rfl⟩
      have hA : k9_ac Ia g (nI i) := by
        rw [hIa]
        exact ⟨by simp [k9_ur], b, i, hb, by simp [k9_ur, b1], hib, rfl, by simp [k9_ur, g1]⟩
      have e84 := k9a_84 (S := S) (d := d + 33) (J := J) (e := 0) (x3 := x3) hg (k9a_85_a hg 8) hA ha3 (by omega) u1
      rw [show d + 33 + 3 * 8 + 1 = d + 58 by omega] at e84
      have xa : k9_fx k9_Fact I Ia := by
        rw [hIa]
        exact k9_fx_u (k9_fx_u (k9_fx_rf _ _) rfl) rfl
      have xc := k9_tc_x u.1 xa
      obtain ⟨tv1, tv2⟩ := k9_tc_v (I := Ia) (t := 0) u.1 (by rw [hIa]; simp [k9_ur]; rfl) (by omega)
      obtain ⟨Ic, hIc⟩ : ∃ Ic, Ic = k9_tc Ia u.1 := ⟨_, rfl⟩
      rw [← hIc] at e84 xc tv1 tv2
      have cls : k9_R S (d + 60) 135 0 [some (k9_r 1 0), some (k9_i (nI i)), some (k9_i (nI a)), some (k9_i x3)] [] I J = some (some (k9_i u.2), Ic, J) := by
        have e78 : k9_R S (d + 58) 78 0 [some (k9_r 10 0), some (k9_i (nI i))] [] (k9_u I 10 0 1 0) J = some (some (k9_i (nI g)), k9_u I 10 0 1 0, J) := by
          refine k9o_of ?_
          simp (disch := omega) only [k9e_78_0, k9e_78_2, k9e_78_6, k9e_78_9, k9e_78_13, k9e_78_14, k9e_78_15, Nat.reduceEqDiff, Int.reduceEq, Int.reduceLT, Int.reduceLE, k9_ps_s, k9_ps_n, k9_ur, false_and, and_false, true_and, and_true, true_or, or_true, false_or, or_false, eq_self, ↓reduceIte, not_true_eq_false, not_false_eq_true, n_toInt, n_cl, nI_1, nI_add, n_a0, n_p2, n_p3, n_p4, n_x2, n_x3, n_x4, n_x60, n_x100, n_pm1, k9L_m2, k9L_m1, k9L_0, k9L_1, k9L_2, k9L_3, k9L_4, k9L_5, k9L_6, k9L_7, k9L_8, k9L_9, k9L_10, k9L_20, k9L_23, k9L_24, k9L_30, k9L_40, k9L_50, k9L_60, k9L_99, k9L_100, k9L_120, k9L_255, k9L_999, k9L_1000, k9_bs, k9_ba, b1, g1]
          repeat (first | ((with_reducible refine k9q_T ?_ ?_); · omega) | ((with_reducible refine k9q_F ?_ ?_); · omega) | ((with_reducible refine k9q_Tb ?_ ?_); · omega) | ((with_reducible refine k9q_Fb ?_ ?_); · omega) | simp (disch := omega) only [k9e_78_0, k9e_78_2, k9e_78_6, k9e_78_9, k9e_78_13, k9e_78_14, k9e_78_15, Nat.reduceEqDiff, Int.reduceEq, Int.reduceLT, Int.reduceLE, k9_ps_s, k9_ps_n, k9_ur, false_and, and_false, true_and, and_true, true_or, or_true, false_or, or_false, eq_self, ↓reduceIte, not_true_eq_false, not_false_eq_true, n_toInt, n_cl, nI_1, nI_add, n_a0, n_p2, n_p3, n_p4, n_x2, n_x3, n_x4, n_x60, n_x100, n_pm1, k9L_m2, k9L_m1, k9L_0, k9L_1, k9L_2, k9L_3, k9L_4, k9L_5, k9L_6, k9L_7, k9L_8, k9L_9, k9L_10, k9L_20, k9L_23, k9L_24, k9L_30, k9L_40, k9L_50, k9L_60, k9L_99, k9L_100, k9L_120, k9L_255, k9L_999, k9L_1000, k9_bs, k9_ba, b1, g1])
          exact k9o_ret rfl
        refine k9o_of (k9o_eq k9e_135_0 ?_)
        refine k9o_bind (P := fun q => q = (some (k9_i u.2), Ic, J)) ?_ ?_
        · refine k9o_eq k9e_83_0 (k9o_call e78 ?_)
          simp only [k9_ps_s]
          refine k9o_eq k9e_83_6 (k9o_F (by rw [n_toInt (by omega)]; omega) (k9o_eq k9e_83_7 (k9o_F (by rw [n_toInt (by omega)]; omega) (k9o_eq k9e_83_9 (k9o_T (by rw [n_toInt (by omega)]; omega) (k9o_eq k9e_83_14 ?_))))))
          rw [← hIa]
          refine k9o_call e84 ?_
          simp only [k9_ps_s]
          exact k9o_eq k9e_83_22 (k9o_ret rfl)
        · rintro a1 I1 J1 q
          obtain ⟨rfl, rfl, rfl⟩ : a1 = some (k9_i u.2) ∧ I1 = Ic ∧ J1 = J := by
            cases q
            exact ⟨rfl, rfl, rfl⟩
          simp only [k9_ps_s]
          exact k9o_eq k9e_135_6 (k9o_ret rfl)
      refine k9o_to cls ⟨_, _, _, rfl, ?_⟩
      obtain ⟨Im, hIm⟩ : ∃ Im, Im = k9_u Ic 12 0 33 0 := ⟨_, rfl⟩
      have m31 : Im 12 0 31 = nI b := by
        rw [hIm]
        exact (xc 12 0 31 rfl).trans b2
      have m58 : Im 58 0 i = nI g := by
        rw [hIm]
        exact (xc 58 0 i rfl).trans g2
      have m33 : Im 12 0 33 = nI 0 := by
        rw [hIm]
        simp [k9_ur]
        rfl
      have r := k9_rq_a (S := S) hg (show i < 50 by omega) 16 (d + 43) Im J a g 0 x3 u ⟨m58, m33⟩ hg ha3 u2 (by omega)
      have xr : k9_fx k9_Fact I (k9_tr u.1 Im 0) := k9_tr_x u.1 0 (by rw [hIm]; exact k9_fx_u xc rfl)
      obtain ⟨r1, r2, r3⟩ := k9_tr_v (t := 0) u.1 m33
      have fin : k9_Inv (k9_tr u.1 Im 0) J := by
        refine k9_Inv_5 (t := 0 + u.1.length) hI' xr ?_ r1 (by omega) (fun k hk hk2 => ?_)
        · rw [r2, hIm]
          exact tv1
        · rw [(r3 k).1, (r3 k).2, hIm]
          show Ic 36 0 k = p_acr u.1 0 k (Ic 59 0 k)
          rw [tv2]
          unfold p_acr
          rw [if_pos ⟨Nat.zero_le _, hk, hk2⟩, if_pos ⟨Nat.zero_le _, hk, hk2⟩]
      refine k9o_eq k9e_236_0 ?_
      rw [← hIm, m31]
      refine k9o_call (k9s_153 (by first | omega | (simp (disch := omega) only [n_toInt, n_pm1, k9L_m2, k9L_m1, k9L_0, k9L_1, k9L_2, k9L_3, k9L_4, k9L_5, k9L_6, k9L_7, k9L_8, k9L_9, k9L_10, k9L_20, k9L_23, k9L_24, k9L_30, k9L_40, k9L_50, k9L_60, k9L_99, k9L_100, k9L_120, k9L_255, k9L_999, k9L_1000]; omega))) ?_
      simp only [k9_ps_s]
      refine k9o_eq k9e_236_10 (k9o_F (by decide) (k9o_eq k9e_236_11 (k9o_call (k9s_153 (by first | omega | (simp (disch := omega) only [n_toInt, n_pm1, k9L_m2, k9L_m1, k9L_0, k9L_1, k9L_2, k9L_3, k9L_4, k9L_5, k9L_6, k9L_7, k9L_8, k9L_9, k9L_10, k9L_20, k9L_23, k9L_24, k9L_30, k9L_40, k9L_50, k9L_60, k9L_99, k9L_100, k9L_120, k9L_255, k9L_999, k9L_1000]; omega))) ?_)))
      simp only [k9_ps_s]
      refine k9o_eq k9e_236_15 (k9o_F (by decide) (k9o_eq k9e_236_18 (k9o_T (by rw [n_toInt (by omega)]; omega) ?_)))
      rw [n_cl (by omega), m58]
      refine k9o_eq k9e_236_22 ?_
      obtain rfl | rfl | rfl | rfl : a = 0 ∨ a = 1 ∨ a = 2 ∨ a = 3 := by omega
      · refine k9o_T (by decide) (k9o_eq k9e_236_25 (k9o_call r ?_))
        simp only [k9_ps_s]
        exact k9o_eq k9e_236_30 (k9o_eq k9e_236_54 (k9o_ret ⟨_, _, rfl, fin⟩))
      · refine k9o_F (by decide) (k9o_eq k9e_236_31 (k9o_T (by decide) (k9o_eq k9e_236_34 (k9o_call r ?_))))
        simp only [k9_ps_s]
        exact k9o_eq k9e_236_39 (k9o_eq k9e_236_54 (k9o_ret ⟨_, _, rfl, fin⟩))
      · refine k9o_F (by decide) (k9o_eq k9e_236_31 (k9o_F (by decide) (k9o_eq k9e_236_40 (k9o_T (by decide) (k9o_eq k9e_236_43 (k9o_call r ?_))))))
        simp only [k9_ps_s]
        exact k9o_eq k9e_236_48 (k9o_eq k9e_236_54 (k9o_ret ⟨_, _, rfl, fin⟩))
      · refine k9o_F (by decide) (k9o_eq k9e_236_31 (k9o_F (by decide) (k9o_eq k9e_236_40 (k9o_F (by decide) (k9o_eq k9e_236_49 (k9o_call r ?_))))))
        simp only [k9_ps_s]
        exact k9o_eq k9e_236_54 (k9o_ret ⟨_, _, rfl, fin⟩)
    · repeat' (first | ((with_reducible refine k9q_T ?_ ?_); · omega) | ((with_reducible refine k9q_F ?_ ?_); · omega) | ((with_reducible refine k9q_Tb ?_ ?_); · omega) | ((with_reducible refine k9q_Fb ?_ ?_); · omega) | simp (disch := omega) only [k9e_135_0, k9e_135_6, k9e_83_0, k9e_83_6, k9e_83_7, k9e_83_9, k9e_83_12, k9e_83_14, k9e_83_22, k9e_78_0, k9e_78_2, k9e_78_6, k9e_78_9, k9e_78_13, k9e_78_14, k9e_78_15, Nat.reduceEqDiff, Int.reduceEq, Int.reduceLT, Int.reduceLE, k9_ps_s, k9_ps_n, k9_ur, false_and, and_false, true_and, and_true, true_or, or_true, false_or, or_false, eq_self, ↓reduceIte, not_true_eq_false, not_false_eq_true, n_toInt, n_cl, nI_1, nI_add, n_a0, n_p2, n_p3, n_p4, n_x2, n_x3, n_x4, n_x60, n_x100, n_pm1, k9L_m2, k9L_m1, k9L_0, k9L_1, k9L_2, k9L_3, k9L_4, k9L_5, k9L_6, k9L_7, k9L_8, k9L_9, k9L_10, k9L_20, k9L_23, k9L_24, k9L_30, k9L_40, k9L_50, k9L_60, k9L_99, k9L_100, k9L_120, k9L_255, k9L_999, k9L_1000, k9_bs, k9_ba, b1, g1] | (with_reducible refine k9q_if (fun _ => ?_) (fun _ => ?_)) | (with_reducible refine k9q_ifb (fun _ => ?_) (fun _ => ?_)))
      all_goals refine k9o_ret ⟨_, _, _, rfl, ?_⟩
      all_goals repeat' (first | ((with_reducible refine k9q_T ?_ ?_); · omega) | ((with_reducible refine k9q_F ?_ ?_); · omega) | ((with_reducible refine k9q_Tb ?_ ?_); · omega) | ((with_reducible refine k9q_Fb ?_ ?_); · omega) | (refine k9o_call (k9s_153 (by first | omega | (simp (disch := omega) only [n_toInt, n_pm1, k9L_m2, k9L_m1, k9L_0, k9L_1, k9L_2, k9L_3, k9L_4, k9L_5, k9L_6, k9L_7, k9L_8, k9L_9, k9L_10, k9L_20, k9L_23, k9L_24, k9L_30, k9L_40, k9L_50, k9L_60, k9L_99, k9L_100, k9L_120, k9L_255, k9L_999, k9L_1000]; omega))) ?_; simp (disch := omega) only [k9e_236_0, k9e_236_10, k9e_236_11, k9e_236_15, k9e_236_16, Nat.reduceEqDiff, Int.reduceEq, Int.reduceLT, Int.reduceLE, k9_ps_s, k9_ps_n, k9_ur, false_and, and_false, true_and, and_true, true_or, or_true, false_or, or_false, eq_self, ↓reduceIte, not_true_eq_false, not_false_eq_true, n_toInt, n_cl, nI_1, nI_add, n_a0, n_p2, n_p3, n_p4, n_x2, n_x3, n_x4, n_x60, n_x100, n_pm1, k9L_m2, k9L_m1, k9L_0, k9L_1, k9L_2, k9L_3, k9L_4, k9L_5, k9L_6, k9L_7, k9L_8, k9L_9, k9L_10, k9L_20, k9L_23, k9L_24, k9L_30, k9L_40, k9L_50, k9L_60, k9L_99, k9L_100, k9L_120, k9L_255, k9L_999, k9L_1000, k9_bs, k9_ba, b2]) | (refine k9o_call (k9s_153x (by first | omega | (simp (disch := omega) only [n_toInt, n_pm1, k9L_m2, k9L_m1, k9L_0, k9L_1, k9L_2, k9L_3, k9L_4, k9L_5, k9L_6, k9L_7, k9L_8, k9L_9, k9L_10, k9L_20, k9L_23, k9L_24, k9L_30, k9L_40, k9L_50, k9L_60, k9L_99, k9L_100, k9L_120, k9L_255, k9L_999, k9L_1000]; omega))) ?_; simp (disch := omega) only [k9e_236_0, k9e_236_10, k9e_236_11, k9e_236_15, k9e_236_16, Nat.reduceEqDiff, Int.reduceEq, Int.reduceLT, Int.reduceLE, k9_ps_s, k9_ps_n, k9_ur, false_and, and_false, true_and, and_true, true_or, or_true, false_or, or_false, eq_self, ↓reduceIte, not_true_eq_false, not_false_eq_true, n_toInt, n_cl, nI_1, nI_add, n_a0, n_p2, n_p3, n_p4, n_x2, n_x3, n_x4, n_x60, n_x100, n_pm1, k9L_m2, k9L_m1, k9L_0, k9L_1, k9L_2, k9L_3, k9L_4, k9L_5, k9L_6, k9L_7, k9L_8, k9L_9, k9L_10, k9L_20, k9L_23, k9L_24, k9L_30, k9L_40, k9L_50, k9L_60, k9L_99, k9L_100, k9L_120, k9L_255, k9L_999, k9L_1000, k9_bs, k9_ba, b2]) | simp (disch := omega) only [k9e_236_0, k9e_236_10, k9e_236_11, k9e_236_15, k9e_236_16, Nat.reduceEqDiff, Int.reduceEq, Int.reduceLT, Int.reduceLE, k9_ps_s, k9_ps_n, k9_ur, false_and, and_false, true_and, and_true, true_or, or_true, false_or, or_false, eq_self, ↓reduceIte, not_true_eq_false, not_false_eq_true, n_toInt, n_cl, nI_1, nI_add, n_a0, n_p2, n_p3, n_p4, n_x2, n_x3, n_x4, n_x60, n_x100, n_pm1, k9L_m2, k9L_m1, k9L_0, k9L_1, k9L_2, k9L_3, k9L_4, k9L_5, k9L_6, k9L_7, k9L_8, k9L_9, k9L_10, k9L_20, k9L_23, k9L_24, k9L_30, k9L_40, k9L_50, k9L_60, k9L_99, k9L_100, k9L_120, k9L_255, k9L_999, k9L_1000, k9_bs, k9_ba, b2] | (with_reducible refine k9q_if (fun _ => ?_) (fun _ => ?_)) | (with_reducible refine k9q_ifb (fun _ => ?_) (fun _ => ?_)))
      all_goals exact k9o_ret ⟨_, _, rfl, inv0⟩
  · repeat' (first | ((with_reducible refine k9q_T ?_ ?_); · omega) | ((with_reducible refine k9q_F ?_ ?_); · omega) | ((with_reducible refine k9q_Tb ?_ ?_); · omega) | ((with_reducible refine k9q_Fb ?_ ?_); · omega) | simp (disch := omega) only [k9e_135_0, k9e_135_6, k9e_83_0, k9e_83_6, k9e_83_7, k9e_83_9, k9e_83_12, k9e_83_14, k9e_83_22, k9e_78_0, k9e_78_2, k9e_78_6, k9e_78_9, k9e_78_13, k9e_78_14, k9e_78_15, Nat.reduceEqDiff, Int.reduceEq, Int.reduceLT, Int.reduceLE, k9_ps_s, k9_ps_n, k9_ur, false_and, and_false, true_and, and_true, true_or, or_true, false_or, or_false, eq_self, ↓reduceIte, not_true_eq_false, not_false_eq_true, n_toInt, n_cl, nI_1, nI_add, n_a0, n_p2, n_p3, n_p4, n_x2, n_x3, n_x4, n_x60, n_x100, n_pm1, k9L_m2, k9L_m1, k9L_0, k9L_1, k9L_2, k9L_3, k9L_4, k9L_5, k9L_6, k9L_7, k9L_8, k9L_9, k9L_10, k9L_20, k9L_23, k9L_24, k9L_30, k9L_40, k9L_50, k9L_60, k9L_99, k9L_100, k9L_120, k9L_255, k9L_999, k9L_1000, k9_bs, k9_ba, b1] | (with_reducible refine k9q_if (fun _ => ?_) (fun _ => ?_)) | (with_reducible refine k9q_ifb (fun _ => ?_) (fun _ => ?_)))
    all_goals refine k9o_ret ⟨_, _, _, rfl, ?_⟩
    all_goals repeat' (first | ((with_reducible refine k9q_T ?_ ?_); · omega) | ((with_reducible refine k9q_F ?_ ?_); · omega) | ((with_reducible refine k9q_Tb ?_ ?_); · omega) | ((with_reducible refine k9q_Fb ?_ ?_); · omega) | (refine k9o_call (k9s_153 (by first | omega | (simp (disch := omega) only [n_toInt, n_pm1, k9L_m2, k9L_m1, k9L_0, k9L_1, k9L_2, k9L_3, k9L_4, k9L_5, k9L_6, k9L_7, k9L_8, k9L_9, k9L_10, k9L_20, k9L_23, k9L_24, k9L_30, k9L_40, k9L_50, k9L_60, k9L_99, k9L_100, k9L_120, k9L_255, k9L_999, k9L_1000]; omega))) ?_; simp (disch := omega) only [k9e_236_0, k9e_236_10, k9e_236_11, k9e_236_15, k9e_236_16, Nat.reduceEqDiff, Int.reduceEq, Int.reduceLT, Int.reduceLE, k9_ps_s, k9_ps_n, k9_ur, false_and, and_false, true_and, and_true, true_or, or_true, false_or, or_false, eq_self, ↓reduceIte, not_true_eq_false, not_false_eq_true, n_toInt, n_cl, nI_1, nI_add, n_a0, n_p2, n_p3, n_p4, n_x2, n_x3, n_x4, n_x60, n_x100, n_pm1, k9L_m2, k9L_m1, k9L_0, k9L_1, k9L_2, k9L_3, k9L_4, k9L_5, k9L_6, k9L_7, k9L_8, k9L_9, k9L_10, k9L_20, k9L_23, k9L_24, k9L_30, k9L_40, k9L_50, k9L_60, k9L_99, k9L_100, k9L_120, k9L_255, k9L_999, k9L_1000, k9_bs, k9_ba, b2]) | (refine k9o_call (k9s_153x (by first | omega | (simp (disch := omega) only [n_toInt, n_pm1, k9L_m2, k9L_m1, k9L_0, k9L_1, k9L_2, k9L_3, k9L_4, k9L_5, k9L_6, k9L_7, k9L_8, k9L_9, k9L_10, k9L_20, k9L_23, k9L_24, k9L_30, k9L_40, k9L_50, k9L_60, k9L_99, k9L_100, k9L_120, k9L_255, k9L_999, k9L_1000]; omega))) ?_; simp (disch := omega) only [k9e_236_0, k9e_236_10, k9e_236_11, k9e_236_15, k9e_236_16, Nat.reduceEqDiff, Int.reduceEq, Int.reduceLT, Int.reduceLE, k9_ps_s, k9_ps_n, k9_ur, false_and, and_false, true_and, and_true, true_or, or_true, false_or, or_false, eq_self, ↓reduceIte, not_true_eq_false, not_false_eq_true, n_toInt, n_cl, nI_1, nI_add, n_a0, n_p2, n_p3, n_p4, n_x2, n_x3, n_x4, n_x60, n_x100, n_pm1, k9L_m2, k9L_m1, k9L_0, k9L_1, k9L_2, k9L_3, k9L_4, k9L_5, k9L_6, k9L_7, k9L_8, k9L_9, k9L_10, k9L_20, k9L_23, k9L_24, k9L_30, k9L_40, k9L_50, k9L_60, k9L_99, k9L_100, k9L_120, k9L_255, k9L_999, k9L_1000, k9_bs, k9_ba, b2]) | simp (disch := omega) only [k9e_236_0, k9e_236_10, k9e_236_11, k9e_236_15, k9e_236_16, Nat.reduceEqDiff, Int.reduceEq, Int.reduceLT, Int.reduceLE, k9_ps_s, k9_ps_n, k9_ur, false_and, and_false, true_and, and_true, true_or, or_true, false_or, or_false, eq_self, ↓reduceIte, not_true_eq_false, not_false_eq_true, n_toInt, n_cl, nI_1, nI_add, n_a0, n_p2, n_p3, n_p4, n_x2, n_x3, n_x4, n_x60, n_x100, n_pm1, k9L_m2, k9L_m1, k9L_0, k9L_1, k9L_2, k9L_3, k9L_4, k9L_5, k9L_6, k9L_7, k9L_8, k9L_9, k9L_10, k9L_20, k9L_23, k9L_24, k9L_30, k9L_40, k9L_50, k9L_60, k9L_99, k9L_100, k9L_120, k9L_255, k9L_999, k9L_1000, k9_bs, k9_ba, b2] | (with_reducible refine k9q_if (fun _ => ?_) (fun _ => ?_)) | (with_reducible refine k9q_ifb (fun _ => ?_) (fun _ => ?_)))
    all_goals exact k9o_ret ⟨_, _, rfl, inv0⟩
end KT38

/-! PIECES FROM A ROW: the loops -/
section KT39
variable {S : k9_S} {d : Nat} {I I' : k9_I} {J J' : k9_J} {w : Nat → Nat → Nat} {V : (Nat → Int32) → Int32} {x1 x2 x3 : Int32} {s z y b v t i n : Nat} {q : Nat → Int32}
abbrev k9_pcc (z n y : Nat) (q : Nat → Int32) : Prop := y + 3 ≤ z ∧ n < 6 ∧ (1 ≤ (q y).toInt ∧ (q y).toInt ≤ 99) ∧ (1 ≤ (q (y + 1)).toInt ∧ (q (y + 1)).toInt ≤ 9) ∧ 0 ≤ (q (y + 2)).toInt ∧ (q (y + 2)).toInt ≤ 60
def p_pw (z i : Nat) (q : Nat → Int32) : Nat → Nat → (Nat → Nat → Nat) → Nat × (Nat → Nat → Nat)
  | 0, c, w => (c, w)
  | k + 1, c, w => if k9_pcc z (w 7 0) (i + 3 * c) q then p_pw z i q k (c + 1) (p_add w (q (i + 3 * c)).toInt.toNat (q (i + 3 * c + 1)).toInt.toNat (q (i + 3 * c + 2)).toInt.toNat) else (c, w)
theorem p_pw_c (z i : Nat) (q : Nat → Int32) (k c : Nat) (w : Nat → Nat → Nat) : c ≤ (p_pw z i q k c w).1 ∧ ((p_pw z i q k c w).1 = c → (p_pw z i q k c w).2 = w) := by
  induction k generalizing c w with
  | zero => exact ⟨Nat.le_refl _, fun _ => rfl⟩
  | succ k ih =>
    rw [p_pw]
    by_cases e : k9_pcc z (w 7 0) (i + 3 * c) q
    · rw [if_pos e]
      have h := ih (c + 1) (p_add w (q (i + 3 * c)).toInt.toNat (q (i + 3 * c + 1)).toInt.toNat (q (i + 3 * c + 2)).toInt.toNat)
      exact ⟨by omega, fun z => by omega⟩
    · rw [if_neg e]
      exact ⟨Nat.le_refl _, fun _ => rfl⟩
theorem p_pw_w (z i : Nat) (q : Nat → Int32) (k c : Nat) (w : Nat → Nat → Nat) (hf : k9_wf w) (h9 : ∀ p, p < w 7 0 → w 1 p ≤ 9) : k9_wf (p_pw z i q k c w).2 ∧ (∀ p, p < (p_pw z i q k c w).2 7 0 → (p_pw z i q k c w).2 1 p ≤ 9) ∧ w 7 0 ≤ (p_pw z i q k c w).2 7 0 := by
  induction k generalizing c w with
  | zero => exact ⟨hf, h9, Nat.le_refl _⟩
  | succ k ih =>
    rw [p_pw]
    by_cases e : k9_pcc z (w 7 0) (i + 3 * c) q
    · rw [if_pos e]
      obtain ⟨e1, e2, e3, e4, e5⟩ := e
      obtain ⟨b', hb'⟩ : ∃ b', b' = (q (i + 3 * c)).toInt.toNat := ⟨_, rfl⟩
      obtain ⟨v', hv'⟩ : ∃ v', v' = (q (i + 3 * c + 1)).toInt.toNat := ⟨_, rfl⟩
      obtain ⟨t', ht'⟩ : ∃ t', t' = (q (i + 3 * c + 2)).toInt.toNat := ⟨_, rfl⟩
      rw [← hb', ← hv', ← ht']
      have h := ih (c + 1) _ (k9_wf_add (b := b') (v := v') (s := t') hf e2 (by omega) (by omega) (by omega)) (fun p hp => by
        have hp : p < w 7 0 + 1 := hp
        by_cases e : p = w 7 0
        · simp [p_add, e]; omega
        · have := h9 p (by omega)
          simpa [p_add, e] using this)
      refine ⟨h.1, h.2.1, Nat.le_trans ?_ h.2.2⟩
      simp [p_add]
    · rw [if_neg e]
      exact ⟨hf, h9, Nat.le_refl _⟩
theorem n_tn {x : Int32} (h : 0 ≤ x.toInt) : x = nI x.toInt.toNat := by
  obtain ⟨n, rfl, h1, h2⟩ := n_of h
  rw [n_toInt (by omega)]
  rfl
def k9_pu (I : k9_I) (n b v t : Nat) : k9_I := k9_u (k9_u (c_add I 0 n b v t) 1 0 12 0) 1 0 13 0
theorem k9s_146T (hW : k9_Wk I 0 w) (hz : I 11 s 3 = nI z) (h60 : z ≤ 60) (hy : k9_pcc z (w 7 0) y q) (hq : q = fun p => (J 37 s p).toInt32) : k9_R S (d + 2) 146 0 [some (k9_r 1 0), some (k9_r 11 s), some (k9_i (nI y)), none, none, none] [] I J = some (some (k9_i 1), k9_pu I (w 7 0) (q y).toInt.toNat (q (y + 1)).toInt.toNat (q (y + 2)).toInt.toNat, J) := by
  obtain ⟨h1, h2, h3, h4, h5⟩ := hy
  have ea := k9s_95 (S := S) (d := d) (I := I) (J := J) (i0 := s) (i := y) (by omega)
  have eb := k9s_95 (S := S) (d := d) (I := I) (J := J) (i0 := s) (i := y + 1) (by omega)
  have ec := k9s_95 (S := S) (d := d) (I := I) (J := J) (i0 := s) (i := y + 2) (by omega)
  rw [show (J 37 s y).toInt32 = q y by rw [hq], n_tn (x := q y) (by omega)] at ea
  rw [show (J 37 s (y + 1)).toInt32 = q (y + 1) by rw [hq], n_tn (x := q (y + 1)) (by omega)] at eb
  rw [show (J 37 s (y + 2)).toInt32 = q (y + 2) by rw [hq], n_tn (x := q (y + 2)) (by omega)] at ec
  obtain ⟨b, hb⟩ : ∃ b, b = (q y).toInt.toNat := ⟨_, rfl⟩
  obtain ⟨v, hv⟩ : ∃ v, v = (q (y + 1)).toInt.toNat := ⟨_, rfl⟩
  obtain ⟨t, ht⟩ : ∃ t, t = (q (y + 2)).toInt.toNat := ⟨_, rfl⟩
  rw [← hb] at ea ⊢
  rw [← hv] at eb ⊢
  rw [← ht] at ec ⊢
  have e3 : (nI z - 3).toInt = (z : Int) - 3 := pk_sub_toInt (a := z) (b := 3) (by omega) (by omega)
  have e8 := k9s_8 (S := S) (d := d + 1) (J := J) (i0 := 0) (b := b) (v := v) (s := t) hW.1 h2
  have e147 : ∀ K : k9_I, k9_R S (d + 1) 147 0 [some (k9_r 1 0)] [] K J = some (none, k9_u (k9_u K 1 0 12 0) 1 0 13 0, J) := by
    intro K
    refine k9o_of ?_
    simp (disch := omega) only [k9e_147_0, Nat.reduceEqDiff, Int.reduceEq, Int.reduceLT, Int.reduceLE, k9_ps_s, k9_ps_n, k9_ur, false_and, and_false, true_and, and_true, true_or, or_true, false_or, or_false, eq_self, ↓reduceIte, not_true_eq_false, not_false_eq_true, n_toInt, n_cl, nI_1, nI_add, n_a0, n_p2, n_p3, n_p4, n_x2, n_x3, n_x4, n_x60, n_x100, n_pm1, k9L_m2, k9L_m1, k9L_0, k9L_1, k9L_2, k9L_3, k9L_4, k9L_5, k9L_6, k9L_7, k9L_8, k9L_9, k9L_10, k9L_20, k9L_23, k9L_24, k9L_30, k9L_40, k9L_50, k9L_60, k9L_99, k9L_100, k9L_120, k9L_255, k9L_999, k9L_1000, k9_bs, k9_ba]
    repeat (first | ((with_reducible refine k9q_T ?_ ?_); · omega) | ((with_reducible refine k9q_F ?_ ?_); · omega) | ((with_reducible refine k9q_Tb ?_ ?_); · omega) | ((with_reducible refine k9q_Fb ?_ ?_); · omega) | simp (disch := omega) only [k9e_147_0, Nat.reduceEqDiff, Int.reduceEq, Int.reduceLT, Int.reduceLE, k9_ps_s, k9_ps_n, k9_ur, false_and, and_false, true_and, and_true, true_or, or_true, false_or, or_false, eq_self, ↓reduceIte, not_true_eq_false, not_false_eq_true, n_toInt, n_cl, nI_1, nI_add, n_a0, n_p2, n_p3, n_p4, n_x2, n_x3, n_x4, n_x60, n_x100, n_pm1, k9L_m2, k9L_m1, k9L_0, k9L_1, k9L_2, k9L_3, k9L_4, k9L_5, k9L_6, k9L_7, k9L_8, k9L_9, k9L_10, k9L_20, k9L_23, k9L_24, k9L_30, k9L_40, k9L_50, k9L_60, k9L_99, k9L_100, k9L_120, k9L_255, k9L_999, k9L_1000, k9_bs, k9_ba])
    exact k9o_ret rfl
  refine k9o_of (k9o_eq k9e_146_0 (k9o_F (by rw [n_toInt (by omega)]; omega) (k9o_eq k9e_146_2 (k9o_F (by rw [hz, e3, n_toInt (by omega)]; omega) (k9o_eq k9e_146_8 (k9o_T (by rw [hW.1, n_toInt (by omega)]; omega) (k9o_eq k9e_146_16 (k9o_call ea ?_))))))))
  simp only [k9_ps_s]
  refine k9o_eq k9e_146_19 ?_
  rw [nI_1]
  refine k9o_call eb ?_
  simp only [k9_ps_s]
  refine k9o_eq k9e_146_25 ?_
  rw [n_p2]
  refine k9o_call ec ?_
  simp only [k9_ps_s]
  refine k9o_eq k9e_146_31 (k9o_call (k9s_0 (q := 0) (by omega) (by rw [n_toInt (by omega)]; show ((1 : Nat) : Int) ≤ _ ∧ _ ≤ ((99 : Nat) : Int); omega)) ?_)
  simp only [k9_ps_s]
  refine k9o_eq k9e_146_35 (k9o_F (by decide) (k9o_eq k9e_146_36 (k9o_call (k9s_0 (q := 1) (by omega) (by rw [n_toInt (by omega)]; show ((1 : Nat) : Int) ≤ _ ∧ _ ≤ ((9 : Nat) : Int); omega)) ?_)))
  simp only [k9_ps_s]
  refine k9o_eq k9e_146_39 (k9o_F (by decide) (k9o_eq k9e_146_40 (k9o_call (k9s_0 (q := 2) (by omega) (by rw [n_toInt (by omega)]; show ((0 : Nat) : Int) ≤ _ ∧ _ ≤ ((60 : Nat) : Int); omega)) ?_)))
  simp only [k9_ps_s]
  refine k9o_eq k9e_146_43 (k9o_F (by decide) (k9o_eq k9e_146_46 (k9o_call e8 ?_)))
  simp only [k9_ps_n]
  refine k9o_eq k9e_146_53 (k9o_call (e147 _) ?_)
  simp only [k9_ps_n]
  exact k9o_eq k9e_146_55 (k9o_ret rfl)
theorem k9s_146X (hz : I 11 s 3 = nI z) (h60 : z ≤ 60) (hx : x2.toInt < 0 ∨ (z : Int) - 3 < x2.toInt) : k9_R S d 146 0 [some (k9_r 1 0), some (k9_r 11 s), some (k9_i x2), none, none, none] [] I J = some (some (k9_i 0), I, J) := by
  have e3 : (nI z - 3).toInt = (z : Int) - 3 := pk_sub_toInt (a := z) (b := 3) (by omega) (by omega)
  refine k9o_of (k9o_eq k9e_146_0 ?_)
  by_cases c : x2.toInt < 0
  · exact k9o_T c (k9o_eq k9e_146_14 (k9o_ret rfl))
  · exact k9o_F c (k9o_eq k9e_146_2 (k9o_T (by rw [hz, e3]; omega) (k9o_eq k9e_146_14 (k9o_ret rfl))))
theorem k9s_146F (hW : k9_Wk I 0 w) (h6 : w 7 0 ≤ 6) (hz : I 11 s 3 = nI z) (h60 : z ≤ 60) (hi : y < 1000) (hy : ¬ k9_pcc z (w 7 0) y q) (hq : q = fun p => (J 37 s p).toInt32) : k9_R S (d + 2) 146 0 [some (k9_r 1 0), some (k9_r 11 s), some (k9_i (nI y)), none, none, none] [] I J = some (some (k9_i 0), I, J) := by
  by_cases c1 : y + 3 ≤ z
  · have e3 : (nI z - 3).toInt = (z : Int) - 3 := pk_sub_toInt (a := z) (b := 3) (by omega) (by omega)
    refine k9o_of (k9o_eq k9e_146_0 (k9o_F (by rw [n_toInt (by omega)]; omega) (k9o_eq k9e_146_2 (k9o_F (by rw [hz, e3, n_toInt (by omega)]; omega) (k9o_eq k9e_146_8 ?_)))))
    by_cases c2 : w 7 0 < 6
    · have ea := k9s_95 (S := S) (d := d) (I := I) (J := J) (i0 := s) (i := y) (by omega)
      have eb := k9s_95 (S := S) (d := d) (I := I) (J := J) (i0 := s) (i := y + 1) (by omega)
      have ec := k9s_95 (S := S) (d := d) (I := I) (J := J) (i0 := s) (i := y + 2) (by omega)
      rw [show (J 37 s y).toInt32 = q y by rw [hq]] at ea
      rw [show (J 37 s (y + 1)).toInt32 = q (y + 1) by rw [hq]] at eb
      rw [show (J 37 s (y + 2)).toInt32 = q (y + 2) by rw [hq]] at ec
      refine k9o_T (by rw [hW.1, n_toInt (by omega)]; omega) (k9o_eq k9e_146_16 (k9o_call ea ?_))
      simp only [k9_ps_s]
      refine k9o_eq k9e_146_19 ?_
      rw [nI_1]
      refine k9o_call eb ?_
      simp only [k9_ps_s]
      refine k9o_eq k9e_146_25 ?_
      rw [n_p2]
      refine k9o_call ec ?_
      simp only [k9_ps_s]
      refine k9o_eq k9e_146_31 ?_
      by_cases c3 : 1 ≤ (q y).toInt ∧ (q y).toInt ≤ 99
      · refine k9o_call (k9s_0 (q := 0) (by omega) c3) ?_
        simp only [k9_ps_s]
        refine k9o_eq k9e_146_35 (k9o_F (by decide) (k9o_eq k9e_146_36 ?_))
        by_cases c4 : 1 ≤ (q (y + 1)).toInt ∧ (q (y + 1)).toInt ≤ 9
        · refine k9o_call (k9s_0 (q := 1) (by omega) c4) ?_
          simp only [k9_ps_s]
          refine k9o_eq k9e_146_39 (k9o_F (by decide) (k9o_eq k9e_146_40 ?_))
          have c5 : ¬ (0 ≤ (q (y + 2)).toInt ∧ (q (y + 2)).toInt ≤ 60) := fun c5 => hy ⟨c1, c2, c3, c4, c5⟩
          refine k9o_call (k9s_0x (q := 2) (by omega) c5) ?_
          simp only [k9_ps_s]
          exact k9o_eq k9e_146_43 (k9o_T (by decide) (k9o_eq k9e_146_44 (k9o_ret rfl)))
        · refine k9o_call (k9s_0x (q := 1) (by omega) c4) ?_
          simp only [k9_ps_s]
          exact k9o_eq k9e_146_39 (k9o_T (by decide) (k9o_eq k9e_146_44 (k9o_ret rfl)))
      · refine k9o_call (k9s_0x (q := 0) (by omega) c3) ?_
        simp only [k9_ps_s]
        exact k9o_eq k9e_146_35 (k9o_T (by decide) (k9o_eq k9e_146_44 (k9o_ret rfl)))
    · exact k9o_F (by rw [hW.1, n_toInt (by omega)]; omega) (k9o_eq k9e_146_14 (k9o_ret rfl))
  · exact k9s_146X hz h60 (by rw [n_toInt (by omega)]; omega)
def k9_Fpc (k i p : Nat) : Bool := ((Nat.beq k 3 || Nat.beq k 20 || Nat.beq k 21 || Nat.beq k 22 || Nat.beq k 23) && Nat.beq i 0) || (Nat.beq k 1 && (Nat.beq p 12 || Nat.beq p 13))
theorem k9_pu_x : k9_fx k9_Fpc I (k9_pu I n b v t) := by
  unfold k9_pu c_add
  exact k9_fx_u (k9_fx_u (k9_fx_u (k9_fx_u (k9_fx_u (k9_fx_u (k9_fx_u (k9_fx_rf _ _) rfl) rfl) rfl) rfl) rfl) rfl) rfl
theorem k9_pcC (h60 : z ≤ 60) (hi : i < 500) (hn : n ≤ 6) (hq : q = fun p => (J 37 s p).toInt32) : ∀ k c w I1, c + k = n → k9_Wk I1 0 w → w 7 0 ≤ 6 → I1 11 s 3 = nI z → ∃ I2, k9_R S (d + 3) 100 26 [some (k9_r 1 0), some (k9_i x1), some (k9_i (nI i)), some (k9_i (nI n)), some (k9_r 11 s), some (k9_i (nI c))] [] I1 J = some (some (k9_i (nI (p_pw z i q k c w).1)), I2, J) ∧ k9_Wk I2 0 (p_pw z i q k c w).2 ∧ k9_fx k9_Fpc I1 I2 ∧ ((p_pw z i q k c w).1 = c → I2 = I1) ∧ (c < (p_pw z i q k c w).1 → I2 1 0 12 = 0 ∧ I2 1 0 13 = 0) := by
  intro k
  induction k with
  | zero =>
    intro c w I1 hc hW h6 hz
    obtain rfl : c = n := by omega
    refine ⟨I1, k9o_of (k9o_eq k9e_100_26 (k9o_T (by omega) (k9o_eq k9e_100_40 (k9o_ret rfl)))), hW, k9_fx_rf _ _, fun _ => rfl, fun h => ?_⟩
    exact absurd h (Nat.lt_irrefl _)
  | succ k ih =>
    intro c w I1 hc hW h6 hz
    have ex : nI i + 3 * nI c = nI (i + 3 * c) := by rw [n_x3, nI_add]
    rw [p_pw]
    by_cases e : k9_pcc z (w 7 0) (i + 3 * c) q
    · rw [if_pos e]
      have e146 := k9s_146T (S := S) (d := d) (J := J) hW hz h60 e hq
      obtain ⟨b, hb⟩ : ∃ b, b = (q (i + 3 * c)).toInt.toNat := ⟨_, rfl⟩
      obtain ⟨v, hv⟩ : ∃ v, v = (q (i + 3 * c + 1)).toInt.toNat := ⟨_, rfl⟩
      obtain ⟨t, ht⟩ : ∃ t, t = (q (i + 3 * c + 2)).toInt.toNat := ⟨_, rfl⟩
      rw [← hb, ← hv, ← ht] at e146 ⊢
      have px : k9_fx k9_Fpc I1 (k9_pu I1 (w 7 0) b v t) := k9_pu_x
      have hW2 : k9_Wk (k9_pu I1 (w 7 0) b v t) 0 (p_add w b v t) := by
        unfold k9_pu
        exact k9_Wk_u rfl (k9_Wk_u rfl (k9_Wk_add hW))
      obtain ⟨I2, e2, W2, x2, f2, g2⟩ := ih (c + 1) (p_add w b v t) (k9_pu I1 (w 7 0) b v t) (by omega) hW2 (by have := e.2.1; simp [p_add]; omega) ((px 11 s 3 rfl).trans hz)
      have hle := (p_pw_c z i q k (c + 1) (p_add w b v t)).1
      refine ⟨I2, ?_, W2, k9_fx_tr px x2, fun h => by omega, fun _ => ?_⟩
      · refine k9o_of (k9o_eq k9e_100_26 (k9o_F (by rw [n_toInt (by omega), n_toInt (by omega)]; omega) (k9o_eq k9e_100_29 ?_)))
        rw [ex]
        refine k9o_call e146 ?_
        simp only [k9_ps_s]
        refine k9o_eq k9e_100_37 (k9o_F (by decide) (k9o_eq k9e_100_38 ?_))
        rw [nI_1]
        exact k9o_to e2 rfl
      · by_cases c2 : (p_pw z i q k (c + 1) (p_add w b v t)).1 = c + 1
        · rw [f2 c2]
          exact ⟨by simp [k9_pu, k9_ur], by simp [k9_pu, k9_ur]⟩
        · exact g2 (by omega)
    · rw [if_neg e]
      have e146 := k9s_146F (S := S) (d := d) (J := J) hW h6 hz h60 (show i + 3 * c < 1000 by omega) e hq
      refine ⟨I1, ?_, hW, k9_fx_rf _ _, fun _ => rfl, fun h => absurd h (Nat.lt_irrefl _)⟩
      refine k9o_of (k9o_eq k9e_100_26 (k9o_F (by rw [n_toInt (by omega), n_toInt (by omega)]; omega) (k9o_eq k9e_100_29 ?_)))
      rw [ex]
      refine k9o_call e146 ?_
      simp only [k9_ps_s]
      exact k9o_eq k9e_100_37 (k9o_T (by decide) (k9o_eq k9e_100_40 (k9o_ret rfl)))
theorem l_3 : (3 : Int64).toInt = 3 := by decide
theorem l_w6 {x y : Int32} (hy : 0 ≤ y.toInt ∧ y.toInt ≤ 10) : (x.toInt64 + 3 * y.toInt64).toInt = x.toInt + 3 * y.toInt := by
  have h1 := n_rng x
  rw [Int64.toInt_add, Int64.toInt_mul, Int32.toInt_toInt64, Int32.toInt_toInt64, l_3, Int.bmod_def, Int.bmod_def]
  split <;> split <;> omega
theorem l_p3 {x : Int64} {a : Int} (h : x.toInt = a) (h1 : -10000000000 ≤ a ∧ a ≤ 10000000000) : (x + 3).toInt = a + 3 := by
  rw [Int64.toInt_add, h, l_3, Int.bmod_def]
  split <;> omega
theorem l_32 {x : Int64} {n : Nat} (h : x.toInt = (n : Int)) (hn : n < 1000000) : x.toInt32 = nI n := by
  apply n_ext
  rw [n_toInt (by omega), Int64.toInt_toInt32, h, Int.bmod_def]
  split <;> omega
theorem k9s_157 (hn : I 12 0 0 = nI n) (h6 : n < 6) : k9_R S d 157 0 [some (k9_r 12 0), some (k9_i (nI b)), some (k9_i (nI v)), some (k9_i (nI t))] [] I J = some (some (k9_i (nI n)), m_add I n b v t, J) := by
  refine k9o_of ?_
  simp (disch := omega) only [k9e_157_0, k9e_157_6, k9e_157_12, k9e_157_18, k9e_157_24, Nat.reduceEqDiff, Int.reduceEq, Int.reduceLT, Int.reduceLE, k9_ps_s, k9_ps_n, k9_ur, false_and, and_false, true_and, and_true, true_or, or_true, false_or, or_false, eq_self, ↓reduceIte, not_true_eq_false, not_false_eq_true, n_toInt, n_cl, nI_1, nI_add, n_a0, n_p2, n_p3, n_p4, n_x2, n_x3, n_x4, n_x60, n_x100, n_pm1, k9L_m2, k9L_m1, k9L_0, k9L_1, k9L_2, k9L_3, k9L_4, k9L_5, k9L_6, k9L_7, k9L_8, k9L_9, k9L_10, k9L_20, k9L_23, k9L_24, k9L_30, k9L_40, k9L_50, k9L_60, k9L_99, k9L_100, k9L_120, k9L_255, k9L_999, k9L_1000, k9_bs, k9_ba, hn]
  repeat (first | ((with_reducible refine k9q_T ?_ ?_); · omega) | ((with_reducible refine k9q_F ?_ ?_); · omega) | ((with_reducible refine k9q_Tb ?_ ?_); · omega) | ((with_reducible refine k9q_Fb ?_ ?_); · omega) | simp (disch := omega) only [k9e_157_0, k9e_157_6, k9e_157_12, k9e_157_18, k9e_157_24, Nat.reduceEqDiff, Int.reduceEq, Int.reduceLT, Int.reduceLE, k9_ps_s, k9_ps_n, k9_ur, false_and, and_false, true_and, and_true, true_or, or_true, false_or, or_false, eq_self, ↓reduceIte, not_true_eq_false, not_false_eq_true, n_toInt, n_cl, nI_1, nI_add, n_a0, n_p2, n_p3, n_p4, n_x2, n_x3, n_x4, n_x60, n_x100, n_pm1, k9L_m2, k9L_m1, k9L_0, k9L_1, k9L_2, k9L_3, k9L_4, k9L_5, k9L_6, k9L_7, k9L_8, k9L_9, k9L_10, k9L_20, k9L_23, k9L_24, k9L_30, k9L_40, k9L_50, k9L_60, k9L_99, k9L_100, k9L_120, k9L_255, k9L_999, k9L_1000, k9_bs, k9_ba, hn])
  exact k9o_ret rfl
def k9_Fpm (k i p : Nat) : Bool := Nat.beq i 0 && ((Nat.beq k 40 || Nat.beq k 41 || Nat.beq k 42 || Nat.beq k 43) || (Nat.beq k 12 && Nat.beq p 0))
theorem m_add_x : k9_fx k9_Fpm I (m_add I n b v t) := by
  unfold m_add
  exact k9_fx_u (k9_fx_u (k9_fx_u (k9_fx_u (k9_fx_u (k9_fx_rf _ _) rfl) rfl) rfl) rfl) rfl
theorem k9_pcM (hs : s < 6) (h60 : z ≤ 60) (hi : i < 500) (hn : n ≤ 6) (hq : ∀ p, p < 60 → (J 62 0 (60 * s + p)).toInt32 = q p) : ∀ k c w I1, c + k = n → k9_Wm I1 w → w 7 0 ≤ 6 → I1 61 0 s = nI z → ∃ I2, k9_R S (d + 3) 159 29 [some (k9_r 12 0), some (k9_i (nI s)), some (k9_i (nI i)), some (k9_i (nI n)), some (k9_i (nI c)), some (k9_i (nI c)), none, none, none] [] I1 J = some (some (k9_i (nI (p_pw z i q k c w).1)), I2, J) ∧ k9_Wm I2 (p_pw z i q k c w).2 ∧ k9_fx k9_Fpm I1 I2 ∧ ((p_pw z i q k c w).1 = c → I2 = I1) := by
  intro k
  induction k with
  | zero =>
    intro c w I1 hc hW h6 hz
    obtain rfl : c = n := by omega
    exact ⟨I1, k9o_of (k9o_eq k9e_159_29 (k9o_T (by omega) (k9o_eq k9e_159_125 (k9o_ret rfl)))), hW, k9_fx_rf _ _, fun _ => rfl⟩
  | succ k ih =>
    intro c w I1 hc hW h6 hz
    have hM := hW.1
    obtain ⟨L6, hL6⟩ : ∃ L6, L6 = (nI i).toInt64 + 3 * (nI c).toInt64 := ⟨_, rfl⟩
    have t6 : L6.toInt = ((i + 3 * c : Nat) : Int) := by
      rw [hL6, l_w6 (by rw [n_toInt (by omega)]; omega), n_toInt (by omega), n_toInt (by omega)]
      omega
    have t32 := l_32 t6 (by omega)
    have t63 : (L6 + 3).toInt = ((i + 3 * c : Nat) : Int) + 3 := l_p3 t6 (by omega)
    have l0 : (0 : Int64).toInt = 0 := by decide
    have st : ∀ {Q : k9_A → Prop}, k9_ok (k9_R S (d + 3) 159 44 [some (k9_r 12 0), some (k9_i (nI s)), some (k9_i (nI i)), some (k9_i (nI n)), some (k9_i (nI c)), some (k9_i (nI c)), some (k9_l L6), none, none] [] I1 J) Q → k9_ok (k9_R S (d + 3) 159 29 [some (k9_r 12 0), some (k9_i (nI s)), some (k9_i (nI i)), some (k9_i (nI n)), some (k9_i (nI c)), some (k9_i (nI c)), none, none, none] [] I1 J) Q := by
      intro Q g
      refine k9o_eq k9e_159_29 (k9o_F (by rw [n_toInt (by omega), n_toInt (by omega)]; omega) (k9o_eq k9e_159_32 ?_))
      rw [← hL6]
      exact k9o_F (by rw [lg_neg, t6, l0]; omega) g
    have out : ∀ (ix : Nat) {Q : k9_A → Prop} (x8 : Option k9_v), Q (some (k9_i (nI c)), I1, J) → k9_ok (k9_R S (d + 3) 159 58 [some (k9_r 12 0), some (k9_i (nI s)), some (k9_i (nI i)), some (k9_i (nI n)), some (k9_i (nI c)), some (k9_i (nI c)), some (k9_l L6), none, none] [] I1 J) Q := by
      intro ix Q x8 g
      exact k9o_eq k9e_159_58 (k9o_ret g)
    rw [p_pw]
    by_cases e1 : i + 3 * c + 3 ≤ z
    · have st1 : ∀ {Q : k9_A → Prop}, k9_ok (k9_R S (d + 3) 159 54 [some (k9_r 12 0), some (k9_i (nI s)), some (k9_i (nI i)), some (k9_i (nI n)), some (k9_i (nI c)), some (k9_i (nI c)), some (k9_l L6), none, none] [] I1 J) Q → k9_ok (k9_R S (d + 3) 159 29 [some (k9_r 12 0), some (k9_i (nI s)), some (k9_i (nI i)), some (k9_i (nI n)), some (k9_i (nI c)), some (k9_i (nI c)), none, none, none] [] I1 J) Q := by
        intro Q g
        refine st (k9o_eq k9e_159_44 (k9o_T (by rw [n_toInt (by omega)]; omega) ?_))
        rw [n_cl (by omega), hz]
        exact k9o_eq k9e_159_51 (k9o_F (by rw [lg_pos, t63, Int32.toInt_toInt64, n_toInt (by omega)]; omega) g)
      by_cases e2 : w 7 0 < 6
      · have et : (60 : Int32) * nI s + nI (i + 3 * c) = nI (60 * s + (i + 3 * c)) := by rw [n_x60, nI_add]
        obtain ⟨y, hy⟩ : ∃ y, y = i + 3 * c := ⟨_, rfl⟩
        rw [← hy] at t32 et e1 ⊢
        have y1 : 60 * s + y + 1 = 60 * s + (y + 1) := by omega
        have y2 : 60 * s + y + 2 = 60 * s + (y + 2) := by omega
        have qa := hq y (by omega)
        have qb := hq (y + 1) (by omega)
        have qc := hq (y + 2) (by omega)
        have st2 : ∀ {Q : k9_A → Prop}, k9_ok (k9_R S (d + 3) 159 71 [some (k9_r 12 0), some (k9_i (nI s)), some (k9_i (nI i)), some (k9_i (nI n)), some (k9_i (nI c)), some (k9_i (nI c)), some (k9_l L6), none, some (k9_i (nI (60 * s + y)))] [k9_l (J 62 0 (60 * s + y))] I1 J) Q → k9_ok (k9_R S (d + 3) 159 29 [some (k9_r 12 0), some (k9_i (nI s)), some (k9_i (nI i)), some (k9_i (nI n)), some (k9_i (nI c)), some (k9_i (nI c)), none, none, none] [] I1 J) Q := by
          intro Q g
          refine st1 (k9o_eq k9e_159_54 (k9o_F (by rw [hM, n_toInt (by omega)]; omega) (k9o_eq k9e_159_60 ?_)))
          rw [t32, et]
          refine k9o_T (by rw [n_toInt (by omega)]; omega) ?_
          rw [n_cl (by omega)]
          exact g
        by_cases e3 : 1 ≤ (q y).toInt ∧ (q y).toInt ≤ 99
        · have st3 : ∀ {Q : k9_A → Prop}, k9_ok (k9_R S (d + 3) 159 82 [some (k9_r 12 0), some (k9_i (nI s)), some (k9_i (nI i)), some (k9_i (nI n)), some (k9_i (nI c)), some (k9_i (nI c)), some (k9_l L6), none, some (k9_i (nI (60 * s + y)))] [k9_l (J 62 0 (60 * s + (y + 1)))] I1 J) Q → k9_ok (k9_R S (d + 3) 159 29 [some (k9_r 12 0), some (k9_i (nI s)), some (k9_i (nI i)), some (k9_i (nI n)), some (k9_i (nI c)), some (k9_i (nI c)), none, none, none] [] I1 J) Q := by
            intro Q g
            refine st2 (k9o_eq k9e_159_71 ?_)
            rw [qa]
            refine k9o_call (k9s_153 e3) ?_
            simp only [k9_ps_s]
            refine k9o_eq k9e_159_75 (k9o_F (by decide) (k9o_eq k9e_159_76 ?_))
            rw [nI_1, y1]
            refine k9o_T (by rw [n_toInt (by omega)]; omega) ?_
            rw [n_cl (by omega)]
            exact g
          by_cases e4 : 1 ≤ (q (y + 1)).toInt ∧ (q (y + 1)).toInt ≤ 9
          · have st4 : ∀ {Q : k9_A → Prop}, k9_ok (k9_R S (d + 3) 159 93 [some (k9_r 12 0), some (k9_i (nI s)), some (k9_i (nI i)), some (k9_i (nI n)), some (k9_i (nI c)), some (k9_i (nI c)), some (k9_l L6), none, some (k9_i (nI (60 * s + y)))] [k9_l (J 62 0 (60 * s + (y + 2)))] I1 J) Q → k9_ok (k9_R S (d + 3) 159 29 [some (k9_r 12 0), some (k9_i (nI s)), some (k9_i (nI i)), some (k9_i (nI n)), some (k9_i (nI c)), some (k9_i (nI c)), none, none, none] [] I1 J) Q := by
              intro Q g
              refine st3 (k9o_eq k9e_159_82 ?_)
              rw [qb]
              refine k9o_call (k9s_153 e4) ?_
              simp only [k9_ps_s]
              refine k9o_eq k9e_159_86 (k9o_F (by decide) (k9o_eq k9e_159_87 ?_))
              rw [n_p2, y2]
              refine k9o_T (by rw [n_toInt (by omega)]; omega) ?_
              rw [n_cl (by omega)]
              exact g
            by_cases e5 : 0 ≤ (q (y + 2)).toInt ∧ (q (y + 2)).toInt ≤ 60
            · rw [if_pos ⟨e1, e2, e3, e4, e5⟩]
              rw [n_tn (x := q y) (by omega)] at qa
              rw [n_tn (x := q (y + 1)) (by omega)] at qb
              have qc' := qc
              rw [n_tn (x := q (y + 2)) (by omega)] at qc'
              obtain ⟨b, hb⟩ : ∃ b, b = (q y).toInt.toNat := ⟨_, rfl⟩
              obtain ⟨v, hv⟩ : ∃ v, v = (q (y + 1)).toInt.toNat := ⟨_, rfl⟩
              obtain ⟨t, ht⟩ : ∃ t, t = (q (y + 2)).toInt.toNat := ⟨_, rfl⟩
              rw [← hb] at qa ⊢
              rw [← hv] at qb ⊢
              rw [← ht] at qc' ⊢
              have mx : k9_fx k9_Fpm I1 (m_add I1 (w 7 0) b v t) := m_add_x
              obtain ⟨I2, r2, W2, x2, f2⟩ := ih (c + 1) (p_add w b v t) (m_add I1 (w 7 0) b v t) (by omega) (k9_Wm_add hW) (by simp [p_add]; omega) ((mx 61 0 s rfl).trans hz)
              have hle := (p_pw_c z i q k (c + 1) (p_add w b v t)).1
              refine ⟨I2, ?_, W2, k9_fx_tr mx x2, fun h => by omega⟩
              refine k9o_of (st4 (k9o_eq k9e_159_93 ?_))
              rw [qc]
              refine k9o_call (k9s_153 e5) ?_
              simp only [k9_ps_s]
              refine k9o_eq k9e_159_97 (k9o_F (by decide) (k9o_eq k9e_159_100 (k9o_T (by rw [n_toInt (by omega)]; omega) ?_)))
              rw [n_cl (by omega)]
              refine k9o_eq k9e_159_105 ?_
              rw [nI_1, y1, qa]
              refine k9o_T (by rw [n_toInt (by omega)]; omega) ?_
              rw [n_cl (by omega)]
              refine k9o_eq k9e_159_112 ?_
              rw [n_p2, y2, qb]
              refine k9o_T (by rw [n_toInt (by omega)]; omega) ?_
              rw [n_cl (by omega)]
              refine k9o_eq k9e_159_119 ?_
              rw [qc']
              refine k9o_call (k9s_157 hM e2) ?_
              simp only [k9_ps_s]
              refine k9o_eq k9e_159_121 ?_
              rw [nI_1]
              exact k9o_to r2 rfl
            · rw [if_neg (fun h => e5 h.2.2.2.2)]
              refine ⟨I1, k9o_of (st4 (k9o_eq k9e_159_93 ?_)), hW, k9_fx_rf _ _, fun _ => rfl⟩
              rw [qc]
              refine k9o_call (k9s_153x e5) ?_
              simp only [k9_ps_s]
              exact k9o_eq k9e_159_97 (k9o_T (by decide) (k9o_eq k9e_159_98 (k9o_ret rfl)))
          · rw [if_neg (fun h => e4 h.2.2.2.1)]
            refine ⟨I1, k9o_of (st3 (k9o_eq k9e_159_82 ?_)), hW, k9_fx_rf _ _, fun _ => rfl⟩
            rw [qb]
            refine k9o_call (k9s_153x e4) ?_
            simp only [k9_ps_s]
            exact k9o_eq k9e_159_86 (k9o_T (by decide) (k9o_eq k9e_159_98 (k9o_ret rfl)))
        · rw [if_neg (fun h => e3 h.2.2.1)]
          refine ⟨I1, k9o_of (st2 (k9o_eq k9e_159_71 ?_)), hW, k9_fx_rf _ _, fun _ => rfl⟩
          rw [qa]
          refine k9o_call (k9s_153x e3) ?_
          simp only [k9_ps_s]
          exact k9o_eq k9e_159_75 (k9o_T (by decide) (k9o_eq k9e_159_98 (k9o_ret rfl)))
      · rw [if_neg (fun h => e2 h.2.1)]
        exact ⟨I1, k9o_of (st1 (k9o_eq k9e_159_54 (k9o_T (by rw [hM, n_toInt (by omega)]; omega) (out 0 none rfl)))), hW, k9_fx_rf _ _, fun _ => rfl⟩
    · rw [if_neg (fun h => e1 h.1)]
      refine ⟨I1, k9o_of (st (k9o_eq k9e_159_44 (k9o_T (by rw [n_toInt (by omega)]; omega) ?_))), hW, k9_fx_rf _ _, fun _ => rfl⟩
      rw [n_cl (by omega), hz]
      exact k9o_eq k9e_159_51 (k9o_T (by rw [lg_pos, t63, Int32.toInt_toInt64, n_toInt (by omega)]; omega) (out 0 none rfl))
end KT39

/-! PIECES FROM A ROW: the call -/
section KT40
variable {S : k9_S} {d : Nat} {I I' : k9_I} {J J' : k9_J} {w : Nat → Nat → Nat} {V : (Nat → Int32) → Int32} {x1 x2 x3 : Int32} {s z y b v t i n : Nat} {q : Nat → Int32}
theorem k9_Fpc_X (k i p : Nat) (h : k9_Fpc k i p = true) : k9_Xs [1, 8, 9] (v_cl k i p) = true := by
  simp only [k9_Fpc, Bool.or_eq_true, Bool.and_eq_true, Nat.beq_eq] at h
  rcases h with ⟨((((rfl | rfl) | rfl) | rfl) | rfl), rfl⟩ | ⟨rfl, rfl | rfl⟩
  all_goals rfl
theorem k9_Fpm_X (k i p : Nat) (h : k9_Fpm k i p = true) : k9_Xs [1, 8, 9] (v_cl k i p) = true := by
  simp only [k9_Fpm, Bool.or_eq_true, Bool.and_eq_true, Nat.beq_eq] at h
  rcases h with ⟨rfl, (((rfl | rfl) | rfl) | rfl) | ⟨rfl, rfl⟩⟩
  all_goals rfl
theorem t_pieces (hI : k9_Inv I J) : k9_P S (d + 10) 100 159 [some (k9_r 1 0), some (k9_i x1), some (k9_i x2), some (k9_i x3), none, none] [some (k9_r 12 0), some (k9_i x1), some (k9_i x2), some (k9_i x3), none, none, none, none, none] I J k9_Inv := by
  have hI' := hI
  obtain ⟨w, V, b, v1, v2, v3, v4, v5, v6, v7, v8, v9⟩ := hI
  have hW := v1.1
  have hM := v1.2.1
  have hf := v1.2.2.1
  have h6 := hf.1
  have hb := v5.1
  refine k9P_of ?_
  by_cases h1 : 0 ≤ x1.toInt ∧ x1.toInt ≤ 5
  · obtain ⟨s, rfl, hs, -⟩ := n_of (x := x1) (by omega)
    have hs6 : s < 6 := by omega
    by_cases h3 : 1 ≤ x3.toInt ∧ x3.toInt ≤ 6
    · obtain ⟨n, rfl, hn, -⟩ := n_of (x := x3) (by omega)
      have hn6 : n ≤ 6 := by omega
      rcases k9_byrs hb (v6.1 s hs6) with ⟨z, hz⟩ | ⟨r, hr⟩
      · have e91 := k9s_91 (S := S) (d := d + 9) (J := J) hz
        have c11 := hz.1
        have m60 := hz.2.2.2.1
        have hz60 := hz.2.2.2.2.2
        have e144 : k9_R S (d + 9) 144 0 [some (k9_r 1 0), some (k9_i (nI s))] [] I J = some (some (k9_r 11 s), I, J) := by
          refine k9o_of ?_
          simp (disch := omega) only [k9e_144_0, k9e_144_2, k9e_144_5, k9e_144_9, k9e_144_10, k9e_144_11, k9e_144_11b, Nat.reduceEqDiff, Int.reduceEq, Int.reduceLT, Int.reduceLE, k9_ps_s, k9_ps_n, k9_ur, false_and, and_false, true_and, and_true, true_or, or_true, false_or, or_false, eq_self, ↓reduceIte, not_true_eq_false, not_false_eq_true, n_toInt, n_cl, nI_1, nI_add, n_a0, n_p2, n_p3, n_p4, n_x2, n_x3, n_x4, n_x60, n_x100, n_pm1, k9L_m2, k9L_m1, k9L_0, k9L_1, k9L_2, k9L_3, k9L_4, k9L_5, k9L_6, k9L_7, k9L_8, k9L_9, k9L_10, k9L_20, k9L_23, k9L_24, k9L_30, k9L_40, k9L_50, k9L_60, k9L_99, k9L_100, k9L_120, k9L_255, k9L_999, k9L_1000, k9_bs, k9_ba]
          repeat (first | ((with_reducible refine k9q_T ?_ ?_); · omega) | ((with_reducible refine k9q_F ?_ ?_); · omega) | ((with_reducible refine k9q_Tb ?_ ?_); · omega) | ((with_reducible refine k9q_Fb ?_ ?_); · omega) | simp (disch := omega) only [k9e_144_0, k9e_144_2, k9e_144_5, k9e_144_9, k9e_144_10, k9e_144_11, k9e_144_11b, Nat.reduceEqDiff, Int.reduceEq, Int.reduceLT, Int.reduceLE, k9_ps_s, k9_ps_n, k9_ur, false_and, and_false, true_and, and_true, true_or, or_true, false_or, or_false, eq_self, ↓reduceIte, not_true_eq_false, not_false_eq_true, n_toInt, n_cl, nI_1, nI_add, n_a0, n_p2, n_p3, n_p4, n_x2, n_x3, n_x4, n_x60, n_x100, n_pm1, k9L_m2, k9L_m1, k9L_0, k9L_1, k9L_2, k9L_3, k9L_4, k9L_5, k9L_6, k9L_7, k9L_8, k9L_9, k9L_10, k9L_20, k9L_23, k9L_24, k9L_30, k9L_40, k9L_50, k9L_60, k9L_99, k9L_100, k9L_120, k9L_255, k9L_999, k9L_1000, k9_bs, k9_ba])
          exact k9o_ret rfl
        have e156 : ∀ K : k9_I, k9_R S (d + 9) 156 0 [some (k9_i (nI s))] [] K J = some (some (k9_i 1), K, J) := by
          intro K
          refine k9o_of ?_
          simp (disch := omega) only [k9e_156_0, k9e_156_4, Nat.reduceEqDiff, Int.reduceEq, Int.reduceLT, Int.reduceLE, k9_ps_s, k9_ps_n, k9_ur, false_and, and_false, true_and, and_true, true_or, or_true, false_or, or_false, eq_self, ↓reduceIte, not_true_eq_false, not_false_eq_true, n_toInt, n_cl, nI_1, nI_add, n_a0, n_p2, n_p3, n_p4, n_x2, n_x3, n_x4, n_x60, n_x100, n_pm1, k9L_m2, k9L_m1, k9L_0, k9L_1, k9L_2, k9L_3, k9L_4, k9L_5, k9L_6, k9L_7, k9L_8, k9L_9, k9L_10, k9L_20, k9L_23, k9L_24, k9L_30, k9L_40, k9L_50, k9L_60, k9L_99, k9L_100, k9L_120, k9L_255, k9L_999, k9L_1000, k9_bs, k9_ba]
          repeat (first | ((with_reducible refine k9q_T ?_ ?_); · omega) | ((with_reducible refine k9q_F ?_ ?_); · omega) | ((with_reducible refine k9q_Tb ?_ ?_); · omega) | ((with_reducible refine k9q_Fb ?_ ?_); · omega) | (refine k9o_call (k9s_153 (by first | omega | (simp (disch := omega) only [n_toInt, n_pm1, k9L_m2, k9L_m1, k9L_0, k9L_1, k9L_2, k9L_3, k9L_4, k9L_5, k9L_6, k9L_7, k9L_8, k9L_9, k9L_10, k9L_20, k9L_23, k9L_24, k9L_30, k9L_40, k9L_50, k9L_60, k9L_99, k9L_100, k9L_120, k9L_255, k9L_999, k9L_1000]; omega))) ?_; simp (disch := omega) only [k9e_156_0, k9e_156_4, Nat.reduceEqDiff, Int.reduceEq, Int.reduceLT, Int.reduceLE, k9_ps_s, k9_ps_n, k9_ur, false_and, and_false, true_and, and_true, true_or, or_true, false_or, or_false, eq_self, ↓reduceIte, not_true_eq_false, not_false_eq_true, n_toInt, n_cl, nI_1, nI_add, n_a0, n_p2, n_p3, n_p4, n_x2, n_x3, n_x4, n_x60, n_x100, n_pm1, k9L_m2, k9L_m1, k9L_0, k9L_1, k9L_2, k9L_3, k9L_4, k9L_5, k9L_6, k9L_7, k9L_8, k9L_9, k9L_10, k9L_20, k9L_23, k9L_24, k9L_30, k9L_40, k9L_50, k9L_60, k9L_99, k9L_100, k9L_120, k9L_255, k9L_999, k9L_1000, k9_bs, k9_ba]) | (refine k9o_call (k9s_153x (by first | omega | (simp (disch := omega) only [n_toInt, n_pm1, k9L_m2, k9L_m1, k9L_0, k9L_1, k9L_2, k9L_3, k9L_4, k9L_5, k9L_6, k9L_7, k9L_8, k9L_9, k9L_10, k9L_20, k9L_23, k9L_24, k9L_30, k9L_40, k9L_50, k9L_60, k9L_99, k9L_100, k9L_120, k9L_255, k9L_999, k9L_1000]; omega))) ?_; simp (disch := omega) only [k9e_156_0, k9e_156_4, Nat.reduceEqDiff, Int.reduceEq, Int.reduceLT, Int.reduceLE, k9_ps_s, k9_ps_n, k9_ur, false_and, and_false, true_and, and_true, true_or, or_true, false_or, or_false, eq_self, ↓reduceIte, not_true_eq_false, not_false_eq_true, n_toInt, n_cl, nI_1, nI_add, n_a0, n_p2, n_p3, n_p4, n_x2, n_x3, n_x4, n_x60, n_x100, n_pm1, k9L_m2, k9L_m1, k9L_0, k9L_1, k9L_2, k9L_3, k9L_4, k9L_5, k9L_6, k9L_7, k9L_8, k9L_9, k9L_10, k9L_20, k9L_23, k9L_24, k9L_30, k9L_40, k9L_50, k9L_60, k9L_99, k9L_100, k9L_120, k9L_255, k9L_999, k9L_1000, k9_bs, k9_ba]) | simp (disch := omega) only [k9e_156_0, k9e_156_4, Nat.reduceEqDiff, Int.reduceEq, Int.reduceLT, Int.reduceLE, k9_ps_s, k9_ps_n, k9_ur, false_and, and_false, true_and, and_true, true_or, or_true, false_or, or_false, eq_self, ↓reduceIte, not_true_eq_false, not_false_eq_true, n_toInt, n_cl, nI_1, nI_add, n_a0, n_p2, n_p3, n_p4, n_x2, n_x3, n_x4, n_x60, n_x100, n_pm1, k9L_m2, k9L_m1, k9L_0, k9L_1, k9L_2, k9L_3, k9L_4, k9L_5, k9L_6, k9L_7, k9L_8, k9L_9, k9L_10, k9L_20, k9L_23, k9L_24, k9L_30, k9L_40, k9L_50, k9L_60, k9L_99, k9L_100, k9L_120, k9L_255, k9L_999, k9L_1000, k9_bs, k9_ba])
          exact k9o_ret rfl
        have c0 : ∀ {Q : k9_A → Prop}, k9_ok (k9_R S (d + 10) 100 26 [some (k9_r 1 0), some (k9_i (nI s)), some (k9_i x2), some (k9_i (nI n)), some (k9_r 11 s), some (k9_i (nI 0))] [] I J) Q → k9_ok (k9_R S (d + 10) 100 0 [some (k9_r 1 0), some (k9_i (nI s)), some (k9_i x2), some (k9_i (nI n)), none, none] [] I J) Q := by
          intro Q g
          refine k9o_eq k9e_100_0 (k9o_call e144 ?_)
          simp only [k9_ps_s]
          refine k9o_eq k9e_100_3b (k9o_F (by omega) (k9o_eq k9e_100_9 (k9o_T (by omega) (k9o_eq k9e_100_14 (k9o_F (by rw [c11]; decide) (k9o_eq k9e_100_19 (k9o_call e91 ?_)))))))
          simp only [k9_ps_s]
          exact k9o_eq k9e_100_21 (k9o_F (by decide) (k9o_eq k9e_100_24 g))
        have m0 : ∀ {Q : k9_A → Prop} {K : k9_I}, K 60 0 s = nI 0 → k9_ok (k9_R S (d + 10) 159 29 [some (k9_r 12 0), some (k9_i (nI s)), some (k9_i x2), some (k9_i (nI n)), some (k9_i (nI 0)), some (k9_i (nI 0)), none, none, none] [] K J) Q → k9_ok (k9_R S (d + 10) 159 0 [some (k9_r 12 0), some (k9_i (nI s)), some (k9_i x2), some (k9_i (nI n)), none, none, none, none, none] [] K J) Q := by
          intro Q K hK g
          refine k9o_eq k9e_159_0 (k9o_call (e156 K) ?_)
          simp only [k9_ps_s]
          refine k9o_eq k9e_159_2 (k9o_F (by decide) (k9o_eq k9e_159_3 (k9o_call (k9s_153 h3) ?_)))
          simp only [k9_ps_s]
          refine k9o_eq k9e_159_7 (k9o_F (by decide) (k9o_eq k9e_159_10 (k9o_T (by rw [n_toInt (by omega)]; omega) ?_)))
          rw [n_cl (by omega), hK]
          refine k9o_eq k9e_159_14 (k9o_F (by decide) (k9o_eq k9e_159_18 (k9o_T (by rw [n_toInt (by omega)]; omega) ?_)))
          rw [n_cl (by omega), hK]
          exact k9o_eq k9e_159_22 (k9o_T (by decide) (k9o_eq k9e_159_25 g))
        have x0 : x2 + 3 * nI 0 = x2 := by
          rw [show (3 : Int32) * nI 0 = 0 from rfl, Int32.add_zero]
        by_cases h2 : x2.toInt < 0 ∨ (z : Int) - 3 < x2.toInt
        · have e146 := k9s_146X (S := S) (d := d + 9) (J := J) hz.2.2.1 hz60 h2
          refine c0 (k9o_eq k9e_100_26 (k9o_F (by rw [n_toInt (by omega), n_toInt (by omega)]; omega) (k9o_eq k9e_100_29 ?_)))
          rw [x0]
          refine k9o_call e146 ?_
          simp only [k9_ps_s]
          refine k9o_eq k9e_100_37 (k9o_T (by decide) (k9o_eq k9e_100_40 (k9o_ret ⟨_, _, _, rfl, ?_⟩)))
          refine m0 m60 (k9o_eq k9e_159_29 (k9o_F (by rw [n_toInt (by omega), n_toInt (by omega)]; omega) (k9o_eq k9e_159_32 ?_)))
          have l0 : (0 : Int64).toInt = 0 := by decide
          have hx := n_rng x2
          have t6 : (x2.toInt64 + 3 * (nI 0).toInt64).toInt = x2.toInt := by
            rw [l_w6 (by rw [n_toInt (by omega)]; omega), n_toInt (by omega)]
            omega
          have t63 := l_p3 t6 (by omega)
          by_cases h4 : x2.toInt < 0
          · exact k9o_T (by rw [lg_neg, t6, l0]; omega) (k9o_eq k9e_159_58 (k9o_ret ⟨_, _, rfl, hI'⟩))
          · refine k9o_F (by rw [lg_neg, t6, l0]; omega) (k9o_eq k9e_159_44 (k9o_T (by rw [n_toInt (by omega)]; omega) ?_))
            rw [n_cl (by omega), hz.2.2.2.2.1]
            exact k9o_eq k9e_159_51 (k9o_T (by rw [lg_pos, t63, Int32.toInt_toInt64, n_toInt (by omega)]; omega) (k9o_eq k9e_159_58 (k9o_ret ⟨_, _, rfl, hI'⟩)))
        · obtain ⟨i, rfl, hi, -⟩ := n_of (x := x2) (by omega)
          obtain ⟨q, hq⟩ : ∃ q : Nat → Int32, q = fun p => (J 37 s p).toInt32 := ⟨_, rfl⟩
          obtain ⟨I2, r2, W2, x2, f2, g2⟩ := k9_pcC (S := S) (d := d + 7) (x1 := nI s) (i := i) hz60 (by omega) hn6 hq n 0 w I (by omega) hW h6 hz.2.2.1
          have hM2 : k9_Wm I2 w := by
            obtain ⟨a1, a2, a3, a4, a5⟩ := hM
            exact ⟨(x2 12 0 0 rfl).trans a1, (x2 44 0 0 rfl).trans a2, (x2 44 0 1 rfl).trans a3, (x2 44 0 2 rfl).trans a4, fun p hp => ⟨(x2 40 0 p rfl).trans (a5 p hp).1, (x2 41 0 p rfl).trans (a5 p hp).2.1, (x2 42 0 p rfl).trans (a5 p hp).2.2.1, (x2 43 0 p rfl).trans (a5 p hp).2.2.2⟩⟩
          obtain ⟨I3, r3, W3, x3, f3⟩ := k9_pcM (S := S) (d := d + 7) (J := J) (i := i) (q := q) hs6 hz60 (by omega) hn6 (fun p hp => by rw [v6.2 s hs6 p hp, hq]) n 0 w I2 (by omega) hM2 h6 ((x2 61 0 s rfl).trans hz.2.2.2.2.1)
          refine c0 (k9o_to r2 ⟨_, _, _, rfl, ?_⟩)
          refine m0 ((x2 60 0 s rfl).trans m60) (k9o_to r3 ⟨_, _, rfl, ?_⟩)
          obtain ⟨p1, p2⟩ := p_pw_c z i q n 0 w
          by_cases hc : (p_pw z i q n 0 w).1 = 0
          · rw [f3 hc, f2 hc]
            exact hI'
          · obtain ⟨wf2, w9, wle⟩ := p_pw_w z i q n 0 w hf v1.2.2.2
            obtain ⟨g3, g4⟩ := g2 (by omega)
            have hfp : k9_fp (k9_Xs [1, 8, 9]) I I3 := k9_fp_tr (k9_fp_x x2 k9_Fpc_X) (k9_fp_x x3 k9_Fpm_X)
            have hW3 : k9_Wk I3 0 (p_pw z i q n 0 w).2 := k9_Wk_fx x3 (fun p => ⟨rfl, rfl, rfl, rfl, rfl⟩) W2
            exact ⟨(p_pw z i q n 0 w).2, V, b, ⟨hW3, W3, wf2, w9⟩, k9_vT_c (k9_fp_c hfp rfl) v2, k9_vL_c (k9_fp_c hfp rfl) v3, k9_vC_mono wle (k9_vC_c (k9_fp_c hfp rfl) v4), k9_vB_c (k9_fp_c hfp rfl) v5, k9_vS_c (k9_fp_c hfp rfl) v6, k9_vD_c (k9_fp_c hfp rfl) v7, Or.inl ((x3 1 0 12 rfl).trans g3), Or.inl ((x3 1 0 13 rfl).trans g4)⟩
      · have e91 := k9s_91x (S := S) (d := d + 9) (J := J) hr
        rcases hr with ⟨a1, a2, a3⟩ | ⟨a3, ⟨a1, y, a4, a2⟩ | ⟨a1, q, a4, a5, a6, a2⟩⟩
        · simp (disch := omega) only [k9e_100_0, k9e_100_3, k9e_100_3b, k9e_100_9, k9e_100_12, k9e_100_12b, k9e_100_14, k9e_100_17, k9e_100_19, k9e_100_21, k9e_100_22, k9e_144_0, k9e_144_2, k9e_144_5, k9e_144_9, k9e_144_10, k9e_144_11, k9e_144_11b, Nat.reduceEqDiff, Int.reduceEq, Int.reduceLT, Int.reduceLE, k9_ps_s, k9_ps_n, k9_ur, false_and, and_false, true_and, and_true, true_or, or_true, false_or, or_false, eq_self, ↓reduceIte, not_true_eq_false, not_false_eq_true, n_toInt, n_cl, nI_1, nI_add, n_a0, n_p2, n_p3, n_p4, n_x2, n_x3, n_x4, n_x60, n_x100, n_pm1, k9L_m2, k9L_m1, k9L_0, k9L_1, k9L_2, k9L_3, k9L_4, k9L_5, k9L_6, k9L_7, k9L_8, k9L_9, k9L_10, k9L_20, k9L_23, k9L_24, k9L_30, k9L_40, k9L_50, k9L_60, k9L_99, k9L_100, k9L_120, k9L_255, k9L_999, k9L_1000, k9_bs, k9_ba, a1]
          repeat (first | ((with_reducible refine k9q_T ?_ ?_); · omega) | ((with_reducible refine k9q_F ?_ ?_); · omega) | ((with_reducible refine k9q_Tb ?_ ?_); · omega) | ((with_reducible refine k9q_Fb ?_ ?_); · omega) | simp (disch := omega) only [k9e_100_0, k9e_100_3, k9e_100_3b, k9e_100_9, k9e_100_12, k9e_100_12b, k9e_100_14, k9e_100_17, k9e_100_19, k9e_100_21, k9e_100_22, k9e_144_0, k9e_144_2, k9e_144_5, k9e_144_9, k9e_144_10, k9e_144_11, k9e_144_11b, Nat.reduceEqDiff, Int.reduceEq, Int.reduceLT, Int.reduceLE, k9_ps_s, k9_ps_n, k9_ur, false_and, and_false, true_and, and_true, true_or, or_true, false_or, or_false, eq_self, ↓reduceIte, not_true_eq_false, not_false_eq_true, n_toInt, n_cl, nI_1, nI_add, n_a0, n_p2, n_p3, n_p4, n_x2, n_x3, n_x4, n_x60, n_x100, n_pm1, k9L_m2, k9L_m1, k9L_0, k9L_1, k9L_2, k9L_3, k9L_4, k9L_5, k9L_6, k9L_7, k9L_8, k9L_9, k9L_10, k9L_20, k9L_23, k9L_24, k9L_30, k9L_40, k9L_50, k9L_60, k9L_99, k9L_100, k9L_120, k9L_255, k9L_999, k9L_1000, k9_bs, k9_ba, a1])
          refine k9o_ret ⟨_, _, _, rfl, ?_⟩
          simp (disch := omega) only [k9e_159_0, k9e_159_2, k9e_159_3, k9e_159_7, k9e_159_8, k9e_159_10, k9e_159_14, k9e_159_16, k9e_159_18, k9e_159_22, k9e_159_23, k9e_156_0, k9e_156_4, Nat.reduceEqDiff, Int.reduceEq, Int.reduceLT, Int.reduceLE, k9_ps_s, k9_ps_n, k9_ur, false_and, and_false, true_and, and_true, true_or, or_true, false_or, or_false, eq_self, ↓reduceIte, not_true_eq_false, not_false_eq_true, n_toInt, n_cl, nI_1, nI_add, n_a0, n_p2, n_p3, n_p4, n_x2, n_x3, n_x4, n_x60, n_x100, n_pm1, k9L_m2, k9L_m1, k9L_0, k9L_1, k9L_2, k9L_3, k9L_4, k9L_5, k9L_6, k9L_7, k9L_8, k9L_9, k9L_10, k9L_20, k9L_23, k9L_24, k9L_30, k9L_40, k9L_50, k9L_60, k9L_99, k9L_100, k9L_120, k9L_255, k9L_999, k9L_1000, k9_bs, k9_ba, a2]
          repeat (first | ((with_reducible refine k9q_T ?_ ?_); · omega) | ((with_reducible refine k9q_F ?_ ?_); · omega) | ((with_reducible refine k9q_Tb ?_ ?_); · omega) | ((with_reducible refine k9q_Fb ?_ ?_); · omega) | (refine k9o_call (k9s_153 (by first | omega | (simp (disch := omega) only [n_toInt, n_pm1, k9L_m2, k9L_m1, k9L_0, k9L_1, k9L_2, k9L_3, k9L_4, k9L_5, k9L_6, k9L_7, k9L_8, k9L_9, k9L_10, k9L_20, k9L_23, k9L_24, k9L_30, k9L_40, k9L_50, k9L_60, k9L_99, k9L_100, k9L_120, k9L_255, k9L_999, k9L_1000]; omega))) ?_; simp (disch := omega) only [k9e_159_0, k9e_159_2, k9e_159_3, k9e_159_7, k9e_159_8, k9e_159_10, k9e_159_14, k9e_159_16, k9e_159_18, k9e_159_22, k9e_159_23, k9e_156_0, k9e_156_4, Nat.reduceEqDiff, Int.reduceEq, Int.reduceLT, Int.reduceLE, k9_ps_s, k9_ps_n, k9_ur, false_and, and_false, true_and, and_true, true_or, or_true, false_or, or_false, eq_self, ↓reduceIte, not_true_eq_false, not_false_eq_true, n_toInt, n_cl, nI_1, nI_add, n_a0, n_p2, n_p3, n_p4, n_x2, n_x3, n_x4, n_x60, n_x100, n_pm1, k9L_m2, k9L_m1, k9L_0, k9L_1, k9L_2, k9L_3, k9L_4, k9L_5, k9L_6, k9L_7, k9L_8, k9L_9, k9L_10, k9L_20, k9L_23, k9L_24, k9L_30, k9L_40, k9L_50, k9L_60, k9L_99, k9L_100, k9L_120, k9L_255, k9L_999, k9L_1000, k9_bs, k9_ba, a2]) | (refine k9o_call (k9s_153x (by first | omega | (simp (disch := omega) only [n_toInt, n_pm1, k9L_m2, k9L_m1, k9L_0, k9L_1, k9L_2, k9L_3, k9L_4, k9L_5, k9L_6, k9L_7, k9L_8, k9L_9, k9L_10, k9L_20, k9L_23, k9L_24, k9L_30, k9L_40, k9L_50, k9L_60, k9L_99, k9L_100, k9L_120, k9L_255, k9L_999, k9L_1000]; omega))) ?_; simp (disch := omega) only [k9e_159_0, k9e_159_2, k9e_159_3, k9e_159_7, k9e_159_8, k9e_159_10, k9e_159_14, k9e_159_16, k9e_159_18, k9e_159_22, k9e_159_23, k9e_156_0, k9e_156_4, Nat.reduceEqDiff, Int.reduceEq, Int.reduceLT, Int.reduceLE, k9_ps_s, k9_ps_n, k9_ur, false_and, and_false, true_and, and_true, true_or, or_true, false_or, or_false, eq_self, ↓reduceIte, not_true_eq_false, not_false_eq_true, n_toInt, n_cl, nI_1, nI_add, n_a0, n_p2, n_p3, n_p4, n_x2, n_x3, n_x4, n_x60, n_x100, n_pm1, k9L_m2, k9L_m1, k9L_0, k9L_1, k9L_2, k9L_3, k9L_4, k9L_5, k9L_6, k9L_7, k9L_8, k9L_9, k9L_10, k9L_20, k9L_23, k9L_24, k9L_30, k9L_40, k9L_50, k9L_60, k9L_99, k9L_100, k9L_120, k9L_255, k9L_999, k9L_1000, k9_bs, k9_ba, a2]) | simp (disch := omega) only [k9e_159_0, k9e_159_2, k9e_159_3, k9e_159_7, k9e_159_8, k9e_159_10, k9e_159_14, k9e_159_16, k9e_159_18, k9e_159_22, k9e_159_23, k9e_156_0, k9e_156_4, Nat.reduceEqDiff, Int.reduceEq, Int.reduceLT, Int.reduceLE, k9_ps_s, k9_ps_n, k9_ur, false_and, and_false, true_and, and_true, true_or, or_true, false_or, or_false, eq_self, ↓reduceIte, not_true_eq_false, not_false_eq_true, n_toInt, n_cl, nI_1, nI_add, n_a0, n_p2, n_p3, n_p4, n_x2, n_x3, n_x4, n_x60, n_x100, n_pm1, k9L_m2, k9L_m1, k9L_0, k9L_1, k9L_2, k9L_3, k9L_4, k9L_5, k9L_6, k9L_7, k9L_8, k9L_9, k9L_10, k9L_20, k9L_23, k9L_24, k9L_30, k9L_40, k9L_50, k9L_60, k9L_99, k9L_100, k9L_120, k9L_255, k9L_999, k9L_1000, k9_bs, k9_ba, a2])
          exact k9o_ret ⟨_, _, rfl, hI'⟩
        · simp (disch := omega) only [k9e_100_0, k9e_100_3, k9e_100_3b, k9e_100_9, k9e_100_12, k9e_100_12b, k9e_100_14, k9e_100_17, k9e_100_19, k9e_100_21, k9e_100_22, k9e_144_0, k9e_144_2, k9e_144_5, k9e_144_9, k9e_144_10, k9e_144_11, k9e_144_11b, Nat.reduceEqDiff, Int.reduceEq, Int.reduceLT, Int.reduceLE, k9_ps_s, k9_ps_n, k9_ur, false_and, and_false, true_and, and_true, true_or, or_true, false_or, or_false, eq_self, ↓reduceIte, not_true_eq_false, not_false_eq_true, n_toInt, n_cl, nI_1, nI_add, n_a0, n_p2, n_p3, n_p4, n_x2, n_x3, n_x4, n_x60, n_x100, n_pm1, k9L_m2, k9L_m1, k9L_0, k9L_1, k9L_2, k9L_3, k9L_4, k9L_5, k9L_6, k9L_7, k9L_8, k9L_9, k9L_10, k9L_20, k9L_23, k9L_24, k9L_30, k9L_40, k9L_50, k9L_60, k9L_99, k9L_100, k9L_120, k9L_255, k9L_999, k9L_1000, k9_bs, k9_ba, a1]
          repeat (first | ((with_reducible refine k9q_T ?_ ?_); · omega) | ((with_reducible refine k9q_F ?_ ?_); · omega) | ((with_reducible refine k9q_Tb ?_ ?_); · omega) | ((with_reducible refine k9q_Fb ?_ ?_); · omega) | (refine k9o_call (e91) ?_; simp (disch := omega) only [k9e_100_0, k9e_100_3, k9e_100_3b, k9e_100_9, k9e_100_12, k9e_100_12b, k9e_100_14, k9e_100_17, k9e_100_19, k9e_100_21, k9e_100_22, k9e_144_0, k9e_144_2, k9e_144_5, k9e_144_9, k9e_144_10, k9e_144_11, k9e_144_11b, Nat.reduceEqDiff, Int.reduceEq, Int.reduceLT, Int.reduceLE, k9_ps_s, k9_ps_n, k9_ur, false_and, and_false, true_and, and_true, true_or, or_true, false_or, or_false, eq_self, ↓reduceIte, not_true_eq_false, not_false_eq_true, n_toInt, n_cl, nI_1, nI_add, n_a0, n_p2, n_p3, n_p4, n_x2, n_x3, n_x4, n_x60, n_x100, n_pm1, k9L_m2, k9L_m1, k9L_0, k9L_1, k9L_2, k9L_3, k9L_4, k9L_5, k9L_6, k9L_7, k9L_8, k9L_9, k9L_10, k9L_20, k9L_23, k9L_24, k9L_30, k9L_40, k9L_50, k9L_60, k9L_99, k9L_100, k9L_120, k9L_255, k9L_999, k9L_1000, k9_bs, k9_ba, a1]) | simp (disch := omega) only [k9e_100_0, k9e_100_3, k9e_100_3b, k9e_100_9, k9e_100_12, k9e_100_12b, k9e_100_14, k9e_100_17, k9e_100_19, k9e_100_21, k9e_100_22, k9e_144_0, k9e_144_2, k9e_144_5, k9e_144_9, k9e_144_10, k9e_144_11, k9e_144_11b, Nat.reduceEqDiff, Int.reduceEq, Int.reduceLT, Int.reduceLE, k9_ps_s, k9_ps_n, k9_ur, false_and, and_false, true_and, and_true, true_or, or_true, false_or, or_false, eq_self, ↓reduceIte, not_true_eq_false, not_false_eq_true, n_toInt, n_cl, nI_1, nI_add, n_a0, n_p2, n_p3, n_p4, n_x2, n_x3, n_x4, n_x60, n_x100, n_pm1, k9L_m2, k9L_m1, k9L_0, k9L_1, k9L_2, k9L_3, k9L_4, k9L_5, k9L_6, k9L_7, k9L_8, k9L_9, k9L_10, k9L_20, k9L_23, k9L_24, k9L_30, k9L_40, k9L_50, k9L_60, k9L_99, k9L_100, k9L_120, k9L_255, k9L_999, k9L_1000, k9_bs, k9_ba, a1])
          refine k9o_ret ⟨_, _, _, rfl, ?_⟩
          simp (disch := omega) only [k9e_159_0, k9e_159_2, k9e_159_3, k9e_159_7, k9e_159_8, k9e_159_10, k9e_159_14, k9e_159_16, k9e_159_18, k9e_159_22, k9e_159_23, k9e_156_0, k9e_156_4, Nat.reduceEqDiff, Int.reduceEq, Int.reduceLT, Int.reduceLE, k9_ps_s, k9_ps_n, k9_ur, false_and, and_false, true_and, and_true, true_or, or_true, false_or, or_false, eq_self, ↓reduceIte, not_true_eq_false, not_false_eq_true, n_toInt, n_cl, nI_1, nI_add, n_a0, n_p2, n_p3, n_p4, n_x2, n_x3, n_x4, n_x60, n_x100, n_pm1, k9L_m2, k9L_m1, k9L_0, k9L_1, k9L_2, k9L_3, k9L_4, k9L_5, k9L_6, k9L_7, k9L_8, k9L_9, k9L_10, k9L_20, k9L_23, k9L_24, k9L_30, k9L_40, k9L_50, k9L_60, k9L_99, k9L_100, k9L_120, k9L_255, k9L_999, k9L_1000, k9_bs, k9_ba, a2]
          repeat (first | ((with_reducible refine k9q_T ?_ ?_); · omega) | ((with_reducible refine k9q_F ?_ ?_); · omega) | ((with_reducible refine k9q_Tb ?_ ?_); · omega) | ((with_reducible refine k9q_Fb ?_ ?_); · omega) | (refine k9o_call (k9s_153 (by first | omega | (simp (disch := omega) only [n_toInt, n_pm1, k9L_m2, k9L_m1, k9L_0, k9L_1, k9L_2, k9L_3, k9L_4, k9L_5, k9L_6, k9L_7, k9L_8, k9L_9, k9L_10, k9L_20, k9L_23, k9L_24, k9L_30, k9L_40, k9L_50, k9L_60, k9L_99, k9L_100, k9L_120, k9L_255, k9L_999, k9L_1000]; omega))) ?_; simp (disch := omega) only [k9e_159_0, k9e_159_2, k9e_159_3, k9e_159_7, k9e_159_8, k9e_159_10, k9e_159_14, k9e_159_16, k9e_159_18, k9e_159_22, k9e_159_23, k9e_156_0, k9e_156_4, Nat.reduceEqDiff, Int.reduceEq, Int.reduceLT, Int.reduceLE, k9_ps_s, k9_ps_n, k9_ur, false_and, and_false, true_and, and_true, true_or, or_true, false_or, or_false, eq_self, ↓reduceIte, not_true_eq_false, not_false_eq_true, n_toInt, n_cl, nI_1, nI_add, n_a0, n_p2, n_p3, n_p4, n_x2, n_x3, n_x4, n_x60, n_x100, n_pm1, k9L_m2, k9L_m1, k9L_0, k9L_1, k9L_2, k9L_3, k9L_4, k9L_5, k9L_6, k9L_7, k9L_8, k9L_9, k9L_10, k9L_20, k9L_23, k9L_24, k9L_30, k9L_40, k9L_50, k9L_60, k9L_99, k9L_100, k9L_120, k9L_255, k9L_999, k9L_1000, k9_bs, k9_ba, a2]) | (refine k9o_call (k9s_153x (by first | omega | (simp (disch := omega) only [n_toInt, n_pm1, k9L_m2, k9L_m1, k9L_0, k9L_1, k9L_2, k9L_3, k9L_4, k9L_5, k9L_6, k9L_7, k9L_8, k9L_9, k9L_10, k9L_20, k9L_23, k9L_24, k9L_30, k9L_40, k9L_50, k9L_60, k9L_99, k9L_100, k9L_120, k9L_255, k9L_999, k9L_1000]; omega))) ?_; simp (disch := omega) only [k9e_159_0, k9e_159_2, k9e_159_3, k9e_159_7, k9e_159_8, k9e_159_10, k9e_159_14, k9e_159_16, k9e_159_18, k9e_159_22, k9e_159_23, k9e_156_0, k9e_156_4, Nat.reduceEqDiff, Int.reduceEq, Int.reduceLT, Int.reduceLE, k9_ps_s, k9_ps_n, k9_ur, false_and, and_false, true_and, and_true, true_or, or_true, false_or, or_false, eq_self, ↓reduceIte, not_true_eq_false, not_false_eq_true, n_toInt, n_cl, nI_1, nI_add, n_a0, n_p2, n_p3, n_p4, n_x2, n_x3, n_x4, n_x60, n_x100, n_pm1, k9L_m2, k9L_m1, k9L_0, k9L_1, k9L_2, k9L_3, k9L_4, k9L_5, k9L_6, k9L_7, k9L_8, k9L_9, k9L_10, k9L_20, k9L_23, k9L_24, k9L_30, k9L_40, k9L_50, k9L_60, k9L_99, k9L_100, k9L_120, k9L_255, k9L_999, k9L_1000, k9_bs, k9_ba, a2]) | simp (disch := omega) only [k9e_159_0, k9e_159_2, k9e_159_3, k9e_159_7, k9e_159_8, k9e_159_10, k9e_159_14, k9e_159_16, k9e_159_18, k9e_159_22, k9e_159_23, k9e_156_0, k9e_156_4, Nat.reduceEqDiff, Int.reduceEq, Int.reduceLT, Int.reduceLE, k9_ps_s, k9_ps_n, k9_ur, false_and, and_false, true_and, and_true, true_or, or_true, false_or, or_false, eq_self, ↓reduceIte, not_true_eq_false, not_false_eq_true, n_toInt, n_cl, nI_1, nI_add, n_a0, n_p2, n_p3, n_p4, n_x2, n_x3, n_x4, n_x60, n_x100, n_pm1, k9L_m2, k9L_m1, k9L_0, k9L_1, k9L_2, k9L_3, k9L_4, k9L_5, k9L_6, k9L_7, k9L_8, k9L_9, k9L_10, k9L_20, k9L_23, k9L_24, k9L_30, k9L_40, k9L_50, k9L_60, k9L_99, k9L_100, k9L_120, k9L_255, k9L_999, k9L_1000, k9_bs, k9_ba, a2])
          exact k9o_ret ⟨_, _, rfl, hI'⟩
        · simp (disch := omega) only [k9e_100_0, k9e_100_3, k9e_100_3b, k9e_100_9, k9e_100_12, k9e_100_12b, k9e_100_14, k9e_100_17, k9e_100_19, k9e_100_21, k9e_100_22, k9e_144_0, k9e_144_2, k9e_144_5, k9e_144_9, k9e_144_10, k9e_144_11, k9e_144_11b, Nat.reduceEqDiff, Int.reduceEq, Int.reduceLT, Int.reduceLE, k9_ps_s, k9_ps_n, k9_ur, false_and, and_false, true_and, and_true, true_or, or_true, false_or, or_false, eq_self, ↓reduceIte, not_true_eq_false, not_false_eq_true, n_toInt, n_cl, nI_1, nI_add, n_a0, n_p2, n_p3, n_p4, n_x2, n_x3, n_x4, n_x60, n_x100, n_pm1, k9L_m2, k9L_m1, k9L_0, k9L_1, k9L_2, k9L_3, k9L_4, k9L_5, k9L_6, k9L_7, k9L_8, k9L_9, k9L_10, k9L_20, k9L_23, k9L_24, k9L_30, k9L_40, k9L_50, k9L_60, k9L_99, k9L_100, k9L_120, k9L_255, k9L_999, k9L_1000, k9_bs, k9_ba, a1]
          repeat (first | ((with_reducible refine k9q_T ?_ ?_); · omega) | ((with_reducible refine k9q_F ?_ ?_); · omega) | ((with_reducible refine k9q_Tb ?_ ?_); · omega) | ((with_reducible refine k9q_Fb ?_ ?_); · omega) | (refine k9o_call (e91) ?_; simp (disch := omega) only [k9e_100_0, k9e_100_3, k9e_100_3b, k9e_100_9, k9e_100_12, k9e_100_12b, k9e_100_14, k9e_100_17, k9e_100_19, k9e_100_21, k9e_100_22, k9e_144_0, k9e_144_2, k9e_144_5, k9e_144_9, k9e_144_10, k9e_144_11, k9e_144_11b, Nat.reduceEqDiff, Int.reduceEq, Int.reduceLT, Int.reduceLE, k9_ps_s, k9_ps_n, k9_ur, false_and, and_false, true_and, and_true, true_or, or_true, false_or, or_false, eq_self, ↓reduceIte, not_true_eq_false, not_false_eq_true, n_toInt, n_cl, nI_1, nI_add, n_a0, n_p2, n_p3, n_p4, n_x2, n_x3, n_x4, n_x60, n_x100, n_pm1, k9L_m2, k9L_m1, k9L_0, k9L_1, k9L_2, k9L_3, k9L_4, k9L_5, k9L_6, k9L_7, k9L_8, k9L_9, k9L_10, k9L_20, k9L_23, k9L_24, k9L_30, k9L_40, k9L_50, k9L_60, k9L_99, k9L_100, k9L_120, k9L_255, k9L_999, k9L_1000, k9_bs, k9_ba, a1]) | simp (disch := omega) only [k9e_100_0, k9e_100_3, k9e_100_3b, k9e_100_9, k9e_100_12, k9e_100_12b, k9e_100_14, k9e_100_17, k9e_100_19, k9e_100_21, k9e_100_22, k9e_144_0, k9e_144_2, k9e_144_5, k9e_144_9, k9e_144_10, k9e_144_11, k9e_144_11b, Nat.reduceEqDiff, Int.reduceEq, Int.reduceLT, Int.reduceLE, k9_ps_s, k9_ps_n, k9_ur, false_and, and_false, true_and, and_true, true_or, or_true, false_or, or_false, eq_self, ↓reduceIte, not_true_eq_false, not_false_eq_true, n_toInt, n_cl, nI_1, nI_add, n_a0, n_p2, n_p3, n_p4, n_x2, n_x3, n_x4, n_x60, n_x100, n_pm1, k9L_m2, k9L_m1, k9L_0, k9L_1, k9L_2, k9L_3, k9L_4, k9L_5, k9L_6, k9L_7, k9L_8, k9L_9, k9L_10, k9L_20, k9L_23, k9L_24, k9L_30, k9L_40, k9L_50, k9L_60, k9L_99, k9L_100, k9L_120, k9L_255, k9L_999, k9L_1000, k9_bs, k9_ba, a1])
          refine k9o_ret ⟨_, _, _, rfl, ?_⟩
          simp (disch := omega) only [k9e_159_0, k9e_159_2, k9e_159_3, k9e_159_7, k9e_159_8, k9e_159_10, k9e_159_14, k9e_159_16, k9e_159_18, k9e_159_22, k9e_159_23, k9e_156_0, k9e_156_4, Nat.reduceEqDiff, Int.reduceEq, Int.reduceLT, Int.reduceLE, k9_ps_s, k9_ps_n, k9_ur, false_and, and_false, true_and, and_true, true_or, or_true, false_or, or_false, eq_self, ↓reduceIte, not_true_eq_false, not_false_eq_true, n_toInt, n_cl, nI_1, nI_add, n_a0, n_p2, n_p3, n_p4, n_x2, n_x3, n_x4, n_x60, n_x100, n_pm1, k9L_m2, k9L_m1, k9L_0, k9L_1, k9L_2, k9L_3, k9L_4, k9L_5, k9L_6, k9L_7, k9L_8, k9L_9, k9L_10, k9L_20, k9L_23, k9L_24, k9L_30, k9L_40, k9L_50, k9L_60, k9L_99, k9L_100, k9L_120, k9L_255, k9L_999, k9L_1000, k9_bs, k9_ba, a2]
          repeat (first | ((with_reducible refine k9q_T ?_ ?_); · omega) | ((with_reducible refine k9q_F ?_ ?_); · omega) | ((with_reducible refine k9q_Tb ?_ ?_); · omega) | ((with_reducible refine k9q_Fb ?_ ?_); · omega) | (refine k9o_call (k9s_153 (by first | omega | (simp (disch := omega) only [n_toInt, n_pm1, k9L_m2, k9L_m1, k9L_0, k9L_1, k9L_2, k9L_3, k9L_4, k9L_5, k9L_6, k9L_7, k9L_8, k9L_9, k9L_10, k9L_20, k9L_23, k9L_24, k9L_30, k9L_40, k9L_50, k9L_60, k9L_99, k9L_100, k9L_120, k9L_255, k9L_999, k9L_1000]; omega))) ?_; simp (disch := omega) only [k9e_159_0, k9e_159_2, k9e_159_3, k9e_159_7, k9e_159_8, k9e_159_10, k9e_159_14, k9e_159_16, k9e_159_18, k9e_159_22, k9e_159_23, k9e_156_0, k9e_156_4, Nat.reduceEqDiff, Int.reduceEq, Int.reduceLT, Int.reduceLE, k9_ps_s, k9_ps_n, k9_ur, false_and, and_false, true_and, and_true, true_or, or_true, false_or, or_false, eq_self, ↓reduceIte, not_true_eq_false, not_false_eq_true, n_toInt, n_cl, nI_1, nI_add, n_a0, n_p2, n_p3, n_p4, n_x2, n_x3, n_x4, n_x60, n_x100, n_pm1, k9L_m2, k9L_m1, k9L_0, k9L_1, k9L_2, k9L_3, k9L_4, k9L_5, k9L_6, k9L_7, k9L_8, k9L_9, k9L_10, k9L_20, k9L_23, k9L_24, k9L_30, k9L_40, k9L_50, k9L_60, k9L_99, k9L_100, k9L_120, k9L_255, k9L_999, k9L_1000, k9_bs, k9_ba, a2]) | (refine k9o_call (k9s_153x (by first | omega | (simp (disch := omega) only [n_toInt, n_pm1, k9L_m2, k9L_m1, k9L_0, k9L_1, k9L_2, k9L_3, k9L_4, k9L_5, k9L_6, k9L_7, k9L_8, k9L_9, k9L_10, k9L_20, k9L_23, k9L_24, k9L_30, k9L_40, k9L_50, k9L_60, k9L_99, k9L_100, k9L_120, k9L_255, k9L_999, k9L_1000]; omega))) ?_; simp (disch := omega) only [k9e_159_0, k9e_159_2, k9e_159_3, k9e_159_7, k9e_159_8, k9e_159_10, k9e_159_14, k9e_159_16, k9e_159_18, k9e_159_22, k9e_159_23, k9e_156_0, k9e_156_4, Nat.reduceEqDiff, Int.reduceEq, Int.reduceLT, Int.reduceLE, k9_ps_s, k9_ps_n, k9_ur, false_and, and_false, true_and, and_true, true_or, or_true, false_or, or_false, eq_self, ↓reduceIte, not_true_eq_false, not_false_eq_true, n_toInt, n_cl, nI_1, nI_add, n_a0, n_p2, n_p3, n_p4, n_x2, n_x3, n_x4, n_x60, n_x100, n_pm1, k9L_m2, k9L_m1, k9L_0, k9L_1, k9L_2, k9L_3, k9L_4, k9L_5, k9L_6, k9L_7, k9L_8, k9L_9, k9L_10, k9L_20, k9L_23, k9L_24, k9L_30, k9L_40, k9L_50, k9L_60, k9L_99, k9L_100, k9L_120, k9L_255, k9L_999, k9L_1000, k9_bs, k9_ba, a2]) | simp (disch := omega) only [k9e_159_0, k9e_159_2, k9e_159_3, k9e_159_7, k9e_159_8, k9e_159_10, k9e_159_14, k9e_159_16, k9e_159_18, k9e_159_22, k9e_159_23, k9e_156_0, k9e_156_4, Nat.reduceEqDiff, Int.reduceEq, Int.reduceLT, Int.reduceLE, k9_ps_s, k9_ps_n, k9_ur, false_and, and_false, true_and, and_true, true_or, or_true, false_or, or_false, eq_self, ↓reduceIte, not_true_eq_false, not_false_eq_true, n_toInt, n_cl, nI_1, nI_add, n_a0, n_p2, n_p3, n_p4, n_x2, n_x3, n_x4, n_x60, n_x100, n_pm1, k9L_m2, k9L_m1, k9L_0, k9L_1, k9L_2, k9L_3, k9L_4, k9L_5, k9L_6, k9L_7, k9L_8, k9L_9, k9L_10, k9L_20, k9L_23, k9L_24, k9L_30, k9L_40, k9L_50, k9L_60, k9L_99, k9L_100, k9L_120, k9L_255, k9L_999, k9L_1000, k9_bs, k9_ba, a2])
          exact k9o_ret ⟨_, _, rfl, hI'⟩
    · repeat' (first | ((with_reducible refine k9q_T ?_ ?_); · omega) | ((with_reducible refine k9q_F ?_ ?_); · omega) | ((with_reducible refine k9q_Tb ?_ ?_); · omega) | ((with_reducible refine k9q_Fb ?_ ?_); · omega) | simp (disch := omega) only [k9e_100_0, k9e_100_3, k9e_100_3b, k9e_100_9, k9e_100_12, k9e_100_12b, k9e_144_0, k9e_144_2, k9e_144_5, k9e_144_9, k9e_144_10, k9e_144_11, k9e_144_11b, Nat.reduceEqDiff, Int.reduceEq, Int.reduceLT, Int.reduceLE, k9_ps_s, k9_ps_n, k9_ur, false_and, and_false, true_and, and_true, true_or, or_true, false_or, or_false, eq_self, ↓reduceIte, not_true_eq_false, not_false_eq_true, n_toInt, n_cl, nI_1, nI_add, n_a0, n_p2, n_p3, n_p4, n_x2, n_x3, n_x4, n_x60, n_x100, n_pm1, k9L_m2, k9L_m1, k9L_0, k9L_1, k9L_2, k9L_3, k9L_4, k9L_5, k9L_6, k9L_7, k9L_8, k9L_9, k9L_10, k9L_20, k9L_23, k9L_24, k9L_30, k9L_40, k9L_50, k9L_60, k9L_99, k9L_100, k9L_120, k9L_255, k9L_999, k9L_1000, k9_bs, k9_ba] | (with_reducible refine k9q_if (fun _ => ?_) (fun _ => ?_)) | (with_reducible refine k9q_ifb (fun _ => ?_) (fun _ => ?_)))
      all_goals refine k9o_ret ⟨_, _, _, rfl, ?_⟩
      all_goals repeat' (first | ((with_reducible refine k9q_T ?_ ?_); · omega) | ((with_reducible refine k9q_F ?_ ?_); · omega) | ((with_reducible refine k9q_Tb ?_ ?_); · omega) | ((with_reducible refine k9q_Fb ?_ ?_); · omega) | (refine k9o_call (k9s_153 (by first | omega | (simp (disch := omega) only [n_toInt, n_pm1, k9L_m2, k9L_m1, k9L_0, k9L_1, k9L_2, k9L_3, k9L_4, k9L_5, k9L_6, k9L_7, k9L_8, k9L_9, k9L_10, k9L_20, k9L_23, k9L_24, k9L_30, k9L_40, k9L_50, k9L_60, k9L_99, k9L_100, k9L_120, k9L_255, k9L_999, k9L_1000]; omega))) ?_; simp (disch := omega) only [k9e_159_0, k9e_159_2, k9e_159_3, k9e_159_7, k9e_159_8, k9e_156_0, k9e_156_4, Nat.reduceEqDiff, Int.reduceEq, Int.reduceLT, Int.reduceLE, k9_ps_s, k9_ps_n, k9_ur, false_and, and_false, true_and, and_true, true_or, or_true, false_or, or_false, eq_self, ↓reduceIte, not_true_eq_false, not_false_eq_true, n_toInt, n_cl, nI_1, nI_add, n_a0, n_p2, n_p3, n_p4, n_x2, n_x3, n_x4, n_x60, n_x100, n_pm1, k9L_m2, k9L_m1, k9L_0, k9L_1, k9L_2, k9L_3, k9L_4, k9L_5, k9L_6, k9L_7, k9L_8, k9L_9, k9L_10, k9L_20, k9L_23, k9L_24, k9L_30, k9L_40, k9L_50, k9L_60, k9L_99, k9L_100, k9L_120, k9L_255, k9L_999, k9L_1000, k9_bs, k9_ba]) | (refine k9o_call (k9s_153x (by first | omega | (simp (disch := omega) only [n_toInt, n_pm1, k9L_m2, k9L_m1, k9L_0, k9L_1, k9L_2, k9L_3, k9L_4, k9L_5, k9L_6, k9L_7, k9L_8, k9L_9, k9L_10, k9L_20, k9L_23, k9L_24, k9L_30, k9L_40, k9L_50, k9L_60, k9L_99, k9L_100, k9L_120, k9L_255, k9L_999, k9L_1000]; omega))) ?_; simp (disch := omega) only [k9e_159_0, k9e_159_2, k9e_159_3, k9e_159_7, k9e_159_8, k9e_156_0, k9e_156_4, Nat.reduceEqDiff, Int.reduceEq, Int.reduceLT, Int.reduceLE, k9_ps_s, k9_ps_n, k9_ur, false_and, and_false, true_and, and_true, true_or, or_true, false_or, or_false, eq_self, ↓reduceIte, not_true_eq_false, not_false_eq_true, n_toInt, n_cl, nI_1, nI_add, n_a0, n_p2, n_p3, n_p4, n_x2, n_x3, n_x4, n_x60, n_x100, n_pm1, k9L_m2, k9L_m1, k9L_0, k9L_1, k9L_2, k9L_3, k9L_4, k9L_5, k9L_6, k9L_7, k9L_8, k9L_9, k9L_10, k9L_20, k9L_23, k9L_24, k9L_30, k9L_40, k9L_50, k9L_60, k9L_99, k9L_100, k9L_120, k9L_255, k9L_999, k9L_1000, k9_bs, k9_ba]) | simp (disch := omega) only [k9e_159_0, k9e_159_2, k9e_159_3, k9e_159_7, k9e_159_8, k9e_156_0, k9e_156_4, Nat.reduceEqDiff, Int.reduceEq, Int.reduceLT, Int.reduceLE, k9_ps_s, k9_ps_n, k9_ur, false_and, and_false, true_and, and_true, true_or, or_true, false_or, or_false, eq_self, ↓reduceIte, not_true_eq_false, not_false_eq_true, n_toInt, n_cl, nI_1, nI_add, n_a0, n_p2, n_p3, n_p4, n_x2, n_x3, n_x4, n_x60, n_x100, n_pm1, k9L_m2, k9L_m1, k9L_0, k9L_1, k9L_2, k9L_3, k9L_4, k9L_5, k9L_6, k9L_7, k9L_8, k9L_9, k9L_10, k9L_20, k9L_23, k9L_24, k9L_30, k9L_40, k9L_50, k9L_60, k9L_99, k9L_100, k9L_120, k9L_255, k9L_999, k9L_1000, k9_bs, k9_ba] | (with_reducible refine k9q_if (fun _ => ?_) (fun _ => ?_)) | (with_reducible refine k9q_ifb (fun _ => ?_) (fun _ => ?_)))
      all_goals exact k9o_ret ⟨_, _, rfl, hI'⟩
  · repeat' (first | ((with_reducible refine k9q_T ?_ ?_); · omega) | ((with_reducible refine k9q_F ?_ ?_); · omega) | ((with_reducible refine k9q_Tb ?_ ?_); · omega) | ((with_reducible refine k9q_Fb ?_ ?_); · omega) | simp (disch := omega) only [k9e_100_0, k9e_100_3, k9e_100_3b, k9e_100_9, k9e_100_12, k9e_100_12b, k9e_144_0, k9e_144_2, k9e_144_5, k9e_144_9, k9e_144_10, k9e_144_11, k9e_144_11b, Nat.reduceEqDiff, Int.reduceEq, Int.reduceLT, Int.reduceLE, k9_ps_s, k9_ps_n, k9_ur, false_and, and_false, true_and, and_true, true_or, or_true, false_or, or_false, eq_self, ↓reduceIte, not_true_eq_false, not_false_eq_true, n_toInt, n_cl, nI_1, nI_add, n_a0, n_p2, n_p3, n_p4, n_x2, n_x3, n_x4, n_x60, n_x100, n_pm1, k9L_m2, k9L_m1, k9L_0, k9L_1, k9L_2, k9L_3, k9L_4, k9L_5, k9L_6, k9L_7, k9L_8, k9L_9, k9L_10, k9L_20, k9L_23, k9L_24, k9L_30, k9L_40, k9L_50, k9L_60, k9L_99, k9L_100, k9L_120, k9L_255, k9L_999, k9L_1000, k9_bs, k9_ba] | (with_reducible refine k9q_if (fun _ => ?_) (fun _ => ?_)) | (with_reducible refine k9q_ifb (fun _ => ?_) (fun _ => ?_)))
    all_goals refine k9o_ret ⟨_, _, _, rfl, ?_⟩
    all_goals repeat' (first | ((with_reducible refine k9q_T ?_ ?_); · omega) | ((with_reducible refine k9q_F ?_ ?_); · omega) | ((with_reducible refine k9q_Tb ?_ ?_); · omega) | ((with_reducible refine k9q_Fb ?_ ?_); · omega) | (refine k9o_call (k9s_153 (by first | omega | (simp (disch := omega) only [n_toInt, n_pm1, k9L_m2, k9L_m1, k9L_0, k9L_1, k9L_2, k9L_3, k9L_4, k9L_5, k9L_6, k9L_7, k9L_8, k9L_9, k9L_10, k9L_20, k9L_23, k9L_24, k9L_30, k9L_40, k9L_50, k9L_60, k9L_99, k9L_100, k9L_120, k9L_255, k9L_999, k9L_1000]; omega))) ?_; simp (disch := omega) only [k9e_159_0, k9e_159_2, k9e_159_3, k9e_159_7, k9e_159_8, k9e_156_0, k9e_156_4, Nat.reduceEqDiff, Int.reduceEq, Int.reduceLT, Int.reduceLE, k9_ps_s, k9_ps_n, k9_ur, false_and, and_false, true_and, and_true, true_or, or_true, false_or, or_false, eq_self, ↓reduceIte, not_true_eq_false, not_false_eq_true, n_toInt, n_cl, nI_1, nI_add, n_a0, n_p2, n_p3, n_p4, n_x2, n_x3, n_x4, n_x60, n_x100, n_pm1, k9L_m2, k9L_m1, k9L_0, k9L_1, k9L_2, k9L_3, k9L_4, k9L_5, k9L_6, k9L_7, k9L_8, k9L_9, k9L_10, k9L_20, k9L_23, k9L_24, k9L_30, k9L_40, k9L_50, k9L_60, k9L_99, k9L_100, k9L_120, k9L_255, k9L_999, k9L_1000, k9_bs, k9_ba]) | (refine k9o_call (k9s_153x (by first | omega | (simp (disch := omega) only [n_toInt, n_pm1, k9L_m2, k9L_m1, k9L_0, k9L_1, k9L_2, k9L_3, k9L_4, k9L_5, k9L_6, k9L_7, k9L_8, k9L_9, k9L_10, k9L_20, k9L_23, k9L_24, k9L_30, k9L_40, k9L_50, k9L_60, k9L_99, k9L_100, k9L_120, k9L_255, k9L_999, k9L_1000]; omega))) ?_; simp (disch := omega) only [k9e_159_0, k9e_159_2, k9e_159_3, k9e_159_7, k9e_159_8, k9e_156_0, k9e_156_4, Nat.reduceEqDiff, Int.reduceEq, Int.reduceLT, Int.reduceLE, k9_ps_s, k9_ps_n, k9_ur, false_and, and_false, true_and, and_true, true_or, or_true, false_or, or_false, eq_self, ↓reduceIte, not_true_eq_false, not_false_eq_true, n_toInt, n_cl, nI_1, nI_add, n_a0, n_p2, n_p3, n_p4, n_x2, n_x3, n_x4, n_x60, n_x100, n_pm1, k9L_m2, k9L_m1, k9L_0, k9L_1, k9L_2, k9L_3, k9L_4, k9L_5, k9L_6, k9L_7, k9L_8, k9L_9, k9L_10, k9L_20, k9L_23, k9L_24, k9L_30, k9L_40, k9L_50, k9L_60, k9L_99, k9L_100, k9L_120, k9L_255, k9L_999, k9L_1000, k9_bs, k9_ba]) | simp (disch := omega) only [k9e_159_0, k9e_159_2, k9e_159_3, k9e_159_7, k9e_159_8, k9e_156_0, k9e_156_4, Nat.reduceEqDiff, Int.reduceEq, Int.reduceLT, Int.reduceLE, k9_ps_s, k9_ps_n, k9_ur, false_and, and_false, true_and, and_true, true_or, or_true, false_or, or_false, eq_self, ↓reduceIte, not_true_eq_false, not_false_eq_true, n_toInt, n_cl, nI_1, nI_add, n_a0, n_p2, n_p3, n_p4, n_x2, n_x3, n_x4, n_x60, n_x100, n_pm1, k9L_m2, k9L_m1, k9L_0, k9L_1, k9L_2, k9L_3, k9L_4, k9L_5, k9L_6, k9L_7, k9L_8, k9L_9, k9L_10, k9L_20, k9L_23, k9L_24, k9L_30, k9L_40, k9L_50, k9L_60, k9L_99, k9L_100, k9L_120, k9L_255, k9L_999, k9L_1000, k9_bs, k9_ba] | (with_reducible refine k9q_if (fun _ => ?_) (fun _ => ?_)) | (with_reducible refine k9q_ifb (fun _ => ?_) (fun _ => ?_)))
    all_goals exact k9o_ret ⟨_, _, rfl, hI'⟩
end KT40

/-! THE LAW'S TEXT: how it is read -/
section KV1
def p_lt (n : Nat) (l : Nat → Nat) (a : Nat) : Nat := if a < n then l a else 999
def p_lx (c : Nat) : Int32 := if c = 999 then -1 else nI c
def p_b (b : Bool) : Nat := if b = true then 1 else 0
def p_nu (n : Nat) (l : Nat → Nat) : Nat → Nat → Nat → Nat × Nat
  | 0, v, a => (v, a)
  | k + 1, v, a => if 48 ≤ p_lt n l a ∧ p_lt n l a ≤ 57 then p_nu n l k (10 * v + p_lt n l a - 48) (a + 1) else (v, a)
abbrev p_jn (lv c : Nat) : Prop := (lv = 5 ∧ c = 124) ∨ (lv = 4 ∧ c = 38) ∨ (lv = 3 ∧ (c = 60 ∨ c = 61 ∨ c = 62)) ∨ (lv = 2 ∧ (c = 43 ∨ c = 45)) ∨ (lv = 1 ∧ (c = 42 ∨ c = 47 ∨ c = 37))
abbrev p_na (c : Nat) : Prop := c = 98 ∨ c = 102 ∨ c = 115 ∨ c = 116 ∨ c = 108 ∨ c = 110
abbrev k9_pr : Type := Bool × Nat × List Nat
def p_lp (n : Nat) (l : Nat → Nat) (r : Nat → k9_pr) (lv : Nat) : Nat → Nat → k9_pr
  | 0, a => (true, a, [])
  | k + 1, a => if p_jn lv (p_lt n l a) then (if (r (a + 1)).1 = true then ((p_lp n l r lv k (r (a + 1)).2.1).1, (p_lp n l r lv k (r (a + 1)).2.1).2.1, (r (a + 1)).2.2 ++ (10000 + p_lt n l a) :: (p_lp n l r lv k (r (a + 1)).2.1).2.2) else (false, (r (a + 1)).2.1, (r (a + 1)).2.2)) else (true, a, [])
def p_mo (lv : Nat) : Nat := if lv = 3 then 1 else 120
def p_lc (n : Nat) (l : Nat → Nat) (r : Nat → k9_pr) (lv a : Nat) : k9_pr :=
  if (r a).1 = true then ((p_lp n l r lv (p_mo lv) (r a).2.1).1, (p_lp n l r lv (p_mo lv) (r a).2.1).2.1, (r a).2.2 ++ (p_lp n l r lv (p_mo lv) (r a).2.1).2.2) else (false, (r a).2.1, (r a).2.2)
def p_od (n : Nat) (l : Nat → Nat) (r5 r0 : Nat → k9_pr) (op a : Nat) : k9_pr :=
  if 48 ≤ p_lt n l a ∧ p_lt n l a ≤ 57 then (true, (p_nu n l 4 0 a).2, [(p_nu n l 4 0 a).1])
  else if p_na (p_lt n l a) then (true, a + 1, [10000 + p_lt n l a])
  else if op < 6 ∧ p_lt n l a = 40 then (if (r5 (a + 1)).1 = true ∧ p_lt n l (r5 (a + 1)).2.1 = 41 then (true, (r5 (a + 1)).2.1 + 1, (r5 (a + 1)).2.2) else (false, (r5 (a + 1)).2.1, (r5 (a + 1)).2.2))
  else if op < 6 ∧ (p_lt n l a = 33 ∨ p_lt n l a = 45) then (if (r0 (a + 1)).1 = true then (true, (r0 (a + 1)).2.1, (r0 (a + 1)).2.2 ++ [if p_lt n l a = 45 then 10126 else 10033]) else (false, (r0 (a + 1)).2.1, (r0 (a + 1)).2.2))
  else (false, a, [])
def p_rd (n : Nat) (l : Nat → Nat) : Nat → Nat → Nat → Nat → k9_pr
  | 0, _, _, a => (false, a, [])
  | f + 1, 0, op, a => p_od n l (p_rd n l f 5 (op + 1)) (p_rd n l f 0 (op + 1)) op a
  | f + 1, lv + 1, op, a => p_lc n l (p_rd n l f lv op) (lv + 1) a
/-- what every reading keeps -/
def p_kr (n a : Nat) (u : k9_pr) : Prop := a ≤ u.2.1 ∧ u.2.1 ≤ n ∧ u.2.2.length + a ≤ u.2.1 ∧ (u.1 = true → a < u.2.1)
theorem p_lt_n {n : Nat} {l : Nat → Nat} {a : Nat} (h : p_lt n l a ≠ 999) : a < n := by
  unfold p_lt at h
  by_cases c : a < n
  · exact c
  · rw [if_neg c] at h
    exact absurd rfl h
theorem p_nu_k (n : Nat) (l : Nat → Nat) (k v a : Nat) (h : a ≤ n) : a ≤ (p_nu n l k v a).2 ∧ (p_nu n l k v a).2 ≤ n := by
  induction k generalizing v a with
  | zero => exact ⟨Nat.le_refl _, h⟩
  | succ k ih =>
    rw [p_nu]
    split
    · next c =>
      have := p_lt_n (n := n) (l := l) (a := a) (by omega)
      have := ih (10 * v + p_lt n l a - 48) (a + 1) (by omega)
      omega
    · exact ⟨Nat.le_refl _, h⟩
theorem p_nu_1 (n : Nat) (l : Nat → Nat) (k v a : Nat) (h : a ≤ n) (c : 48 ≤ p_lt n l a ∧ p_lt n l a ≤ 57) : a < (p_nu n l (k + 1) v a).2 := by
  rw [p_nu, if_pos c]
  have := p_lt_n (n := n) (l := l) (a := a) (by omega)
  have := p_nu_k n l k (10 * v + p_lt n l a - 48) (a + 1) (by omega)
  omega
theorem p_lp_k (n : Nat) (l : Nat → Nat) (r : Nat → k9_pr) (lv k a : Nat) (h : a ≤ n) (hr : ∀ b, b ≤ n → p_kr n b (r b)) : a ≤ (p_lp n l r lv k a).2.1 ∧ (p_lp n l r lv k a).2.1 ≤ n ∧ (p_lp n l r lv k a).2.2.length + a ≤ (p_lp n l r lv k a).2.1 := by
  induction k generalizing a with
  | zero => exact ⟨Nat.le_refl _, h, by simp [p_lp]⟩
  | succ k ih =>
    rw [p_lp]
    by_cases c : p_jn lv (p_lt n l a)
    · rw [if_pos c]
      have := p_lt_n (n := n) (l := l) (a := a) (by simp only [p_jn] at c; omega)
      obtain ⟨h1, h2, h3, h4⟩ := hr (a + 1) (by omega)
      by_cases e : (r (a + 1)).1 = true
      · rw [if_pos e]
        have := ih (r (a + 1)).2.1 h2
        refine ⟨?_, ?_, ?_⟩
        · show a ≤ (p_lp n l r lv k (r (a + 1)).2.1).2.1
          omega
        · exact this.2.1
        · show ((r (a + 1)).2.2 ++ (10000 + p_lt n l a) :: (p_lp n l r lv k (r (a + 1)).2.1).2.2).length + a ≤ (p_lp n l r lv k (r (a + 1)).2.1).2.1
          rw [List.length_append, List.length_cons]
          omega
      · rw [if_neg e]
        refine ⟨?_, h2, ?_⟩
        · show a ≤ (r (a + 1)).2.1
          omega
        · show (r (a + 1)).2.2.length + a ≤ (r (a + 1)).2.1
          omega
    · rw [if_neg c]
      exact ⟨Nat.le_refl _, h, by simp⟩
theorem p_rd_k (n : Nat) (l : Nat → Nat) (f : Nat) : ∀ lv op a, a ≤ n → p_kr n a (p_rd n l f lv op a) := by
  induction f with
  | zero =>
    intro lv op a h
    rw [p_rd]
    exact ⟨Nat.le_refl _, h, by simp, fun z => by cases z⟩
  | succ f ih =>
    intro lv op a h
    cases lv with
    | zero =>
      rw [p_rd]
      unfold p_od
      by_cases c1 : 48 ≤ p_lt n l a ∧ p_lt n l a ≤ 57
      · rw [if_pos c1]
        have h1 := p_nu_k n l 4 0 a h
        have h2 : a < (p_nu n l 4 0 a).2 := p_nu_1 n l 3 0 a h c1
        refine ⟨h1.1, h1.2, ?_, fun _ => h2⟩
        show 1 + a ≤ (p_nu n l 4 0 a).2
        omega
      · rw [if_neg c1]
        by_cases c2 : p_na (p_lt n l a)
        · rw [if_pos c2]
          have := p_lt_n (n := n) (l := l) (a := a) (by simp only [p_na] at c2; omega)
          refine ⟨Nat.le_succ _, this, ?_, fun _ => Nat.lt_succ_self _⟩
          show 1 + a ≤ a + 1
          omega
        · rw [if_neg c2]
          by_cases c3 : op < 6 ∧ p_lt n l a = 40
          · rw [if_pos c3]
            have := p_lt_n (n := n) (l := l) (a := a) (by omega)
            obtain ⟨h1, h2, h3, h4⟩ := ih 5 (op + 1) (a + 1) (by omega)
            by_cases e : (p_rd n l f 5 (op + 1) (a + 1)).1 = true ∧ p_lt n l (p_rd n l f 5 (op + 1) (a + 1)).2.1 = 41
            · rw [if_pos e]
              have := p_lt_n (n := n) (l := l) (a := (p_rd n l f 5 (op + 1) (a + 1)).2.1) (by omega)
              refine ⟨?_, this, ?_, fun _ => ?_⟩
              · show a ≤ (p_rd n l f 5 (op + 1) (a + 1)).2.1 + 1
                omega
              · show (p_rd n l f 5 (op + 1) (a + 1)).2.2.length + a ≤ (p_rd n l f 5 (op + 1) (a + 1)).2.1 + 1
                omega
              · show a < (p_rd n l f 5 (op + 1) (a + 1)).2.1 + 1
                omega
            · rw [if_neg e]
              refine ⟨?_, h2, ?_, fun z => by cases z⟩
              · show a ≤ (p_rd n l f 5 (op + 1) (a + 1)).2.1
                omega
              · show (p_rd n l f 5 (op + 1) (a + 1)).2.2.length + a ≤ (p_rd n l f 5 (op + 1) (a + 1)).2.1
                omega
          · rw [if_neg c3]
            by_cases c4 : op < 6 ∧ (p_lt n l a = 33 ∨ p_lt n l a = 45)
            · rw [if_pos c4]
              have := p_lt_n (n := n) (l := l) (a := a) (by omega)
              obtain ⟨h1, h2, h3, h4⟩ := ih 0 (op + 1) (a + 1) (by omega)
              by_cases e : (p_rd n l f 0 (op + 1) (a + 1)).1 = true
              · rw [if_pos e]
                refine ⟨?_, h2, ?_, fun _ => ?_⟩
                · show a ≤ (p_rd n l f 0 (op + 1) (a + 1)).2.1
                  omega
                · show ((p_rd n l f 0 (op + 1) (a + 1)).2.2 ++ [if p_lt n l a = 45 then 10126 else 10033]).length + a ≤ (p_rd n l f 0 (op + 1) (a + 1)).2.1
                  rw [List.length_append, List.length_singleton]
                  omega
                · show a < (p_rd n l f 0 (op + 1) (a + 1)).2.1
                  omega
              · rw [if_neg e]
                refine ⟨?_, h2, ?_, fun z => by cases z⟩
                · show a ≤ (p_rd n l f 0 (op + 1) (a + 1)).2.1
                  omega
                · show (p_rd n l f 0 (op + 1) (a + 1)).2.2.length + a ≤ (p_rd n l f 0 (op + 1) (a + 1)).2.1
                  omega
            · rw [if_neg c4]
              exact ⟨Nat.le_refl _, h, by simp, fun z => by cases z⟩
    | succ lv =>
      rw [p_rd]
      unfold p_lc
      obtain ⟨h1, h2, h3, h4⟩ := ih lv op a h
      by_cases e : (p_rd n l f lv op a).1 = true
      · rw [if_pos e]
        obtain ⟨g1, g2, g3⟩ := p_lp_k n l (p_rd n l f lv op) (lv + 1) (p_mo (lv + 1)) (p_rd n l f lv op a).2.1 h2 (fun b hb => ih lv op b hb)
        have := h4 e
        refine ⟨?_, g2, ?_, fun _ => ?_⟩
        · show a ≤ (p_lp n l (p_rd n l f lv op) (lv + 1) (p_mo (lv + 1)) (p_rd n l f lv op a).2.1).2.1
          omega
        · show ((p_rd n l f lv op a).2.2 ++ (p_lp n l (p_rd n l f lv op) (lv + 1) (p_mo (lv + 1)) (p_rd n l f lv op a).2.1).2.2).length + a ≤ (p_lp n l (p_rd n l f lv op) (lv + 1) (p_mo (lv + 1)) (p_rd n l f lv op a).2.1).2.1
          rw [List.length_append]
          omega
        · show a < (p_lp n l (p_rd n l f lv op) (lv + 1) (p_mo (lv + 1)) (p_rd n l f lv op a).2.1).2.1
          omega
      · rw [if_neg e]
        exact ⟨h1, h2, h3, fun z => by cases z⟩
/-- a letter's number -/
theorem p_lt_o {n : Nat} {l : Nat → Nat} (hl : ∀ p, p < n → l p ≤ 255) (a : Nat) : (p_lt n l a = 999 ∧ (p_lx (p_lt n l a)).toInt = -1) ∨ (p_lt n l a ≤ 255 ∧ (p_lx (p_lt n l a)).toInt = (p_lt n l a : Int)) := by
  by_cases c : a < n
  · refine Or.inr ?_
    have := hl a c
    have e : p_lt n l a = l a := if_pos c
    rw [e]
    refine ⟨this, ?_⟩
    unfold p_lx
    rw [if_neg (by omega), n_toInt (by omega)]
  · have e : p_lt n l a = 999 := if_neg c
    rw [e]
    exact Or.inl ⟨rfl, by decide⟩
theorem p_lx_n {c : Nat} (h : c ≤ 255) : p_lx c = nI c := if_neg (by omega)
end KV1

/-! THE LAW'S TEXT: the class reads it -/
section KV2
variable {S : k9_S} {d : Nat} {I I' : k9_I} {J J' : k9_J} {n a c f lv op : Nat} {l : Nat → Nat} {ts : List Nat}
def k9_Tc (I : k9_I) (n : Nat) (l : Nat → Nat) (a : Nat) (ts : List Nat) : Prop := n ≤ 120 ∧ (∀ p, p < n → l p ≤ 255) ∧ I 5 0 0 = nI n ∧ (∀ p, p < n → I 26 0 p = nI (l p)) ∧ I 5 0 4 = nI a ∧ I 5 0 1 = nI ts.length ∧ ∀ i, i < ts.length → I 27 0 i = nI (ts.getD i 0)
def k9_Ftc (k _ p : Nat) : Bool := Nat.beq k 27 || (Nat.beq k 5 && (Nat.beq p 1 || Nat.beq p 4))
theorem k9_Tc_p (h : k9_Tc I n l a ts) (b : Nat) : k9_Tc (k9_u I 5 0 4 (nI b)) n l b ts := by
  obtain ⟨h1, h2, h3, h4, h5, h6, h7⟩ := h
  exact ⟨h1, h2, by simp [k9_ur, h3], fun p hp => by simp [k9_ur, h4 p hp], by simp [k9_ur], by simp [k9_ur, h6], fun i hi => by
    have := h7 i hi
    simpa [k9_ur] using this⟩
theorem k9s_41 (h : k9_Tc I n l a ts) (ha : a ≤ 120) : k9_R S d 41 0 [some (k9_r 5 0)] [] I J = some (some (k9_i (p_lx (p_lt n l a))), I, J) := by
  obtain ⟨h1, h2, h3, h4, h5, h6, h7⟩ := h
  refine k9o_of (k9o_eq k9e_41_0 (k9o_F (by rw [h5, n_toInt (by omega)]; omega) (k9o_eq k9e_41_3 ?_)))
  by_cases e : a < n
  · have el : p_lt n l a = l a := if_pos e
    have := h2 a e
    rw [el, p_lx_n (show l a ≤ 255 from this)]
    refine k9o_F (by rw [h3, h5, n_toInt (by omega), n_toInt (by omega)]; omega) (k9o_eq k9e_41_8 (k9o_F (by rw [h5, n_toInt (by omega)]; omega) (k9o_eq k9e_41_12 (k9o_T (by rw [h5, n_toInt (by omega)]; omega) ?_))))
    rw [h5, n_cl (by omega), h4 a e]
    exact k9o_eq k9e_41_17 (k9o_eq k9e_41_19 (k9o_ret rfl))
  · have el : p_lt n l a = 999 := if_neg e
    rw [el]
    exact k9o_T (by rw [h3, h5, n_toInt (by omega), n_toInt (by omega)]; omega) (k9o_eq k9e_41_18 (k9o_eq k9e_41_19 (k9o_ret rfl)))
theorem k9s_42 (h : k9_Tc I n l a ts) (ha : a ≤ 120) (hc : c ≤ 255) : k9_R S (d + 1) 42 0 [some (k9_r 5 0), some (k9_i (nI c))] [] I J = some (some (k9_i (nI (if p_lt n l a = c then 1 else 0))), (if p_lt n l a = c then k9_u I 5 0 4 (nI (a + 1)) else I), J) := by
  have hl := p_lt_o h.2.1 a
  have h5 := h.2.2.2.2.1
  refine k9o_of (k9o_eq k9e_42_0 (k9o_call (k9s_41 h ha) ?_))
  simp only [k9_ps_s]
  refine k9o_eq k9e_42_2 ?_
  by_cases e : p_lt n l a = c
  · rw [if_pos e, if_pos e]
    refine k9o_T (by rw [n_toInt (n := c) (by omega)]; omega) (k9o_eq k9e_42_6 (k9o_ret ?_))
    rw [h5, nI_1]
    rfl
  · rw [if_neg e, if_neg e]
    exact k9o_F (by rw [n_toInt (n := c) (by omega)]; omega) (k9o_eq k9e_42_4 (k9o_ret rfl))
theorem k9s_43 (h : k9_Tc I n l a ts) (ht : ts.length ≤ 120) : ∃ I', k9_R S d 43 0 [some (k9_r 5 0), some (k9_i (nI c))] [] I J = some (none, I', J) ∧ k9_Tc I' n l a (ts ++ [c]) ∧ k9_fx k9_Ftc I I' := by
  obtain ⟨h1, h2, h3, h4, h5, h6, h7⟩ := h
  refine ⟨k9_u (k9_u I 27 0 ts.length (nI c)) 5 0 1 (nI (ts.length + 1)), ?_, ⟨h1, h2, by simp [k9_ur, h3], fun p hp => by simp [k9_ur, h4 p hp], by simp [k9_ur, h5], by simp [k9_ur], fun i hi => ?_⟩, k9_fx_u (k9_fx_u (k9_fx_rf _ _) rfl) rfl⟩
  · refine k9o_of (k9o_eq k9e_43_0 (k9o_F (by rw [h6, n_toInt (by omega)]; omega) (k9o_eq k9e_43_3 (k9o_F (by rw [h6, n_toInt (by omega)]; omega) (k9o_eq k9e_43_7 (k9o_T (by rw [h6, n_toInt (by omega)]; omega) ?_))))))
    rw [h6, n_cl (by omega)]
    refine k9o_eq k9e_43_13 ?_
    rw [show (k9_u I 27 0 ts.length (nI c)) 5 0 1 = I 5 0 1 from rfl, h6, nI_1]
    exact k9o_eq k9e_43_19 (k9o_ret rfl)
  · rw [List.length_append, List.length_singleton] at hi
    by_cases e : i = ts.length
    · subst e
      simp [k9_ur, List.getD_eq_getElem?_getD]
    · have := h7 i (by omega)
      rw [show (ts ++ [c]).getD i 0 = ts.getD i 0 by simp [List.getD_eq_getElem?_getD, List.getElem?_append_left (show i < ts.length by omega)]]
      simpa [k9_ur, e] using this
theorem k9s_44 (hl : (c = 999 ∧ (p_lx c).toInt = -1) ∨ (c ≤ 255 ∧ (p_lx c).toInt = (c : Int))) : k9_R S d 44 0 [some (k9_i (p_lx c))] [] I J = some (some (k9_i (nI (if 48 ≤ c ∧ c ≤ 57 then 1 else 0))), I, J) := by
  refine k9o_of ?_
  by_cases e : 48 ≤ c ∧ c ≤ 57
  · rw [if_pos e]
    exact k9o_eq k9e_44_0 (k9o_F (by omega) (k9o_eq k9e_44_3 (k9o_F (by omega) (k9o_eq k9e_44_6 (k9o_eq k9e_44_9 (k9o_T (by decide) (k9o_ret rfl)))))))
  · rw [if_neg e]
    refine k9o_eq k9e_44_0 ?_
    by_cases e2 : (p_lx c).toInt < 48
    · exact k9o_T e2 (k9o_eq k9e_44_8 (k9o_eq k9e_44_9 (k9o_T (by decide) (k9o_ret rfl))))
    · exact k9o_F e2 (k9o_eq k9e_44_3 (k9o_T (by omega) (k9o_eq k9e_44_8 (k9o_eq k9e_44_9 (k9o_T (by decide) (k9o_ret rfl))))))
theorem k9s_45 (hl : (c = 999 ∧ (p_lx c).toInt = -1) ∨ (c ≤ 255 ∧ (p_lx c).toInt = (c : Int))) : k9_R S d 45 0 [some (k9_i (p_lx c))] [] I J = some (some (k9_i (nI (if p_na c then 1 else 0))), I, J) := by
  refine k9o_of ?_
  have y : p_na c → k9_ok (k9_R S d 45 18 [some (k9_i (p_lx c))] [] I J) (fun q => q = (some (k9_i (nI (if p_na c then 1 else 0))), I, J)) := fun e => by
    rw [if_pos e]
    exact k9o_eq k9e_45_18 (k9o_eq k9e_45_21 (k9o_T (by decide) (k9o_ret rfl)))
  have z : ¬ p_na c → k9_ok (k9_R S d 45 20 [some (k9_i (p_lx c))] [] I J) (fun q => q = (some (k9_i (nI (if p_na c then 1 else 0))), I, J)) := fun e => by
    rw [if_neg e]
    exact k9o_eq k9e_45_20 (k9o_eq k9e_45_21 (k9o_T (by decide) (k9o_ret rfl)))
  refine k9o_eq k9e_45_0 (k9o_if (fun h => y (by omega)) (fun h1 => k9o_eq k9e_45_3 (k9o_if (fun h => y (by omega)) (fun h2 => k9o_eq k9e_45_6 (k9o_if (fun h => y (by omega)) (fun h3 => k9o_eq k9e_45_9 (k9o_if (fun h => y (by omega)) (fun h4 => k9o_eq k9e_45_12 (k9o_if (fun h => y (by omega)) (fun h5 => k9o_eq k9e_45_15 (k9o_if (fun h => y (by omega)) (fun h6 => z (by omega)))))))))))))
theorem k9s_46 (h1 : 1 ≤ lv) (h5 : lv ≤ 5) (hl : (c = 999 ∧ (p_lx c).toInt = -1) ∨ (c ≤ 255 ∧ (p_lx c).toInt = (c : Int))) : k9_R S d 46 0 [some (k9_i (nI (5 - lv))), some (k9_i (p_lx c))] [] I J = some (some (k9_i (nI (if p_jn lv c then 1 else 0))), I, J) := by
  refine k9o_of (k9o_eq k9e_46_0 ?_)
  have y8 : ∀ x0, p_jn lv c → k9_ok (k9_R S d 46 8 [some (k9_i x0), some (k9_i (p_lx c))] [k9_i 1] I J) (fun q => q = (some (k9_i (nI (if p_jn lv c then 1 else 0))), I, J)) := fun x0 e => by
    rw [if_pos e]
    exact k9o_eq k9e_46_8 (k9o_T (by decide) (k9o_ret rfl))
  obtain rfl | rfl | rfl | rfl | rfl : lv = 1 ∨ lv = 2 ∨ lv = 3 ∨ lv = 4 ∨ lv = 5 := by omega
  · refine k9o_F (by decide) (k9o_F (by decide) (k9o_F (by decide) (k9o_F (by decide) (k9o_eq k9e_46_39 ?_))))
    by_cases e : p_jn 1 c
    · rw [if_pos e]
      have t : ∀ x0, k9_ok (k9_R S d 46 48 [some (k9_i x0), some (k9_i (p_lx c))] [] I J) (fun q => q = (some (k9_i (nI 1)), I, J)) := fun x0 => k9o_eq k9e_46_48 (k9o_eq k9e_46_51 (k9o_T (by decide) (k9o_ret rfl)))
      exact k9o_if (fun _ => t _) (fun g1 => k9o_eq k9e_46_42 (k9o_if (fun _ => t _) (fun g2 => k9o_eq k9e_46_45 (k9o_if (fun _ => t _) (fun g3 => absurd e (by simp only [p_jn]; omega))))))
    · rw [if_neg e]
      have e' : ¬ (c = 42 ∨ c = 47 ∨ c = 37) := fun z => e (by simp only [p_jn]; omega)
      exact k9o_F (by omega) (k9o_eq k9e_46_42 (k9o_F (by omega) (k9o_eq k9e_46_45 (k9o_F (by omega) (k9o_eq k9e_46_50 (k9o_eq k9e_46_51 (k9o_T (by decide) (k9o_ret rfl))))))))
  · refine k9o_F (by decide) (k9o_F (by decide) (k9o_F (by decide) (k9o_T (by decide) (k9o_eq k9e_46_29 ?_))))
    by_cases e : p_jn 2 c
    · rw [if_pos e]
      have t : ∀ x0, k9_ok (k9_R S d 46 35 [some (k9_i x0), some (k9_i (p_lx c))] [] I J) (fun q => q = (some (k9_i (nI 1)), I, J)) := fun x0 => k9o_eq k9e_46_35 (k9o_eq k9e_46_38 (k9o_T (by decide) (k9o_ret rfl)))
      exact k9o_if (fun _ => t _) (fun g1 => k9o_eq k9e_46_32 (k9o_if (fun _ => t _) (fun g2 => absurd e (by simp only [p_jn]; omega))))
    · rw [if_neg e]
      have e' : ¬ (c = 43 ∨ c = 45) := fun z => e (by simp only [p_jn]; omega)
      exact k9o_F (by omega) (k9o_eq k9e_46_32 (k9o_F (by omega) (k9o_eq k9e_46_37 (k9o_eq k9e_46_38 (k9o_T (by decide) (k9o_ret rfl))))))
  · refine k9o_F (by decide) (k9o_F (by decide) (k9o_T (by decide) (k9o_eq k9e_46_16 ?_)))
    by_cases e : p_jn 3 c
    · rw [if_pos e]
      have t : ∀ x0, k9_ok (k9_R S d 46 25 [some (k9_i x0), some (k9_i (p_lx c))] [] I J) (fun q => q = (some (k9_i (nI 1)), I, J)) := fun x0 => k9o_eq k9e_46_25 (k9o_eq k9e_46_28 (k9o_T (by decide) (k9o_ret rfl)))
      exact k9o_if (fun _ => t _) (fun g1 => k9o_eq k9e_46_19 (k9o_if (fun _ => t _) (fun g2 => k9o_eq k9e_46_22 (k9o_if (fun _ => t _) (fun g3 => absurd e (by simp only [p_jn]; omega))))))
    · rw [if_neg e]
      have e' : ¬ (c = 60 ∨ c = 61 ∨ c = 62) := fun z => e (by simp only [p_jn]; omega)
      exact k9o_F (by omega) (k9o_eq k9e_46_19 (k9o_F (by omega) (k9o_eq k9e_46_22 (k9o_F (by omega) (k9o_eq k9e_46_27 (k9o_eq k9e_46_28 (k9o_T (by decide) (k9o_ret rfl))))))))
  · refine k9o_F (by decide) (k9o_T (by decide) (k9o_eq k9e_46_9 ?_))
    by_cases e : p_jn 4 c
    · rw [if_pos e]
      have e' : c = 38 := by simp only [p_jn] at e; omega
      exact k9o_T (by omega) (k9o_eq k9e_46_12 (k9o_eq k9e_46_15 (k9o_T (by decide) (k9o_ret rfl))))
    · rw [if_neg e]
      have e' : ¬ c = 38 := fun z => e (by simp only [p_jn]; omega)
      exact k9o_F (by omega) (k9o_eq k9e_46_14 (k9o_eq k9e_46_15 (k9o_T (by decide) (k9o_ret rfl))))
  · refine k9o_T (by decide) (k9o_eq k9e_46_2 ?_)
    by_cases e : p_jn 5 c
    · rw [if_pos e]
      have e' : c = 124 := by simp only [p_jn] at e; omega
      exact k9o_T (by omega) (k9o_eq k9e_46_5 (k9o_eq k9e_46_8 (k9o_T (by decide) (k9o_ret rfl))))
    · rw [if_neg e]
      have e' : ¬ c = 124 := fun z => e (by simp only [p_jn]; omega)
      exact k9o_F (by omega) (k9o_eq k9e_46_7 (k9o_eq k9e_46_8 (k9o_T (by decide) (k9o_ret rfl))))
/-- a number is read -/
theorem k9s_40 (h : k9_Tc I n l a ts) (ha : a ≤ n) (ht : ts.length ≤ 120) : ∃ I', k9_R S (d + 1) 40 0 [some (k9_r 5 0), none, none] [] I J = some (none, I', J) ∧ k9_Tc I' n l (p_nu n l 4 0 a).2 (ts ++ [(p_nu n l 4 0 a).1]) ∧ k9_fx k9_Ftc I I' := by
  have key : ∀ k i v b I1, i + k = 4 → k9_Tc I1 n l b ts → b ≤ n → k9_fx k9_Ftc I I1 → ∃ I', k9_R S (d + 1) 40 4 [some (k9_r 5 0), some (k9_i (nI v)), some (k9_i (nI i))] [] I1 J = some (none, I', J) ∧ k9_Tc I' n l (p_nu n l k v b).2 (ts ++ [(p_nu n l k v b).1]) ∧ k9_fx k9_Ftc I I' := by
    intro k
    induction k with
    | zero =>
      intro i v b I1 hi hT hb hx
      obtain ⟨I2, e2, T2, x2⟩ := k9s_43 (S := S) (d := d) (J := J) (c := v) hT ht
      refine ⟨I2, k9o_of (k9o_eq k9e_40_4 (k9o_T (by rw [n_toInt (by omega)]; omega) (k9o_eq k9e_40_28 (k9o_call e2 ?_)))), T2, k9_fx_tr hx x2⟩
      simp only [k9_ps_n]
      exact k9o_eq k9e_40_31 (k9o_ret rfl)
    | succ k ih =>
      intro i v b I1 hi hT hb hx
      have hn := hT.1
      have hl := p_lt_o hT.2.1 b
      have e41 := k9s_41 (S := S) (d := d) (J := J) hT (by omega)
      have e44 := k9s_44 (S := S) (d := d) (I := I1) (J := J) hl
      rw [p_nu]
      by_cases c : 48 ≤ p_lt n l b ∧ p_lt n l b ≤ 57
      · rw [if_pos c]
        rw [if_pos c] at e44
        have hbn := p_lt_n (n := n) (l := l) (a := b) (by omega)
        obtain ⟨I2, e2, T2, x2⟩ := ih (i + 1) (10 * v + p_lt n l b - 48) (b + 1) (k9_u I1 5 0 4 (nI (b + 1))) (by omega) (k9_Tc_p hT _) hbn (k9_fx_u hx rfl)
        refine ⟨I2, ?_, T2, x2⟩
        refine k9o_of (k9o_eq k9e_40_4 (k9o_F (by rw [n_toInt (by omega)]; omega) (k9o_eq k9e_40_7 (k9o_call e41 ?_))))
        simp only [k9_ps_s]
        refine k9o_eq k9e_40_9 (k9o_call e44 ?_)
        simp only [k9_ps_s]
        refine k9o_eq k9e_40_10 (k9o_F (by decide) (k9o_eq k9e_40_11 (k9o_call e41 ?_)))
        simp only [k9_ps_s]
        refine k9o_eq k9e_40_16 ?_
        rw [p_lx_n (show p_lt n l b ≤ 255 by omega), hT.2.2.2.2.1, nI_1, nI_1, show nI v * (10 : Int32) = nI (v * 10) from n_mul v 10, nI_add, show (48 : Int32) = nI 48 from rfl, n_sub (by omega), Nat.mul_comm v 10]
        exact k9o_to e2 rfl
      · rw [if_neg c]
        rw [if_neg c] at e44
        obtain ⟨I2, e2, T2, x2⟩ := k9s_43 (S := S) (d := d) (J := J) (c := v) hT ht
        refine ⟨I2, ?_, T2, k9_fx_tr hx x2⟩
        refine k9o_of (k9o_eq k9e_40_4 (k9o_F (by rw [n_toInt (by omega)]; omega) (k9o_eq k9e_40_7 (k9o_call e41 ?_))))
        simp only [k9_ps_s]
        refine k9o_eq k9e_40_9 (k9o_call e44 ?_)
        simp only [k9_ps_s]
        refine k9o_eq k9e_40_10 (k9o_T (by decide) (k9o_eq k9e_40_28 (k9o_call e2 ?_)))
        simp only [k9_ps_n]
        exact k9o_eq k9e_40_31 (k9o_ret rfl)
  rw [k9e_40_0]
  exact key 4 0 0 a I (by omega) h ha (k9_fx_rf _ _)
end KV2

/-! THE LAW'S TEXT: the class reads levels and operands -/
section KV3
variable {S : k9_S} {d : Nat} {I I' : k9_I} {J J' : k9_J} {n a c f lv op : Nat} {l : Nat → Nat} {ts : List Nat}
def k9a_T1 (S : k9_S) (n : Nat) (l : Nat → Nat) (f : Nat) : Prop := ∀ (d : Nat) (I : k9_I) (J : k9_J) (lv op a : Nat) (ts : List Nat), k9_Tc I n l a ts → a ≤ n → ts.length ≤ a → lv ≤ 5 → op ≤ 6 → (6 - op) * 6 + lv < f → ∃ I', k9_R S (d + 2 * f + 4) 38 0 [some (k9_r 5 0), some (k9_i (nI (5 - lv))), some (k9_i (nI op)), none, none, none] [] I J = some (some (k9_i (nI (p_b (p_rd n l f lv op a).1))), I', J) ∧ k9_Tc I' n l (p_rd n l f lv op a).2.1 (ts ++ (p_rd n l f lv op a).2.2) ∧ k9_fx k9_Ftc I I'
def k9_T0 (S : k9_S) (n : Nat) (l : Nat → Nat) (f : Nat) : Prop := ∀ (d : Nat) (I : k9_I) (J : k9_J) (op a : Nat) (ts : List Nat), k9_Tc I n l a ts → a ≤ n → ts.length ≤ a → op ≤ 6 → (6 - op) * 6 < f → ∃ I', k9_R S (d + 2 * f + 3) 39 0 [some (k9_r 5 0), some (k9_i (nI op)), none] [] I J = some (some (k9_i (nI (p_b (p_rd n l f 0 op a).1))), I', J) ∧ k9_Tc I' n l (p_rd n l f 0 op a).2.1 (ts ++ (p_rd n l f 0 op a).2.2) ∧ k9_fx k9_Ftc I I'
theorem p_b_T {b : Bool} (h : b = true) : p_b b = 1 := if_pos h
theorem p_b_F {b : Bool} (h : ¬ b = true) : p_b b = 0 := if_neg h
/-- an operand -/
theorem k9s_39 (h1 : k9a_T1 S n l f) (h0 : k9_T0 S n l f) : k9_T0 S n l (f + 1) := by
  intro d I J op a ts hT ha hts hop hf
  have hn := hT.1
  have hl := p_lt_o hT.2.1 a
  have e41 := k9s_41 (S := S) (d := d + 2 * f + 4) (J := J) hT (by omega)
  have e44 := k9s_44 (S := S) (d := d + 2 * f + 4) (I := I) (J := J) hl
  have e45 := k9s_45 (S := S) (d := d + 2 * f + 4) (I := I) (J := J) hl
  have h5 := hT.2.2.2.2.1
  rw [show d + 2 * (f + 1) + 3 = d + 2 * f + 4 + 1 by omega, p_rd]
  have st : ∀ {Q : k9_A → Prop}, k9_ok (k9_R S (d + 2 * f + 4 + 1) 39 5 [some (k9_r 5 0), some (k9_i (nI op)), some (k9_i (p_lx (p_lt n l a)))] [k9_i (nI (if 48 ≤ p_lt n l a ∧ p_lt n l a ≤ 57 then 1 else 0))] I J) Q → k9_ok (k9_R S (d + 2 * f + 4 + 1) 39 0 [some (k9_r 5 0), some (k9_i (nI op)), none] [] I J) Q := by
    intro Q g
    refine k9o_eq k9e_39_0 (k9o_call e41 ?_)
    simp only [k9_ps_s]
    refine k9o_eq k9e_39_2 (k9o_call e44 ?_)
    simp only [k9_ps_s]
    exact g
  unfold p_od
  by_cases c1 : 48 ≤ p_lt n l a ∧ p_lt n l a ≤ 57
  · rw [if_pos c1]
    rw [if_pos c1] at st
    obtain ⟨I2, e2, T2, x2⟩ := k9s_40 (S := S) (d := d + 2 * f + 3) (J := J) hT ha (by omega)
    refine ⟨I2, k9o_of (st (k9o_eq k9e_39_5 (k9o_F (by decide) (k9o_eq k9e_39_6 (k9o_call e2 ?_))))), T2, x2⟩
    simp only [k9_ps_n]
    exact k9o_eq k9e_39_8 (k9o_ret rfl)
  · rw [if_neg c1]
    rw [if_neg c1] at st
    have st2 : ∀ {Q : k9_A → Prop}, k9_ok (k9_R S (d + 2 * f + 4 + 1) 39 12 [some (k9_r 5 0), some (k9_i (nI op)), some (k9_i (p_lx (p_lt n l a)))] [k9_i (nI (if p_na (p_lt n l a) then 1 else 0))] I J) Q → k9_ok (k9_R S (d + 2 * f + 4 + 1) 39 0 [some (k9_r 5 0), some (k9_i (nI op)), none] [] I J) Q := by
      intro Q g
      refine st (k9o_eq k9e_39_5 (k9o_T (by decide) (k9o_eq k9e_39_10 (k9o_call e45 ?_))))
      simp only [k9_ps_s]
      exact g
    by_cases c2 : p_na (p_lt n l a)
    · rw [if_pos c2]
      rw [if_pos c2] at st2
      have c2' : p_lt n l a ≤ 255 := by simp only [p_na] at c2; omega
      obtain ⟨I2, e2, T2, x2⟩ := k9s_43 (S := S) (d := d + 2 * f + 4) (J := J) (c := 10000 + p_lt n l a) (k9_Tc_p hT (a + 1)) (by omega)
      refine ⟨I2, k9o_of (st2 (k9o_eq k9e_39_12 (k9o_F (by decide) (k9o_eq k9e_39_13 ?_)))), T2, k9_fx_tr (k9_fx_u (k9_fx_rf _ _) rfl) x2⟩
      rw [p_lx_n c2', h5, nI_1, show (10000 : Int32) + nI (p_lt n l a) = nI (10000 + p_lt n l a) from nI_add 10000 _]
      refine k9o_call e2 ?_
      simp only [k9_ps_n]
      exact k9o_eq k9e_39_24 (k9o_ret rfl)
    · rw [if_neg c2]
      rw [if_neg c2] at st2
      have st3 : ∀ {Q : k9_A → Prop}, k9_ok (k9_R S (d + 2 * f + 4 + 1) 39 26 [some (k9_r 5 0), some (k9_i (nI op)), some (k9_i (p_lx (p_lt n l a)))] [] I J) Q → k9_ok (k9_R S (d + 2 * f + 4 + 1) 39 0 [some (k9_r 5 0), some (k9_i (nI op)), none] [] I J) Q := fun g => st2 (k9o_eq k9e_39_12 (k9o_T (by decide) g))
      have no : k9_ok (k9_R S (d + 2 * f + 4 + 1) 39 38 [some (k9_r 5 0), some (k9_i (nI op)), some (k9_i (p_lx (p_lt n l a)))] [] I J) (fun q => q = (some (k9_i (nI 0)), I, J)) := k9o_eq k9e_39_38 (k9o_ret rfl)
      by_cases c3 : op < 6 ∧ p_lt n l a = 40
      · rw [if_pos c3]
        obtain ⟨k1, k2, k3, k4⟩ := p_rd_k n l f 5 (op + 1) (a + 1) (p_lt_n (n := n) (l := l) (by omega))
        obtain ⟨I2, e2, T2, x2⟩ := h1 d (k9_u I 5 0 4 (nI (a + 1))) J 5 (op + 1) (a + 1) ts (k9_Tc_p hT _) (p_lt_n (n := n) (l := l) (by omega)) (by omega) (by omega) (by omega) (by omega)
        have x2' : k9_fx k9_Ftc I I2 := k9_fx_tr (k9_fx_u (k9_fx_rf _ _) rfl) x2
        have go : ∀ {Q : k9_A → Prop}, k9_ok (k9_R S (d + 2 * f + 4 + 1) 39 55 [some (k9_r 5 0), some (k9_i (nI op)), some (k9_i (p_lx (p_lt n l a)))] [k9_i (nI (p_b (p_rd n l f 5 (op + 1) (a + 1)).1))] I2 J) Q → k9_ok (k9_R S (d + 2 * f + 4 + 1) 39 0 [some (k9_r 5 0), some (k9_i (nI op)), none] [] I J) Q := by
          intro Q g
          refine st3 (k9o_eq k9e_39_26 (k9o_T (by omega) (k9o_eq k9e_39_35 (k9o_T (by rw [n_toInt (by omega)]; omega) (k9o_eq k9e_39_40 (k9o_T (by omega) ?_))))))
          rw [h5, nI_1]
          refine k9o_eq k9e_39_49 ?_
          rw [nI_1]
          refine k9o_call e2 ?_
          simp only [k9_ps_s]
          exact g
        have no2 : ∀ I3 : k9_I, k9_ok (k9_R S (d + 2 * f + 4 + 1) 39 62 [some (k9_r 5 0), some (k9_i (nI op)), some (k9_i (p_lx (p_lt n l a)))] [] I3 J) (fun q => q = (some (k9_i (nI 0)), I3, J)) := fun I3 => k9o_eq k9e_39_62 (k9o_eq k9e_39_63 (k9o_T (by decide) (k9o_ret rfl)))
        by_cases r1 : (p_rd n l f 5 (op + 1) (a + 1)).1 = true
        · rw [p_b_T r1] at go
          have e42 := k9s_42 (S := S) (d := d + 2 * f + 3) (J := J) (c := 41) T2 (by omega) (by omega)
          by_cases r2 : p_lt n l (p_rd n l f 5 (op + 1) (a + 1)).2.1 = 41
          · rw [if_pos ⟨r1, r2⟩]
            rw [if_pos r2, if_pos r2] at e42
            refine ⟨_, k9o_of (go (k9o_eq k9e_39_55 (k9o_F (by decide) (k9o_eq k9e_39_56 (k9o_call e42 ?_))))), k9_Tc_p T2 _, k9_fx_u x2' rfl⟩
            simp only [k9_ps_s]
            exact k9o_eq k9e_39_59 (k9o_F (by decide) (k9o_eq k9e_39_60 (k9o_eq k9e_39_63 (k9o_T (by decide) (k9o_ret rfl)))))
          · rw [if_neg (fun z => r2 z.2)]
            rw [if_neg r2, if_neg r2] at e42
            refine ⟨I2, k9o_of (go (k9o_eq k9e_39_55 (k9o_F (by decide) (k9o_eq k9e_39_56 (k9o_call e42 ?_))))), T2, x2'⟩
            simp only [k9_ps_s]
            exact k9o_eq k9e_39_59 (k9o_T (by decide) (no2 I2))
        · rw [if_neg (fun z => r1 z.1)]
          rw [p_b_F r1] at go
          exact ⟨I2, k9o_of (go (k9o_eq k9e_39_55 (k9o_T (by decide) (no2 I2)))), T2, x2'⟩
      · rw [if_neg c3]
        by_cases c4 : op < 6 ∧ (p_lt n l a = 33 ∨ p_lt n l a = 45)
        · rw [if_pos c4]
          obtain ⟨k1, k2, k3, k4⟩ := p_rd_k n l f 0 (op + 1) (a + 1) (p_lt_n (n := n) (l := l) (by omega))
          obtain ⟨I2, e2, T2, x2⟩ := h0 (d + 1) (k9_u I 5 0 4 (nI (a + 1))) J (op + 1) (a + 1) ts (k9_Tc_p hT _) (p_lt_n (n := n) (l := l) (by omega)) (by omega) (by omega) (by omega)
          rw [show d + 1 + 2 * f + 3 = d + 2 * f + 4 by omega] at e2
          have x2' : k9_fx k9_Ftc I I2 := k9_fx_tr (k9_fx_u (k9_fx_rf _ _) rfl) x2
          have go : ∀ {Q : k9_A → Prop}, k9_ok (k9_R S (d + 2 * f + 4 + 1) 39 69 [some (k9_r 5 0), some (k9_i (nI op)), some (k9_i (p_lx (p_lt n l a)))] [k9_i (nI (p_b (p_rd n l f 0 (op + 1) (a + 1)).1))] I2 J) Q → k9_ok (k9_R S (d + 2 * f + 4 + 1) 39 0 [some (k9_r 5 0), some (k9_i (nI op)), none] [] I J) Q := by
            intro Q g
            have t35 : k9_ok (k9_R S (d + 2 * f + 4 + 1) 39 35 [some (k9_r 5 0), some (k9_i (nI op)), some (k9_i (p_lx (p_lt n l a)))] [] I J) Q := by
              refine k9o_eq k9e_39_35 (k9o_T (by rw [n_toInt (by omega)]; omega) (k9o_eq k9e_39_40 (k9o_F (by omega) ?_)))
              rw [h5, nI_1]
              refine k9o_eq k9e_39_64 ?_
              rw [nI_1]
              refine k9o_call e2 ?_
              simp only [k9_ps_s]
              exact g
            refine st3 (k9o_eq k9e_39_26 (k9o_F (by omega) (k9o_eq k9e_39_29 ?_)))
            by_cases c5 : p_lt n l a = 33
            · exact k9o_T (by omega) t35
            · exact k9o_F (by omega) (k9o_eq k9e_39_32 (k9o_T (by omega) t35))
          by_cases r1 : (p_rd n l f 0 (op + 1) (a + 1)).1 = true
          · rw [if_pos r1]
            rw [p_b_T r1] at go
            obtain ⟨I3, e3, T3, x3⟩ := k9s_43 (S := S) (d := d + 2 * f + 4) (J := J) (c := if p_lt n l a = 45 then 10126 else 10033) T2 (by rw [List.length_append]; omega)
            rw [List.append_assoc] at T3
            refine ⟨I3, k9o_of (go (k9o_eq k9e_39_69 (k9o_F (by decide) (k9o_eq k9e_39_72 ?_)))), T3, k9_fx_tr x2' x3⟩
            by_cases c5 : p_lt n l a = 45
            · rw [if_pos c5] at e3
              refine k9o_T (by omega) (k9o_eq k9e_39_76 (k9o_eq k9e_39_79 (k9o_call e3 ?_)))
              simp only [k9_ps_n]
              exact k9o_eq k9e_39_80 (k9o_ret rfl)
            · rw [if_neg c5] at e3
              refine k9o_F (by omega) (k9o_eq k9e_39_78 (k9o_eq k9e_39_79 (k9o_call e3 ?_)))
              simp only [k9_ps_n]
              exact k9o_eq k9e_39_80 (k9o_ret rfl)
          · rw [if_neg r1]
            rw [p_b_F r1] at go
            exact ⟨I2, k9o_of (go (k9o_eq k9e_39_69 (k9o_T (by decide) (k9o_eq k9e_39_70 (k9o_ret rfl))))), T2, x2'⟩
        · rw [if_neg c4]
          refine ⟨I, k9o_of (st3 ?_), by rw [List.append_nil]; exact hT, k9_fx_rf _ _⟩
          have t35 : 6 ≤ op → k9_ok (k9_R S (d + 2 * f + 4 + 1) 39 35 [some (k9_r 5 0), some (k9_i (nI op)), some (k9_i (p_lx (p_lt n l a)))] [] I J) (fun q => q = (some (k9_i (nI 0)), I, J)) := fun h6 => k9o_eq k9e_39_35 (k9o_F (by rw [n_toInt (by omega)]; omega) no)
          refine k9o_eq k9e_39_26 ?_
          by_cases d1 : p_lt n l a = 40
          · exact k9o_T (by omega) (t35 (by omega))
          · refine k9o_F (by omega) (k9o_eq k9e_39_29 ?_)
            by_cases d2 : p_lt n l a = 33
            · exact k9o_T (by omega) (t35 (by omega))
            · refine k9o_F (by omega) (k9o_eq k9e_39_32 ?_)
              by_cases d3 : p_lt n l a = 45
              · exact k9o_T (by omega) (t35 (by omega))
              · exact k9o_F (by omega) no
/-- a level -/
theorem k9s_38 (h1 : k9a_T1 S n l f) (h0 : k9_T0 S n l (f + 1)) : k9a_T1 S n l (f + 1) := by
  intro d I J lv op a ts hT ha hts hlv hop hf
  cases lv with
  | zero =>
    obtain ⟨I2, e2, T2, x2⟩ := h0 d I J op a ts hT ha hts hop (by omega)
    refine ⟨I2, k9o_of (k9o_eq k9e_38_0 (k9o_F (by decide) (k9o_eq k9e_38_3 (k9o_call e2 ?_)))), T2, x2⟩
    simp only [k9_ps_s]
    refine k9o_eq k9e_38_6 (k9o_T ?_ (k9o_ret rfl))
    unfold p_b
    split <;> decide
  | succ lv =>
    rw [show d + 2 * (f + 1) + 4 = d + 2 * f + 5 + 1 by omega, p_rd]
    have hn := hT.1
    obtain ⟨I1, e1, T1, x1⟩ := h1 (d + 1) I J lv op a ts hT ha hts (by omega) hop (by omega)
    rw [show d + 1 + 2 * f + 4 = d + 2 * f + 5 by omega] at e1
    have hk := p_rd_k n l f lv op
    obtain ⟨k1, k2, k3, k4⟩ := hk a ha
    have e5 : nI (5 - (lv + 1)) + 1 = nI (5 - lv) := by rw [nI_1, show 5 - (lv + 1) + 1 = 5 - lv by omega]
    unfold p_lc
    have go : ∀ {Q : k9_A → Prop}, k9_ok (k9_R S (d + 2 * f + 5 + 1) 38 13 [some (k9_r 5 0), some (k9_i (nI (5 - (lv + 1)))), some (k9_i (nI op)), none, none, none] [k9_i (nI (p_b (p_rd n l f lv op a).1))] I1 J) Q → k9_ok (k9_R S (d + 2 * f + 5 + 1) 38 0 [some (k9_r 5 0), some (k9_i (nI (5 - (lv + 1)))), some (k9_i (nI op)), none, none, none] [] I J) Q := by
      intro Q g
      refine k9o_eq k9e_38_0 (k9o_T (by rw [n_toInt (by omega)]; omega) (k9o_eq k9e_38_7 ?_))
      rw [e5]
      refine k9o_call e1 ?_
      simp only [k9_ps_s]
      exact g
    by_cases r1 : (p_rd n l f lv op a).1 = true
    · rw [if_pos r1]
      rw [p_b_T r1] at go
      have key : ∀ k i b (ts' : List Nat) I2, i + k = p_mo (lv + 1) → k9_Tc I2 n l b ts' → b ≤ n → ts'.length ≤ b → ∃ I3, k9_R S (d + 2 * f + 5 + 1) 38 25 [some (k9_r 5 0), some (k9_i (nI (5 - (lv + 1)))), some (k9_i (nI op)), some (k9_i (nI (p_mo (lv + 1)))), some (k9_i (nI i)), none] [] I2 J = some (some (k9_i (nI (p_b (p_lp n l (p_rd n l f lv op) (lv + 1) k b).1))), I3, J) ∧ k9_Tc I3 n l (p_lp n l (p_rd n l f lv op) (lv + 1) k b).2.1 (ts' ++ (p_lp n l (p_rd n l f lv op) (lv + 1) k b).2.2) ∧ k9_fx k9_Ftc I2 I3 := by
        have hmo : p_mo (lv + 1) ≤ 120 := by unfold p_mo; split <;> omega
        intro k
        induction k with
        | zero =>
          intro i b ts' I2 hi T2 hb ht
          obtain rfl : i = p_mo (lv + 1) := by omega
          exact ⟨I2, k9o_of (k9o_eq k9e_38_25 (k9o_T (by omega) (k9o_eq k9e_38_58 (k9o_ret rfl)))), by rw [p_lp, List.append_nil]; exact T2, k9_fx_rf _ _⟩
        | succ k ih =>
          intro i b ts' I2 hi T2 hb ht
          have hl := p_lt_o T2.2.1 b
          have e41 := k9s_41 (S := S) (d := d + 2 * f + 5) (J := J) T2 (by omega)
          have e46 := k9s_46 (S := S) (d := d + 2 * f + 5) (I := I2) (J := J) (lv := lv + 1) (by omega) hlv hl
          have st : ∀ {Q : k9_A → Prop}, k9_ok (k9_R S (d + 2 * f + 5 + 1) 38 32 [some (k9_r 5 0), some (k9_i (nI (5 - (lv + 1)))), some (k9_i (nI op)), some (k9_i (nI (p_mo (lv + 1)))), some (k9_i (nI i)), none] [k9_i (nI (if p_jn (lv + 1) (p_lt n l b) then 1 else 0))] I2 J) Q → k9_ok (k9_R S (d + 2 * f + 5 + 1) 38 25 [some (k9_r 5 0), some (k9_i (nI (5 - (lv + 1)))), some (k9_i (nI op)), some (k9_i (nI (p_mo (lv + 1)))), some (k9_i (nI i)), none] [] I2 J) Q := by
            intro Q g
            refine k9o_eq k9e_38_25 (k9o_F (by rw [n_toInt (by omega), n_toInt (by omega)]; omega) (k9o_eq k9e_38_28 (k9o_call e41 ?_)))
            simp only [k9_ps_s]
            refine k9o_eq k9e_38_31 (k9o_call e46 ?_)
            simp only [k9_ps_s]
            exact g
          rw [p_lp]
          by_cases c : p_jn (lv + 1) (p_lt n l b)
          · rw [if_pos c]
            rw [if_pos c] at st
            have c255 : p_lt n l b ≤ 255 := by simp only [p_jn] at c; omega
            have hbn : b < n := p_lt_n (n := n) (l := l) (by omega)
            obtain ⟨I4, e4, T4, x4⟩ := h1 (d + 1) (k9_u I2 5 0 4 (nI (b + 1))) J lv op (b + 1) ts' (k9_Tc_p T2 _) hbn (by omega) (by omega) hop (by omega)
            rw [show d + 1 + 2 * f + 4 = d + 2 * f + 5 by omega] at e4
            have x4' : k9_fx k9_Ftc I2 I4 := k9_fx_tr (k9_fx_u (k9_fx_rf _ _) rfl) x4
            obtain ⟨j1, j2, j3, j4⟩ := hk (b + 1) hbn
            have go2 : ∀ {Q : k9_A → Prop}, k9_ok (k9_R S (d + 2 * f + 5 + 1) 38 48 [some (k9_r 5 0), some (k9_i (nI (5 - (lv + 1)))), some (k9_i (nI op)), some (k9_i (nI (p_mo (lv + 1)))), some (k9_i (nI i)), some (k9_i (nI (p_lt n l b)))] [k9_i (nI (p_b (p_rd n l f lv op (b + 1)).1))] I4 J) Q → k9_ok (k9_R S (d + 2 * f + 5 + 1) 38 25 [some (k9_r 5 0), some (k9_i (nI (5 - (lv + 1)))), some (k9_i (nI op)), some (k9_i (nI (p_mo (lv + 1)))), some (k9_i (nI i)), none] [] I2 J) Q := by
              intro Q g
              refine st (k9o_eq k9e_38_32 (k9o_F (by decide) (k9o_eq k9e_38_33 (k9o_call e41 ?_))))
              simp only [k9_ps_s]
              refine k9o_eq k9e_38_35 ?_
              rw [e5, T2.2.2.2.2.1, nI_1, p_lx_n c255]
              refine k9o_call e4 ?_
              simp only [k9_ps_s]
              exact g
            by_cases r2 : (p_rd n l f lv op (b + 1)).1 = true
            · rw [if_pos r2]
              rw [p_b_T r2] at go2
              obtain ⟨I5, e6, T5, x5⟩ := k9s_43 (S := S) (d := d + 2 * f + 5) (J := J) (c := 10000 + p_lt n l b) T4 (by rw [List.length_append]; omega)
              obtain ⟨I6, e7, T6, x6⟩ := ih (i + 1) (p_rd n l f lv op (b + 1)).2.1 _ I5 (by omega) T5 j2 (by rw [List.length_append, List.length_append, List.length_singleton]; omega)
              rw [List.append_assoc, List.append_assoc, List.singleton_append] at T6
              refine ⟨I6, k9o_of (go2 (k9o_eq k9e_38_48 (k9o_F (by decide) (k9o_eq k9e_38_51 ?_)))), T6, k9_fx_tr (k9_fx_tr x4' x5) x6⟩
              rw [show (10000 : Int32) + nI (p_lt n l b) = nI (10000 + p_lt n l b) from nI_add 10000 _]
              refine k9o_call e6 ?_
              simp only [k9_ps_n]
              refine k9o_eq k9e_38_56 ?_
              rw [nI_1]
              exact k9o_to e7 rfl
            · rw [if_neg r2]
              rw [p_b_F r2] at go2
              exact ⟨I4, k9o_of (go2 (k9o_eq k9e_38_48 (k9o_T (by decide) (k9o_eq k9e_38_49 (k9o_ret rfl))))), T4, x4'⟩
          · rw [if_neg c]
            rw [if_neg c] at st
            exact ⟨I2, k9o_of (st (k9o_eq k9e_38_32 (k9o_T (by decide) (k9o_eq k9e_38_58 (k9o_ret rfl))))), by rw [List.append_nil]; exact T2, k9_fx_rf _ _⟩
      obtain ⟨I3, e3, T3, x3⟩ := key (p_mo (lv + 1)) 0 (p_rd n l f lv op a).2.1 _ I1 (by omega) T1 k2 (by rw [List.length_append]; omega)
      rw [List.append_assoc] at T3
      refine ⟨I3, k9o_of (go (k9o_eq k9e_38_13 (k9o_F (by decide) (k9o_eq k9e_38_16 ?_)))), T3, k9_fx_tr x1 x3⟩
      by_cases c3 : lv + 1 = 3
      · have em : p_mo (lv + 1) = 1 := if_pos c3
        rw [em] at e3
        refine k9o_T (by rw [n_toInt (by omega)]; omega) (k9o_eq k9e_38_19 (k9o_eq k9e_38_22 (k9o_to e3 ?_)))
        rw [em]
      · have em : p_mo (lv + 1) = 120 := if_neg c3
        rw [em] at e3
        refine k9o_F (by rw [n_toInt (by omega)]; omega) (k9o_eq k9e_38_21 (k9o_eq k9e_38_22 (k9o_to e3 ?_)))
        rw [em]
    · rw [if_neg r1]
      rw [p_b_F r1] at go
      exact ⟨I1, k9o_of (go (k9o_eq k9e_38_13 (k9o_T (by decide) (k9o_eq k9e_38_14 (k9o_ret rfl))))), T1, x1⟩
theorem k9_T_a (S : k9_S) (n : Nat) (l : Nat → Nat) (f : Nat) : k9a_T1 S n l f ∧ k9_T0 S n l f := by
  induction f with
  | zero => exact ⟨fun d I J lv op a ts _ _ _ _ _ h => absurd h (Nat.not_lt_zero _), fun d I J op a ts _ _ _ _ h => absurd h (Nat.not_lt_zero _)⟩
  | succ f ih =>
    have h0 := k9s_39 ih.1 ih.2
    exact ⟨k9s_38 ih.1 h0, h0⟩
end KV3

/-! THE LAW'S TEXT: the reference reads it -/
section KV4
variable {S : k9_S} {d : Nat} {I I' : k9_I} {J J' : k9_J} {n a c f lv op v : Nat} {l : Nat → Nat} {ts : List Nat}
/-- the reference's code of a token -/
def p_tkm (c : Nat) : Nat := if c < 10000 then 18 + c else if c = 10098 then 1 else if c = 10102 then 0 else if c = 10115 then 2 else if c = 10116 then 3 else if c = 10108 then 4 else if c = 10110 then 5 else if c = 10124 then 6 else if c = 10038 then 7 else if c = 10060 then 8 else if c = 10061 then 9 else if c = 10062 then 10 else if c = 10043 then 11 else if c = 10045 then 12 else if c = 10042 then 13 else if c = 10047 then 14 else if c = 10037 then 15 else if c = 10033 then 16 else 17
def k9_Tm (I : k9_I) (n : Nat) (l : Nat → Nat) (a op : Nat) (ts : List Nat) : Prop := n ≤ 120 ∧ (∀ p, p < n → l p ≤ 255) ∧ I 12 0 6 = nI n ∧ (∀ p, p < n → I 45 0 p = nI (l p)) ∧ I 12 0 14 = nI a ∧ I 12 0 16 = nI ts.length ∧ (∀ i, i < ts.length → I 53 0 i = nI (p_tkm (ts.getD i 0))) ∧ I 12 0 15 = nI op
def k9_Ftm (k _ p : Nat) : Bool := Nat.beq k 53 || (Nat.beq k 12 && (Nat.beq p 14 || Nat.beq p 15 || Nat.beq p 16))
theorem k9_Tm_p (h : k9_Tm I n l a op ts) (b : Nat) : k9_Tm (k9_u I 12 0 14 (nI b)) n l b op ts := by
  obtain ⟨h1, h2, h3, h4, h5, h6, h7, h8⟩ := h
  exact ⟨h1, h2, by simp [k9_ur, h3], fun p hp => by simp [k9_ur, h4 p hp], by simp [k9_ur], by simp [k9_ur, h6], fun i hi => by
    have := h7 i hi
    simpa [k9_ur] using this, by simp [k9_ur, h8]⟩
theorem k9_Tm_o (h : k9_Tm I n l a op ts) (b : Nat) : k9_Tm (k9_u I 12 0 15 (nI b)) n l a b ts := by
  obtain ⟨h1, h2, h3, h4, h5, h6, h7, h8⟩ := h
  exact ⟨h1, h2, by simp [k9_ur, h3], fun p hp => by simp [k9_ur, h4 p hp], by simp [k9_ur, h5], by simp [k9_ur, h6], fun i hi => by
    have := h7 i hi
    simpa [k9_ur] using this, by simp [k9_ur]⟩
theorem k9s_169 (h : k9_Tm I n l a op ts) (ha : a ≤ 120) : k9_R S d 169 0 [some (k9_r 12 0)] [] I J = some (some (k9_i (p_lx (p_lt n l a))), I, J) := by
  obtain ⟨h1, h2, h3, h4, h5, h6, h7, h8⟩ := h
  refine k9o_of (k9o_eq k9e_169_0 ?_)
  by_cases e : a < n
  · have el : p_lt n l a = l a := if_pos e
    have := h2 a e
    rw [el, p_lx_n (show l a ≤ 255 from this)]
    refine k9o_F (by rw [h3, h5, n_toInt (by omega), n_toInt (by omega)]; omega) (k9o_eq k9e_169_5 (k9o_T (by rw [h5, n_toInt (by omega)]; omega) ?_))
    rw [h5, n_cl (by omega), h4 a e]
    exact k9o_eq k9e_169_10 (k9o_eq k9e_169_12 (k9o_ret rfl))
  · have el : p_lt n l a = 999 := if_neg e
    rw [el]
    exact k9o_T (by rw [h3, h5, n_toInt (by omega), n_toInt (by omega)]; omega) (k9o_eq k9e_169_11 (k9o_eq k9e_169_12 (k9o_ret rfl)))
theorem k9s_170 (h : k9_Tm I n l a op ts) (ha : a ≤ 120) (hc : c ≤ 255) : k9_R S (d + 1) 170 0 [some (k9_r 12 0), some (k9_i (nI c))] [] I J = some (some (k9_i (nI (if p_lt n l a = c then 1 else 0))), (if p_lt n l a = c then k9_u I 12 0 14 (nI (a + 1)) else I), J) := by
  have hl := p_lt_o h.2.1 a
  have h5 := h.2.2.2.2.1
  refine k9o_of (k9o_eq k9e_170_0 (k9o_call (k9s_169 h ha) ?_))
  simp only [k9_ps_s]
  refine k9o_eq k9e_170_2 ?_
  by_cases e : p_lt n l a = c
  · rw [if_pos e, if_pos e]
    refine k9o_T (by rw [n_toInt (n := c) (by omega)]; omega) (k9o_eq k9e_170_6 (k9o_ret ?_))
    rw [h5, nI_1]
    rfl
  · rw [if_neg e, if_neg e]
    exact k9o_F (by rw [n_toInt (n := c) (by omega)]; omega) (k9o_eq k9e_170_4 (k9o_ret rfl))
theorem k9s_171 (h : k9_Tm I n l a op ts) (ht : ts.length < 200) : ∃ I', k9_R S d 171 0 [some (k9_r 12 0), some (k9_i (nI (p_tkm c)))] [] I J = some (some (k9_i (nI 1)), I', J) ∧ k9_Tm I' n l a op (ts ++ [c]) ∧ k9_fx k9_Ftm I I' := by
  obtain ⟨h1, h2, h3, h4, h5, h6, h7, h8⟩ := h
  refine ⟨k9_u (k9_u I 12 0 16 (nI (ts.length + 1))) 53 0 ts.length (nI (p_tkm c)), ?_, ⟨h1, h2, by simp [k9_ur, h3], fun p hp => by simp [k9_ur, h4 p hp], by simp [k9_ur, h5], by simp [k9_ur], fun i hi => ?_, by simp [k9_ur, h8]⟩, k9_fx_u (k9_fx_u (k9_fx_rf _ _) rfl) rfl⟩
  · refine k9o_of (k9o_eq k9e_171_0 ?_)
    rw [h6, nI_1]
    refine k9o_T (by rw [n_toInt (by omega)]; omega) ?_
    rw [n_cl (by omega)]
    exact k9o_eq k9e_171_11 (k9o_ret rfl)
  · rw [List.length_append, List.length_singleton] at hi
    by_cases e : i = ts.length
    · subst e
      simp [k9_ur, List.getD_eq_getElem?_getD]
    · have := h7 i (by omega)
      rw [show (ts ++ [c]).getD i 0 = ts.getD i 0 by simp [List.getD_eq_getElem?_getD, List.getElem?_append_left (show i < ts.length by omega)]]
      simpa [k9_ur, e] using this
theorem k9s_172 (h : k9_Tm I n l a op ts) (ha : a ≤ 120) : k9_R S (d + 1) 172 0 [some (k9_r 12 0)] [] I J = some (some (k9_i (nI (if 48 ≤ p_lt n l a ∧ p_lt n l a ≤ 57 then 1 else 0))), I, J) := by
  have hl := p_lt_o h.2.1 a
  have e169 := k9s_169 (S := S) (d := d) (J := J) h ha
  refine k9o_of (k9o_eq k9e_172_0 (k9o_call e169 ?_))
  simp only [k9_ps_s]
  refine k9o_eq k9e_172_2 ?_
  by_cases e : 48 ≤ p_lt n l a ∧ p_lt n l a ≤ 57
  · rw [if_pos e]
    refine k9o_F (by omega) (k9o_eq k9e_172_4 (k9o_call e169 ?_))
    simp only [k9_ps_s]
    exact k9o_eq k9e_172_6 (k9o_F (by omega) (k9o_eq k9e_172_8 (k9o_eq k9e_172_11 (k9o_T (by decide) (k9o_ret rfl)))))
  · rw [if_neg e]
    by_cases e2 : (p_lx (p_lt n l a)).toInt < 48
    · exact k9o_T e2 (k9o_eq k9e_172_10 (k9o_eq k9e_172_11 (k9o_T (by decide) (k9o_ret rfl))))
    · refine k9o_F e2 (k9o_eq k9e_172_4 (k9o_call e169 ?_))
      simp only [k9_ps_s]
      exact k9o_eq k9e_172_6 (k9o_T (by omega) (k9o_eq k9e_172_10 (k9o_eq k9e_172_11 (k9o_T (by decide) (k9o_ret rfl)))))
theorem k9s_173 (hl : (c = 999 ∧ (p_lx c).toInt = -1) ∨ (c ≤ 255 ∧ (p_lx c).toInt = (c : Int))) : k9_R S d 173 0 [some (k9_i (p_lx c))] [] I J = some (some (k9_i (if p_na c then nI (p_tkm (10000 + c)) else -1)), I, J) := by
  refine k9o_of (k9o_eq k9e_173_0 ?_)
  by_cases e : p_na c
  · rw [if_pos e]
    rcases e with rfl | rfl | rfl | rfl | rfl | rfl
    all_goals repeat (first | ((with_reducible refine k9q_T ?_ ?_); · omega) | ((with_reducible refine k9q_F ?_ ?_); · omega) | ((with_reducible refine k9q_Tb ?_ ?_); · omega) | ((with_reducible refine k9q_Fb ?_ ?_); · omega))
    · exact k9o_eq k9e_173_2 (k9o_ret rfl)
    · exact k9o_eq k9e_173_4 (k9o_ret rfl)
    · exact k9o_eq k9e_173_6 (k9o_ret rfl)
    · exact k9o_eq k9e_173_8 (k9o_ret rfl)
    · exact k9o_eq k9e_173_10 (k9o_ret rfl)
    · exact k9o_eq k9e_173_12 (k9o_ret rfl)
  · rw [if_neg e]
    have e' : ¬ (c = 98 ∨ c = 102 ∨ c = 115 ∨ c = 116 ∨ c = 108 ∨ c = 110) := e
    repeat' (first | ((with_reducible refine k9q_F ?_ ?_); · omega) | (with_reducible refine k9q_if (fun _ => ?_) (fun _ => ?_)))
    all_goals exact k9o_eq k9e_173_14 (k9o_ret rfl)
def k9_mL (lv : Nat) : List (Option k9_v) := if lv = 0 then [none, none] else if lv ≤ 3 then [none] else []
def k9_M1 (S : k9_S) (n : Nat) (l : Nat → Nat) (f : Nat) : Prop := ∀ (d : Nat) (I : k9_I) (J : k9_J) (lv op a : Nat) (ts : List Nat), k9_Tm I n l a op ts → a ≤ n → ts.length ≤ a → lv ≤ 5 → op ≤ 6 → (6 - op) * 6 + lv < f → ∃ I', k9_R S (d + f + 3) (174 + lv) 0 (some (k9_r 12 0) :: k9_mL lv) [] I J = some (some (k9_i (nI (p_b (p_rd n l f lv op a).1))), I', J) ∧ k9_Tm I' n l (p_rd n l f lv op a).2.1 op (ts ++ (p_rd n l f lv op a).2.2) ∧ k9_fx k9_Ftm I I'
theorem k9s_175 (h1 : k9_M1 S n l f) (hT : k9_Tm I n l a op ts) (ha : a ≤ n) (hts : ts.length ≤ a) (hop : op ≤ 6) (hf : (6 - op) * 6 + 0 < f) : ∃ I', k9_R S (d + f + 4) 175 0 [some (k9_r 12 0), none] [] I J = some (some (k9_i (nI (p_b (p_lc n l (p_rd n l f 0 op) 1 a).1))), I', J) ∧ k9_Tm I' n l (p_lc n l (p_rd n l f 0 op) 1 a).2.1 op (ts ++ (p_lc n l (p_rd n l f 0 op) 1 a).2.2) ∧ k9_fx k9_Ftm I I' := by
  have sub : ∀ (I : k9_I) (a : Nat) (ts : List Nat), k9_Tm I n l a op ts → a ≤ n → ts.length ≤ a → ∃ I', k9_R S (d + f + 3) 174 0 [some (k9_r 12 0), none, none] [] I J = some (some (k9_i (nI (p_b (p_rd n l f 0 op a).1))), I', J) ∧ k9_Tm I' n l (p_rd n l f 0 op a).2.1 op (ts ++ (p_rd n l f 0 op a).2.2) ∧ k9_fx k9_Ftm I I' := fun I a ts g1 g2 g3 => h1 d I J 0 op a ts g1 g2 g3 (by omega) hop hf
  have hn := hT.1
  obtain ⟨I1, e1, T1, x1⟩ := sub I a ts hT ha hts
  have hk := p_rd_k n l f 0 op
  obtain ⟨k1, k2, k3, k4⟩ := hk a ha
  unfold p_lc
  by_cases r1 : (p_rd n l f 0 op a).1 = true
  · rw [if_pos r1]
    rw [p_b_T r1] at e1
    have stop : ∀ (b : Nat) (ts' : List Nat) (I2 : k9_I), k9_Tm I2 n l b op ts' → b ≤ n → ¬ p_jn 1 (p_lt n l b) → k9_ok (k9_R S (d + f + 4) 175 5 [some (k9_r 12 0), none] [] I2 J) (fun q => q = (some (k9_i (nI 1)), I2, J)) := by
      intro b ts' I2 T2 hb c
      have hl := p_lt_o T2.2.1 b
      have c' : ¬ (p_lt n l b = 42 ∨ p_lt n l b = 47 ∨ p_lt n l b = 37) := fun z => c (by simp only [p_jn]; omega)
      have e169 := k9s_169 (S := S) (d := d + f + 3) (J := J) T2 (by omega)
      refine k9o_eq k9e_175_5 (k9o_call e169 ?_)
      simp only [k9_ps_s]
      refine k9o_eq k9e_175_7 (k9o_F (by omega) ?_)
      refine k9o_eq k9e_175_11 (k9o_call e169 ?_)
      simp only [k9_ps_s]
      refine k9o_eq k9e_175_13 (k9o_F (by omega) ?_)
      refine k9o_eq k9e_175_17 (k9o_call e169 ?_)
      simp only [k9_ps_s]
      refine k9o_eq k9e_175_19 (k9o_F (by omega) ?_)
      exact k9o_eq k9e_175_23 (k9o_eq k9e_175_24 (k9o_F (by decide) (k9o_eq k9e_175_27 (k9o_ret rfl))))
    have step : ∀ (b : Nat) (ts' : List Nat) (I2 I4 : k9_I) (z : Nat) (Q : k9_A → Prop), k9_Tm I2 n l b op ts' → b ≤ n → p_jn 1 (p_lt n l b) → k9_R S (d + f + 3) 174 0 [some (k9_r 12 0), none, none] [] (k9_u I2 12 0 14 (nI (b + 1))) J = some (some (k9_i (nI z)), I4, J) → k9_ok (k9_R S (d + f + 4) 175 37 [some (k9_r 12 0), some (k9_i (nI (p_tkm (10000 + p_lt n l b))))] [k9_i (nI z)] I4 J) Q → k9_ok (k9_R S (d + f + 4) 175 5 [some (k9_r 12 0), none] [] I2 J) Q := by
      intro b ts' I2 I4 z Q T2 hb c e4 g
      have hl := p_lt_o T2.2.1 b
      have e169 := k9s_169 (S := S) (d := d + f + 3) (J := J) T2 (by omega)
      have c' : p_lt n l b = 42 ∨ p_lt n l b = 47 ∨ p_lt n l b = 37 := by simp only [p_jn] at c; omega
      have fin : ∀ (k : Nat), k ≤ 17 → k = p_tkm (10000 + p_lt n l b) → k9_ok (k9_R S (d + f + 4) 175 24 [some (k9_r 12 0), none] [k9_i (nI k)] I2 J) Q := by
        intro k hk17 ek
        refine k9o_eq k9e_175_24 (k9o_T (by rw [n_toInt (by omega)]; omega) (k9o_eq k9e_175_29 ?_))
        rw [T2.2.2.2.2.1, nI_1]
        refine k9o_call e4 ?_
        simp only [k9_ps_s]
        rw [ek]
        exact g
      rcases c' with c' | c' | c'
      · refine k9o_eq k9e_175_5 (k9o_call e169 ?_)
        simp only [k9_ps_s]
        refine k9o_eq k9e_175_7 (k9o_T (by omega) ?_)
        exact k9o_eq k9e_175_9 (fin 13 (by omega) (by rw [c']; rfl))
      · refine k9o_eq k9e_175_5 (k9o_call e169 ?_)
        simp only [k9_ps_s]
        refine k9o_eq k9e_175_7 (k9o_F (by omega) ?_)
        refine k9o_eq k9e_175_11 (k9o_call e169 ?_)
        simp only [k9_ps_s]
        refine k9o_eq k9e_175_13 (k9o_T (by omega) ?_)
        exact k9o_eq k9e_175_15 (fin 14 (by omega) (by rw [c']; rfl))
      · refine k9o_eq k9e_175_5 (k9o_call e169 ?_)
        simp only [k9_ps_s]
        refine k9o_eq k9e_175_7 (k9o_F (by omega) ?_)
        refine k9o_eq k9e_175_11 (k9o_call e169 ?_)
        simp only [k9_ps_s]
        refine k9o_eq k9e_175_13 (k9o_F (by omega) ?_)
        refine k9o_eq k9e_175_17 (k9o_call e169 ?_)
        simp only [k9_ps_s]
        refine k9o_eq k9e_175_19 (k9o_T (by omega) ?_)
        exact k9o_eq k9e_175_21 (fin 15 (by omega) (by rw [c']; rfl))
    have key : ∀ (k b : Nat) (ts' : List Nat) (I2 : k9_I), n ≤ b + k → k9_Tm I2 n l b op ts' → b ≤ n → ts'.length ≤ b → ∃ I3, k9_R S (d + f + 4) 175 5 [some (k9_r 12 0), none] [] I2 J = some (some (k9_i (nI (p_b (p_lp n l (p_rd n l f 0 op) 1 k b).1))), I3, J) ∧ k9_Tm I3 n l (p_lp n l (p_rd n l f 0 op) 1 k b).2.1 op (ts' ++ (p_lp n l (p_rd n l f 0 op) 1 k b).2.2) ∧ k9_fx k9_Ftm I2 I3 := by
      intro k
      induction k with
      | zero =>
        intro b ts' I2 hk T2 hb ht
        have el : p_lt n l b = 999 := if_neg (by omega)
        exact ⟨I2, k9o_of (stop b ts' I2 T2 hb (by rw [el]; decide)), by rw [p_lp, List.append_nil]; exact T2, k9_fx_rf _ _⟩
      | succ k ih =>
        intro b ts' I2 hkk T2 hb ht
        rw [p_lp]
        by_cases c : p_jn 1 (p_lt n l b)
        · rw [if_pos c]
          have hbn : b < n := p_lt_n (n := n) (l := l) (by simp only [p_jn] at c; omega)
          obtain ⟨I4, e4, T4, x4⟩ := sub (k9_u I2 12 0 14 (nI (b + 1))) (b + 1) ts' (k9_Tm_p T2 _) hbn (by omega)
          have x4' : k9_fx k9_Ftm I2 I4 := k9_fx_tr (k9_fx_u (k9_fx_rf _ _) rfl) x4
          obtain ⟨j1, j2, j3, j4⟩ := hk (b + 1) hbn
          by_cases r2 : (p_rd n l f 0 op (b + 1)).1 = true
          · rw [if_pos r2]
            rw [p_b_T r2] at e4
            obtain ⟨I5, e6, T5, x5⟩ := k9s_171 (S := S) (d := d + f + 3) (J := J) (c := 10000 + p_lt n l b) T4 (by rw [List.length_append]; omega)
            obtain ⟨I6, e7, T6, x6⟩ := ih (p_rd n l f 0 op (b + 1)).2.1 _ I5 (by omega) T5 j2 (by rw [List.length_append, List.length_append, List.length_singleton]; omega)
            rw [List.append_assoc, List.append_assoc, List.singleton_append] at T6
            refine ⟨I6, k9o_of (step b ts' I2 I4 1 _ T2 hb c e4 (k9o_eq k9e_175_37 (k9o_F (by decide) (k9o_eq k9e_175_40 (k9o_call e6 ?_))))), T6, k9_fx_tr (k9_fx_tr x4' x5) x6⟩
            simp only [k9_ps_s]
            exact k9o_eq k9e_175_43 (k9o_to e7 rfl)
          · rw [if_neg r2]
            rw [p_b_F r2] at e4
            exact ⟨I4, k9o_of (step b ts' I2 I4 0 _ T2 hb c e4 (k9o_eq k9e_175_37 (k9o_T (by decide) (k9o_eq k9e_175_38 (k9o_ret rfl))))), T4, x4'⟩
        · rw [if_neg c]
          exact ⟨I2, k9o_of (stop b ts' I2 T2 hb c), by rw [List.append_nil]; exact T2, k9_fx_rf _ _⟩
    obtain ⟨I3, e3, T3, x3⟩ := key 120 (p_rd n l f 0 op a).2.1 _ I1 (by omega) T1 k2 (by rw [List.length_append]; omega)
    rw [List.append_assoc] at T3
    refine ⟨I3, k9o_of (k9o_eq k9e_175_0 (k9o_call e1 ?_)), T3, k9_fx_tr x1 x3⟩
    simp only [k9_ps_s]
    exact k9o_eq k9e_175_2 (k9o_F (by decide) (k9o_to e3 rfl))
  · rw [if_neg r1]
    rw [p_b_F r1] at e1
    refine ⟨I1, k9o_of (k9o_eq k9e_175_0 (k9o_call e1 ?_)), T1, x1⟩
    simp only [k9_ps_s]
    exact k9o_eq k9e_175_2 (k9o_T (by decide) (k9o_eq k9e_175_3 (k9o_ret rfl)))
theorem k9s_176 (h1 : k9_M1 S n l f) (hT : k9_Tm I n l a op ts) (ha : a ≤ n) (hts : ts.length ≤ a) (hop : op ≤ 6) (hf : (6 - op) * 6 + 1 < f) : ∃ I', k9_R S (d + f + 4) 176 0 [some (k9_r 12 0), none] [] I J = some (some (k9_i (nI (p_b (p_lc n l (p_rd n l f 1 op) 2 a).1))), I', J) ∧ k9_Tm I' n l (p_lc n l (p_rd n l f 1 op) 2 a).2.1 op (ts ++ (p_lc n l (p_rd n l f 1 op) 2 a).2.2) ∧ k9_fx k9_Ftm I I' := by
  have sub : ∀ (I : k9_I) (a : Nat) (ts : List Nat), k9_Tm I n l a op ts → a ≤ n → ts.length ≤ a → ∃ I', k9_R S (d + f + 3) 175 0 [some (k9_r 12 0), none] [] I J = some (some (k9_i (nI (p_b (p_rd n l f 1 op a).1))), I', J) ∧ k9_Tm I' n l (p_rd n l f 1 op a).2.1 op (ts ++ (p_rd n l f 1 op a).2.2) ∧ k9_fx k9_Ftm I I' := fun I a ts g1 g2 g3 => h1 d I J 1 op a ts g1 g2 g3 (by omega) hop hf
  have hn := hT.1
  obtain ⟨I1, e1, T1, x1⟩ := sub I a ts hT ha hts
  have hk := p_rd_k n l f 1 op
  obtain ⟨k1, k2, k3, k4⟩ := hk a ha
  unfold p_lc
  by_cases r1 : (p_rd n l f 1 op a).1 = true
  · rw [if_pos r1]
    rw [p_b_T r1] at e1
    have stop : ∀ (b : Nat) (ts' : List Nat) (I2 : k9_I), k9_Tm I2 n l b op ts' → b ≤ n → ¬ p_jn 2 (p_lt n l b) → k9_ok (k9_R S (d + f + 4) 176 5 [some (k9_r 12 0), none] [] I2 J) (fun q => q = (some (k9_i (nI 1)), I2, J)) := by
      intro b ts' I2 T2 hb c
      have hl := p_lt_o T2.2.1 b
      have c' : ¬ (p_lt n l b = 43 ∨ p_lt n l b = 45) := fun z => c (by simp only [p_jn]; omega)
      have e169 := k9s_169 (S := S) (d := d + f + 3) (J := J) T2 (by omega)
      refine k9o_eq k9e_176_5 (k9o_call e169 ?_)
      simp only [k9_ps_s]
      refine k9o_eq k9e_176_7 (k9o_F (by omega) ?_)
      refine k9o_eq k9e_176_11 (k9o_call e169 ?_)
      simp only [k9_ps_s]
      refine k9o_eq k9e_176_13 (k9o_F (by omega) ?_)
      exact k9o_eq k9e_176_17 (k9o_eq k9e_176_18 (k9o_F (by decide) (k9o_eq k9e_176_21 (k9o_ret rfl))))
    have step : ∀ (b : Nat) (ts' : List Nat) (I2 I4 : k9_I) (z : Nat) (Q : k9_A → Prop), k9_Tm I2 n l b op ts' → b ≤ n → p_jn 2 (p_lt n l b) → k9_R S (d + f + 3) 175 0 [some (k9_r 12 0), none] [] (k9_u I2 12 0 14 (nI (b + 1))) J = some (some (k9_i (nI z)), I4, J) → k9_ok (k9_R S (d + f + 4) 176 31 [some (k9_r 12 0), some (k9_i (nI (p_tkm (10000 + p_lt n l b))))] [k9_i (nI z)] I4 J) Q → k9_ok (k9_R S (d + f + 4) 176 5 [some (k9_r 12 0), none] [] I2 J) Q := by
      intro b ts' I2 I4 z Q T2 hb c e4 g
      have hl := p_lt_o T2.2.1 b
      have e169 := k9s_169 (S := S) (d := d + f + 3) (J := J) T2 (by omega)
      have c' : p_lt n l b = 43 ∨ p_lt n l b = 45 := by simp only [p_jn] at c; omega
      have fin : ∀ (k : Nat), k ≤ 17 → k = p_tkm (10000 + p_lt n l b) → k9_ok (k9_R S (d + f + 4) 176 18 [some (k9_r 12 0), none] [k9_i (nI k)] I2 J) Q := by
        intro k hk17 ek
        refine k9o_eq k9e_176_18 (k9o_T (by rw [n_toInt (by omega)]; omega) (k9o_eq k9e_176_23 ?_))
        rw [T2.2.2.2.2.1, nI_1]
        refine k9o_call e4 ?_
        simp only [k9_ps_s]
        rw [ek]
        exact g
      rcases c' with c' | c'
      · refine k9o_eq k9e_176_5 (k9o_call e169 ?_)
        simp only [k9_ps_s]
        refine k9o_eq k9e_176_7 (k9o_T (by omega) ?_)
        exact k9o_eq k9e_176_9 (fin 11 (by omega) (by rw [c']; rfl))
      · refine k9o_eq k9e_176_5 (k9o_call e169 ?_)
        simp only [k9_ps_s]
        refine k9o_eq k9e_176_7 (k9o_F (by omega) ?_)
        refine k9o_eq k9e_176_11 (k9o_call e169 ?_)
        simp only [k9_ps_s]
        refine k9o_eq k9e_176_13 (k9o_T (by omega) ?_)
        exact k9o_eq k9e_176_15 (fin 12 (by omega) (by rw [c']; rfl))
    have key : ∀ (k b : Nat) (ts' : List Nat) (I2 : k9_I), n ≤ b + k → k9_Tm I2 n l b op ts' → b ≤ n → ts'.length ≤ b → ∃ I3, k9_R S (d + f + 4) 176 5 [some (k9_r 12 0), none] [] I2 J = some (some (k9_i (nI (p_b (p_lp n l (p_rd n l f 1 op) 2 k b).1))), I3, J) ∧ k9_Tm I3 n l (p_lp n l (p_rd n l f 1 op) 2 k b).2.1 op (ts' ++ (p_lp n l (p_rd n l f 1 op) 2 k b).2.2) ∧ k9_fx k9_Ftm I2 I3 := by
      intro k
      induction k with
      | zero =>
        intro b ts' I2 hk T2 hb ht
        have el : p_lt n l b = 999 := if_neg (by omega)
        exact ⟨I2, k9o_of (stop b ts' I2 T2 hb (by rw [el]; decide)), by rw [p_lp, List.append_nil]; exact T2, k9_fx_rf _ _⟩
      | succ k ih =>
        intro b ts' I2 hkk T2 hb ht
        rw [p_lp]
        by_cases c : p_jn 2 (p_lt n l b)
        · rw [if_pos c]
          have hbn : b < n := p_lt_n (n := n) (l := l) (by simp only [p_jn] at c; omega)
          obtain ⟨I4, e4, T4, x4⟩ := sub (k9_u I2 12 0 14 (nI (b + 1))) (b + 1) ts' (k9_Tm_p T2 _) hbn (by omega)
          have x4' : k9_fx k9_Ftm I2 I4 := k9_fx_tr (k9_fx_u (k9_fx_rf _ _) rfl) x4
          obtain ⟨j1, j2, j3, j4⟩ := hk (b + 1) hbn
          by_cases r2 : (p_rd n l f 1 op (b + 1)).1 = true
          · rw [if_pos r2]
            rw [p_b_T r2] at e4
            obtain ⟨I5, e6, T5, x5⟩ := k9s_171 (S := S) (d := d + f + 3) (J := J) (c := 10000 + p_lt n l b) T4 (by rw [List.length_append]; omega)
            obtain ⟨I6, e7, T6, x6⟩ := ih (p_rd n l f 1 op (b + 1)).2.1 _ I5 (by omega) T5 j2 (by rw [List.length_append, List.length_append, List.length_singleton]; omega)
            rw [List.append_assoc, List.append_assoc, List.singleton_append] at T6
            refine ⟨I6, k9o_of (step b ts' I2 I4 1 _ T2 hb c e4 (k9o_eq k9e_176_31 (k9o_F (by decide) (k9o_eq k9e_176_34 (k9o_call e6 ?_))))), T6, k9_fx_tr (k9_fx_tr x4' x5) x6⟩
            simp only [k9_ps_s]
            exact k9o_eq k9e_176_37 (k9o_to e7 rfl)
          · rw [if_neg r2]
            rw [p_b_F r2] at e4
            exact ⟨I4, k9o_of (step b ts' I2 I4 0 _ T2 hb c e4 (k9o_eq k9e_176_31 (k9o_T (by decide) (k9o_eq k9e_176_32 (k9o_ret rfl))))), T4, x4'⟩
        · rw [if_neg c]
          exact ⟨I2, k9o_of (stop b ts' I2 T2 hb c), by rw [List.append_nil]; exact T2, k9_fx_rf _ _⟩
    obtain ⟨I3, e3, T3, x3⟩ := key 120 (p_rd n l f 1 op a).2.1 _ I1 (by omega) T1 k2 (by rw [List.length_append]; omega)
    rw [List.append_assoc] at T3
    refine ⟨I3, k9o_of (k9o_eq k9e_176_0 (k9o_call e1 ?_)), T3, k9_fx_tr x1 x3⟩
    simp only [k9_ps_s]
    exact k9o_eq k9e_176_2 (k9o_F (by decide) (k9o_to e3 rfl))
  · rw [if_neg r1]
    rw [p_b_F r1] at e1
    refine ⟨I1, k9o_of (k9o_eq k9e_176_0 (k9o_call e1 ?_)), T1, x1⟩
    simp only [k9_ps_s]
    exact k9o_eq k9e_176_2 (k9o_T (by decide) (k9o_eq k9e_176_3 (k9o_ret rfl)))
theorem k9s_177 (h1 : k9_M1 S n l f) (hT : k9_Tm I n l a op ts) (ha : a ≤ n) (hts : ts.length ≤ a) (hop : op ≤ 6) (hf : (6 - op) * 6 + 2 < f) : ∃ I', k9_R S (d + f + 4) 177 0 [some (k9_r 12 0), none] [] I J = some (some (k9_i (nI (p_b (p_lc n l (p_rd n l f 2 op) 3 a).1))), I', J) ∧ k9_Tm I' n l (p_lc n l (p_rd n l f 2 op) 3 a).2.1 op (ts ++ (p_lc n l (p_rd n l f 2 op) 3 a).2.2) ∧ k9_fx k9_Ftm I I' := by
  have sub : ∀ (I : k9_I) (a : Nat) (ts : List Nat), k9_Tm I n l a op ts → a ≤ n → ts.length ≤ a → ∃ I', k9_R S (d + f + 3) 176 0 [some (k9_r 12 0), none] [] I J = some (some (k9_i (nI (p_b (p_rd n l f 2 op a).1))), I', J) ∧ k9_Tm I' n l (p_rd n l f 2 op a).2.1 op (ts ++ (p_rd n l f 2 op a).2.2) ∧ k9_fx k9_Ftm I I' := fun I a ts g1 g2 g3 => h1 d I J 2 op a ts g1 g2 g3 (by omega) hop hf
  have hn := hT.1
  obtain ⟨I1, e1, T1, x1⟩ := sub I a ts hT ha hts
  have hk := p_rd_k n l f 2 op
  obtain ⟨k1, k2, k3, k4⟩ := hk a ha
  unfold p_lc
  by_cases r1 : (p_rd n l f 2 op a).1 = true
  · rw [if_pos r1]
    rw [p_b_T r1] at e1
    have stop : ∀ (b : Nat) (ts' : List Nat) (I2 : k9_I), k9_Tm I2 n l b op ts' → b ≤ n → ¬ p_jn 3 (p_lt n l b) → k9_ok (k9_R S (d + f + 4) 177 5 [some (k9_r 12 0), none] [] I2 J) (fun q => q = (some (k9_i (nI 1)), I2, J)) := by
      intro b ts' I2 T2 hb c
      have hl := p_lt_o T2.2.1 b
      have c' : ¬ (p_lt n l b = 60 ∨ p_lt n l b = 61 ∨ p_lt n l b = 62) := fun z => c (by simp only [p_jn]; omega)
      have e169 := k9s_169 (S := S) (d := d + f + 3) (J := J) T2 (by omega)
      refine k9o_eq k9e_177_5 (k9o_call e169 ?_)
      simp only [k9_ps_s]
      refine k9o_eq k9e_177_7 (k9o_F (by omega) ?_)
      refine k9o_eq k9e_177_11 (k9o_call e169 ?_)
      simp only [k9_ps_s]
      refine k9o_eq k9e_177_13 (k9o_F (by omega) ?_)
      refine k9o_eq k9e_177_17 (k9o_call e169 ?_)
      simp only [k9_ps_s]
      refine k9o_eq k9e_177_19 (k9o_F (by omega) ?_)
      exact k9o_eq k9e_177_23 (k9o_eq k9e_177_24 (k9o_F (by decide) (k9o_eq k9e_177_27 (k9o_ret rfl))))
    have step : ∀ (b : Nat) (ts' : List Nat) (I2 I4 : k9_I) (z : Nat) (Q : k9_A → Prop), k9_Tm I2 n l b op ts' → b ≤ n → p_jn 3 (p_lt n l b) → k9_R S (d + f + 3) 176 0 [some (k9_r 12 0), none] [] (k9_u I2 12 0 14 (nI (b + 1))) J = some (some (k9_i (nI z)), I4, J) → k9_ok (k9_R S (d + f + 4) 177 37 [some (k9_r 12 0), some (k9_i (nI (p_tkm (10000 + p_lt n l b))))] [k9_i (nI z)] I4 J) Q → k9_ok (k9_R S (d + f + 4) 177 5 [some (k9_r 12 0), none] [] I2 J) Q := by
      intro b ts' I2 I4 z Q T2 hb c e4 g
      have hl := p_lt_o T2.2.1 b
      have e169 := k9s_169 (S := S) (d := d + f + 3) (J := J) T2 (by omega)
      have c' : p_lt n l b = 60 ∨ p_lt n l b = 61 ∨ p_lt n l b = 62 := by simp only [p_jn] at c; omega
      have fin : ∀ (k : Nat), k ≤ 17 → k = p_tkm (10000 + p_lt n l b) → k9_ok (k9_R S (d + f + 4) 177 24 [some (k9_r 12 0), none] [k9_i (nI k)] I2 J) Q := by
        intro k hk17 ek
        refine k9o_eq k9e_177_24 (k9o_T (by rw [n_toInt (by omega)]; omega) (k9o_eq k9e_177_29 ?_))
        rw [T2.2.2.2.2.1, nI_1]
        refine k9o_call e4 ?_
        simp only [k9_ps_s]
        rw [ek]
        exact g
      rcases c' with c' | c' | c'
      · refine k9o_eq k9e_177_5 (k9o_call e169 ?_)
        simp only [k9_ps_s]
        refine k9o_eq k9e_177_7 (k9o_T (by omega) ?_)
        exact k9o_eq k9e_177_9 (fin 8 (by omega) (by rw [c']; rfl))
      · refine k9o_eq k9e_177_5 (k9o_call e169 ?_)
        simp only [k9_ps_s]
        refine k9o_eq k9e_177_7 (k9o_F (by omega) ?_)
        refine k9o_eq k9e_177_11 (k9o_call e169 ?_)
        simp only [k9_ps_s]
        refine k9o_eq k9e_177_13 (k9o_T (by omega) ?_)
        exact k9o_eq k9e_177_15 (fin 9 (by omega) (by rw [c']; rfl))
      · refine k9o_eq k9e_177_5 (k9o_call e169 ?_)
        simp only [k9_ps_s]
        refine k9o_eq k9e_177_7 (k9o_F (by omega) ?_)
        refine k9o_eq k9e_177_11 (k9o_call e169 ?_)
        simp only [k9_ps_s]
        refine k9o_eq k9e_177_13 (k9o_F (by omega) ?_)
        refine k9o_eq k9e_177_17 (k9o_call e169 ?_)
        simp only [k9_ps_s]
        refine k9o_eq k9e_177_19 (k9o_T (by omega) ?_)
        exact k9o_eq k9e_177_21 (fin 10 (by omega) (by rw [c']; rfl))
    have key : ∀ (b : Nat) (ts' : List Nat) (I2 : k9_I), k9_Tm I2 n l b op ts' → b ≤ n → ts'.length ≤ b → ∃ I3, k9_R S (d + f + 4) 177 5 [some (k9_r 12 0), none] [] I2 J = some (some (k9_i (nI (p_b (p_lp n l (p_rd n l f 2 op) 3 1 b).1))), I3, J) ∧ k9_Tm I3 n l (p_lp n l (p_rd n l f 2 op) 3 1 b).2.1 op (ts' ++ (p_lp n l (p_rd n l f 2 op) 3 1 b).2.2) ∧ k9_fx k9_Ftm I2 I3 := by
      intro b ts' I2 T2 hb ht
      rw [p_lp]
      by_cases c : p_jn 3 (p_lt n l b)
      · rw [if_pos c]
        have hbn : b < n := p_lt_n (n := n) (l := l) (by simp only [p_jn] at c; omega)
        obtain ⟨I4, e4, T4, x4⟩ := sub (k9_u I2 12 0 14 (nI (b + 1))) (b + 1) ts' (k9_Tm_p T2 _) hbn (by omega)
        have x4' : k9_fx k9_Ftm I2 I4 := k9_fx_tr (k9_fx_u (k9_fx_rf _ _) rfl) x4
        obtain ⟨j1, j2, j3, j4⟩ := hk (b + 1) hbn
        by_cases r2 : (p_rd n l f 2 op (b + 1)).1 = true
        · rw [if_pos r2]
          rw [p_b_T r2] at e4
          obtain ⟨I5, e6, T5, x5⟩ := k9s_171 (S := S) (d := d + f + 3) (J := J) (c := 10000 + p_lt n l b) T4 (by rw [List.length_append]; omega)
          rw [List.append_assoc] at T5
          refine ⟨I5, k9o_of (step b ts' I2 I4 1 _ T2 hb c e4 (k9o_eq k9e_177_37 (k9o_F (by decide) (k9o_eq k9e_177_38 (k9o_call e6 ?_))))), T5, k9_fx_tr x4' x5⟩
          simp only [k9_ps_s]
          exact k9o_eq k9e_177_41 (k9o_F (by decide) (k9o_eq k9e_177_42 (k9o_eq k9e_177_45 (k9o_T (by decide) (k9o_ret rfl)))))
        · rw [if_neg r2]
          rw [p_b_F r2] at e4
          exact ⟨I4, k9o_of (step b ts' I2 I4 0 _ T2 hb c e4 (k9o_eq k9e_177_37 (k9o_T (by decide) (k9o_eq k9e_177_44 (k9o_eq k9e_177_45 (k9o_T (by decide) (k9o_ret rfl))))))), T4, x4'⟩
      · rw [if_neg c]
        exact ⟨I2, k9o_of (stop b ts' I2 T2 hb c), by rw [List.append_nil]; exact T2, k9_fx_rf _ _⟩
    obtain ⟨I3, e3, T3, x3⟩ := key (p_rd n l f 2 op a).2.1 _ I1 T1 k2 (by rw [List.length_append]; omega)
    rw [List.append_assoc] at T3
    refine ⟨I3, k9o_of (k9o_eq k9e_177_0 (k9o_call e1 ?_)), T3, k9_fx_tr x1 x3⟩
    simp only [k9_ps_s]
    exact k9o_eq k9e_177_2 (k9o_F (by decide) (k9o_to e3 rfl))
  · rw [if_neg r1]
    rw [p_b_F r1] at e1
    refine ⟨I1, k9o_of (k9o_eq k9e_177_0 (k9o_call e1 ?_)), T1, x1⟩
    simp only [k9_ps_s]
    exact k9o_eq k9e_177_2 (k9o_T (by decide) (k9o_eq k9e_177_3 (k9o_ret rfl)))
theorem k9s_178 (h1 : k9_M1 S n l f) (hT : k9_Tm I n l a op ts) (ha : a ≤ n) (hts : ts.length ≤ a) (hop : op ≤ 6) (hf : (6 - op) * 6 + 3 < f) : ∃ I', k9_R S (d + f + 4) 178 0 [some (k9_r 12 0)] [] I J = some (some (k9_i (nI (p_b (p_lc n l (p_rd n l f 3 op) 4 a).1))), I', J) ∧ k9_Tm I' n l (p_lc n l (p_rd n l f 3 op) 4 a).2.1 op (ts ++ (p_lc n l (p_rd n l f 3 op) 4 a).2.2) ∧ k9_fx k9_Ftm I I' := by
  have sub : ∀ (I : k9_I) (a : Nat) (ts : List Nat), k9_Tm I n l a op ts → a ≤ n → ts.length ≤ a → ∃ I', k9_R S (d + f + 3) 177 0 [some (k9_r 12 0), none] [] I J = some (some (k9_i (nI (p_b (p_rd n l f 3 op a).1))), I', J) ∧ k9_Tm I' n l (p_rd n l f 3 op a).2.1 op (ts ++ (p_rd n l f 3 op a).2.2) ∧ k9_fx k9_Ftm I I' := fun I a ts g1 g2 g3 => h1 d I J 3 op a ts g1 g2 g3 (by omega) hop hf
  have hn := hT.1
  obtain ⟨I1, e1, T1, x1⟩ := sub I a ts hT ha hts
  have hk := p_rd_k n l f 3 op
  obtain ⟨k1, k2, k3, k4⟩ := hk a ha
  unfold p_lc
  by_cases r1 : (p_rd n l f 3 op a).1 = true
  · rw [if_pos r1]
    rw [p_b_T r1] at e1
    have stop : ∀ (b : Nat) (ts' : List Nat) (I2 : k9_I), k9_Tm I2 n l b op ts' → b ≤ n → ¬ p_jn 4 (p_lt n l b) → k9_ok (k9_R S (d + f + 4) 178 5 [some (k9_r 12 0)] [] I2 J) (fun q => q = (some (k9_i (nI 1)), I2, J)) := by
      intro b ts' I2 T2 hb c
      have hl := p_lt_o T2.2.1 b
      have c' : ¬ p_lt n l b = 38 := fun z => c (by simp only [p_jn]; omega)
      have e170 := k9s_170 (S := S) (d := d + f + 2) (J := J) (c := 38) T2 (by omega) (by omega)
      rw [if_neg c', if_neg c'] at e170
      refine k9o_eq k9e_178_5 (k9o_call e170 ?_)
      simp only [k9_ps_s]
      exact k9o_eq k9e_178_8 (k9o_T (by decide) (k9o_eq k9e_178_19 (k9o_ret rfl)))
    have step : ∀ (b : Nat) (ts' : List Nat) (I2 I4 : k9_I) (z : Nat) (Q : k9_A → Prop), k9_Tm I2 n l b op ts' → b ≤ n → p_jn 4 (p_lt n l b) → k9_R S (d + f + 3) 177 0 [some (k9_r 12 0), none] [] (k9_u I2 12 0 14 (nI (b + 1))) J = some (some (k9_i (nI z)), I4, J) → k9_ok (k9_R S (d + f + 4) 178 11 [some (k9_r 12 0)] [k9_i (nI z)] I4 J) Q → k9_ok (k9_R S (d + f + 4) 178 5 [some (k9_r 12 0)] [] I2 J) Q := by
      intro b ts' I2 I4 z Q T2 hb c e4 g
      have c' : p_lt n l b = 38 := by simp only [p_jn] at c; omega
      have e170 := k9s_170 (S := S) (d := d + f + 2) (J := J) (c := 38) T2 (by omega) (by omega)
      rw [if_pos c', if_pos c'] at e170
      refine k9o_eq k9e_178_5 (k9o_call e170 ?_)
      simp only [k9_ps_s]
      refine k9o_eq k9e_178_8 (k9o_F (by decide) (k9o_eq k9e_178_9 (k9o_call e4 ?_)))
      simp only [k9_ps_s]
      exact g
    have key : ∀ (k b : Nat) (ts' : List Nat) (I2 : k9_I), n ≤ b + k → k9_Tm I2 n l b op ts' → b ≤ n → ts'.length ≤ b → ∃ I3, k9_R S (d + f + 4) 178 5 [some (k9_r 12 0)] [] I2 J = some (some (k9_i (nI (p_b (p_lp n l (p_rd n l f 3 op) 4 k b).1))), I3, J) ∧ k9_Tm I3 n l (p_lp n l (p_rd n l f 3 op) 4 k b).2.1 op (ts' ++ (p_lp n l (p_rd n l f 3 op) 4 k b).2.2) ∧ k9_fx k9_Ftm I2 I3 := by
      intro k
      induction k with
      | zero =>
        intro b ts' I2 hk T2 hb ht
        have el : p_lt n l b = 999 := if_neg (by omega)
        exact ⟨I2, k9o_of (stop b ts' I2 T2 hb (by rw [el]; decide)), by rw [p_lp, List.append_nil]; exact T2, k9_fx_rf _ _⟩
      | succ k ih =>
        intro b ts' I2 hkk T2 hb ht
        rw [p_lp]
        by_cases c : p_jn 4 (p_lt n l b)
        · rw [if_pos c]
          have hbn : b < n := p_lt_n (n := n) (l := l) (by simp only [p_jn] at c; omega)
          obtain ⟨I4, e4, T4, x4⟩ := sub (k9_u I2 12 0 14 (nI (b + 1))) (b + 1) ts' (k9_Tm_p T2 _) hbn (by omega)
          have x4' : k9_fx k9_Ftm I2 I4 := k9_fx_tr (k9_fx_u (k9_fx_rf _ _) rfl) x4
          obtain ⟨j1, j2, j3, j4⟩ := hk (b + 1) hbn
          by_cases r2 : (p_rd n l f 3 op (b + 1)).1 = true
          · rw [if_pos r2]
            rw [p_b_T r2] at e4
            obtain ⟨I5, e6, T5, x5⟩ := k9s_171 (S := S) (d := d + f + 3) (J := J) (c := 10000 + p_lt n l b) T4 (by rw [List.length_append]; omega)
            obtain ⟨I6, e7, T6, x6⟩ := ih (p_rd n l f 3 op (b + 1)).2.1 _ I5 (by omega) T5 j2 (by rw [List.length_append, List.length_append, List.length_singleton]; omega)
            have c' : p_lt n l b = 38 := by simp only [p_jn] at c; omega
            have e6 : k9_R S (d + f + 3) 171 0 [some (k9_r 12 0), some (k9_i 7)] [] I4 J = some (some (k9_i (nI 1)), I5, J) := by
              have et : p_tkm (10000 + p_lt n l b) = 7 := by rw [c']; rfl
              rw [et] at e6
              exact e6
            rw [List.append_assoc, List.append_assoc, List.singleton_append] at T6
            refine ⟨I6, k9o_of (step b ts' I2 I4 1 _ T2 hb c e4 (k9o_eq k9e_178_11 (k9o_F (by decide) (k9o_eq k9e_178_14 (k9o_call e6 ?_))))), T6, k9_fx_tr (k9_fx_tr x4' x5) x6⟩
            simp only [k9_ps_s]
            exact k9o_eq k9e_178_17 (k9o_to e7 rfl)
          · rw [if_neg r2]
            rw [p_b_F r2] at e4
            exact ⟨I4, k9o_of (step b ts' I2 I4 0 _ T2 hb c e4 (k9o_eq k9e_178_11 (k9o_T (by decide) (k9o_eq k9e_178_12 (k9o_ret rfl))))), T4, x4'⟩
        · rw [if_neg c]
          exact ⟨I2, k9o_of (stop b ts' I2 T2 hb c), by rw [List.append_nil]; exact T2, k9_fx_rf _ _⟩
    obtain ⟨I3, e3, T3, x3⟩ := key 120 (p_rd n l f 3 op a).2.1 _ I1 (by omega) T1 k2 (by rw [List.length_append]; omega)
    rw [List.append_assoc] at T3
    refine ⟨I3, k9o_of (k9o_eq k9e_178_0 (k9o_call e1 ?_)), T3, k9_fx_tr x1 x3⟩
    simp only [k9_ps_s]
    exact k9o_eq k9e_178_2 (k9o_F (by decide) (k9o_to e3 rfl))
  · rw [if_neg r1]
    rw [p_b_F r1] at e1
    refine ⟨I1, k9o_of (k9o_eq k9e_178_0 (k9o_call e1 ?_)), T1, x1⟩
    simp only [k9_ps_s]
    exact k9o_eq k9e_178_2 (k9o_T (by decide) (k9o_eq k9e_178_3 (k9o_ret rfl)))
theorem k9s_179 (h1 : k9_M1 S n l f) (hT : k9_Tm I n l a op ts) (ha : a ≤ n) (hts : ts.length ≤ a) (hop : op ≤ 6) (hf : (6 - op) * 6 + 4 < f) : ∃ I', k9_R S (d + f + 4) 179 0 [some (k9_r 12 0)] [] I J = some (some (k9_i (nI (p_b (p_lc n l (p_rd n l f 4 op) 5 a).1))), I', J) ∧ k9_Tm I' n l (p_lc n l (p_rd n l f 4 op) 5 a).2.1 op (ts ++ (p_lc n l (p_rd n l f 4 op) 5 a).2.2) ∧ k9_fx k9_Ftm I I' := by
  have sub : ∀ (I : k9_I) (a : Nat) (ts : List Nat), k9_Tm I n l a op ts → a ≤ n → ts.length ≤ a → ∃ I', k9_R S (d + f + 3) 178 0 [some (k9_r 12 0)] [] I J = some (some (k9_i (nI (p_b (p_rd n l f 4 op a).1))), I', J) ∧ k9_Tm I' n l (p_rd n l f 4 op a).2.1 op (ts ++ (p_rd n l f 4 op a).2.2) ∧ k9_fx k9_Ftm I I' := fun I a ts g1 g2 g3 => h1 d I J 4 op a ts g1 g2 g3 (by omega) hop hf
  have hn := hT.1
  obtain ⟨I1, e1, T1, x1⟩ := sub I a ts hT ha hts
  have hk := p_rd_k n l f 4 op
  obtain ⟨k1, k2, k3, k4⟩ := hk a ha
  unfold p_lc
  by_cases r1 : (p_rd n l f 4 op a).1 = true
  · rw [if_pos r1]
    rw [p_b_T r1] at e1
    have stop : ∀ (b : Nat) (ts' : List Nat) (I2 : k9_I), k9_Tm I2 n l b op ts' → b ≤ n → ¬ p_jn 5 (p_lt n l b) → k9_ok (k9_R S (d + f + 4) 179 5 [some (k9_r 12 0)] [] I2 J) (fun q => q = (some (k9_i (nI 1)), I2, J)) := by
      intro b ts' I2 T2 hb c
      have hl := p_lt_o T2.2.1 b
      have c' : ¬ p_lt n l b = 124 := fun z => c (by simp only [p_jn]; omega)
      have e170 := k9s_170 (S := S) (d := d + f + 2) (J := J) (c := 124) T2 (by omega) (by omega)
      rw [if_neg c', if_neg c'] at e170
      refine k9o_eq k9e_179_5 (k9o_call e170 ?_)
      simp only [k9_ps_s]
      exact k9o_eq k9e_179_8 (k9o_T (by decide) (k9o_eq k9e_179_19 (k9o_ret rfl)))
    have step : ∀ (b : Nat) (ts' : List Nat) (I2 I4 : k9_I) (z : Nat) (Q : k9_A → Prop), k9_Tm I2 n l b op ts' → b ≤ n → p_jn 5 (p_lt n l b) → k9_R S (d + f + 3) 178 0 [some (k9_r 12 0)] [] (k9_u I2 12 0 14 (nI (b + 1))) J = some (some (k9_i (nI z)), I4, J) → k9_ok (k9_R S (d + f + 4) 179 11 [some (k9_r 12 0)] [k9_i (nI z)] I4 J) Q → k9_ok (k9_R S (d + f + 4) 179 5 [some (k9_r 12 0)] [] I2 J) Q := by
      intro b ts' I2 I4 z Q T2 hb c e4 g
      have c' : p_lt n l b = 124 := by simp only [p_jn] at c; omega
      have e170 := k9s_170 (S := S) (d := d + f + 2) (J := J) (c := 124) T2 (by omega) (by omega)
      rw [if_pos c', if_pos c'] at e170
      refine k9o_eq k9e_179_5 (k9o_call e170 ?_)
      simp only [k9_ps_s]
      refine k9o_eq k9e_179_8 (k9o_F (by decide) (k9o_eq k9e_179_9 (k9o_call e4 ?_)))
      simp only [k9_ps_s]
      exact g
    have key : ∀ (k b : Nat) (ts' : List Nat) (I2 : k9_I), n ≤ b + k → k9_Tm I2 n l b op ts' → b ≤ n → ts'.length ≤ b → ∃ I3, k9_R S (d + f + 4) 179 5 [some (k9_r 12 0)] [] I2 J = some (some (k9_i (nI (p_b (p_lp n l (p_rd n l f 4 op) 5 k b).1))), I3, J) ∧ k9_Tm I3 n l (p_lp n l (p_rd n l f 4 op) 5 k b).2.1 op (ts' ++ (p_lp n l (p_rd n l f 4 op) 5 k b).2.2) ∧ k9_fx k9_Ftm I2 I3 := by
      intro k
      induction k with
      | zero =>
        intro b ts' I2 hk T2 hb ht
        have el : p_lt n l b = 999 := if_neg (by omega)
        exact ⟨I2, k9o_of (stop b ts' I2 T2 hb (by rw [el]; decide)), by rw [p_lp, List.append_nil]; exact T2, k9_fx_rf _ _⟩
      | succ k ih =>
        intro b ts' I2 hkk T2 hb ht
        rw [p_lp]
        by_cases c : p_jn 5 (p_lt n l b)
        · rw [if_pos c]
          have hbn : b < n := p_lt_n (n := n) (l := l) (by simp only [p_jn] at c; omega)
          obtain ⟨I4, e4, T4, x4⟩ := sub (k9_u I2 12 0 14 (nI (b + 1))) (b + 1) ts' (k9_Tm_p T2 _) hbn (by omega)
          have x4' : k9_fx k9_Ftm I2 I4 := k9_fx_tr (k9_fx_u (k9_fx_rf _ _) rfl) x4
          obtain ⟨j1, j2, j3, j4⟩ := hk (b + 1) hbn
          by_cases r2 : (p_rd n l f 4 op (b + 1)).1 = true
          · rw [if_pos r2]
            rw [p_b_T r2] at e4
            obtain ⟨I5, e6, T5, x5⟩ := k9s_171 (S := S) (d := d + f + 3) (J := J) (c := 10000 + p_lt n l b) T4 (by rw [List.length_append]; omega)
            obtain ⟨I6, e7, T6, x6⟩ := ih (p_rd n l f 4 op (b + 1)).2.1 _ I5 (by omega) T5 j2 (by rw [List.length_append, List.length_append, List.length_singleton]; omega)
            have c' : p_lt n l b = 124 := by simp only [p_jn] at c; omega
            have e6 : k9_R S (d + f + 3) 171 0 [some (k9_r 12 0), some (k9_i 6)] [] I4 J = some (some (k9_i (nI 1)), I5, J) := by
              have et : p_tkm (10000 + p_lt n l b) = 6 := by rw [c']; rfl
              rw [et] at e6
              exact e6
            rw [List.append_assoc, List.append_assoc, List.singleton_append] at T6
            refine ⟨I6, k9o_of (step b ts' I2 I4 1 _ T2 hb c e4 (k9o_eq k9e_179_11 (k9o_F (by decide) (k9o_eq k9e_179_14 (k9o_call e6 ?_))))), T6, k9_fx_tr (k9_fx_tr x4' x5) x6⟩
            simp only [k9_ps_s]
            exact k9o_eq k9e_179_17 (k9o_to e7 rfl)
          · rw [if_neg r2]
            rw [p_b_F r2] at e4
            exact ⟨I4, k9o_of (step b ts' I2 I4 0 _ T2 hb c e4 (k9o_eq k9e_179_11 (k9o_T (by decide) (k9o_eq k9e_179_12 (k9o_ret rfl))))), T4, x4'⟩
        · rw [if_neg c]
          exact ⟨I2, k9o_of (stop b ts' I2 T2 hb c), by rw [List.append_nil]; exact T2, k9_fx_rf _ _⟩
    obtain ⟨I3, e3, T3, x3⟩ := key 120 (p_rd n l f 4 op a).2.1 _ I1 (by omega) T1 k2 (by rw [List.length_append]; omega)
    rw [List.append_assoc] at T3
    refine ⟨I3, k9o_of (k9o_eq k9e_179_0 (k9o_call e1 ?_)), T3, k9_fx_tr x1 x3⟩
    simp only [k9_ps_s]
    exact k9o_eq k9e_179_2 (k9o_F (by decide) (k9o_to e3 rfl))
  · rw [if_neg r1]
    rw [p_b_F r1] at e1
    refine ⟨I1, k9o_of (k9o_eq k9e_179_0 (k9o_call e1 ?_)), T1, x1⟩
    simp only [k9_ps_s]
    exact k9o_eq k9e_179_2 (k9o_T (by decide) (k9o_eq k9e_179_3 (k9o_ret rfl)))
end KV4

/-! THE LAW'S TEXT: the reference reads operands -/
section KV5
variable {S : k9_S} {d : Nat} {I I' : k9_I} {J J' : k9_J} {n a c f lv op v : Nat} {l : Nat → Nat} {ts : List Nat}
theorem p_nu_v (n : Nat) (l : Nat → Nat) (k v a : Nat) : (p_nu n l k v a).1 + 1 ≤ (v + 1) * 10 ^ k := by
  induction k generalizing v a with
  | zero => simp [p_nu]
  | succ k ih =>
    rw [p_nu]
    split
    · next c =>
      refine Nat.le_trans (ih (10 * v + p_lt n l a - 48) (a + 1)) ?_
      rw [Nat.pow_succ, Nat.mul_comm (10 ^ k) 10, ← Nat.mul_assoc]
      exact Nat.mul_le_mul_right _ (by omega)
    · show v + 1 ≤ (v + 1) * 10 ^ (k + 1)
      exact Nat.le_mul_of_pos_right _ (Nat.pow_pos (by omega))
theorem p_nu_9 (n : Nat) (l : Nat → Nat) (a : Nat) : (p_nu n l 4 0 a).1 ≤ 9999 := by
  have := p_nu_v n l 4 0 a
  omega
/-- a number is read -/
theorem k9s_174n (h : k9_Tm I n l a op ts) (ha : a ≤ n) (ht : ts.length ≤ 120) : ∃ I', k9_R S (d + 2) 174 7 [some (k9_r 12 0), some (k9_i (nI 0)), some (k9_i (nI 0))] [] I J = some (some (k9_i (nI 1)), I', J) ∧ k9_Tm I' n l (p_nu n l 4 0 a).2 op (ts ++ [(p_nu n l 4 0 a).1]) ∧ k9_fx k9_Ftm I I' := by
  have e9 := p_nu_9 n l a
  have key : ∀ k i v b I1, i + k = 4 → p_nu n l k v b = p_nu n l 4 0 a → k9_Tm I1 n l b op ts → b ≤ n → k9_fx k9_Ftm I I1 → ∃ I', k9_R S (d + 2) 174 7 [some (k9_r 12 0), some (k9_i (nI v)), some (k9_i (nI i))] [] I1 J = some (some (k9_i (nI 1)), I', J) ∧ k9_Tm I' n l (p_nu n l 4 0 a).2 op (ts ++ [(p_nu n l 4 0 a).1]) ∧ k9_fx k9_Ftm I I' := by
    intro k
    have out : ∀ (i v b : Nat) (I1 : k9_I), (v, b) = p_nu n l 4 0 a → k9_Tm I1 n l b op ts → k9_fx k9_Ftm I I1 → ∃ I', (k9_R S (d + 2) 174 33 [some (k9_r 12 0), some (k9_i (nI v)), some (k9_i (nI i))] [] I1 J = some (some (k9_i (nI 1)), I', J)) ∧ k9_Tm I' n l (p_nu n l 4 0 a).2 op (ts ++ [(p_nu n l 4 0 a).1]) ∧ k9_fx k9_Ftm I I' := by
      intro i v b I1 e hT hx
      rw [← e]
      rw [← e] at e9
      have e9' : v ≤ 9999 := e9
      obtain ⟨I2, e2, T2, x2⟩ := k9s_171 (S := S) (d := d + 1) (J := J) (c := v) hT (by omega)
      rw [show p_tkm v = 18 + v from if_pos (by omega)] at e2
      refine ⟨I2, k9o_of (k9o_eq k9e_174_33 ?_), T2, k9_fx_tr hx x2⟩
      rw [show (18 : Int32) + nI v = nI (18 + v) from nI_add 18 v]
      refine k9o_call e2 ?_
      simp only [k9_ps_s]
      exact k9o_eq k9e_174_38 (k9o_T (by decide) (k9o_ret rfl))
    induction k with
    | zero =>
      intro i v b I1 hi e hT hb hx
      obtain ⟨I2, e2, T2, x2⟩ := out i v b I1 e hT hx
      exact ⟨I2, k9o_of (k9o_eq k9e_174_7 (k9o_T (by rw [n_toInt (by omega)]; omega) (k9o_to e2 rfl))), T2, x2⟩
    | succ k ih =>
      intro i v b I1 hi e hT hb hx
      have hn := hT.1
      have e172 := k9s_172 (S := S) (d := d) (J := J) hT (by omega)
      have st : ∀ {Q : k9_A → Prop}, k9_ok (k9_R S (d + 2) 174 12 [some (k9_r 12 0), some (k9_i (nI v)), some (k9_i (nI i))] [k9_i (nI (if 48 ≤ p_lt n l b ∧ p_lt n l b ≤ 57 then 1 else 0))] I1 J) Q → k9_ok (k9_R S (d + 2) 174 7 [some (k9_r 12 0), some (k9_i (nI v)), some (k9_i (nI i))] [] I1 J) Q := by
        intro Q g
        refine k9o_eq k9e_174_7 (k9o_F (by rw [n_toInt (by omega)]; omega) (k9o_eq k9e_174_10 (k9o_call e172 ?_)))
        simp only [k9_ps_s]
        exact g
      rw [p_nu] at e
      by_cases c : 48 ≤ p_lt n l b ∧ p_lt n l b ≤ 57
      · rw [if_pos c] at e st
        have hbn := p_lt_n (n := n) (l := l) (a := b) (by omega)
        have el : p_lt n l b = l b := if_pos hbn
        obtain ⟨I2, e2, T2, x2⟩ := ih (i + 1) (10 * v + p_lt n l b - 48) (b + 1) (k9_u I1 12 0 14 (nI (b + 1))) (by omega) e (k9_Tm_p hT _) hbn (k9_fx_u hx rfl)
        refine ⟨I2, k9o_of (st (k9o_eq k9e_174_12 (k9o_F (by decide) (k9o_eq k9e_174_13 (k9o_T (by rw [hT.2.2.2.2.1, n_toInt (by omega)]; omega) ?_))))), T2, x2⟩
        rw [hT.2.2.2.2.1, n_cl (by omega), hT.2.2.2.1 b hbn, ← el]
        refine k9o_eq k9e_174_21 ?_
        rw [hT.2.2.2.2.1, nI_1, nI_1, show (10 : Int32) * nI v = nI (10 * v) from n_mul 10 v, nI_add, show (48 : Int32) = nI 48 from rfl, n_sub (by omega)]
        exact k9o_to e2 rfl
      · rw [if_neg c] at e st
        obtain ⟨I2, e2, T2, x2⟩ := out i v b I1 e hT hx
        exact ⟨I2, k9o_of (st (k9o_eq k9e_174_12 (k9o_T (by decide) (k9o_to e2 rfl)))), T2, x2⟩
  exact key 4 0 0 a I (by omega) rfl h ha (k9_fx_rf _ _)
theorem k9s_174 (h1 : k9_M1 S n l f) (hT : k9_Tm I n l a op ts) (ha : a ≤ n) (hts : ts.length ≤ a) (hop : op ≤ 6) (hf : (6 - op) * 6 < f + 1) : ∃ I', k9_R S (d + f + 4) 174 0 [some (k9_r 12 0), none, none] [] I J = some (some (k9_i (nI (p_b (p_rd n l (f + 1) 0 op a).1))), I', J) ∧ k9_Tm I' n l (p_rd n l (f + 1) 0 op a).2.1 op (ts ++ (p_rd n l (f + 1) 0 op a).2.2) ∧ k9_fx k9_Ftm I I' := by
  have hn := hT.1
  have hl := p_lt_o hT.2.1 a
  have h15 := hT.2.2.2.2.2.2.2
  have h14 := hT.2.2.2.2.1
  have e172 := k9s_172 (S := S) (d := d + f + 2) (J := J) hT (by omega)
  have e169 := k9s_169 (S := S) (d := d + f + 3) (J := J) hT (by omega)
  have e173 := k9s_173 (S := S) (d := d + f + 3) (I := I) (J := J) hl
  rw [p_rd]
  unfold p_od
  by_cases c1 : 48 ≤ p_lt n l a ∧ p_lt n l a ≤ 57
  · rw [if_pos c1]
    rw [if_pos c1] at e172
    obtain ⟨I2, e2, T2, x2⟩ := k9s_174n (S := S) (d := d + f + 2) (J := J) hT ha (by omega)
    refine ⟨I2, k9o_of (k9o_eq k9e_174_0 (k9o_call e172 ?_)), T2, x2⟩
    simp only [k9_ps_s]
    exact k9o_eq k9e_174_2 (k9o_F (by decide) (k9o_eq k9e_174_3 (k9o_to e2 rfl)))
  · rw [if_neg c1]
    rw [if_neg c1] at e172
    have st : ∀ {Q : k9_A → Prop}, k9_ok (k9_R S (d + f + 4) 174 42 [some (k9_r 12 0), none, none] [k9_i (if p_na (p_lt n l a) then nI (p_tkm (10000 + p_lt n l a)) else -1)] I J) Q → k9_ok (k9_R S (d + f + 4) 174 0 [some (k9_r 12 0), none, none] [] I J) Q := by
      intro Q g
      refine k9o_eq k9e_174_0 (k9o_call e172 ?_)
      simp only [k9_ps_s]
      refine k9o_eq k9e_174_2 (k9o_T (by decide) (k9o_eq k9e_174_39 (k9o_call e169 ?_)))
      simp only [k9_ps_s]
      refine k9o_eq k9e_174_41 (k9o_call e173 ?_)
      simp only [k9_ps_s]
      exact g
    by_cases c2 : p_na (p_lt n l a)
    · rw [if_pos c2]
      rw [if_pos c2] at st
      have ht : p_tkm (10000 + p_lt n l a) ≤ 17 := by
        rcases c2 with e | e | e | e | e | e <;> rw [e] <;> decide
      obtain ⟨I2, e2, T2, x2⟩ := k9s_171 (S := S) (d := d + f + 3) (J := J) (c := 10000 + p_lt n l a) (k9_Tm_p hT (a + 1)) (by omega)
      refine ⟨I2, k9o_of (st (k9o_eq k9e_174_42 (k9o_F (by rw [n_toInt (by omega)]; omega) (k9o_eq k9e_174_45 ?_)))), T2, k9_fx_tr (k9_fx_u (k9_fx_rf _ _) rfl) x2⟩
      rw [h14, nI_1]
      refine k9o_call e2 ?_
      simp only [k9_ps_s]
      exact k9o_eq k9e_174_54 (k9o_T (by decide) (k9o_ret rfl))
    · rw [if_neg c2]
      rw [if_neg c2] at st
      have st2 : ∀ {Q : k9_A → Prop}, k9_ok (k9_R S (d + f + 4) 174 55 [some (k9_r 12 0), some (k9_i (-1)), none] [] I J) Q → k9_ok (k9_R S (d + f + 4) 174 0 [some (k9_r 12 0), none, none] [] I J) Q := fun g => st (k9o_eq k9e_174_42 (k9o_T (by decide) g))
      by_cases c6 : op = 6
      · rw [if_neg (show ¬ (op < 6 ∧ p_lt n l a = 40) by omega), if_neg (show ¬ (op < 6 ∧ (p_lt n l a = 33 ∨ p_lt n l a = 45)) by omega)]
        exact ⟨I, k9o_of (st2 (k9o_eq k9e_174_55 (k9o_T (by rw [h15, c6]; decide) (k9o_eq k9e_174_59 (k9o_ret rfl))))), by rw [List.append_nil]; exact hT, k9_fx_rf _ _⟩
      · obtain ⟨Io, hIo⟩ : ∃ Io, Io = k9_u I 12 0 15 (nI (op + 1)) := ⟨_, rfl⟩
        have To : k9_Tm Io n l a (op + 1) ts := by rw [hIo]; exact k9_Tm_o hT (op + 1)
        have xo : k9_fx k9_Ftm I Io := by rw [hIo]; exact k9_fx_u (k9_fx_rf _ _) rfl
        have out : ∀ (x : Nat) (I3 : k9_I) (b : Nat) (ts' : List Nat), x ≤ 1 → k9_Tm I3 n l b (op + 1) ts' → k9_ok (k9_R S (d + f + 4) 174 114 [some (k9_r 12 0), some (k9_i (-1)), some (k9_i (nI x))] [] I3 J) (fun q => q = (some (k9_i (nI x)), k9_u I3 12 0 15 (nI op), J)) := by
          intro x I3 b ts' hx T3
          refine k9o_eq k9e_174_114 (k9o_T (by rw [n_toInt (by omega)]; omega) (k9o_ret ?_))
          rw [T3.2.2.2.2.2.2.2, n_s1 (by omega), Nat.add_sub_cancel]
        have e170 : ∀ z, z ≤ 255 → k9_R S (d + f + 3) 170 0 [some (k9_r 12 0), some (k9_i (nI z))] [] Io J = some (some (k9_i (nI (if p_lt n l a = z then 1 else 0))), (if p_lt n l a = z then k9_u Io 12 0 14 (nI (a + 1)) else Io), J) := fun z hz => k9s_170 (S := S) (d := d + f + 2) (J := J) To (by omega) hz
        have st3 : ∀ {Q : k9_A → Prop}, k9_ok (k9_R S (d + f + 4) 174 70 [some (k9_r 12 0), some (k9_i (-1)), none] [k9_i (nI (if p_lt n l a = 33 then 1 else 0))] (if p_lt n l a = 33 then k9_u Io 12 0 14 (nI (a + 1)) else Io) J) Q → k9_ok (k9_R S (d + f + 4) 174 0 [some (k9_r 12 0), none, none] [] I J) Q := by
          intro Q g
          refine st2 (k9o_eq k9e_174_55 (k9o_F (by rw [h15, n_toInt (by omega)]; omega) (k9o_eq k9e_174_61 ?_)))
          rw [h15, nI_1, ← hIo]
          refine k9o_call (e170 33 (by omega)) ?_
          simp only [k9_ps_s]
          exact g
        have sub0 : a < n → ∃ I', k9_R S (d + f + 3) 174 0 [some (k9_r 12 0), none, none] [] (k9_u Io 12 0 14 (nI (a + 1))) J = some (some (k9_i (nI (p_b (p_rd n l f 0 (op + 1) (a + 1)).1))), I', J) ∧ k9_Tm I' n l (p_rd n l f 0 (op + 1) (a + 1)).2.1 (op + 1) (ts ++ (p_rd n l f 0 (op + 1) (a + 1)).2.2) ∧ k9_fx k9_Ftm (k9_u Io 12 0 14 (nI (a + 1))) I' := fun han => h1 d _ J 0 (op + 1) (a + 1) ts (k9_Tm_p To _) han (by omega) (by omega) (by omega) (by omega)
        have sub5 : a < n → ∃ I', k9_R S (d + f + 3) 179 0 [some (k9_r 12 0)] [] (k9_u Io 12 0 14 (nI (a + 1))) J = some (some (k9_i (nI (p_b (p_rd n l f 5 (op + 1) (a + 1)).1))), I', J) ∧ k9_Tm I' n l (p_rd n l f 5 (op + 1) (a + 1)).2.1 (op + 1) (ts ++ (p_rd n l f 5 (op + 1) (a + 1)).2.2) ∧ k9_fx k9_Ftm (k9_u Io 12 0 14 (nI (a + 1))) I' := fun han => h1 d _ J 5 (op + 1) (a + 1) ts (k9_Tm_p To _) han (by omega) (by omega) (by omega) (by omega)
        by_cases c3 : p_lt n l a = 40
        · rw [if_pos (show op < 6 ∧ p_lt n l a = 40 by omega)]
          have han := p_lt_n (n := n) (l := l) (a := a) (by omega)
          obtain ⟨I2, e2, T2, x2⟩ := sub5 han
          obtain ⟨k1, k2, k3, k4⟩ := p_rd_k n l f 5 (op + 1) (a + 1) han
          have x2' : k9_fx k9_Ftm I I2 := k9_fx_tr (k9_fx_u xo rfl) x2
          rw [if_neg (show ¬ p_lt n l a = 33 by omega), if_neg (show ¬ p_lt n l a = 33 by omega)] at st3
          have e45 := e170 45 (by omega)
          rw [if_neg (show ¬ p_lt n l a = 45 by omega), if_neg (show ¬ p_lt n l a = 45 by omega)] at e45
          have e40 := e170 40 (by omega)
          rw [if_pos c3, if_pos c3] at e40
          have go : ∀ {Q : k9_A → Prop}, k9_ok (k9_R S (d + f + 4) 174 105 [some (k9_r 12 0), some (k9_i (-1)), none] [k9_i (nI (p_b (p_rd n l f 5 (op + 1) (a + 1)).1))] I2 J) Q → k9_ok (k9_R S (d + f + 4) 174 0 [some (k9_r 12 0), none, none] [] I J) Q := by
            intro Q g
            refine st3 (k9o_eq k9e_174_70 (k9o_T (by decide) (k9o_eq k9e_174_83 (k9o_call e45 ?_))))
            simp only [k9_ps_s]
            refine k9o_eq k9e_174_86 (k9o_T (by decide) (k9o_eq k9e_174_99 (k9o_call e40 ?_)))
            simp only [k9_ps_s]
            refine k9o_eq k9e_174_102 (k9o_F (by decide) (k9o_eq k9e_174_103 (k9o_call e2 ?_)))
            simp only [k9_ps_s]
            exact g
          by_cases r1 : (p_rd n l f 5 (op + 1) (a + 1)).1 = true
          · rw [p_b_T r1] at go
            have e41 := k9s_170 (S := S) (d := d + f + 2) (J := J) (c := 41) T2 (by omega) (by omega)
            by_cases r2 : p_lt n l (p_rd n l f 5 (op + 1) (a + 1)).2.1 = 41
            · rw [if_pos ⟨r1, r2⟩]
              rw [if_pos r2, if_pos r2] at e41
              refine ⟨_, k9o_of (go (k9o_eq k9e_174_105 (k9o_F (by decide) (k9o_eq k9e_174_106 (k9o_call e41 ?_))))), k9_Tm_o (k9_Tm_p T2 _) op, k9_fx_u (k9_fx_u x2' rfl) rfl⟩
              simp only [k9_ps_s]
              exact k9o_eq k9e_174_109 (k9o_F (by decide) (k9o_eq k9e_174_110 (k9o_eq k9e_174_113 (out 1 _ _ _ (by omega) (k9_Tm_p T2 _)))))
            · rw [if_neg (fun z => r2 z.2)]
              rw [if_neg r2, if_neg r2] at e41
              refine ⟨_, k9o_of (go (k9o_eq k9e_174_105 (k9o_F (by decide) (k9o_eq k9e_174_106 (k9o_call e41 ?_))))), k9_Tm_o T2 op, k9_fx_u x2' rfl⟩
              simp only [k9_ps_s]
              exact k9o_eq k9e_174_109 (k9o_T (by decide) (k9o_eq k9e_174_112 (k9o_eq k9e_174_113 (out 0 _ _ _ (by omega) T2))))
          · rw [if_neg (fun z => r1 z.1)]
            rw [p_b_F r1] at go
            exact ⟨_, k9o_of (go (k9o_eq k9e_174_105 (k9o_T (by decide) (k9o_eq k9e_174_112 (k9o_eq k9e_174_113 (out 0 _ _ _ (by omega) T2)))))), k9_Tm_o T2 op, k9_fx_u x2' rfl⟩
        · rw [if_neg (show ¬ (op < 6 ∧ p_lt n l a = 40) by omega)]
          by_cases c4 : p_lt n l a = 33
          · rw [if_pos (show op < 6 ∧ (p_lt n l a = 33 ∨ p_lt n l a = 45) by omega)]
            have han := p_lt_n (n := n) (l := l) (a := a) (by omega)
            obtain ⟨I2, e2, T2, x2⟩ := sub0 han
            obtain ⟨k1, k2, k3, k4⟩ := p_rd_k n l f 0 (op + 1) (a + 1) han
            have x2' : k9_fx k9_Ftm I I2 := k9_fx_tr (k9_fx_u xo rfl) x2
            rw [if_pos c4, if_pos c4] at st3
            have go : ∀ {Q : k9_A → Prop}, k9_ok (k9_R S (d + f + 4) 174 73 [some (k9_r 12 0), some (k9_i (-1)), none] [k9_i (nI (p_b (p_rd n l f 0 (op + 1) (a + 1)).1))] I2 J) Q → k9_ok (k9_R S (d + f + 4) 174 0 [some (k9_r 12 0), none, none] [] I J) Q := by
              intro Q g
              refine st3 (k9o_eq k9e_174_70 (k9o_F (by decide) (k9o_eq k9e_174_71 (k9o_call e2 ?_))))
              simp only [k9_ps_s]
              exact g
            by_cases r1 : (p_rd n l f 0 (op + 1) (a + 1)).1 = true
            · rw [if_pos r1, if_neg (show ¬ p_lt n l a = 45 by omega)]
              rw [p_b_T r1] at go
              obtain ⟨I3, e3, T3, x3⟩ := k9s_171 (S := S) (d := d + f + 3) (J := J) (c := 10033) T2 (by rw [List.length_append]; omega)
              rw [List.append_assoc] at T3
              have e3' : k9_R S (d + f + 3) 171 0 [some (k9_r 12 0), some (k9_i 16)] [] I2 J = some (some (k9_i (nI 1)), I3, J) := e3
              refine ⟨_, k9o_of (go (k9o_eq k9e_174_73 (k9o_F (by decide) (k9o_eq k9e_174_74 (k9o_call e3' ?_))))), k9_Tm_o T3 op, k9_fx_u (k9_fx_tr x2' x3) rfl⟩
              simp only [k9_ps_s]
              exact k9o_eq k9e_174_77 (k9o_F (by decide) (k9o_eq k9e_174_78 (k9o_eq k9e_174_81 (out 1 _ _ _ (by omega) T3))))
            · rw [if_neg r1]
              rw [p_b_F r1] at go
              exact ⟨_, k9o_of (go (k9o_eq k9e_174_73 (k9o_T (by decide) (k9o_eq k9e_174_80 (k9o_eq k9e_174_81 (out 0 _ _ _ (by omega) T2)))))), k9_Tm_o T2 op, k9_fx_u x2' rfl⟩
          · rw [if_neg c4, if_neg c4] at st3
            have e45 := e170 45 (by omega)
            by_cases c5 : p_lt n l a = 45
            · rw [if_pos (show op < 6 ∧ (p_lt n l a = 33 ∨ p_lt n l a = 45) by omega)]
              rw [if_pos c5, if_pos c5] at e45
              have han := p_lt_n (n := n) (l := l) (a := a) (by omega)
              obtain ⟨I2, e2, T2, x2⟩ := sub0 han
              obtain ⟨k1, k2, k3, k4⟩ := p_rd_k n l f 0 (op + 1) (a + 1) han
              have x2' : k9_fx k9_Ftm I I2 := k9_fx_tr (k9_fx_u xo rfl) x2
              have go : ∀ {Q : k9_A → Prop}, k9_ok (k9_R S (d + f + 4) 174 89 [some (k9_r 12 0), some (k9_i (-1)), none] [k9_i (nI (p_b (p_rd n l f 0 (op + 1) (a + 1)).1))] I2 J) Q → k9_ok (k9_R S (d + f + 4) 174 0 [some (k9_r 12 0), none, none] [] I J) Q := by
                intro Q g
                refine st3 (k9o_eq k9e_174_70 (k9o_T (by decide) (k9o_eq k9e_174_83 (k9o_call e45 ?_))))
                simp only [k9_ps_s]
                refine k9o_eq k9e_174_86 (k9o_F (by decide) (k9o_eq k9e_174_87 (k9o_call e2 ?_)))
                simp only [k9_ps_s]
                exact g
              by_cases r1 : (p_rd n l f 0 (op + 1) (a + 1)).1 = true
              · rw [if_pos r1, if_pos c5]
                rw [p_b_T r1] at go
                obtain ⟨I3, e3, T3, x3⟩ := k9s_171 (S := S) (d := d + f + 3) (J := J) (c := 10126) T2 (by rw [List.length_append]; omega)
                rw [List.append_assoc] at T3
                have e3' : k9_R S (d + f + 3) 171 0 [some (k9_r 12 0), some (k9_i 17)] [] I2 J = some (some (k9_i (nI 1)), I3, J) := e3
                refine ⟨_, k9o_of (go (k9o_eq k9e_174_89 (k9o_F (by decide) (k9o_eq k9e_174_90 (k9o_call e3' ?_))))), k9_Tm_o T3 op, k9_fx_u (k9_fx_tr x2' x3) rfl⟩
                simp only [k9_ps_s]
                exact k9o_eq k9e_174_93 (k9o_F (by decide) (k9o_eq k9e_174_94 (k9o_eq k9e_174_97 (out 1 _ _ _ (by omega) T3))))
              · rw [if_neg r1]
                rw [p_b_F r1] at go
                exact ⟨_, k9o_of (go (k9o_eq k9e_174_89 (k9o_T (by decide) (k9o_eq k9e_174_96 (k9o_eq k9e_174_97 (out 0 _ _ _ (by omega) T2)))))), k9_Tm_o T2 op, k9_fx_u x2' rfl⟩
            · rw [if_neg (show ¬ (op < 6 ∧ (p_lt n l a = 33 ∨ p_lt n l a = 45)) by omega)]
              rw [if_neg c5, if_neg c5] at e45
              have e40 := e170 40 (by omega)
              rw [if_neg c3, if_neg c3] at e40
              refine ⟨_, k9o_of (st3 (k9o_eq k9e_174_70 (k9o_T (by decide) (k9o_eq k9e_174_83 (k9o_call e45 ?_))))), by rw [List.append_nil]; exact k9_Tm_o To op, k9_fx_u xo rfl⟩
              simp only [k9_ps_s]
              refine k9o_eq k9e_174_86 (k9o_T (by decide) (k9o_eq k9e_174_99 (k9o_call e40 ?_)))
              simp only [k9_ps_s]
              exact k9o_eq k9e_174_102 (k9o_T (by decide) (k9o_eq k9e_174_112 (k9o_eq k9e_174_113 (out 0 _ _ _ (by omega) To))))
theorem k9_M1_a (S : k9_S) (n : Nat) (l : Nat → Nat) (f : Nat) : k9_M1 S n l f := by
  induction f with
  | zero => exact fun d I J lv op a ts _ _ _ _ _ h => absurd h (Nat.not_lt_zero _)
  | succ f ih =>
    intro d I J lv op a ts hT ha hts hlv hop hf
    obtain rfl | rfl | rfl | rfl | rfl | rfl : lv = 0 ∨ lv = 1 ∨ lv = 2 ∨ lv = 3 ∨ lv = 4 ∨ lv = 5 := by omega
    · exact k9s_174 ih hT ha hts hop hf
    · rw [p_rd]
      exact k9s_175 ih hT ha hts hop (by omega)
    · rw [p_rd]
      exact k9s_176 ih hT ha hts hop (by omega)
    · rw [p_rd]
      exact k9s_177 ih hT ha hts hop (by omega)
    · rw [p_rd]
      exact k9s_178 ih hT ha hts hop (by omega)
    · rw [p_rd]
      exact k9s_179 ih hT ha hts hop (by omega)
end KV5

/-! THE LAW'S TEXT: lines, the class -/
section KV6
variable {S : k9_S} {d : Nat} {I I' : k9_I} {J J' : k9_J} {n a c f lv op v : Nat} {l : Nat → Nat} {ts : List Nat}
theorem p_rd_ne (n : Nat) (l : Nat → Nat) (f : Nat) : ∀ lv op a, (p_rd n l f lv op a).1 = true → (p_rd n l f lv op a).2.2 ≠ [] := by
  induction f with
  | zero =>
    intro lv op a h
    rw [p_rd] at h
    cases h
  | succ f ih =>
    intro lv op a
    cases lv with
    | zero =>
      rw [p_rd]
      unfold p_od
      by_cases c1 : 48 ≤ p_lt n l a ∧ p_lt n l a ≤ 57
      · rw [if_pos c1]
        intro _ z
        cases z
      · rw [if_neg c1]
        by_cases c2 : p_na (p_lt n l a)
        · rw [if_pos c2]
          intro _ z
          cases z
        · rw [if_neg c2]
          by_cases c3 : op < 6 ∧ p_lt n l a = 40
          · rw [if_pos c3]
            by_cases e : (p_rd n l f 5 (op + 1) (a + 1)).1 = true ∧ p_lt n l (p_rd n l f 5 (op + 1) (a + 1)).2.1 = 41
            · rw [if_pos e]
              exact fun _ => ih 5 (op + 1) (a + 1) e.1
            · rw [if_neg e]
              intro z
              cases z
          · rw [if_neg c3]
            by_cases c4 : op < 6 ∧ (p_lt n l a = 33 ∨ p_lt n l a = 45)
            · rw [if_pos c4]
              by_cases e : (p_rd n l f 0 (op + 1) (a + 1)).1 = true
              · rw [if_pos e]
                intro _ z
                exact absurd (List.append_eq_nil_iff.mp z).2 (by intro y; cases y)
              · rw [if_neg e]
                intro z
                cases z
            · rw [if_neg c4]
              intro z
              cases z
    | succ lv =>
      rw [p_rd]
      unfold p_lc
      by_cases e : (p_rd n l f lv op a).1 = true
      · rw [if_pos e]
        intro _ z
        exact ih lv op a e (List.append_eq_nil_iff.mp z).1
      · rw [if_neg e]
        intro z
        cases z
abbrev k9_ln : Type := List Nat × List Nat
def p_e0 (n : Nat) (l : Nat → Nat) (a : Nat) : k9_pr := p_rd n l 42 5 0 a
def p_lin (n : Nat) (l : Nat → Nat) (a : Nat) : Bool × Nat × k9_ln :=
  if (p_e0 n l a).1 = true then
    (if p_lt n l (p_e0 n l a).2.1 = 63 then ((p_e0 n l ((p_e0 n l a).2.1 + 1)).1, (p_e0 n l ((p_e0 n l a).2.1 + 1)).2.1, ((p_e0 n l a).2.2, (p_e0 n l ((p_e0 n l a).2.1 + 1)).2.2)) else (true, (p_e0 n l a).2.1, ([], (p_e0 n l a).2.2)))
  else (false, (p_e0 n l a).2.1, ([], []))
def p_tl (n : Nat) (l : Nat → Nat) : Nat → Nat → Bool × Nat × List k9_ln
  | 0, a => (true, a, [])
  | k + 1, a => if a < n then (if p_lt n l a = 59 then (if (p_lin n l (a + 1)).1 = true then ((p_tl n l k (p_lin n l (a + 1)).2.1).1, (p_tl n l k (p_lin n l (a + 1)).2.1).2.1, (p_lin n l (a + 1)).2.2 :: (p_tl n l k (p_lin n l (a + 1)).2.1).2.2) else (false, (p_lin n l (a + 1)).2.1, [])) else (false, a, [])) else (true, a, [])
def p_tx (n : Nat) (l : Nat → Nat) : Bool × Nat × List k9_ln :=
  if (p_lin n l 0).1 = true then ((p_tl n l 119 (p_lin n l 0).2.1).1, (p_tl n l 119 (p_lin n l 0).2.1).2.1, (p_lin n l 0).2.2 :: (p_tl n l 119 (p_lin n l 0).2.1).2.2) else (false, (p_lin n l 0).2.1, [])
/-- a line as the class keeps it -/
def p_ctk (x : k9_ln) : List Nat := if x.1 = [] then x.2 ++ [10059] else x.1 ++ 10063 :: (x.2 ++ [10059])
theorem p_ctk_c {q b : List Nat} (h : q ≠ []) : p_ctk (q, b) = q ++ 10063 :: (b ++ [10059]) := if_neg h
theorem p_e0_ne {n : Nat} {l : Nat → Nat} {a : Nat} (h : (p_e0 n l a).1 = true) : (p_e0 n l a).2.2 ≠ [] := p_rd_ne n l 42 5 0 a h
theorem p_e0_k (n : Nat) (l : Nat → Nat) (a : Nat) (h : a ≤ n) : p_kr n a (p_e0 n l a) := p_rd_k n l 42 5 0 a h
theorem p_lin_k (n : Nat) (l : Nat → Nat) (a : Nat) (h : a ≤ n) : a ≤ (p_lin n l a).2.1 ∧ (p_lin n l a).2.1 ≤ n ∧ ((p_lin n l a).1 = true → a < (p_lin n l a).2.1 ∧ (p_lin n l a).2.2.1.length + (p_lin n l a).2.2.2.length + a ≤ (p_lin n l a).2.1 ∧ (p_ctk (p_lin n l a).2.2).length + a ≤ (p_lin n l a).2.1 + 1) := by
  unfold p_lin
  obtain ⟨h1, h2, h3, h4⟩ := p_e0_k n l a h
  by_cases e : (p_e0 n l a).1 = true
  · have h5 := h4 e
    rw [if_pos e]
    by_cases e2 : p_lt n l (p_e0 n l a).2.1 = 63
    · rw [if_pos e2]
      have hn := p_lt_n (n := n) (l := l) (a := (p_e0 n l a).2.1) (by omega)
      obtain ⟨g1, g2, g3, g4⟩ := p_e0_k n l ((p_e0 n l a).2.1 + 1) hn
      refine ⟨by show a ≤ (p_e0 n l ((p_e0 n l a).2.1 + 1)).2.1; omega, g2, fun z => ⟨by show a < (p_e0 n l ((p_e0 n l a).2.1 + 1)).2.1; omega, ?_, ?_⟩⟩
      · show (p_e0 n l a).2.2.length + (p_e0 n l ((p_e0 n l a).2.1 + 1)).2.2.length + a ≤ (p_e0 n l ((p_e0 n l a).2.1 + 1)).2.1
        omega
      · show (p_ctk ((p_e0 n l a).2.2, (p_e0 n l ((p_e0 n l a).2.1 + 1)).2.2)).length + a ≤ (p_e0 n l ((p_e0 n l a).2.1 + 1)).2.1 + 1
        rw [p_ctk_c (p_e0_ne e)]
        show ((p_e0 n l a).2.2 ++ 10063 :: ((p_e0 n l ((p_e0 n l a).2.1 + 1)).2.2 ++ [10059])).length + a ≤ (p_e0 n l ((p_e0 n l a).2.1 + 1)).2.1 + 1
        rw [List.length_append, List.length_cons, List.length_append, List.length_singleton]
        omega
    · rw [if_neg e2]
      refine ⟨h1, h2, fun z => ⟨h5, ?_, ?_⟩⟩
      · show 0 + (p_e0 n l a).2.2.length + a ≤ (p_e0 n l a).2.1
        omega
      · show ((p_e0 n l a).2.2 ++ [10059]).length + a ≤ (p_e0 n l a).2.1 + 1
        rw [List.length_append, List.length_singleton]
        omega
  · rw [if_neg e]
    exact ⟨h1, h2, fun z => by cases z⟩
theorem k9s_38e (hT : k9_Tc I n l a ts) (ha : a ≤ n) (ht : ts.length ≤ a) : ∃ I', k9_R S (d + 88) 38 0 [some (k9_r 5 0), some (k9_i 0), some (k9_i 0), none, none, none] [] I J = some (some (k9_i (nI (p_b (p_e0 n l a).1))), I', J) ∧ k9_Tc I' n l (p_e0 n l a).2.1 (ts ++ (p_e0 n l a).2.2) ∧ k9_fx k9_Ftc I I' := (k9_T_a S n l 42).1 d I J 5 0 a ts hT ha ht (by omega) (by omega) (by omega)
/-- a line, the class -/
theorem k9s_37 (hT : k9_Tc I n l a ts) (ha : a ≤ n) (ht : ts.length ≤ a) : ∃ I' ts', k9_R S (d + 89) 37 0 [some (k9_r 5 0)] [] I J = some (some (k9_i (nI (p_b (p_lin n l a).1))), I', J) ∧ k9_Tc I' n l (p_lin n l a).2.1 ts' ∧ k9_fx k9_Ftc I I' ∧ ((p_lin n l a).1 = true → ts' = ts ++ p_ctk (p_lin n l a).2.2) := by
  obtain ⟨I1, e1, T1, x1⟩ := k9s_38e (S := S) (d := d) (J := J) hT ha ht
  have hn := hT.1
  obtain ⟨h1, h2, h3, h4⟩ := p_e0_k n l a ha
  unfold p_lin
  have go : ∀ {Q : k9_A → Prop}, k9_ok (k9_R S (d + 89) 37 4 [some (k9_r 5 0)] [k9_i (nI (p_b (p_e0 n l a).1))] I1 J) Q → k9_ok (k9_R S (d + 89) 37 0 [some (k9_r 5 0)] [] I J) Q := by
    intro Q g
    refine k9o_eq k9e_37_0 (k9o_call e1 ?_)
    simp only [k9_ps_s]
    exact g
  by_cases r1 : (p_e0 n l a).1 = true
  · rw [if_pos r1]
    rw [p_b_T r1] at go
    have h5 := h4 r1
    have e42 := k9s_42 (S := S) (d := d + 87) (J := J) (c := 63) T1 (by omega) (by omega)
    have lineend : ∀ (b : Nat) (ts2 : List Nat) (I2 : k9_I) (Q : k9_A → Prop), k9_Tc I2 n l b ts2 → ts2.length ≤ 120 → (∀ I3, k9_Tc I3 n l b (ts2 ++ [10059]) → k9_fx k9_Ftc I2 I3 → Q (some (k9_i (nI 1)), I3, J)) → k9_ok (k9_R S (d + 89) 37 21 [some (k9_r 5 0)] [] I2 J) Q := by
      intro b ts2 I2 Q T2 hl g
      obtain ⟨I3, e3, T3, x3⟩ := k9s_43 (S := S) (d := d + 88) (J := J) (c := 10059) T2 hl
      have e3' : k9_R S (d + 88) 43 0 [some (k9_r 5 0), some (k9_i 10059)] [] I2 J = some (none, I3, J) := e3
      refine k9o_eq k9e_37_21 (k9o_call e3' ?_)
      simp only [k9_ps_n]
      exact k9o_eq k9e_37_24 (k9o_ret (g I3 T3 x3))
    by_cases r2 : p_lt n l (p_e0 n l a).2.1 = 63
    · rw [if_pos r2]
      rw [if_pos r2, if_pos r2] at e42
      have hlt := p_lt_n (n := n) (l := l) (a := (p_e0 n l a).2.1) (by omega)
      obtain ⟨I3, e3, T3, x3⟩ := k9s_43 (S := S) (d := d + 88) (J := J) (c := 10063) (k9_Tc_p T1 ((p_e0 n l a).2.1 + 1)) (by rw [List.length_append]; omega)
      have e3' : k9_R S (d + 88) 43 0 [some (k9_r 5 0), some (k9_i 10063)] [] (k9_u I1 5 0 4 (nI ((p_e0 n l a).2.1 + 1))) J = some (none, I3, J) := e3
      have x3' : k9_fx k9_Ftc I I3 := k9_fx_tr (k9_fx_u x1 rfl) x3
      obtain ⟨I4, e4, T4, x4⟩ := k9s_38e (S := S) (d := d) (J := J) T3 hlt (by rw [List.length_append, List.length_append, List.length_singleton]; omega)
      obtain ⟨g1, g2, g3, g4⟩ := p_e0_k n l ((p_e0 n l a).2.1 + 1) hlt
      have go2 : ∀ {Q : k9_A → Prop}, k9_ok (k9_R S (d + 89) 37 18 [some (k9_r 5 0)] [k9_i (nI (p_b (p_e0 n l ((p_e0 n l a).2.1 + 1)).1))] I4 J) Q → k9_ok (k9_R S (d + 89) 37 0 [some (k9_r 5 0)] [] I J) Q := by
        intro Q g
        refine go (k9o_eq k9e_37_4 (k9o_F (by decide) (k9o_eq k9e_37_7 (k9o_call e42 ?_))))
        simp only [k9_ps_s]
        refine k9o_eq k9e_37_10 (k9o_F (by decide) (k9o_eq k9e_37_11 (k9o_call e3' ?_)))
        simp only [k9_ps_n]
        refine k9o_eq k9e_37_14 (k9o_call e4 ?_)
        simp only [k9_ps_s]
        exact g
      by_cases r3 : (p_e0 n l ((p_e0 n l a).2.1 + 1)).1 = true
      · rw [p_b_T r3] at go2 ⊢
        have L := lineend (p_e0 n l ((p_e0 n l a).2.1 + 1)).2.1 _ I4 (fun q => ∃ I3, q = (some (k9_i (nI 1)), I3, J) ∧ k9_Tc I3 n l (p_e0 n l ((p_e0 n l a).2.1 + 1)).2.1 (ts ++ p_ctk ((p_e0 n l a).2.2, (p_e0 n l ((p_e0 n l a).2.1 + 1)).2.2)) ∧ k9_fx k9_Ftc I I3) T4 (by rw [List.length_append, List.length_append, List.length_append, List.length_singleton]; omega) (fun I5 T5 x5 => ⟨I5, rfl, by
          rw [p_ctk_c (p_e0_ne r1)]
          simpa only [List.append_assoc, List.singleton_append, List.cons_append, List.nil_append] using T5, k9_fx_tr (k9_fx_tr x3' x4) x5⟩)
        obtain ⟨q, eq, I5, rfl, T5, x5⟩ := go2 (k9o_eq k9e_37_18 (k9o_F (by decide) L))
        exact ⟨I5, _, eq, T5, x5, fun _ => rfl⟩
      · rw [p_b_F r3] at go2 ⊢
        exact ⟨I4, _, k9o_of (go2 (k9o_eq k9e_37_18 (k9o_T (by decide) (k9o_eq k9e_37_19 (k9o_ret rfl))))), T4, k9_fx_tr x3' x4, fun z => absurd z r3⟩
    · rw [if_neg r2]
      rw [if_neg r2, if_neg r2] at e42
      have L := lineend (p_e0 n l a).2.1 _ I1 (fun q => ∃ I3, q = (some (k9_i (nI 1)), I3, J) ∧ k9_Tc I3 n l (p_e0 n l a).2.1 (ts ++ p_ctk ([], (p_e0 n l a).2.2)) ∧ k9_fx k9_Ftc I I3) T1 (by rw [List.length_append]; omega) (fun I5 T5 x5 => ⟨I5, rfl, by
        unfold p_ctk
        rw [if_pos rfl]
        simpa only [List.append_assoc] using T5, k9_fx_tr x1 x5⟩)
      have st : k9_ok (k9_R S (d + 89) 37 0 [some (k9_r 5 0)] [] I J) (fun q => ∃ I3, q = (some (k9_i (nI 1)), I3, J) ∧ k9_Tc I3 n l (p_e0 n l a).2.1 (ts ++ p_ctk ([], (p_e0 n l a).2.2)) ∧ k9_fx k9_Ftc I I3) := by
        refine go (k9o_eq k9e_37_4 (k9o_F (by decide) (k9o_eq k9e_37_7 (k9o_call e42 ?_))))
        simp only [k9_ps_s]
        exact k9o_eq k9e_37_10 (k9o_T (by decide) L)
      obtain ⟨q, eq, I5, rfl, T5, x5⟩ := st
      exact ⟨I5, _, eq, T5, x5, fun _ => rfl⟩
  · rw [if_neg r1]
    rw [p_b_F r1] at go
    exact ⟨I1, _, k9o_of (go (k9o_eq k9e_37_4 (k9o_T (by decide) (k9o_eq k9e_37_5 (k9o_ret rfl))))), T1, x1, fun z => by cases z⟩
def p_fr (b : Bool) (a : Nat) : Int32 := if b = true then -1 else nI a
/-- the text, the class -/
theorem k9s_36 (hn : n ≤ 120) (hlb : ∀ p, p < n → l p ≤ 255) (h50 : I 5 0 0 = nI n) (h26 : ∀ p, p < n → I 26 0 p = nI (l p)) : ∃ I' ts', k9_R S (d + 90) 36 0 [some (k9_r 5 0), none, none] [] I J = some (some (k9_i (p_fr (p_tx n l).1 (p_tx n l).2.1)), I', J) ∧ k9_Tc I' n l (p_tx n l).2.1 ts' ∧ k9_fx k9_Ftc I I' ∧ ((p_tx n l).1 = true → ts' = ((p_tx n l).2.2.map p_ctk).flatten) := by
  -- the end
  have bad : ∀ (i b : Nat) (ts1 : List Nat) (I1 : k9_I), k9_Tc I1 n l b ts1 → k9_ok (k9_R S (d + 90) 36 11 [some (k9_r 5 0), some (k9_i (nI 0)), some (k9_i (nI i))] [] I1 J) (fun q => q = (some (k9_i (nI b)), I1, J)) := by
    intro i b ts1 I1 T1
    have e34 : k9_ok (k9_R S (d + 90) 36 34 [some (k9_r 5 0), some (k9_i (nI 0)), some (k9_i (nI i))] [] I1 J) (fun q => q = (some (k9_i (nI b)), I1, J)) := by
      refine k9o_eq k9e_36_34 (k9o_T (by decide) (k9o_eq k9e_36_38 (k9o_eq k9e_36_40 (k9o_ret ?_))))
      rw [T1.2.2.2.2.1]
    refine k9o_eq k9e_36_11 (k9o_if (fun _ => e34) (fun _ => k9o_eq k9e_36_14 (k9o_T (by decide) e34)))
  have good : ∀ (i : Nat) (I1 : k9_I), k9_ok (k9_R S (d + 90) 36 34 [some (k9_r 5 0), some (k9_i (nI 1)), some (k9_i (nI i))] [] I1 J) (fun q => q = (some (k9_i (-1)), I1, J)) := fun i I1 => k9o_eq k9e_36_34 (k9o_F (by decide) (k9o_eq k9e_36_36 (k9o_eq k9e_36_40 (k9o_ret rfl))))
  have key : ∀ k i b ts1 I1, i + k = 120 → k9_Tc I1 n l b ts1 → b ≤ n → ts1.length ≤ b + 1 → ∃ I' ts', k9_R S (d + 90) 36 11 [some (k9_r 5 0), some (k9_i (nI 1)), some (k9_i (nI i))] [] I1 J = some (some (k9_i (p_fr (p_tl n l k b).1 (p_tl n l k b).2.1)), I', J) ∧ k9_Tc I' n l (p_tl n l k b).2.1 ts' ∧ k9_fx k9_Ftc I1 I' ∧ ((p_tl n l k b).1 = true → ts' = ts1 ++ ((p_tl n l k b).2.2.map p_ctk).flatten) := by
    intro k
    induction k with
    | zero =>
      intro i b ts1 I1 hi T1 hb ht
      exact ⟨I1, ts1, k9o_of (k9o_eq k9e_36_11 (k9o_T (by rw [n_toInt (by omega)]; omega) (good i I1))), T1, k9_fx_rf _ _, fun _ => by simp [p_tl]⟩
    | succ k ih =>
      intro i b ts1 I1 hi T1 hb ht
      rw [p_tl]
      have st0 : ∀ {Q : k9_A → Prop}, k9_ok (k9_R S (d + 90) 36 16 [some (k9_r 5 0), some (k9_i (nI 1)), some (k9_i (nI i))] [] I1 J) Q → k9_ok (k9_R S (d + 90) 36 11 [some (k9_r 5 0), some (k9_i (nI 1)), some (k9_i (nI i))] [] I1 J) Q := fun g => k9o_eq k9e_36_11 (k9o_F (by rw [n_toInt (by omega)]; omega) (k9o_eq k9e_36_14 (k9o_F (by decide) g)))
      have c0 := T1.2.2.1
      have c4 := T1.2.2.2.2.1
      by_cases c1 : b < n
      · rw [if_pos c1]
        have e42 := k9s_42 (S := S) (d := d + 88) (J := J) (c := 59) T1 (by omega) (by omega)
        by_cases c2 : p_lt n l b = 59
        · rw [if_pos c2]
          rw [if_pos c2, if_pos c2] at e42
          obtain ⟨I2, ts2, e2, T2, x2, h2⟩ := k9s_37 (S := S) (d := d) (J := J) (k9_Tc_p T1 (b + 1)) c1 ht
          have x2' : k9_fx k9_Ftc I1 I2 := k9_fx_tr (k9_fx_u (k9_fx_rf _ _) rfl) x2
          obtain ⟨g1, g2, g3⟩ := p_lin_k n l (b + 1) c1
          have st : ∀ {Q : k9_A → Prop}, k9_ok (k9_R S (d + 90) 36 27 [some (k9_r 5 0), some (k9_i (nI 1)), some (k9_i (nI i))] [k9_i (nI (p_b (p_lin n l (b + 1)).1))] I2 J) Q → k9_ok (k9_R S (d + 90) 36 11 [some (k9_r 5 0), some (k9_i (nI 1)), some (k9_i (nI i))] [] I1 J) Q := by
            intro Q g
            refine st0 (k9o_eq k9e_36_16 (k9o_F (by rw [c0, c4, n_toInt (by omega), n_toInt (by omega)]; omega) (k9o_eq k9e_36_21 (k9o_call e42 ?_))))
            simp only [k9_ps_s]
            refine k9o_eq k9e_36_24 (k9o_F (by decide) (k9o_eq k9e_36_25 (k9o_call e2 ?_)))
            simp only [k9_ps_s]
            exact g
          by_cases r : (p_lin n l (b + 1)).1 = true
          · rw [if_pos r]
            rw [p_b_T r] at st
            obtain ⟨g4, g5, g6⟩ := g3 r
            have hts2 := h2 r
            obtain ⟨I3, ts3, e3, T3, x3, h3⟩ := ih (i + 1) (p_lin n l (b + 1)).2.1 ts2 I2 (by omega) T2 g2 (by rw [hts2, List.length_append]; omega)
            refine ⟨I3, ts3, k9o_of (st (k9o_eq k9e_36_27 (k9o_F (by decide) (k9o_eq k9e_36_28 (k9o_eq k9e_36_31 ?_))))), T3, k9_fx_tr x2' x3, fun z => ?_⟩
            · rw [nI_1]
              exact k9o_to e3 rfl
            · rw [h3 z, hts2, List.map_cons, List.flatten_cons, List.append_assoc]
          · rw [if_neg r]
            rw [p_b_F r] at st
            refine ⟨I2, ts2, k9o_of (st (k9o_eq k9e_36_27 (k9o_T (by decide) (k9o_eq k9e_36_30 (k9o_eq k9e_36_31 ?_))))), T2, x2', fun z => by cases z⟩
            rw [nI_1]
            exact bad (i + 1) _ ts2 I2 T2
        · rw [if_neg c2]
          rw [if_neg c2, if_neg c2] at e42
          refine ⟨I1, ts1, k9o_of (st0 (k9o_eq k9e_36_16 (k9o_F (by rw [c0, c4, n_toInt (by omega), n_toInt (by omega)]; omega) (k9o_eq k9e_36_21 (k9o_call e42 ?_))))), T1, k9_fx_rf _ _, fun z => by cases z⟩
          simp only [k9_ps_s]
          refine k9o_eq k9e_36_24 (k9o_T (by decide) (k9o_eq k9e_36_30 (k9o_eq k9e_36_31 ?_)))
          rw [nI_1]
          exact bad (i + 1) _ ts1 I1 T1
      · rw [if_neg c1]
        exact ⟨I1, ts1, k9o_of (st0 (k9o_eq k9e_36_16 (k9o_T (by rw [c0, c4, n_toInt (by omega), n_toInt (by omega)]; omega) (good i I1)))), T1, k9_fx_rf _ _, fun _ => by simp⟩
  obtain ⟨I0, hI0⟩ : ∃ I0, I0 = k9_u (k9_u I 5 0 4 0) 5 0 1 0 := ⟨_, rfl⟩
  have T0 : k9_Tc I0 n l 0 [] := by
    rw [hI0]
    exact ⟨hn, hlb, by simp [k9_ur, h50], fun p hp => by simp [k9_ur, h26 p hp], by simp [k9_ur]; rfl, by simp [k9_ur]; rfl, fun i hi => by simp at hi⟩
  have x0 : k9_fx k9_Ftc I I0 := by
    rw [hI0]
    exact k9_fx_u (k9_fx_u (k9_fx_rf _ _) rfl) rfl
  obtain ⟨I1, ts1, e1, T1, x1, h1⟩ := k9s_37 (S := S) (d := d) (J := J) T0 (Nat.zero_le _) (Nat.le_refl _)
  obtain ⟨g1, g2, g3⟩ := p_lin_k n l 0 (Nat.zero_le _)
  have st : ∀ {Q : k9_A → Prop}, k9_ok (k9_R S (d + 90) 36 11 [some (k9_r 5 0), some (k9_i (nI (p_b (p_lin n l 0).1))), some (k9_i (nI 1))] [] I1 J) Q → k9_ok (k9_R S (d + 90) 36 0 [some (k9_r 5 0), none, none] [] I J) Q := by
    intro Q g
    refine k9o_eq k9e_36_0 ?_
    rw [← hI0]
    refine k9o_call e1 ?_
    simp only [k9_ps_s]
    exact k9o_eq k9e_36_8 g
  unfold p_tx
  by_cases r : (p_lin n l 0).1 = true
  · rw [if_pos r]
    rw [p_b_T r] at st
    obtain ⟨g4, g5, g6⟩ := g3 r
    have hts := h1 r
    obtain ⟨I2, ts2, e2, T2, x2, h2⟩ := key 119 1 (p_lin n l 0).2.1 ts1 I1 (by omega) T1 g2 (by rw [hts, List.nil_append]; omega)
    refine ⟨I2, ts2, k9o_of (st (k9o_to e2 rfl)), T2, k9_fx_tr (k9_fx_tr x0 x1) x2, fun z => ?_⟩
    rw [h2 z, hts, List.map_cons, List.flatten_cons, List.nil_append]
  · rw [if_neg r]
    rw [p_b_F r] at st
    exact ⟨I1, ts1, k9o_of (st (bad 1 _ ts1 I1 T1)), T1, k9_fx_tr x0 x1, fun z => by cases z⟩
end KV6

/-! THE LAW'S TEXT: lines, the reference -/
section KV7
variable {S : k9_S} {d : Nat} {I I' : k9_I} {J J' : k9_J} {n a c f lv op v : Nat} {l : Nat → Nat} {ts : List Nat} {ls : List k9_ln}
def p_rt (ls : List k9_ln) : List Nat := (ls.map fun x => x.1 ++ x.2).flatten
theorem p_rt_a (ls : List k9_ln) (x : k9_ln) : p_rt (ls ++ [x]) = p_rt ls ++ (x.1 ++ x.2) := by
  unfold p_rt
  rw [List.map_append, List.flatten_append]
  simp
def k9_Lm (I : k9_I) (ls : List k9_ln) : Prop := I 12 0 17 = nI ls.length ∧ ∀ i, i < ls.length → I 50 0 i = nI (p_rt (ls.take i)).length ∧ I 51 0 i = nI ((p_rt (ls.take i)).length + (ls.getD i ([], [])).1.length) ∧ I 52 0 i = nI (p_rt (ls.take (i + 1))).length
theorem k9_Lm_a {x : k9_ln} (hL : k9_Lm I ls) (h17 : I' 12 0 17 = nI (ls.length + 1)) (h50 : I' 50 0 ls.length = nI (p_rt ls).length) (h51 : I' 51 0 ls.length = nI ((p_rt ls).length + x.1.length)) (h52 : I' 52 0 ls.length = nI (p_rt (ls ++ [x])).length) (hf : ∀ i, i < ls.length → I' 50 0 i = I 50 0 i ∧ I' 51 0 i = I 51 0 i ∧ I' 52 0 i = I 52 0 i) : k9_Lm I' (ls ++ [x]) := by
  refine ⟨by rw [List.length_append]; exact h17, fun i hi => ?_⟩
  rw [List.length_append, List.length_singleton] at hi
  by_cases e : i = ls.length
  · subst e
    rw [List.take_left, List.take_of_length_le (by simp), show (ls ++ [x]).getD ls.length ([], []) = x by simp [List.getD_eq_getElem?_getD]]
    exact ⟨h50, h51, h52⟩
  · obtain ⟨f1, f2, f3⟩ := hf i (by omega)
    obtain ⟨g1, g2, g3⟩ := hL.2 i (by omega)
    rw [List.take_append_of_le_length (by omega), List.take_append_of_le_length (by omega), show (ls ++ [x]).getD i ([], []) = ls.getD i ([], []) by simp [List.getD_eq_getElem?_getD, List.getElem?_append_left (show i < ls.length by omega)]]
    exact ⟨f1.trans g1, f2.trans g2, f3.trans g3⟩
def k9_Ftl (k _ p : Nat) : Bool := Nat.beq k 50 || Nat.beq k 51 || Nat.beq k 52 || Nat.beq k 53 || (Nat.beq k 12 && (Nat.beq p 14 || Nat.beq p 15 || Nat.beq p 16 || Nat.beq p 17))
theorem k9_Ftl_m (h : k9_fx k9_Ftm I I') : k9_fx k9_Ftl I I' := k9_fx_w h (fun k i p e => by
  unfold k9_Ftl at e
  unfold k9_Ftm
  cases h1 : Nat.beq k 53 <;> cases h2 : Nat.beq k 12 <;> cases h3 : Nat.beq p 14 <;> cases h4 : Nat.beq p 15 <;> cases h5 : Nat.beq p 16 <;> simp_all)
theorem k9_Tm_k {k p : Nat} {z : Int32} (hk : k = 50 ∨ k = 51 ∨ k = 52) (h : k9_Tm I n l a op ts) : k9_Tm (k9_u I k 0 p z) n l a op ts := by
  obtain ⟨h1, h2, h3, h4, h5, h6, h7, h8⟩ := h
  rcases hk with rfl | rfl | rfl
  all_goals exact ⟨h1, h2, by simp [k9_ur, h3], fun p hp => by simp [k9_ur, h4 p hp], by simp [k9_ur, h5], by simp [k9_ur, h6], fun i hi => by
    have := h7 i hi
    simpa [k9_ur] using this, by simp [k9_ur, h8]⟩
theorem k9_Tm_17 {z : Int32} (h : k9_Tm I n l a op ts) : k9_Tm (k9_u I 12 0 17 z) n l a op ts := by
  obtain ⟨h1, h2, h3, h4, h5, h6, h7, h8⟩ := h
  exact ⟨h1, h2, by simp [k9_ur, h3], fun p hp => by simp [k9_ur, h4 p hp], by simp [k9_ur, h5], by simp [k9_ur, h6], fun i hi => by
    have := h7 i hi
    simpa [k9_ur] using this, by simp [k9_ur, h8]⟩
def k9_sm (I I' : k9_I) (z : Nat) : Prop := ∀ i, i < z → I' 50 0 i = I 50 0 i ∧ I' 51 0 i = I 51 0 i ∧ I' 52 0 i = I 52 0 i
theorem k9_sm_x {I'' : k9_I} {z : Nat} (h : k9_sm I I' z) (x : k9_fx k9_Ftm I' I'') : k9_sm I I'' z := fun i hi => ⟨(x 50 0 i rfl).trans (h i hi).1, (x 51 0 i rfl).trans (h i hi).2.1, (x 52 0 i rfl).trans (h i hi).2.2⟩
theorem k9_sm_u {z k : Nat} {y : Int32} (h : k9_sm I I' z) : k9_sm I (k9_u I' k 0 z y) z := fun i hi => by
  obtain ⟨h1, h2, h3⟩ := h i hi
  refine ⟨?_, ?_, ?_⟩
  all_goals rw [k9_ur, if_neg (by omega)]
  · exact h1
  · exact h2
  · exact h3
theorem k9_sm_12 {z p : Nat} {y : Int32} (h : k9_sm I I' z) : k9_sm I (k9_u I' 12 0 p y) z := fun i hi => by
  obtain ⟨h1, h2, h3⟩ := h i hi
  refine ⟨?_, ?_, ?_⟩
  all_goals rw [k9_ur, if_neg (by omega)]
  · exact h1
  · exact h2
  · exact h3
theorem k9s_179e (hT : k9_Tm I n l a 0 ts) (ha : a ≤ n) (ht : ts.length ≤ a) : ∃ I', k9_R S (d + 45) 179 0 [some (k9_r 12 0)] [] I J = some (some (k9_i (nI (p_b (p_e0 n l a).1))), I', J) ∧ k9_Tm I' n l (p_e0 n l a).2.1 0 (ts ++ (p_e0 n l a).2.2) ∧ k9_fx k9_Ftm I I' := k9_M1_a S n l 42 d I J 5 0 a ts hT ha ht (by omega) (by omega) (by omega)
/-- a line, the reference -/
theorem k9s_180 (hT : k9_Tm I n l a 0 (p_rt ls)) (hL : k9_Lm I ls) (h60 : ls.length ≤ 60) (ha : a ≤ n) (ht : (p_rt ls).length ≤ a) : ∃ I' ts', k9_R S (d + 46) 180 0 [some (k9_r 12 0)] [] I J = some (some (k9_i (nI (p_b (p_lin n l a).1))), I', J) ∧ k9_Tm I' n l (p_lin n l a).2.1 0 ts' ∧ k9_fx k9_Ftl I I' ∧ ((p_lin n l a).1 = true → ts' = p_rt (ls ++ [(p_lin n l a).2.2]) ∧ k9_Lm I' (ls ++ [(p_lin n l a).2.2])) := by
  have hn := hT.1
  have h17 := hL.1
  have h16 := hT.2.2.2.2.2.1
  obtain ⟨I0, hI0⟩ : ∃ I0, I0 = k9_u I 50 0 ls.length (nI (p_rt ls).length) := ⟨_, rfl⟩
  have T0 : k9_Tm I0 n l a 0 (p_rt ls) := by rw [hI0]; exact k9_Tm_k (Or.inl rfl) hT
  have x0 : k9_fx k9_Ftl I I0 := by rw [hI0]; exact k9_fx_u (k9_fx_rf _ _) rfl
  have s0 : k9_sm I I0 ls.length := by rw [hI0]; exact k9_sm_u (fun i hi => ⟨rfl, rfl, rfl⟩)
  have b0 : I0 50 0 ls.length = nI (p_rt ls).length := by rw [hI0]; simp [k9_ur]
  have c0 : I0 12 0 17 = nI ls.length := by rw [hI0]; exact h17
  obtain ⟨I1, e1, T1, x1⟩ := k9s_179e (S := S) (d := d) (J := J) T0 ha ht
  obtain ⟨h1, h2, h3, h4⟩ := p_e0_k n l a ha
  have b1 : I1 50 0 ls.length = nI (p_rt ls).length := (x1 50 0 _ rfl).trans b0
  have c1 : I1 12 0 17 = nI ls.length := (x1 12 0 17 rfl).trans c0
  have go : ∀ {Q : k9_A → Prop}, k9_ok (k9_R S (d + 46) 180 9 [some (k9_r 12 0)] [k9_i (nI (p_b (p_e0 n l a).1))] I1 J) Q → k9_ok (k9_R S (d + 46) 180 0 [some (k9_r 12 0)] [] I J) Q := by
    intro Q g
    refine k9o_eq k9e_180_0 (k9o_T (by rw [h17, n_toInt (by omega)]; omega) ?_)
    rw [h17, n_cl (by omega), h16, ← hI0]
    refine k9o_eq k9e_180_7 (k9o_call e1 ?_)
    simp only [k9_ps_s]
    exact g
  unfold p_lin
  by_cases r1 : (p_e0 n l a).1 = true
  · rw [if_pos r1]
    rw [p_b_T r1] at go
    have h5 := h4 r1
    obtain ⟨I2, hI2⟩ : ∃ I2, I2 = k9_u I1 51 0 ls.length (nI (p_rt ls).length) := ⟨_, rfl⟩
    have T2 : k9_Tm I2 n l (p_e0 n l a).2.1 0 (p_rt ls ++ (p_e0 n l a).2.2) := by rw [hI2]; exact k9_Tm_k (Or.inr (Or.inl rfl)) T1
    have x2 : k9_fx k9_Ftl I I2 := by rw [hI2]; exact k9_fx_u (k9_fx_tr x0 (k9_Ftl_m x1)) rfl
    have s2 : k9_sm I I2 ls.length := by rw [hI2]; exact k9_sm_u (k9_sm_x s0 x1)
    have b2 : I2 50 0 ls.length = nI (p_rt ls).length := by rw [hI2]; exact b1
    have a2 : I2 51 0 ls.length = nI (p_rt ls).length := by rw [hI2]; simp [k9_ur]
    have c2 : I2 12 0 17 = nI ls.length := by rw [hI2]; exact c1
    have e63 := k9s_170 (S := S) (d := d + 44) (J := J) (c := 63) T2 (by omega) (by omega)
    have go2 : ∀ {Q : k9_A → Prop}, k9_ok (k9_R S (d + 46) 180 25 [some (k9_r 12 0)] [k9_i (nI (if p_lt n l (p_e0 n l a).2.1 = 63 then 1 else 0))] (if p_lt n l (p_e0 n l a).2.1 = 63 then k9_u I2 12 0 14 (nI ((p_e0 n l a).2.1 + 1)) else I2) J) Q → k9_ok (k9_R S (d + 46) 180 0 [some (k9_r 12 0)] [] I J) Q := by
      intro Q g
      refine go (k9o_eq k9e_180_9 (k9o_F (by decide) (k9o_eq k9e_180_12 (k9o_T (by rw [c1, n_toInt (by omega)]; omega) ?_))))
      rw [c1, n_cl (by omega), b1]
      refine k9o_eq k9e_180_21 (k9o_T (by rw [n_toInt (by omega)]; omega) ?_)
      rw [n_cl (by omega), ← hI2]
      refine k9o_eq k9e_180_22 (k9o_call e63 ?_)
      simp only [k9_ps_s]
      exact g
    have fin : ∀ (q b : List Nat) (p : Nat) (I3 : k9_I) (Q : k9_A → Prop), k9_Tm I3 n l p 0 (p_rt ls ++ (q ++ b)) → k9_fx k9_Ftl I I3 → k9_sm I I3 ls.length → I3 50 0 ls.length = nI (p_rt ls).length → I3 51 0 ls.length = nI ((p_rt ls).length + q.length) → I3 12 0 17 = nI ls.length → (∀ I4, k9_Tm I4 n l p 0 (p_rt (ls ++ [(q, b)])) → k9_fx k9_Ftl I I4 → k9_Lm I4 (ls ++ [(q, b)]) → Q (some (k9_i (nI 1)), I4, J)) → k9_ok (k9_R S (d + 46) 180 38 [some (k9_r 12 0)] [] I3 J) Q := by
      intro q b p I3 Q T3 x3 s3 b3 a3 c3 g
      obtain ⟨I4, hI4⟩ : ∃ I4, I4 = k9_u (k9_u I3 12 0 17 (nI (ls.length + 1))) 52 0 ls.length (nI (p_rt ls ++ (q ++ b)).length) := ⟨_, rfl⟩
      have hQ := g I4 (by rw [hI4, p_rt_a]; exact k9_Tm_k (Or.inr (Or.inr rfl)) (k9_Tm_17 T3)) (by rw [hI4]; exact k9_fx_u (k9_fx_u x3 rfl) rfl) (k9_Lm_a hL (by rw [hI4]; simp [k9_ur]) (by rw [hI4]; exact b3) (by rw [hI4]; exact a3) (by rw [hI4, p_rt_a]; simp [k9_ur]) (by
        have := k9_sm_u (k := 52) (y := nI (p_rt ls ++ (q ++ b)).length) (k9_sm_12 (p := 17) (y := nI (ls.length + 1)) s3)
        rw [← hI4] at this
        exact this))
      refine k9o_eq k9e_180_38 (k9o_T (by rw [c3, n_toInt (by omega)]; omega) ?_)
      rw [c3, n_cl (by omega), nI_1, show (k9_u I3 12 0 17 (nI (ls.length + 1))) 12 0 16 = I3 12 0 16 from rfl, T3.2.2.2.2.2.1, ← hI4]
      exact k9o_eq k9e_180_50 (k9o_ret hQ)
    by_cases r2 : p_lt n l (p_e0 n l a).2.1 = 63
    · rw [if_pos r2]
      rw [if_pos r2, if_pos r2] at go2
      have hlt := p_lt_n (n := n) (l := l) (a := (p_e0 n l a).2.1) (by omega)
      obtain ⟨I3, hI3⟩ : ∃ I3, I3 = k9_u (k9_u I2 12 0 14 (nI ((p_e0 n l a).2.1 + 1))) 51 0 ls.length (nI (p_rt ls ++ (p_e0 n l a).2.2).length) := ⟨_, rfl⟩
      have T3 : k9_Tm I3 n l ((p_e0 n l a).2.1 + 1) 0 (p_rt ls ++ (p_e0 n l a).2.2) := by rw [hI3]; exact k9_Tm_k (Or.inr (Or.inl rfl)) (k9_Tm_p T2 _)
      have x3 : k9_fx k9_Ftl I I3 := by rw [hI3]; exact k9_fx_u (k9_fx_u x2 rfl) rfl
      have s3 : k9_sm I I3 ls.length := by rw [hI3]; exact k9_sm_u (k9_sm_12 s2)
      have b3 : I3 50 0 ls.length = nI (p_rt ls).length := by rw [hI3]; exact b2
      have a3 : I3 51 0 ls.length = nI ((p_rt ls).length + (p_e0 n l a).2.2.length) := by rw [hI3]; simp [k9_ur]
      have c3 : I3 12 0 17 = nI ls.length := by rw [hI3]; exact c2
      obtain ⟨I4, e4, T4, x4⟩ := k9s_179e (S := S) (d := d) (J := J) T3 hlt (by rw [List.length_append]; omega)
      obtain ⟨g1, g2, g3, g4⟩ := p_e0_k n l ((p_e0 n l a).2.1 + 1) hlt
      have go3 : ∀ {Q : k9_A → Prop}, k9_ok (k9_R S (d + 46) 180 35 [some (k9_r 12 0)] [k9_i (nI (p_b (p_e0 n l ((p_e0 n l a).2.1 + 1)).1))] I4 J) Q → k9_ok (k9_R S (d + 46) 180 0 [some (k9_r 12 0)] [] I J) Q := by
        intro Q g
        refine go2 (k9o_eq k9e_180_25 (k9o_F (by decide) (k9o_eq k9e_180_26 (k9o_T (by rw [show (k9_u I2 12 0 14 (nI ((p_e0 n l a).2.1 + 1))) 12 0 17 = I2 12 0 17 from rfl, c2, n_toInt (by omega)]; omega) ?_))))
        rw [show (k9_u I2 12 0 14 (nI ((p_e0 n l a).2.1 + 1))) 12 0 17 = I2 12 0 17 from rfl, c2, n_cl (by omega), show (k9_u I2 12 0 14 (nI ((p_e0 n l a).2.1 + 1))) 12 0 16 = I2 12 0 16 from rfl, T2.2.2.2.2.2.1, ← hI3]
        refine k9o_eq k9e_180_33 (k9o_call e4 ?_)
        simp only [k9_ps_s]
        exact g
      by_cases r3 : (p_e0 n l ((p_e0 n l a).2.1 + 1)).1 = true
      · rw [p_b_T r3] at go3 ⊢
        have F := fin (p_e0 n l a).2.2 (p_e0 n l ((p_e0 n l a).2.1 + 1)).2.2 (p_e0 n l ((p_e0 n l a).2.1 + 1)).2.1 I4 (fun q => ∃ I5, q = (some (k9_i (nI 1)), I5, J) ∧ k9_Tm I5 n l (p_e0 n l ((p_e0 n l a).2.1 + 1)).2.1 0 (p_rt (ls ++ [((p_e0 n l a).2.2, (p_e0 n l ((p_e0 n l a).2.1 + 1)).2.2)])) ∧ k9_fx k9_Ftl I I5 ∧ k9_Lm I5 (ls ++ [((p_e0 n l a).2.2, (p_e0 n l ((p_e0 n l a).2.1 + 1)).2.2)])) (by rw [← List.append_assoc]; exact T4) (k9_fx_tr x3 (k9_Ftl_m x4)) (k9_sm_x s3 x4) ((x4 50 0 _ rfl).trans b3) ((x4 51 0 _ rfl).trans a3) ((x4 12 0 17 rfl).trans c3) (fun I5 T5 x5 L5 => ⟨I5, rfl, T5, x5, L5⟩)
        obtain ⟨q, eq, I5, rfl, T5, x5, L5⟩ := go3 (k9o_eq k9e_180_35 (k9o_F (by decide) F))
        exact ⟨I5, _, eq, T5, x5, fun _ => ⟨rfl, L5⟩⟩
      · rw [p_b_F r3] at go3 ⊢
        exact ⟨I4, _, k9o_of (go3 (k9o_eq k9e_180_35 (k9o_T (by decide) (k9o_eq k9e_180_36 (k9o_ret rfl))))), T4, k9_fx_tr x3 (k9_Ftl_m x4), fun z => absurd z r3⟩
    · rw [if_neg r2]
      rw [if_neg r2, if_neg r2] at go2
      have F := fin [] (p_e0 n l a).2.2 (p_e0 n l a).2.1 I2 (fun q => ∃ I5, q = (some (k9_i (nI 1)), I5, J) ∧ k9_Tm I5 n l (p_e0 n l a).2.1 0 (p_rt (ls ++ [([], (p_e0 n l a).2.2)])) ∧ k9_fx k9_Ftl I I5 ∧ k9_Lm I5 (ls ++ [([], (p_e0 n l a).2.2)])) T2 x2 s2 b2 a2 c2 (fun I5 T5 x5 L5 => ⟨I5, rfl, T5, x5, L5⟩)
      obtain ⟨q, eq, I5, rfl, T5, x5, L5⟩ := go2 (k9o_eq k9e_180_25 (k9o_T (by decide) F))
      exact ⟨I5, _, eq, T5, x5, fun _ => ⟨rfl, L5⟩⟩
  · rw [if_neg r1]
    rw [p_b_F r1] at go
    exact ⟨I1, _, k9o_of (go (k9o_eq k9e_180_9 (k9o_T (by decide) (k9o_eq k9e_180_10 (k9o_ret rfl))))), T1, k9_fx_tr x0 (k9_Ftl_m x1), fun z => by cases z⟩
/-- the text, the reference: up to the answer -/
theorem k9s_181l (hT : k9_Tm I n l 0 0 []) (hL : k9_Lm I []) : ∃ I' ts' x1, (∀ Q, k9_ok (k9_R S (d + 47) 181 35 [some (k9_r 12 0), some (k9_i x1), none, none] [k9_i (nI (p_b (p_tx n l).1))] I' J) Q → k9_ok ((k9_R S (d + 46) 180 0 [some (k9_r 12 0)] [] I J).bind fun q => k9_R S (d + 47) 181 14 [some (k9_r 12 0), none, none, none] (k9_ps q.1 []) q.2.1 q.2.2) Q) ∧ k9_Tm I' n l (p_tx n l).2.1 0 ts' ∧ k9_fx k9_Ftl I I' ∧ ((p_tx n l).1 = true → ts' = p_rt (p_tx n l).2.2 ∧ k9_Lm I' (p_tx n l).2.2 ∧ (p_tx n l).2.2.length ≤ 60 ∧ ts'.length ≤ 120) := by
  have hn := hT.1
  have bad : ∀ (I1 : k9_I) (Q : k9_A → Prop), k9_ok (k9_R S (d + 47) 181 35 [some (k9_r 12 0), some (k9_i (nI 0)), none, none] [k9_i (nI 0)] I1 J) Q → k9_ok (k9_R S (d + 47) 181 15 [some (k9_r 12 0), some (k9_i (nI 0)), none, none] [] I1 J) Q := fun I1 Q g => k9o_eq k9e_181_15 (k9o_T (by decide) (k9o_eq k9e_181_25 (k9o_T (by decide) (k9o_eq k9e_181_34 g))))
  have key : ∀ k b ls I1, n ≤ b + k → k9_Tm I1 n l b 0 (p_rt ls) → k9_Lm I1 ls → b ≤ n → (p_rt ls).length ≤ b → 2 * ls.length ≤ b + 1 → ∃ I' ts' x1, (∀ Q, k9_ok (k9_R S (d + 47) 181 35 [some (k9_r 12 0), some (k9_i x1), none, none] [k9_i (nI (p_b (p_tl n l k b).1))] I' J) Q → k9_ok (k9_R S (d + 47) 181 15 [some (k9_r 12 0), some (k9_i (nI 1)), none, none] [] I1 J) Q) ∧ k9_Tm I' n l (p_tl n l k b).2.1 0 ts' ∧ k9_fx k9_Ftl I1 I' ∧ ((p_tl n l k b).1 = true → ts' = p_rt (ls ++ (p_tl n l k b).2.2) ∧ k9_Lm I' (ls ++ (p_tl n l k b).2.2) ∧ (ls ++ (p_tl n l k b).2.2).length ≤ 60 ∧ ts'.length ≤ 120) := by
    intro k
    have done : ∀ b ls I1, b = n → k9_Tm I1 n l b 0 (p_rt ls) → k9_Lm I1 ls → (p_rt ls).length ≤ b → 2 * ls.length ≤ b + 1 → ∃ I' ts' x1, (∀ Q, k9_ok (k9_R S (d + 47) 181 35 [some (k9_r 12 0), some (k9_i x1), none, none] [k9_i (nI (p_b true))] I' J) Q → k9_ok (k9_R S (d + 47) 181 15 [some (k9_r 12 0), some (k9_i (nI 1)), none, none] [] I1 J) Q) ∧ k9_Tm I' n l b 0 ts' ∧ k9_fx k9_Ftl I1 I' ∧ (true = true → ts' = p_rt (ls ++ []) ∧ k9_Lm I' (ls ++ []) ∧ (ls ++ ([] : List k9_ln)).length ≤ 60 ∧ ts'.length ≤ 120) := by
      intro b ls I1 hb T1 L1 ht h2
      have e59 := k9s_170 (S := S) (d := d + 45) (J := J) (c := 59) T1 (by omega) (by omega)
      have el : p_lt n l b = 999 := if_neg (by omega)
      rw [if_neg (by rw [el]; decide), if_neg (by rw [el]; decide)] at e59
      refine ⟨I1, _, nI 1, fun Q g => ?_, T1, k9_fx_rf _ _, fun _ => ⟨by rw [List.append_nil], by rw [List.append_nil]; exact L1, by rw [List.append_nil]; omega, by omega⟩⟩
      refine k9o_eq k9e_181_15 (k9o_F (by decide) (k9o_eq k9e_181_17 (k9o_call e59 ?_)))
      simp only [k9_ps_s]
      exact k9o_eq k9e_181_20 (k9o_T (by decide) (k9o_eq k9e_181_25 (k9o_F (by decide) (k9o_eq k9e_181_27 (k9o_T (by rw [T1.2.2.1, T1.2.2.2.2.1, hb]) (k9o_eq k9e_181_32 g))))))
    induction k with
    | zero =>
      intro b ls I1 hk T1 L1 hb ht h2
      exact done b ls I1 (by omega) T1 L1 ht h2
    | succ k ih =>
      intro b ls I1 hk T1 L1 hb ht h2
      rw [p_tl]
      by_cases c1 : b < n
      · rw [if_pos c1]
        have e59 := k9s_170 (S := S) (d := d + 45) (J := J) (c := 59) T1 (by omega) (by omega)
        by_cases c2 : p_lt n l b = 59
        · rw [if_pos c2]
          rw [if_pos c2, if_pos c2] at e59
          obtain ⟨g1, g2, g3⟩ := p_lin_k n l (b + 1) c1
          have L1' : k9_Lm (k9_u I1 12 0 14 (nI (b + 1))) ls := L1
          obtain ⟨I2, ts2, e2, T2, x2, h3⟩ := k9s_180 (S := S) (d := d) (J := J) (k9_Tm_p T1 (b + 1)) L1' (by omega) c1 (by omega)
          have x2' : k9_fx k9_Ftl I1 I2 := k9_fx_tr (k9_fx_u (k9_fx_rf _ _) rfl) x2
          have st : ∀ {Q : k9_A → Prop}, k9_ok (k9_R S (d + 47) 181 15 [some (k9_r 12 0), some (k9_i (nI (p_b (p_lin n l (b + 1)).1))), none, none] [] I2 J) Q → k9_ok (k9_R S (d + 47) 181 15 [some (k9_r 12 0), some (k9_i (nI 1)), none, none] [] I1 J) Q := by
            intro Q g
            refine k9o_eq k9e_181_15 (k9o_F (by decide) (k9o_eq k9e_181_17 (k9o_call e59 ?_)))
            simp only [k9_ps_s]
            refine k9o_eq k9e_181_20 (k9o_F (by decide) (k9o_eq k9e_181_21 (k9o_call e2 ?_)))
            simp only [k9_ps_s]
            exact k9o_eq k9e_181_23 g
          by_cases r : (p_lin n l (b + 1)).1 = true
          · rw [if_pos r]
            rw [p_b_T r] at st
            obtain ⟨g4, g5, g6⟩ := g3 r
            obtain ⟨t1, t2⟩ := h3 r
            rw [t1] at T2
            obtain ⟨I3, ts3, x1, e3, T3, x3, h4⟩ := ih (p_lin n l (b + 1)).2.1 (ls ++ [(p_lin n l (b + 1)).2.2]) I2 (by omega) T2 t2 g2 (by rw [p_rt_a, List.length_append, List.length_append]; omega) (by rw [List.length_append, List.length_singleton]; omega)
            rw [List.append_assoc, List.singleton_append] at h4
            exact ⟨I3, ts3, x1, fun Q g => st (e3 Q g), T3, k9_fx_tr x2' x3, h4⟩
          · rw [if_neg r]
            rw [p_b_F r] at st
            exact ⟨I2, ts2, nI 0, fun Q g => st (bad I2 Q g), T2, x2', fun z => by cases z⟩
        · rw [if_neg c2]
          rw [if_neg c2, if_neg c2] at e59
          refine ⟨I1, _, nI 1, fun Q g => ?_, T1, k9_fx_rf _ _, fun z => by cases z⟩
          refine k9o_eq k9e_181_15 (k9o_F (by decide) (k9o_eq k9e_181_17 (k9o_call e59 ?_)))
          simp only [k9_ps_s]
          exact k9o_eq k9e_181_20 (k9o_T (by decide) (k9o_eq k9e_181_25 (k9o_F (by decide) (k9o_eq k9e_181_27 (k9o_F (by rw [T1.2.2.1, T1.2.2.2.2.1, n_toInt (by omega), n_toInt (by omega)]; omega) (k9o_eq k9e_181_34 g))))))
      · rw [if_neg c1]
        exact done b ls I1 (by omega) T1 L1 ht h2
  obtain ⟨g1, g2, g3⟩ := p_lin_k n l 0 (Nat.zero_le _)
  obtain ⟨I1, ts1, e1, T1, x1, h1⟩ := k9s_180 (S := S) (d := d) (J := J) (ls := []) hT hL (by simp) (Nat.zero_le _) (by simp [p_rt])
  have st : ∀ {Q : k9_A → Prop}, k9_ok (k9_R S (d + 47) 181 15 [some (k9_r 12 0), some (k9_i (nI (p_b (p_lin n l 0).1))), none, none] [] I1 J) Q → k9_ok ((k9_R S (d + 46) 180 0 [some (k9_r 12 0)] [] I J).bind fun q => k9_R S (d + 47) 181 14 [some (k9_r 12 0), none, none, none] (k9_ps q.1 []) q.2.1 q.2.2) Q := by
    intro Q g
    refine k9o_call e1 ?_
    simp only [k9_ps_s]
    exact k9o_eq k9e_181_14 g
  unfold p_tx
  by_cases r : (p_lin n l 0).1 = true
  · rw [if_pos r]
    rw [p_b_T r] at st
    obtain ⟨g4, g5, g6⟩ := g3 r
    obtain ⟨t1, t2⟩ := h1 r
    rw [t1] at T1
    obtain ⟨I3, ts3, y1, e3, T3, x3, h4⟩ := key 119 (p_lin n l 0).2.1 _ I1 (by omega) T1 t2 g2 (by rw [p_rt_a, List.length_append, List.length_append]; simp [p_rt]; omega) (by simp; omega)
    exact ⟨I3, ts3, y1, fun Q g => st (e3 Q g), T3, k9_fx_tr x1 x3, h4⟩
  · rw [if_neg r]
    rw [p_b_F r] at st
    exact ⟨I1, ts1, nI 0, fun Q g => st (bad I1 Q g), T1, x1, fun z => by cases z⟩
end KV7

/-! THE LAW'S TEXT: what it is worth -/
section KV8
def p_ud (g : Nat → Int32) (i : Nat) (v : Int32) : Nat → Int32 := fun j => if j = i then v else g j
theorem p_ud_e (g : Nat → Int32) (i : Nat) (v : Int32) : p_ud g i v i = v := if_pos rfl
theorem p_ud_n {g : Nat → Int32} {i j : Nat} {v : Int32} (h : j ≠ i) : p_ud g i v j = g j := if_neg h
/-- two joined by a sign -/
def p_bo (c : Nat) (x y : Int32) : Int32 :=
  if c = 10124 then (if x.toInt = 0 ∧ y.toInt = 0 then 0 else 1)
  else if c = 10038 then (if x.toInt = 0 ∨ y.toInt = 0 then 0 else 1)
  else if c = 10060 then (if x.toInt < y.toInt then 1 else 0)
  else if c = 10061 then (if x.toInt = y.toInt then 1 else 0)
  else if c = 10062 then (if y.toInt < x.toInt then 1 else 0)
  else if c = 10043 then x + y
  else if c = 10045 then x - y
  else if c = 10042 then x * y
  else if c = 10047 then (if y.toInt = 0 then 0 else x / y)
  else (if y.toInt = 0 then 0 else x - x / y * y)
abbrev p_pu (c : Nat) : Prop := c < 10000 ∨ c = 10098 ∨ c = 10102 ∨ c = 10115 ∨ c = 10116 ∨ c = 10108 ∨ c = 10110
abbrev p_uy (c : Nat) : Prop := c = 10033 ∨ c = 10126
abbrev p_bi (c : Nat) : Prop := c = 10124 ∨ c = 10038 ∨ c = 10060 ∨ c = 10061 ∨ c = 10062 ∨ c = 10043 ∨ c = 10045 ∨ c = 10042 ∨ c = 10047 ∨ c = 10037
abbrev k9_sk : Type := Nat × (Nat → Int32)
/-- what a token pushes -/
def p_pvl (e : Nat → Int32) (c : Nat) : Int32 := if c < 10000 then nI c else e (p_tkm c)
def p_stp (e : Nat → Int32) (c : Nat) (s : k9_sk) : k9_sk :=
  if p_pu c then (s.1 + 1, p_ud s.2 s.1 (p_pvl e c))
  else if c = 10033 then (s.1, p_ud s.2 (s.1 - 1) (if (s.2 (s.1 - 1)).toInt = 0 then 1 else 0))
  else if c = 10126 then (s.1, p_ud s.2 (s.1 - 1) (-(s.2 (s.1 - 1))))
  else (s.1 - 1, p_ud s.2 (s.1 - 2) (p_bo c (s.2 (s.1 - 2)) (s.2 (s.1 - 1))))
def p_sts (e : Nat → Int32) : List Nat → k9_sk → k9_sk
  | [], s => s
  | c :: r, s => p_sts e r (p_stp e c s)
theorem p_sts_a (e : Nat → Int32) (a b : List Nat) (s : k9_sk) : p_sts e (a ++ b) s = p_sts e b (p_sts e a s) := by
  induction a generalizing s with
  | nil => rfl
  | cons c r ih => exact ih _
/-- heights -/
def p_hv (H : Nat) : List Nat → Nat → Prop
  | [], _ => True
  | c :: r, t => (p_pu c ∧ t < H ∧ p_hv H r (t + 1)) ∨ (p_uy c ∧ 1 ≤ t ∧ p_hv H r t) ∨ (p_bi c ∧ 2 ≤ t ∧ p_hv H r (t - 1))
theorem p_hv_m {H : Nat} {ts : List Nat} {t : Nat} (h : p_hv H ts t) : ∀ c, c ∈ ts → p_pu c ∨ p_uy c ∨ p_bi c := by
  induction ts generalizing t with
  | nil => intro c hc; cases hc
  | cons x r ih =>
    intro c hc
    rcases List.mem_cons.mp hc with rfl | hc
    · rcases h with h | h | h
      · exact Or.inl h.1
      · exact Or.inr (Or.inl h.1)
      · exact Or.inr (Or.inr h.1)
    · rcases h with h | h | h
      · exact ih h.2.2 c hc
      · exact ih h.2.2 c hc
      · exact ih h.2.2 c hc
theorem p_et_n {c : Nat} (h : p_pu c ∨ p_uy c ∨ p_bi c) : c ≠ 10059 ∧ c ≠ 10063 := by
  simp only [p_pu, p_uy, p_bi] at h
  omega
/-- tokens that are worth v -/
def p_xq (h : Nat) (ts : List Nat) (v : (Nat → Int32) → Int32) : Prop :=
  (∀ (e : Nat → Int32) (t : Nat) (g : Nat → Int32), ∃ g', p_sts e ts (t, g) = (t + 1, g') ∧ g' t = v e ∧ ∀ j, j < t → g' j = g j) ∧
  (∀ (H : Nat) (r : List Nat) (t : Nat), t + h ≤ H → p_hv H r (t + 1) → p_hv H (ts ++ r) t) ∧
  (10108 ∉ ts → ∀ e e' : Nat → Int32, (∀ k, k ≠ 4 → e k = e' k) → v e = v e')
theorem p_xq_w {h h' : Nat} {ts : List Nat} {v : (Nat → Int32) → Int32} (hh : h ≤ h') (x : p_xq h ts v) : p_xq h' ts v := ⟨x.1, fun H r t g => x.2.1 H r t (by omega), x.2.2⟩
theorem p_xq_p {c : Nat} (hc : p_pu c) : p_xq 1 [c] (fun e => p_pvl e c) := by
  refine ⟨fun e t g => ⟨p_ud g t (p_pvl e c), ?_, p_ud_e _ _ _, fun j hj => p_ud_n (by omega)⟩, fun H r t h g => Or.inl ⟨hc, by omega, g⟩, fun h e e' g => ?_⟩
  · rw [p_sts, p_sts, p_stp, if_pos hc]
  · dsimp only
    unfold p_pvl
    by_cases c1 : c < 10000
    · rw [if_pos c1, if_pos c1]
    · rw [if_neg c1, if_neg c1]
      refine g _ ?_
      have hn : c ≠ 10108 := fun z => h (by rw [z]; exact List.mem_singleton.mpr rfl)
      have hc' : c = 10098 ∨ c = 10102 ∨ c = 10115 ∨ c = 10116 ∨ c = 10110 := by simp only [p_pu] at hc; omega
      rcases hc' with rfl | rfl | rfl | rfl | rfl <;> decide
theorem p_xq_n {h : Nat} {ts : List Nat} {v : (Nat → Int32) → Int32} (x : p_xq h ts v) : p_xq h (ts ++ [10033]) (fun e => if (v e).toInt = 0 then 1 else 0) := by
  refine ⟨fun e t g => ?_, fun H r t hh g => ?_, fun hn e e' g => ?_⟩
  · obtain ⟨g', e1, e2, e3⟩ := x.1 e t g
    refine ⟨p_ud g' t (if (g' t).toInt = 0 then 1 else 0), ?_, ?_, fun j hj => (p_ud_n (by omega)).trans (e3 j hj)⟩
    · rw [p_sts_a, e1, p_sts, p_sts, p_stp, if_neg (by decide), if_pos rfl]
      rfl
    · rw [p_ud_e, e2]
  · rw [List.append_assoc]
    exact x.2.1 H _ t hh (Or.inr (Or.inl ⟨Or.inl rfl, by omega, g⟩))
  · dsimp only
    rw [x.2.2 (fun z => hn (List.mem_append_left _ z)) e e' g]
theorem p_xq_m {h : Nat} {ts : List Nat} {v : (Nat → Int32) → Int32} (x : p_xq h ts v) : p_xq h (ts ++ [10126]) (fun e => -(v e)) := by
  refine ⟨fun e t g => ?_, fun H r t hh g => ?_, fun hn e e' g => ?_⟩
  · obtain ⟨g', e1, e2, e3⟩ := x.1 e t g
    refine ⟨p_ud g' t (-(g' t)), ?_, ?_, fun j hj => (p_ud_n (by omega)).trans (e3 j hj)⟩
    · rw [p_sts_a, e1, p_sts, p_sts, p_stp, if_neg (by decide), if_neg (by decide), if_pos rfl]
      rfl
    · rw [p_ud_e, e2]
  · rw [List.append_assoc]
    exact x.2.1 H _ t hh (Or.inr (Or.inl ⟨Or.inr rfl, by omega, g⟩))
  · dsimp only
    rw [x.2.2 (fun z => hn (List.mem_append_left _ z)) e e' g]
theorem p_bi_n {c : Nat} (h : p_bi c) : ¬ p_pu c ∧ c ≠ 10033 ∧ c ≠ 10126 := by
  simp only [p_bi] at h
  simp only [p_pu]
  omega
theorem p_xq_b {h h2 c : Nat} {ts us : List Nat} {v v2 : (Nat → Int32) → Int32} (x : p_xq h ts v) (y : p_xq h2 us v2) (hh : 1 + h2 ≤ h) (hc : p_bi c) : p_xq h (ts ++ (us ++ [c])) (fun e => p_bo c (v e) (v2 e)) := by
  obtain ⟨n1, n2, n3⟩ := p_bi_n hc
  refine ⟨fun e t g => ?_, fun H r t hH g => ?_, fun hn e e' g => ?_⟩
  · obtain ⟨g1, e1, e2, e3⟩ := x.1 e t g
    obtain ⟨g2, f1, f2, f3⟩ := y.1 e (t + 1) g1
    refine ⟨p_ud g2 t (p_bo c (g2 t) (g2 (t + 1))), ?_, ?_, fun j hj => (p_ud_n (by omega)).trans ((f3 j (by omega)).trans (e3 j hj))⟩
    · rw [p_sts_a, e1, p_sts_a, f1, p_sts, p_sts, p_stp, if_neg n1, if_neg n2, if_neg n3]
      rfl
    · rw [p_ud_e, f2, f3 t (by omega), e2]
  · rw [List.append_assoc, List.append_assoc]
    exact x.2.1 H _ t hH (y.2.1 H _ (t + 1) (by omega) (Or.inr (Or.inr ⟨hc, by omega, g⟩)))
  · dsimp only
    rw [x.2.2 (fun z => hn (List.mem_append_left _ z)) e e' g, y.2.2 (fun z => hn (List.mem_append_right _ (List.mem_append_left _ z))) e e' g]
theorem p_jn_b {lv c : Nat} (h : p_jn lv c) : p_bi (10000 + c) := by
  simp only [p_jn] at h
  simp only [p_bi]
  omega
theorem p_lp_x {n : Nat} {l : Nat → Nat} {r : Nat → k9_pr} {lv H h2 : Nat} (hh : 1 + h2 ≤ H) (hr : ∀ a, (r a).1 = true → ∃ v, p_xq h2 (r a).2.2 v) (k : Nat) : ∀ a acc v, p_xq H acc v → (p_lp n l r lv k a).1 = true → ∃ v', p_xq H (acc ++ (p_lp n l r lv k a).2.2) v' := by
  induction k with
  | zero =>
    intro a acc v x _
    rw [p_lp, List.append_nil]
    exact ⟨v, x⟩
  | succ k ih =>
    intro a acc v x
    rw [p_lp]
    by_cases c : p_jn lv (p_lt n l a)
    · rw [if_pos c]
      by_cases e : (r (a + 1)).1 = true
      · rw [if_pos e]
        intro z
        obtain ⟨v2, y⟩ := hr (a + 1) e
        obtain ⟨v3, x3⟩ := ih (r (a + 1)).2.1 _ _ (p_xq_b x y hh (p_jn_b c)) z
        refine ⟨v3, ?_⟩
        rw [List.append_assoc, List.append_assoc, List.singleton_append] at x3
        exact x3
      · rw [if_neg e]
        intro z
        cases z
    · rw [if_neg c, List.append_nil]
      intro _
      exact ⟨v, x⟩
theorem p_rd_x (n : Nat) (l : Nat → Nat) (f : Nat) : ∀ lv op a, lv ≤ 5 → op ≤ 6 → (p_rd n l f lv op a).1 = true → ∃ v, p_xq ((6 - op) * 5 + lv + 1) (p_rd n l f lv op a).2.2 v := by
  induction f with
  | zero =>
    intro lv op a _ _ h
    rw [p_rd] at h
    cases h
  | succ f ih =>
    intro lv op a hlv hop
    cases lv with
    | zero =>
      rw [p_rd]
      unfold p_od
      by_cases c1 : 48 ≤ p_lt n l a ∧ p_lt n l a ≤ 57
      · rw [if_pos c1]
        intro _
        have := p_nu_9 n l a
        exact ⟨_, p_xq_w (by omega) (p_xq_p (Or.inl (by omega)))⟩
      · rw [if_neg c1]
        by_cases c2 : p_na (p_lt n l a)
        · rw [if_pos c2]
          intro _
          exact ⟨_, p_xq_w (by omega) (p_xq_p (by simp only [p_na] at c2; simp only [p_pu]; omega))⟩
        · rw [if_neg c2]
          by_cases c3 : op < 6 ∧ p_lt n l a = 40
          · rw [if_pos c3]
            by_cases e : (p_rd n l f 5 (op + 1) (a + 1)).1 = true ∧ p_lt n l (p_rd n l f 5 (op + 1) (a + 1)).2.1 = 41
            · rw [if_pos e]
              intro _
              obtain ⟨v, x⟩ := ih 5 (op + 1) (a + 1) (by omega) (by omega) e.1
              exact ⟨v, p_xq_w (by omega) x⟩
            · rw [if_neg e]
              intro z
              cases z
          · rw [if_neg c3]
            by_cases c4 : op < 6 ∧ (p_lt n l a = 33 ∨ p_lt n l a = 45)
            · rw [if_pos c4]
              by_cases e : (p_rd n l f 0 (op + 1) (a + 1)).1 = true
              · rw [if_pos e]
                intro _
                obtain ⟨v, x⟩ := ih 0 (op + 1) (a + 1) (by omega) (by omega) e
                have x' := p_xq_w (h' := (6 - op) * 5 + 0 + 1) (by omega) x
                by_cases c5 : p_lt n l a = 45
                · rw [if_pos c5]
                  exact ⟨_, p_xq_m x'⟩
                · rw [if_neg c5]
                  exact ⟨_, p_xq_n x'⟩
              · rw [if_neg e]
                intro z
                cases z
            · rw [if_neg c4]
              intro z
              cases z
    | succ lv =>
      rw [p_rd]
      unfold p_lc
      by_cases e : (p_rd n l f lv op a).1 = true
      · rw [if_pos e]
        intro z
        obtain ⟨v, x⟩ := ih lv op a (by omega) hop e
        exact p_lp_x (H := (6 - op) * 5 + (lv + 1) + 1) (h2 := (6 - op) * 5 + lv + 1) (by omega) (fun b hb => ih lv op b (by omega) hop hb) _ _ _ v (p_xq_w (by omega) x) z
      · rw [if_neg e]
        intro z
        cases z
/-- what tokens are worth -/
def p_vx (e : Nat → Int32) (ts : List Nat) : Int32 := (p_sts e ts (0, fun _ => 0)).2 0
def p_xp (ts : List Nat) : Prop :=
  (∀ (e : Nat → Int32) (t : Nat) (g : Nat → Int32), ∃ g', p_sts e ts (t, g) = (t + 1, g') ∧ g' t = p_vx e ts ∧ ∀ j, j < t → g' j = g j) ∧
  (∀ t H, t + 36 ≤ H → p_hv H ts t) ∧
  (10108 ∉ ts → ∀ e e' : Nat → Int32, (∀ k, k ≠ 4 → e k = e' k) → p_vx e ts = p_vx e' ts)
theorem p_xp_q {ts : List Nat} {v : (Nat → Int32) → Int32} (x : p_xq 36 ts v) : p_xp ts := by
  have hv : ∀ e, p_vx e ts = v e := fun e => by
    obtain ⟨g', e1, e2, e3⟩ := x.1 e 0 (fun _ => 0)
    unfold p_vx
    rw [e1]
    exact e2
  refine ⟨fun e t g => ?_, fun t H h => ?_, fun h e e' g => ?_⟩
  · rw [hv e]
    exact x.1 e t g
  · have := x.2.1 H [] t h trivial
    rw [List.append_nil] at this
    exact this
  · rw [hv, hv]
    exact x.2.2 h e e' g
theorem p_e0_x {n : Nat} {l : Nat → Nat} {a : Nat} (h : (p_e0 n l a).1 = true) : p_xp (p_e0 n l a).2.2 := by
  obtain ⟨v, x⟩ := p_rd_x n l 42 5 0 a (by omega) (by omega) h
  exact p_xp_q x
def p_okl (x : k9_ln) : Prop := (x.1 = [] ∨ p_xp x.1) ∧ p_xp x.2
theorem p_lin_x {n : Nat} {l : Nat → Nat} {a : Nat} (h : (p_lin n l a).1 = true) : p_okl (p_lin n l a).2.2 := by
  unfold p_lin at h ⊢
  by_cases e : (p_e0 n l a).1 = true
  · rw [if_pos e] at h ⊢
    by_cases e2 : p_lt n l (p_e0 n l a).2.1 = 63
    · rw [if_pos e2] at h ⊢
      exact ⟨Or.inr (p_e0_x e), p_e0_x h⟩
    · rw [if_neg e2]
      exact ⟨Or.inl rfl, p_e0_x e⟩
  · rw [if_neg e] at h
    cases h
theorem p_tl_x (n : Nat) (l : Nat → Nat) (k : Nat) : ∀ a, (p_tl n l k a).1 = true → ∀ x, x ∈ (p_tl n l k a).2.2 → p_okl x := by
  induction k with
  | zero =>
    intro a _ x hx
    rw [p_tl] at hx
    cases hx
  | succ k ih =>
    intro a
    rw [p_tl]
    by_cases c1 : a < n
    · rw [if_pos c1]
      by_cases c2 : p_lt n l a = 59
      · rw [if_pos c2]
        by_cases r : (p_lin n l (a + 1)).1 = true
        · rw [if_pos r]
          intro z x hx
          rcases List.mem_cons.mp hx with rfl | hx
          · exact p_lin_x r
          · exact ih _ z x hx
        · rw [if_neg r]
          intro z
          cases z
      · rw [if_neg c2]
        intro z
        cases z
    · rw [if_neg c1]
      intro _ x hx
      cases hx
theorem p_tx_x {n : Nat} {l : Nat → Nat} (h : (p_tx n l).1 = true) : ∀ x, x ∈ (p_tx n l).2.2 → p_okl x := by
  unfold p_tx at h ⊢
  by_cases r : (p_lin n l 0).1 = true
  · rw [if_pos r] at h ⊢
    intro x hx
    rcases List.mem_cons.mp hx with rfl | hx
    · exact p_lin_x r
    · exact p_tl_x n l 119 _ h x hx
  · rw [if_neg r] at h
    cases h
/-- what the text is worth -/
def p_vl (e : Nat → Int32) : List k9_ln → Int32
  | [] => 0
  | x :: r => if x.1 ≠ [] ∧ (p_vx e x.1).toInt = 0 then p_vl e r else p_vx e x.2
/-- a row holds a list from a place on -/
def k9_Cd (R : Nat → Int32) (i : Nat) (C : List Nat) : Prop := ∀ j, j < C.length → R (i + j) = nI (C.getD j 0)
theorem k9_Cd_a {R : Nat → Int32} {i : Nat} {A B : List Nat} (h : k9_Cd R i (A ++ B)) : k9_Cd R i A ∧ k9_Cd R (i + A.length) B := by
  refine ⟨fun j hj => ?_, fun j hj => ?_⟩
  · have := h j (by rw [List.length_append]; omega)
    rw [show (A ++ B).getD j 0 = A.getD j 0 by simp [List.getD_eq_getElem?_getD, List.getElem?_append_left hj]] at this
    exact this
  · have := h (A.length + j) (by rw [List.length_append]; omega)
    rw [show (A ++ B).getD (A.length + j) 0 = B.getD j 0 by simp [List.getD_eq_getElem?_getD, List.getElem?_append_right], ← Nat.add_assoc] at this
    exact this
theorem k9_Cd_h {R : Nat → Int32} {i c : Nat} {r : List Nat} (h : k9_Cd R i (c :: r)) : R i = nI c ∧ k9_Cd R (i + 1) r := by
  refine ⟨h 0 (by simp), fun j hj => ?_⟩
  have := h (j + 1) (by rw [List.length_cons]; omega)
  rw [show i + (j + 1) = i + 1 + j by omega] at this
  exact this
theorem k9_Cd_c {R R' : Nat → Int32} {i : Nat} {C : List Nat} (e : R' = R) (h : k9_Cd R i C) : k9_Cd R' i C := by rw [e]; exact h
end KV8

/-! THE LAW: its value, the class -/
section KV9
variable {S : k9_S} {d : Nat} {I I' : k9_I} {J J' : k9_J} {t z p c i : Nat} {x y a : Int32} {e g : Nat → Int32} {ts : List Nat} {ls : List k9_ln}
def k9_Sk (I : k9_I) (t : Nat) (g : Nat → Int32) : Prop := I 6 0 5 = nI t ∧ ∀ j, j < t → I 29 0 j = g j
def k9_ev (I : k9_I) (i : Nat) (a : Int32) : Nat → Int32 := fun k => if k < 4 then I 4 i (k + 1) else if k = 4 then a else I 4 i 5
theorem k9_ev_x (h : k9_fx k9_Fl I I') : k9_ev I' i a = k9_ev I i a := by
  funext k
  unfold k9_ev
  rw [h 4 i (k + 1) rfl, h 4 i 5 rfl]
theorem k9s_51 (h : I 6 0 5 = nI t) (ht : t < 64) : k9_R S d 51 0 [some (k9_r 6 0), some (k9_i x)] [] I J = some (none, k9_u (k9_u I 29 0 t x) 6 0 5 (nI (t + 1)), J) := by
  refine k9o_of (k9o_eq k9e_51_0 (k9o_F (by rw [h, n_toInt (by omega)]; omega) (k9o_eq k9e_51_3 (k9o_F (by rw [h, n_toInt (by omega)]; omega) (k9o_eq k9e_51_7 (k9o_T (by rw [h, n_toInt (by omega)]; omega) ?_))))))
  rw [h, n_cl (by omega)]
  refine k9o_eq k9e_51_13 ?_
  rw [show (k9_u I 29 0 t x) 6 0 5 = I 6 0 5 from rfl, h, nI_1]
  exact k9o_eq k9e_51_19 (k9o_ret rfl)
theorem k9s_52 (h : I 6 0 5 = nI t) (h1 : 1 ≤ t) (h2 : t ≤ 64) : k9_R S d 52 0 [some (k9_r 6 0)] [] I J = some (some (k9_i (I 29 0 (t - 1))), k9_u I 6 0 5 (nI (t - 1)), J) := by
  refine k9o_of (k9o_eq k9e_52_0 (k9o_F (by rw [h, n_toInt (by omega)]; omega) (k9o_eq k9e_52_4 (k9o_T (by rw [h, n_toInt (by omega)]; omega) (k9o_eq k9e_52_10 ?_)))))
  rw [h, n_s1 h1, show (k9_u I 6 0 5 (nI (t - 1))) 6 0 5 = nI (t - 1) by simp [k9_ur]]
  refine k9o_T (by rw [n_toInt (by omega)]; omega) ?_
  rw [n_cl (by omega)]
  exact k9o_eq k9e_52_21 (k9o_ret rfl)
theorem k9s_50 (hc : p_bi c) : k9_R S d 50 0 [some (k9_i (nI (c - 10000))), some (k9_i y), some (k9_i x)] [] I J = some (some (k9_i (p_bo c x y)), I, J) := by
  refine k9o_of (k9o_eq k9e_50_0 ?_)
  rw [n_toInt (n := c - 10000) (by simp only [p_bi] at hc; omega)]
  rcases hc with rfl | rfl | rfl | rfl | rfl | rfl | rfl | rfl | rfl | rfl
  all_goals repeat (first | ((with_reducible refine k9q_T ?_ ?_); · omega) | ((with_reducible refine k9q_F ?_ ?_); · omega) | ((with_reducible refine k9q_Tb ?_ ?_); · omega) | ((with_reducible refine k9q_Fb ?_ ?_); · omega))
  · refine k9o_eq k9e_50_2 ?_
    by_cases h1 : x.toInt = 0
    · refine k9o_T h1 (k9o_eq k9e_50_4 ?_)
      by_cases h2 : y.toInt = 0
      · exact k9o_T h2 (k9o_eq k9e_50_8 (k9o_eq k9e_50_9 (k9o_ret (by rw [show p_bo 10124 x y = if x.toInt = 0 ∧ y.toInt = 0 then 0 else 1 from rfl, if_pos ⟨h1, h2⟩]))))
      · exact k9o_F h2 (k9o_eq k9e_50_6 (k9o_eq k9e_50_9 (k9o_ret (by rw [show p_bo 10124 x y = if x.toInt = 0 ∧ y.toInt = 0 then 0 else 1 from rfl, if_neg (fun z => h2 z.2)]))))
    · exact k9o_F h1 (k9o_eq k9e_50_6 (k9o_eq k9e_50_9 (k9o_ret (by rw [show p_bo 10124 x y = if x.toInt = 0 ∧ y.toInt = 0 then 0 else 1 from rfl, if_neg (fun z => h1 z.1)]))))
  · refine k9o_eq k9e_50_10 ?_
    by_cases h1 : x.toInt = 0
    · exact k9o_T h1 (k9o_eq k9e_50_16 (k9o_eq k9e_50_17 (k9o_ret (by rw [show p_bo 10038 x y = if x.toInt = 0 ∨ y.toInt = 0 then 0 else 1 from rfl, if_pos (Or.inl h1)]))))
    · refine k9o_F h1 (k9o_eq k9e_50_12 ?_)
      by_cases h2 : y.toInt = 0
      · exact k9o_T h2 (k9o_eq k9e_50_16 (k9o_eq k9e_50_17 (k9o_ret (by rw [show p_bo 10038 x y = if x.toInt = 0 ∨ y.toInt = 0 then 0 else 1 from rfl, if_pos (Or.inr h2)]))))
      · exact k9o_F h2 (k9o_eq k9e_50_14 (k9o_eq k9e_50_17 (k9o_ret (by rw [show p_bo 10038 x y = if x.toInt = 0 ∨ y.toInt = 0 then 0 else 1 from rfl, if_neg (fun z => z.elim h1 h2)]))))
  · refine k9o_eq k9e_50_18 ?_
    by_cases h1 : x.toInt < y.toInt
    · exact k9o_F (by omega) (k9o_eq k9e_50_21 (k9o_eq k9e_50_24 (k9o_ret (by rw [show p_bo 10060 x y = if x.toInt < y.toInt then 1 else 0 from rfl, if_pos h1]))))
    · exact k9o_T (by omega) (k9o_eq k9e_50_23 (k9o_eq k9e_50_24 (k9o_ret (by rw [show p_bo 10060 x y = if x.toInt < y.toInt then 1 else 0 from rfl, if_neg h1]))))
  · refine k9o_eq k9e_50_25 ?_
    by_cases h1 : x.toInt = y.toInt
    · exact k9o_T h1 (k9o_eq k9e_50_28 (k9o_eq k9e_50_31 (k9o_ret (by rw [show p_bo 10061 x y = if x.toInt = y.toInt then 1 else 0 from rfl, if_pos h1]))))
    · exact k9o_F h1 (k9o_eq k9e_50_30 (k9o_eq k9e_50_31 (k9o_ret (by rw [show p_bo 10061 x y = if x.toInt = y.toInt then 1 else 0 from rfl, if_neg h1]))))
  · refine k9o_eq k9e_50_32 ?_
    by_cases h1 : y.toInt < x.toInt
    · exact k9o_F (by omega) (k9o_eq k9e_50_35 (k9o_eq k9e_50_38 (k9o_ret (by rw [show p_bo 10062 x y = if y.toInt < x.toInt then 1 else 0 from rfl, if_pos h1]))))
    · exact k9o_T (by omega) (k9o_eq k9e_50_37 (k9o_eq k9e_50_38 (k9o_ret (by rw [show p_bo 10062 x y = if y.toInt < x.toInt then 1 else 0 from rfl, if_neg h1]))))
  · exact k9o_eq k9e_50_39 (k9o_ret rfl)
  · exact k9o_eq k9e_50_43 (k9o_ret rfl)
  · exact k9o_eq k9e_50_47 (k9o_ret rfl)
  · refine k9o_eq k9e_50_51 ?_
    by_cases h1 : y.toInt = 0
    · exact k9o_T h1 (k9o_eq k9e_50_53 (k9o_eq k9e_50_58 (k9o_ret (by rw [show p_bo 10047 x y = if y.toInt = 0 then 0 else x / y from rfl, if_pos h1]))))
    · exact k9o_F h1 (k9o_eq k9e_50_55 (k9o_T h1 (k9o_eq k9e_50_58 (k9o_ret (by rw [show p_bo 10047 x y = if y.toInt = 0 then 0 else x / y from rfl, if_neg h1])))))
  · refine k9o_eq k9e_50_59 ?_
    by_cases h1 : y.toInt = 0
    · exact k9o_T h1 (k9o_eq k9e_50_61 (k9o_eq k9e_50_66 (k9o_ret (by rw [show p_bo 10037 x y = if y.toInt = 0 then 0 else x - x / y * y from rfl, if_pos h1]))))
    · exact k9o_F h1 (k9o_eq k9e_50_63 (k9o_T h1 (k9o_eq k9e_50_66 (k9o_ret (by rw [show p_bo 10037 x y = if y.toInt = 0 then 0 else x - x / y * y from rfl, if_neg h1])))))
/-- a name's worth -/
theorem k9s_49n (hc : c = 10098 ∨ c = 10102 ∨ c = 10115 ∨ c = 10116 ∨ c = 10108 ∨ c = 10110) : k9_R S d 49 0 [some (k9_r 6 0), some (k9_i (nI (c - 10000))), some (k9_r 4 i), some (k9_i a)] [] I J = some (some (k9_i (k9_ev I i a (p_tkm c))), I, J) := by
  refine k9o_of (k9o_eq k9e_49_0 ?_)
  rw [n_toInt (n := c - 10000) (by omega)]
  rcases hc with rfl | rfl | rfl | rfl | rfl | rfl
  all_goals repeat (first | ((with_reducible refine k9q_T ?_ ?_); · omega) | ((with_reducible refine k9q_F ?_ ?_); · omega) | ((with_reducible refine k9q_Tb ?_ ?_); · omega) | ((with_reducible refine k9q_Fb ?_ ?_); · omega))
  · exact k9o_eq k9e_49_2 (k9o_ret rfl)
  · exact k9o_eq k9e_49_5 (k9o_ret rfl)
  · exact k9o_eq k9e_49_8 (k9o_ret rfl)
  · exact k9o_eq k9e_49_11 (k9o_ret rfl)
  · exact k9o_eq k9e_49_14 (k9o_ret rfl)
  · exact k9o_eq k9e_49_16 (k9o_ret rfl)
/-- one token -/
theorem k9s_48t (hp : I 28 0 p = nI c) (hz : I 6 0 3 = nI z) (hpz : p < z) (h121 : z ≤ 121) (he : k9_ev I i a = e) (hc : (p_pu c ∧ t < 64) ∨ (p_uy c ∧ 1 ≤ t) ∨ (p_bi c ∧ 2 ≤ t)) (h64 : t ≤ 64) (hS : k9_Sk I t g) : ∃ I', k9_Sk I' (p_stp e c (t, g)).1 (p_stp e c (t, g)).2 ∧ k9_fx k9_Fl I I' ∧ ∀ Q, k9_ok (k9_R S (d + 3) 48 13 [some (k9_r 6 0), some (k9_r 4 i), some (k9_i a), some (k9_i (nI 0)), some (k9_i (nI (p + 1))), none] [] I' J) Q → k9_ok (k9_R S (d + 3) 48 13 [some (k9_r 6 0), some (k9_r 4 i), some (k9_i a), some (k9_i (nI 0)), some (k9_i (nI p)), none] [] I J) Q := by
  have hcn : c ≠ 10059 ∧ c ≠ 10063 := p_et_n (hc.elim (fun h => Or.inl h.1) (fun h => h.elim (fun h => Or.inr (Or.inl h.1)) (fun h => Or.inr (Or.inr h.1))))
  have hcb : c < 20000 := by simp only [p_pu, p_uy, p_bi] at hc; omega
  obtain ⟨s5, s29⟩ := hS
  have st : ∀ Q, k9_ok (k9_R S (d + 3) 48 52 [some (k9_r 6 0), some (k9_r 4 i), some (k9_i a), some (k9_i (nI 0)), some (k9_i (nI p)), some (k9_i (nI c))] [] I J) Q → k9_ok (k9_R S (d + 3) 48 13 [some (k9_r 6 0), some (k9_r 4 i), some (k9_i a), some (k9_i (nI 0)), some (k9_i (nI p)), none] [] I J) Q := by
    intro Q g
    refine k9o_eq k9e_48_13 (k9o_F (by rw [hz, n_toInt (by omega), n_toInt (by omega)]; omega) (k9o_eq k9e_48_17 (k9o_F (by rw [n_toInt (by omega)]; omega) (k9o_eq k9e_48_20 (k9o_T (by rw [n_toInt (by omega)]; omega) ?_)))))
    rw [n_cl (by omega), hp]
    exact k9o_eq k9e_48_24 (k9o_T (by decide) (k9o_eq k9e_48_35 (k9o_F (by rw [n_toInt (by omega)]; omega) (k9o_eq k9e_48_41 (k9o_F (by rw [n_toInt (by omega)]; omega) g)))))
  have fin : ∀ (I1 : k9_I) (u : Nat) (v : Int32) (Q : k9_A → Prop), I1 6 0 5 = nI u → u < 64 → k9_ok (k9_R S (d + 3) 48 13 [some (k9_r 6 0), some (k9_r 4 i), some (k9_i a), some (k9_i (nI 0)), some (k9_i (nI (p + 1))), none] [] (k9_u (k9_u I1 29 0 u v) 6 0 5 (nI (u + 1))) J) Q → k9_ok (k9_R S (d + 3) 48 65 [some (k9_r 6 0), some (k9_r 4 i), some (k9_i a), some (k9_i (nI 0)), some (k9_i (nI p)), some (k9_i (nI c))] [k9_i v, k9_r 6 0] I1 J) Q := by
    intro I1 u v Q h1 h2 g
    refine k9o_eq k9e_48_65 (k9o_call (k9s_51 h1 h2) ?_)
    simp only [k9_ps_n]
    refine k9o_eq k9e_48_66 ?_
    rw [nI_1]
    exact g
  have sub : nI c - 10000 = nI (c - 10000) ∨ c < 10000 := by
    by_cases h : c < 10000
    · exact Or.inr h
    · exact Or.inl (by rw [show (10000 : Int32) = nI 10000 from rfl, n_sub (by omega)])
  rcases hc with ⟨hc, ht⟩ | ⟨hc, ht⟩ | ⟨hc, ht⟩
  · refine ⟨k9_u (k9_u I 29 0 t (p_pvl e c)) 6 0 5 (nI (t + 1)), ?_, k9_fx_u (k9_fx_u (k9_fx_rf _ _) rfl) rfl, fun Q g => st Q ?_⟩
    · rw [p_stp, if_pos hc]
      refine ⟨by simp [k9_ur], fun j hj => ?_⟩
      show (k9_u (k9_u I 29 0 t (p_pvl e c)) 6 0 5 (nI (t + 1))) 29 0 j = p_ud _ t (p_pvl e c) j
      by_cases hjt : j = t
      · rw [hjt, p_ud_e]
        simp [k9_ur]
      · rw [p_ud_n hjt]
        simp [k9_ur, hjt]
        have hj' : j < t + 1 := hj
        exact s29 j (by omega)
    · by_cases c1 : c < 10000
      · rw [show p_pvl e c = nI c from if_pos c1] at g
        exact k9o_eq k9e_48_52 (k9o_F (by rw [n_toInt (by omega)]; omega) (k9o_eq k9e_48_56 (fin I t _ Q s5 ht g)))
      · rw [show p_pvl e c = e (p_tkm c) from if_neg c1, ← he] at g
        refine k9o_eq k9e_48_52 (k9o_T (by rw [n_toInt (by omega)]; omega) (k9o_eq k9e_48_58 ?_))
        rw [sub.resolve_right c1]
        refine k9o_call (k9s_49n (by simp only [p_pu] at hc; omega)) ?_
        simp only [k9_ps_s]
        exact fin I t _ Q s5 ht g
  · have c1 : ¬ c < 10000 := by simp only [p_uy] at hc; omega
    have e52 := k9s_52 (S := S) (d := d + 1) (J := J) s5 ht h64
    have ex : I 29 0 (t - 1) = g (t - 1) := s29 (t - 1) (by omega)
    rw [ex] at e52
    obtain ⟨I1, hI1⟩ : ∃ I1, I1 = k9_u I 6 0 5 (nI (t - 1)) := ⟨_, rfl⟩
    have u5 : I1 6 0 5 = nI (t - 1) := by rw [hI1]; simp [k9_ur]
    have u29 : ∀ j, I1 29 0 j = I 29 0 j := fun j => by rw [hI1]; rfl
    have u1 : k9_fx k9_Fl I I1 := by rw [hI1]; exact k9_fx_u (k9_fx_rf _ _) rfl
    rw [← hI1] at e52
    have res : ∀ v : Int32, k9_Sk (k9_u (k9_u I1 29 0 (t - 1) v) 6 0 5 (nI (t - 1 + 1))) t (p_ud g (t - 1) v) := by
      intro v
      refine ⟨by simp [k9_ur]; congr 1; omega, fun j hj => ?_⟩
      by_cases hjt : j = t - 1
      · rw [hjt, p_ud_e]
        simp [k9_ur]
      · rw [p_ud_n hjt]
        simp [k9_ur, hjt]
        rw [u29]
        exact s29 j hj
    have go : ∀ (v : Int32) (Q : k9_A → Prop), (k9_R S (d + 2) 49 0 [some (k9_r 6 0), some (k9_i (nI (c - 10000))), some (k9_r 4 i), some (k9_i a)] [] I J = some (some (k9_i v), I1, J)) → k9_ok (k9_R S (d + 3) 48 13 [some (k9_r 6 0), some (k9_r 4 i), some (k9_i a), some (k9_i (nI 0)), some (k9_i (nI (p + 1))), none] [] (k9_u (k9_u I1 29 0 (t - 1) v) 6 0 5 (nI (t - 1 + 1))) J) Q → k9_ok (k9_R S (d + 3) 48 13 [some (k9_r 6 0), some (k9_r 4 i), some (k9_i a), some (k9_i (nI 0)), some (k9_i (nI p)), none] [] I J) Q := by
      intro v Q e49 g
      refine st Q (k9o_eq k9e_48_52 (k9o_T (by rw [n_toInt (by omega)]; omega) (k9o_eq k9e_48_58 ?_)))
      rw [sub.resolve_right c1]
      refine k9o_call e49 ?_
      simp only [k9_ps_s]
      exact fin I1 (t - 1) v Q u5 (by omega) g
    rcases hc with rfl | rfl
    · have e49 : k9_R S (d + 2) 49 0 [some (k9_r 6 0), some (k9_i (nI (10033 - 10000))), some (k9_r 4 i), some (k9_i a)] [] I J = some (some (k9_i (if (g (t - 1)).toInt = 0 then 1 else 0)), I1, J) := by
        refine k9o_of (k9o_eq k9e_49_0 (k9o_T (by decide) (k9o_eq k9e_49_19 (k9o_call e52 ?_))))
        simp only [k9_ps_s]
        refine k9o_eq k9e_49_21 ?_
        by_cases h0 : (g (t - 1)).toInt = 0
        · exact k9o_T h0 (k9o_eq k9e_49_22 (k9o_eq k9e_49_25 (k9o_ret (by rw [if_pos h0]))))
        · exact k9o_F h0 (k9o_eq k9e_49_24 (k9o_eq k9e_49_25 (k9o_ret (by rw [if_neg h0]))))
      exact ⟨_, res _, k9_fx_u (k9_fx_u u1 rfl) rfl, fun Q g => go _ Q e49 g⟩
    · have e49 : k9_R S (d + 2) 49 0 [some (k9_r 6 0), some (k9_i (nI (10126 - 10000))), some (k9_r 4 i), some (k9_i a)] [] I J = some (some (k9_i (-(g (t - 1)))), I1, J) := by
        refine k9o_of (k9o_eq k9e_49_0 (k9o_F (by decide) (k9o_F (by decide) (k9o_F (by decide) (k9o_F (by decide) (k9o_F (by decide) (k9o_F (by decide) (k9o_F (by decide) (k9o_T (by decide) (k9o_eq k9e_49_26 (k9o_call e52 ?_)))))))))))
        simp only [k9_ps_s]
        exact k9o_eq k9e_49_28 (k9o_ret rfl)
      exact ⟨_, res _, k9_fx_u (k9_fx_u u1 rfl) rfl, fun Q g => go _ Q e49 g⟩
  · have c1 : ¬ c < 10000 := by simp only [p_bi] at hc; omega
    obtain ⟨n1, n2, n3⟩ := p_bi_n hc
    have e52 := k9s_52 (S := S) (d := d + 1) (J := J) s5 (by omega) h64
    rw [s29 (t - 1) (by omega)] at e52
    obtain ⟨I1, hI1⟩ : ∃ I1, I1 = k9_u I 6 0 5 (nI (t - 1)) := ⟨_, rfl⟩
    have u5 : I1 6 0 5 = nI (t - 1) := by rw [hI1]; simp [k9_ur]
    have u29 : ∀ j, I1 29 0 j = I 29 0 j := fun j => by rw [hI1]; rfl
    rw [← hI1] at e52
    have f52 := k9s_52 (S := S) (d := d + 1) (J := J) u5 (by omega) (by omega)
    rw [show t - 1 - 1 = t - 2 by omega, u29, s29 (t - 2) (by omega)] at f52
    obtain ⟨I2, hI2⟩ : ∃ I2, I2 = k9_u I1 6 0 5 (nI (t - 2)) := ⟨_, rfl⟩
    have w5 : I2 6 0 5 = nI (t - 2) := by rw [hI2]; simp [k9_ur]
    have w29 : ∀ j, I2 29 0 j = I 29 0 j := fun j => by rw [hI2]; exact u29 j
    have w1 : k9_fx k9_Fl I I2 := by rw [hI2, hI1]; exact k9_fx_u (k9_fx_u (k9_fx_rf _ _) rfl) rfl
    rw [← hI2] at f52
    refine ⟨k9_u (k9_u I2 29 0 (t - 2) (p_bo c (g (t - 2)) (g (t - 1)))) 6 0 5 (nI (t - 2 + 1)), ?_, k9_fx_u (k9_fx_u w1 rfl) rfl, fun Q hQ => st Q ?_⟩
    · rw [p_stp, if_neg n1, if_neg n2, if_neg n3]
      refine ⟨by simp [k9_ur]; congr 1; omega, fun j hj => ?_⟩
      have hj' : j < t - 1 := hj
      show (k9_u (k9_u I2 29 0 (t - 2) (p_bo c (g (t - 2)) (g (t - 1)))) 6 0 5 (nI (t - 2 + 1))) 29 0 j = p_ud g (t - 2) (p_bo c (g (t - 2)) (g (t - 1))) j
      by_cases hjt : j = t - 2
      · rw [hjt, p_ud_e]
        simp [k9_ur]
      · rw [p_ud_n hjt]
        simp [k9_ur, hjt]
        rw [w29]
        exact s29 j (by omega)
    · refine k9o_eq k9e_48_52 (k9o_T (by rw [n_toInt (by omega)]; omega) (k9o_eq k9e_48_58 ?_))
      rw [sub.resolve_right c1]
      have e49 : k9_ok (k9_R S (d + 2) 49 0 [some (k9_r 6 0), some (k9_i (nI (c - 10000))), some (k9_r 4 i), some (k9_i a)] [] I J) (fun q => q = (some (k9_i (p_bo c (g (t - 2)) (g (t - 1)))), I2, J)) := by
        refine k9o_eq k9e_49_0 ?_
        rw [n_toInt (n := c - 10000) (by simp only [p_bi] at hc; omega)]
        have hc' : c = 10124 ∨ c = 10038 ∨ c = 10060 ∨ c = 10061 ∨ c = 10062 ∨ c = 10043 ∨ c = 10045 ∨ c = 10042 ∨ c = 10047 ∨ c = 10037 := hc
        repeat (first | ((with_reducible refine k9q_T ?_ ?_); · omega) | ((with_reducible refine k9q_F ?_ ?_); · omega) | ((with_reducible refine k9q_Tb ?_ ?_); · omega) | ((with_reducible refine k9q_Fb ?_ ?_); · omega))
        refine k9o_eq k9e_49_30 (k9o_call e52 ?_)
        simp only [k9_ps_s]
        refine k9o_eq k9e_49_33 (k9o_call f52 ?_)
        simp only [k9_ps_s]
        refine k9o_eq k9e_49_35 (k9o_call (k9s_50 hc) ?_)
        simp only [k9_ps_s]
        exact k9o_eq k9e_49_36 (k9o_ret rfl)
      refine k9o_call (k9o_of e49) ?_
      simp only [k9_ps_s]
      exact fin I2 (t - 2) _ Q w5 (by omega) hQ
/-- tokens -/
theorem k9s_48s (h121 : z ≤ 121) : ∀ (ts : List Nat) (p t : Nat) (g : Nat → Int32) (I : k9_I), k9_Cd (I 28 0) p ts → I 6 0 3 = nI z → p + ts.length ≤ z → p_hv 64 ts t → t ≤ 64 → k9_ev I i a = e → k9_Sk I t g → ∃ I', k9_Sk I' (p_sts e ts (t, g)).1 (p_sts e ts (t, g)).2 ∧ k9_fx k9_Fl I I' ∧ ∀ Q, k9_ok (k9_R S (d + 3) 48 13 [some (k9_r 6 0), some (k9_r 4 i), some (k9_i a), some (k9_i (nI 0)), some (k9_i (nI (p + ts.length))), none] [] I' J) Q → k9_ok (k9_R S (d + 3) 48 13 [some (k9_r 6 0), some (k9_r 4 i), some (k9_i a), some (k9_i (nI 0)), some (k9_i (nI p)), none] [] I J) Q := by
  intro ts
  induction ts with
  | nil =>
    intro p t g I _ _ _ _ _ _ hS
    exact ⟨I, hS, k9_fx_rf _ _, fun Q h => h⟩
  | cons c r ih =>
    intro p t g I hC hz hp hH h64 he hS
    obtain ⟨c1, c2⟩ := k9_Cd_h hC
    rw [List.length_cons] at hp
    obtain ⟨I1, s1, x1, k1⟩ := k9s_48t (S := S) (d := d) (J := J) c1 hz (by omega) h121 he (hH.elim (fun h => Or.inl ⟨h.1, h.2.1⟩) (fun h => h.elim (fun h => Or.inr (Or.inl ⟨h.1, h.2.1⟩)) (fun h => Or.inr (Or.inr ⟨h.1, h.2.1⟩)))) h64 hS
    have hn : p_hv 64 r (p_stp e c (t, g)).1 ∧ (p_stp e c (t, g)).1 ≤ 64 := by
      rcases hH with ⟨h1, h2, h3⟩ | ⟨h1, h2, h3⟩ | ⟨h1, h2, h3⟩
      · rw [p_stp, if_pos h1]
        exact ⟨h3, h2⟩
      · have n1 : ¬ p_pu c := by simp only [p_uy] at h1; simp only [p_pu]; omega
        rw [p_stp, if_neg n1]
        rcases h1 with rfl | rfl
        · rw [if_pos rfl]
          exact ⟨h3, h64⟩
        · rw [if_neg (by decide), if_pos rfl]
          exact ⟨h3, h64⟩
      · obtain ⟨n1, n2, n3⟩ := p_bi_n h1
        rw [p_stp, if_neg n1, if_neg n2, if_neg n3]
        exact ⟨h3, by show t - 1 ≤ 64; omega⟩
    obtain ⟨I2, s2, x2, k2⟩ := ih (p + 1) _ _ I1 (k9_Cd_c (funext fun j => x1 28 0 j rfl) c2) ((x1 6 0 3 rfl).trans hz) (by omega) hn.1 hn.2 ((k9_ev_x x1).trans he) s1
    rw [show p + 1 + r.length = p + (r.length + 1) by omega] at k2
    exact ⟨I2, s2, k9_fx_tr x1 x2, fun Q h => k1 Q (k2 Q h)⟩
/-- one at a place, looked at -/
theorem k9s_48c {x3 : Int32} {Q : k9_A → Prop} (hp : I 28 0 p = nI c) (hz : I 6 0 3 = nI z) (hpz : p < z) (h121 : z ≤ 121) (g : k9_ok (k9_R S d 48 24 [some (k9_r 6 0), some (k9_r 4 i), some (k9_i a), some (k9_i x3), some (k9_i (nI p)), none] [k9_i (nI c)] I J) Q) : k9_ok (k9_R S d 48 13 [some (k9_r 6 0), some (k9_r 4 i), some (k9_i a), some (k9_i x3), some (k9_i (nI p)), none] [] I J) Q := by
  refine k9o_eq k9e_48_13 (k9o_F (by rw [hz, n_toInt (by omega), n_toInt (by omega)]; omega) (k9o_eq k9e_48_17 (k9o_F (by rw [n_toInt (by omega)]; omega) (k9o_eq k9e_48_20 (k9o_T (by rw [n_toInt (by omega)]; omega) ?_)))))
  rw [n_cl (by omega), hp]
  exact g
/-- a line is passed over -/
theorem k9s_48p {Q : k9_A → Prop} (h121 : z ≤ 121) : ∀ (ts : List Nat) (p : Nat), (∀ c, c ∈ ts → c ≠ 10059 ∧ c < 20000) → k9_Cd (I 28 0) p (ts ++ [10059]) → I 6 0 3 = nI z → p + ts.length < z → k9_ok (k9_R S d 48 13 [some (k9_r 6 0), some (k9_r 4 i), some (k9_i a), some (k9_i (nI 0)), some (k9_i (nI (p + ts.length + 1))), none] [] I J) Q → k9_ok (k9_R S d 48 13 [some (k9_r 6 0), some (k9_r 4 i), some (k9_i a), some (k9_i (nI 1)), some (k9_i (nI p)), none] [] I J) Q := by
  intro ts
  induction ts with
  | nil =>
    intro p _ hC hz hp g
    obtain ⟨c1, -⟩ := k9_Cd_h hC
    refine k9s_48c c1 hz hp h121 (k9o_eq k9e_48_24 (k9o_F (by decide) (k9o_eq k9e_48_27 (k9o_T (by decide) (k9o_eq k9e_48_32 (k9o_eq k9e_48_33 (k9o_eq k9e_48_66 ?_)))))))
    rw [nI_1]
    exact g
  | cons c r ih =>
    intro p hc hC hz hp g
    obtain ⟨c1, c2⟩ := k9_Cd_h (r := r ++ [10059]) hC
    rw [List.length_cons] at hp g
    obtain ⟨d1, d2⟩ := hc c List.mem_cons_self
    refine k9s_48c c1 hz (by omega) h121 (k9o_eq k9e_48_24 (k9o_F (by decide) (k9o_eq k9e_48_27 (k9o_F (by rw [n_toInt (by omega)]; omega) (k9o_eq k9e_48_30 (k9o_eq k9e_48_33 (k9o_eq k9e_48_66 ?_)))))))
    rw [nI_1]
    refine ih (p + 1) (fun c h => hc c (List.mem_cons_of_mem _ h)) c2 hz (by omega) ?_
    rw [show p + 1 + r.length + 1 = p + (r.length + 1) + 1 by omega]
    exact g
theorem p_xp_m {ts : List Nat} (h : p_xp ts) : ∀ c, c ∈ ts → c ≠ 10059 ∧ c < 20000 := fun c hc => by
  have := p_hv_m (h.2.1 0 64 (by omega)) c hc
  simp only [p_pu, p_uy, p_bi] at this
  omega
/-- the lines -/
theorem k9s_48l (h121 : z ≤ 121) : ∀ (ls : List k9_ln) (p : Nat) (I : k9_I), (∀ x, x ∈ ls → p_okl x) → k9_Cd (I 28 0) p (ls.map p_ctk).flatten → I 6 0 3 = nI z → p + (ls.map p_ctk).flatten.length = z → k9_ev I i a = e → I 6 0 5 = nI 0 → ∃ I', k9_R S (d + 3) 48 13 [some (k9_r 6 0), some (k9_r 4 i), some (k9_i a), some (k9_i (nI 0)), some (k9_i (nI p)), none] [] I J = some (some (k9_i (p_vl e ls)), I', J) ∧ k9_fx k9_Fl I I' := by
  intro ls
  induction ls with
  | nil =>
    intro p I _ hC hz hp he h5
    have hp' : p = z := by simpa using hp
    exact ⟨I, k9o_of (k9o_eq k9e_48_13 (k9o_T (by rw [hz, hp']; omega) (k9o_eq k9e_48_68 (k9o_ret rfl)))), k9_fx_rf _ _⟩
  | cons x r ih =>
    intro p I hok hC hz hp he h5
    obtain ⟨o1, o2⟩ := hok x List.mem_cons_self
    rw [List.map_cons, List.flatten_cons] at hC hp
    rw [List.length_append] at hp
    obtain ⟨C1, C2⟩ := k9_Cd_a hC
    -- a line's own tokens, and its end
    have body : ∀ (p : Nat) (I : k9_I), k9_Cd (I 28 0) p (x.2 ++ [10059]) → I 6 0 3 = nI z → p + x.2.length < z → k9_ev I i a = e → I 6 0 5 = nI 0 → ∃ I', k9_R S (d + 3) 48 13 [some (k9_r 6 0), some (k9_r 4 i), some (k9_i a), some (k9_i (nI 0)), some (k9_i (nI p)), none] [] I J = some (some (k9_i (p_vx e x.2)), I', J) ∧ k9_fx k9_Fl I I' := by
      intro p I hC hz hp he h5
      obtain ⟨D1, D2⟩ := k9_Cd_a hC
      obtain ⟨D3, -⟩ := k9_Cd_h D2
      obtain ⟨I1, s1, x1, k1⟩ := k9s_48s (S := S) (d := d) (J := J) h121 x.2 p 0 (fun j => I 29 0 j) I D1 hz (by omega) (o2.2.1 0 64 (by omega)) (by omega) he ⟨h5, fun j hj => by omega⟩
      obtain ⟨g', f1, f2, f3⟩ := o2.1 e 0 (fun j => I 29 0 j)
      rw [f1] at s1
      have e52 := k9s_52 (S := S) (d := d + 2) (J := J) s1.1 (by omega) (by omega)
      rw [show I1 29 0 (0 + 1 - 1) = p_vx e x.2 from (s1.2 0 (by omega)).trans f2] at e52
      refine ⟨k9_u I1 6 0 5 (nI (0 + 1 - 1)), k9o_of (k1 _ (k9s_48c ((x1 28 0 _ rfl).trans D3) ((x1 6 0 3 rfl).trans hz) (by omega) h121 (k9o_eq k9e_48_24 (k9o_T (by decide) (k9o_eq k9e_48_35 (k9o_T (by decide) (k9o_eq k9e_48_38 (k9o_call e52 ?_)))))))), k9_fx_u x1 rfl⟩
      simp only [k9_ps_s]
      exact k9o_eq k9e_48_40 (k9o_ret rfl)
    rw [p_vl]
    by_cases q : x.1 = []
    · rw [if_neg (fun z => z.1 q)]
      have ec : p_ctk x = x.2 ++ [10059] := if_pos q
      rw [ec] at C1 hp
      rw [List.length_append, List.length_singleton] at hp
      exact body p I C1 hz (by omega) he h5
    · have ec : p_ctk x = x.1 ++ 10063 :: (x.2 ++ [10059]) := if_neg q
      rw [ec] at C1 C2 hp
      rw [List.length_append, List.length_cons, List.length_append, List.length_singleton] at hp C2
      obtain ⟨D1, D2⟩ := k9_Cd_a C1
      obtain ⟨D3, D4⟩ := k9_Cd_h D2
      have o1 := o1.resolve_left q
      obtain ⟨I1, s1, x1, k1⟩ := k9s_48s (S := S) (d := d) (J := J) h121 x.1 p 0 (fun j => I 29 0 j) I D1 hz (by omega) (o1.2.1 0 64 (by omega)) (by omega) he ⟨h5, fun j hj => by omega⟩
      obtain ⟨g', f1, f2, f3⟩ := o1.1 e 0 (fun j => I 29 0 j)
      rw [f1] at s1
      have e52 := k9s_52 (S := S) (d := d + 2) (J := J) s1.1 (by omega) (by omega)
      rw [show I1 29 0 (0 + 1 - 1) = p_vx e x.1 from (s1.2 0 (by omega)).trans f2] at e52
      obtain ⟨I2, hI2⟩ : ∃ I2, I2 = k9_u I1 6 0 5 (nI (0 + 1 - 1)) := ⟨_, rfl⟩
      rw [← hI2] at e52
      have x2 : k9_fx k9_Fl I I2 := by rw [hI2]; exact k9_fx_u x1 rfl
      have s5 : I2 6 0 5 = nI 0 := by rw [hI2]; simp [k9_ur]
      have go : ∀ Q, k9_ok (k9_R S (d + 3) 48 46 [some (k9_r 6 0), some (k9_r 4 i), some (k9_i a), some (k9_i (nI 0)), some (k9_i (nI (p + x.1.length))), some (k9_i (nI 10063))] [k9_i (p_vx e x.1)] I2 J) Q → k9_ok (k9_R S (d + 3) 48 13 [some (k9_r 6 0), some (k9_r 4 i), some (k9_i a), some (k9_i (nI 0)), some (k9_i (nI p)), none] [] I J) Q := by
        intro Q g
        refine k1 _ (k9s_48c ((x1 28 0 _ rfl).trans D3) ((x1 6 0 3 rfl).trans hz) (by omega) h121 (k9o_eq k9e_48_24 (k9o_T (by decide) (k9o_eq k9e_48_35 (k9o_F (by decide) (k9o_eq k9e_48_41 (k9o_T (by decide) (k9o_eq k9e_48_44 (k9o_call e52 ?_)))))))))
        simp only [k9_ps_s]
        exact g
      by_cases q0 : (p_vx e x.1).toInt = 0
      · rw [if_pos ⟨q, q0⟩]
        obtain ⟨I3, e3, x3⟩ := ih (p + (x.1.length + (x.2.length + 1 + 1))) I2 (fun y hy => hok y (List.mem_cons_of_mem _ hy)) (k9_Cd_c (funext fun j => x2 28 0 j rfl) C2) ((x2 6 0 3 rfl).trans hz) (by omega) ((k9_ev_x x2).trans he) s5
        refine ⟨I3, k9o_of (go _ (k9o_eq k9e_48_46 (k9o_T q0 (k9o_eq k9e_48_47 (k9o_eq k9e_48_50 (k9o_eq k9e_48_66 ?_)))))), k9_fx_tr x2 x3⟩
        rw [nI_1]
        refine k9s_48p h121 x.2 (p + x.1.length + 1) (p_xp_m o2) (k9_Cd_c (funext fun j => x2 28 0 j rfl) D4) ((x2 6 0 3 rfl).trans hz) (by omega) ?_
        rw [show p + x.1.length + 1 + x.2.length + 1 = p + (x.1.length + (x.2.length + 1 + 1)) by omega]
        exact k9o_to e3 rfl
      · rw [if_neg (fun z => q0 z.2)]
        obtain ⟨I3, e3, x3⟩ := body (p + x.1.length + 1) I2 (k9_Cd_c (funext fun j => x2 28 0 j rfl) D4) ((x2 6 0 3 rfl).trans hz) (by omega) ((k9_ev_x x2).trans he) s5
        refine ⟨I3, k9o_of (go _ (k9o_eq k9e_48_46 (k9o_F q0 (k9o_eq k9e_48_49 (k9o_eq k9e_48_50 (k9o_eq k9e_48_66 ?_)))))), k9_fx_tr x2 x3⟩
        rw [nI_1]
        exact k9o_to e3 rfl
theorem p_vl_i : ∀ (ls : List k9_ln), (∀ x, x ∈ ls → p_okl x) → 10108 ∉ (ls.map p_ctk).flatten → ∀ e e' : Nat → Int32, (∀ k, k ≠ 4 → e k = e' k) → p_vl e ls = p_vl e' ls := by
  intro ls
  induction ls with
  | nil => intro _ _ e e' _; rfl
  | cons x r ih =>
    intro hok hn e e' h
    rw [List.map_cons, List.flatten_cons] at hn
    obtain ⟨o1, o2⟩ := hok x List.mem_cons_self
    have h1 := ih (fun y hy => hok y (List.mem_cons_of_mem _ hy)) (fun z => hn (List.mem_append_right _ z)) e e' h
    have h2 : p_vx e x.2 = p_vx e' x.2 := o2.2.2 (fun z => hn (List.mem_append_left _ (by
      unfold p_ctk
      split
      · exact List.mem_append_left _ z
      · exact List.mem_append_right _ (List.mem_cons_of_mem _ (List.mem_append_left _ z))))) e e' h
    rw [p_vl, p_vl, h1, h2]
    by_cases q : x.1 = []
    · rw [if_neg (fun z => z.1 q), if_neg (fun z => z.1 q)]
    · have h3 : p_vx e x.1 = p_vx e' x.1 := (o1.resolve_left q).2.2 (fun z => hn (List.mem_append_left _ (by
        unfold p_ctk
        rw [if_neg q]
        exact List.mem_append_left _ z))) e e' h
      rw [h3]
/-- the class's law has the values of the lines -/
theorem k9_CL_l (hok : ∀ x, x ∈ ls → p_okl x) (h1 : I 6 0 1 = 1) (h3 : I 6 0 3 = nI (ls.map p_ctk).flatten.length) (h121 : (ls.map p_ctk).flatten.length ≤ 121) (hC : k9_Cd (I 28 0) 0 (ls.map p_ctk).flatten) (h0 : I 6 0 0 = 0 ∨ I 6 0 0 = 1) (hl : I 6 0 0 = 0 → 10108 ∉ (ls.map p_ctk).flatten) : k9_CL I (fun e => p_vl e ls) := by
  refine ⟨fun S d J I' i a g0 g1 g3 g28 => ?_, h0, fun z e e' h => p_vl_i ls hok (hl z) e e' h⟩
  obtain ⟨I2, hI2⟩ : ∃ I2, I2 = k9_u I' 6 0 5 0 := ⟨_, rfl⟩
  have x2 : k9_fx k9_Fl I' I2 := by rw [hI2]; exact k9_fx_u (k9_fx_rf _ _) rfl
  obtain ⟨I3, e3, x3⟩ := k9s_48l (S := S) (d := d) (J := J) h121 ls 0 I2 hok (k9_Cd_c (funext fun j => (x2 28 0 j rfl).trans (congrFun g28 j)) hC) ((x2 6 0 3 rfl).trans (g3.trans h3)) (by omega) (k9_ev_x x2) (by rw [hI2]; simp [k9_ur]; rfl)
  refine ⟨I3, k9o_of (k9o_eq k9e_48_0 (k9o_F (by rw [g1, h1]; decide) (k9o_eq k9e_48_6 ?_))), k9_fx_tr x2 x3⟩
  rw [← hI2]
  exact k9o_to e3 rfl
end KV9

/-! THE LAW: its value, the reference -/
section KV10
variable {S : k9_S} {d : Nat} {I I' : k9_I} {J J' : k9_J} {t z p c i : Nat} {x y a : Int32} {e g : Nat → Int32} {ts : List Nat} {ls : List k9_ln}
def k9_em (I : k9_I) (a : Int32) : Nat → Int32 := fun k => if k < 4 then I 65 0 k else if k = 4 then a else I 12 0 0
theorem k9_em_x (h : k9_fx k9_Fn I I') : k9_em I' a = k9_em I a := by
  funext k
  unfold k9_em
  rw [h 65 0 k rfl, h 12 0 0 rfl]
theorem k9s_182 (hc : p_bi c) : k9_R S d 182 0 [some (k9_i (nI (p_tkm c))), some (k9_i x), some (k9_i y)] [] I J = some (some (k9_i (p_bo c x y)), I, J) := by
  refine k9o_of (k9o_eq k9e_182_0 ?_)
  rcases hc with rfl | rfl | rfl | rfl | rfl | rfl | rfl | rfl | rfl | rfl
  · refine k9o_T (by decide) (k9o_eq k9e_182_2 ?_)
    by_cases h1 : x.toInt = 0
    · refine k9o_T h1 (k9o_eq k9e_182_4 ?_)
      by_cases h2 : y.toInt = 0
      · exact k9o_T h2 (k9o_eq k9e_182_8 (k9o_eq k9e_182_9 (k9o_ret (by rw [show p_bo 10124 x y = if x.toInt = 0 ∧ y.toInt = 0 then 0 else 1 from rfl, if_pos ⟨h1, h2⟩]))))
      · exact k9o_F h2 (k9o_eq k9e_182_6 (k9o_eq k9e_182_9 (k9o_ret (by rw [show p_bo 10124 x y = if x.toInt = 0 ∧ y.toInt = 0 then 0 else 1 from rfl, if_neg (fun z => h2 z.2)]))))
    · exact k9o_F h1 (k9o_eq k9e_182_6 (k9o_eq k9e_182_9 (k9o_ret (by rw [show p_bo 10124 x y = if x.toInt = 0 ∧ y.toInt = 0 then 0 else 1 from rfl, if_neg (fun z => h1 z.1)]))))
  · refine k9o_F (by decide) (k9o_T (by decide) (k9o_eq k9e_182_10 ?_))
    by_cases h1 : x.toInt = 0
    · exact k9o_T h1 (k9o_eq k9e_182_16 (k9o_eq k9e_182_17 (k9o_ret (by rw [show p_bo 10038 x y = if x.toInt = 0 ∨ y.toInt = 0 then 0 else 1 from rfl, if_pos (Or.inl h1)]))))
    · refine k9o_F h1 (k9o_eq k9e_182_12 ?_)
      by_cases h2 : y.toInt = 0
      · exact k9o_T h2 (k9o_eq k9e_182_16 (k9o_eq k9e_182_17 (k9o_ret (by rw [show p_bo 10038 x y = if x.toInt = 0 ∨ y.toInt = 0 then 0 else 1 from rfl, if_pos (Or.inr h2)]))))
      · exact k9o_F h2 (k9o_eq k9e_182_14 (k9o_eq k9e_182_17 (k9o_ret (by rw [show p_bo 10038 x y = if x.toInt = 0 ∨ y.toInt = 0 then 0 else 1 from rfl, if_neg (fun z => z.elim h1 h2)]))))
  · refine k9o_F (by decide) (k9o_F (by decide) (k9o_T (by decide) (k9o_eq k9e_182_18 ?_)))
    by_cases h1 : x.toInt < y.toInt
    · exact k9o_F (by omega) (k9o_eq k9e_182_21 (k9o_eq k9e_182_24 (k9o_ret (by rw [show p_bo 10060 x y = if x.toInt < y.toInt then 1 else 0 from rfl, if_pos h1]))))
    · exact k9o_T (by omega) (k9o_eq k9e_182_23 (k9o_eq k9e_182_24 (k9o_ret (by rw [show p_bo 10060 x y = if x.toInt < y.toInt then 1 else 0 from rfl, if_neg h1]))))
  · refine k9o_F (by decide) (k9o_F (by decide) (k9o_F (by decide) (k9o_T (by decide) (k9o_eq k9e_182_25 ?_))))
    by_cases h1 : x.toInt = y.toInt
    · exact k9o_T h1 (k9o_eq k9e_182_28 (k9o_eq k9e_182_31 (k9o_ret (by rw [show p_bo 10061 x y = if x.toInt = y.toInt then 1 else 0 from rfl, if_pos h1]))))
    · exact k9o_F h1 (k9o_eq k9e_182_30 (k9o_eq k9e_182_31 (k9o_ret (by rw [show p_bo 10061 x y = if x.toInt = y.toInt then 1 else 0 from rfl, if_neg h1]))))
  · refine k9o_F (by decide) (k9o_F (by decide) (k9o_F (by decide) (k9o_F (by decide) (k9o_T (by decide) (k9o_eq k9e_182_32 ?_)))))
    by_cases h1 : y.toInt < x.toInt
    · exact k9o_F (by omega) (k9o_eq k9e_182_35 (k9o_eq k9e_182_38 (k9o_ret (by rw [show p_bo 10062 x y = if y.toInt < x.toInt then 1 else 0 from rfl, if_pos h1]))))
    · exact k9o_T (by omega) (k9o_eq k9e_182_37 (k9o_eq k9e_182_38 (k9o_ret (by rw [show p_bo 10062 x y = if y.toInt < x.toInt then 1 else 0 from rfl, if_neg h1]))))
  · exact k9o_F (by decide) (k9o_F (by decide) (k9o_F (by decide) (k9o_F (by decide) (k9o_F (by decide) (k9o_T (by decide) (k9o_eq k9e_182_39 (k9o_ret rfl)))))))
  · exact k9o_F (by decide) (k9o_F (by decide) (k9o_F (by decide) (k9o_F (by decide) (k9o_F (by decide) (k9o_F (by decide) (k9o_T (by decide) (k9o_eq k9e_182_43 (k9o_ret rfl))))))))
  · exact k9o_F (by decide) (k9o_F (by decide) (k9o_F (by decide) (k9o_F (by decide) (k9o_F (by decide) (k9o_F (by decide) (k9o_F (by decide) (k9o_T (by decide) (k9o_eq k9e_182_47 (k9o_ret rfl)))))))))
  · refine k9o_F (by decide) (k9o_F (by decide) (k9o_F (by decide) (k9o_F (by decide) (k9o_F (by decide) (k9o_F (by decide) (k9o_F (by decide) (k9o_F (by decide) (k9o_T (by decide) (k9o_eq k9e_182_51 ?_)))))))))
    by_cases h1 : y.toInt = 0
    · exact k9o_T h1 (k9o_eq k9e_182_53 (k9o_eq k9e_182_58 (k9o_ret (by rw [show p_bo 10047 x y = if y.toInt = 0 then 0 else x / y from rfl, if_pos h1]))))
    · exact k9o_F h1 (k9o_eq k9e_182_55 (k9o_T h1 (k9o_eq k9e_182_58 (k9o_ret (by rw [show p_bo 10047 x y = if y.toInt = 0 then 0 else x / y from rfl, if_neg h1])))))
  · refine k9o_F (by decide) (k9o_F (by decide) (k9o_F (by decide) (k9o_F (by decide) (k9o_F (by decide) (k9o_F (by decide) (k9o_F (by decide) (k9o_F (by decide) (k9o_F (by decide) (k9o_eq k9e_182_59 ?_)))))))))
    by_cases h1 : y.toInt = 0
    · exact k9o_T h1 (k9o_eq k9e_182_61 (k9o_eq k9e_182_66 (k9o_ret (by rw [show p_bo 10037 x y = if y.toInt = 0 then 0 else x - x / y * y from rfl, if_pos h1]))))
    · exact k9o_F h1 (k9o_eq k9e_182_63 (k9o_T h1 (k9o_eq k9e_182_66 (k9o_ret (by rw [show p_bo 10037 x y = if y.toInt = 0 then 0 else x - x / y * y from rfl, if_neg h1])))))
/-- one token -/
theorem k9s_183t {f0 z : Nat} (hp : I 49 0 p = nI (p_tkm c)) (hpz : p < z) (h200 : z ≤ 200) (he : k9_em I a = e) (hc : (p_pu c ∧ t < 64) ∨ (p_uy c ∧ 1 ≤ t) ∨ (p_bi c ∧ 2 ≤ t)) (h64 : t ≤ 64) (hS : ∀ j, j < t → I 54 0 j = g j) : ∃ I', (∀ j, j < (p_stp e c (t, g)).1 → I' 54 0 j = (p_stp e c (t, g)).2 j) ∧ k9_fx k9_Fn I I' ∧ ∀ Q, k9_ok (k9_R S (d + 2) 183 4 [some (k9_r 12 0), some (k9_i (nI f0)), some (k9_i (nI z)), some (k9_i a), some (k9_i (nI (p_stp e c (t, g)).1)), some (k9_i (nI (p + 1))), none] [] I' J) Q → k9_ok (k9_R S (d + 2) 183 4 [some (k9_r 12 0), some (k9_i (nI f0)), some (k9_i (nI z)), some (k9_i a), some (k9_i (nI t)), some (k9_i (nI p)), none] [] I J) Q := by
  have st : ∀ Q, k9_ok (k9_R S (d + 2) 183 11 [some (k9_r 12 0), some (k9_i (nI f0)), some (k9_i (nI z)), some (k9_i a), some (k9_i (nI t)), some (k9_i (nI p)), none] [k9_i (nI (p_tkm c))] I J) Q → k9_ok (k9_R S (d + 2) 183 4 [some (k9_r 12 0), some (k9_i (nI f0)), some (k9_i (nI z)), some (k9_i a), some (k9_i (nI t)), some (k9_i (nI p)), none] [] I J) Q := by
    intro Q h
    refine k9o_eq k9e_183_4 (k9o_F (by rw [n_toInt (by omega), n_toInt (by omega)]; omega) (k9o_eq k9e_183_7 (k9o_T (by rw [n_toInt (by omega)]; omega) ?_)))
    rw [n_cl (by omega), hp]
    exact h
  have fin : ∀ (u v : Nat) (I1 : k9_I) (Q : k9_A → Prop), k9_ok (k9_R S (d + 2) 183 4 [some (k9_r 12 0), some (k9_i (nI f0)), some (k9_i (nI z)), some (k9_i a), some (k9_i (nI u)), some (k9_i (nI (p + 1))), none] [] I1 J) Q → k9_ok (k9_R S (d + 2) 183 99 [some (k9_r 12 0), some (k9_i (nI f0)), some (k9_i (nI z)), some (k9_i a), some (k9_i (nI u)), some (k9_i (nI p)), some (k9_i (nI v))] [] I1 J) Q := by
    intro u v I1 Q h
    refine k9o_eq k9e_183_99 ?_
    rw [nI_1]
    exact h
  rcases hc with ⟨hc, ht⟩ | ⟨hc, ht⟩ | ⟨hc, ht⟩
  · rw [p_stp, if_pos hc]
    have res : ∀ j, j < t + 1 → (k9_u I 54 0 t (p_pvl e c)) 54 0 j = p_ud g t (p_pvl e c) j := by
      intro j hj
      by_cases hjt : j = t
      · rw [hjt, p_ud_e]
        simp [k9_ur]
      · rw [p_ud_n hjt]
        simp [k9_ur, hjt]
        exact hS j (by omega)
    refine ⟨k9_u I 54 0 t (p_pvl e c), res, k9_fx_u (k9_fx_rf _ _) rfl, fun Q hQ => st Q ?_⟩
    have w : ∀ (v : Nat) (x : Int32), x = p_pvl e c → k9_ok (k9_R S (d + 2) 183 44 [some (k9_r 12 0), some (k9_i (nI f0)), some (k9_i (nI z)), some (k9_i a), some (k9_i (nI (t + 1))), some (k9_i (nI p)), some (k9_i (nI v))] [k9_i x, k9_i (nI t), k9_r 54 0] I J) Q := by
      intro v x hx
      refine k9o_eq k9e_183_44 (k9o_T (by rw [n_toInt (by omega)]; omega) ?_)
      rw [n_cl (by omega), hx]
      exact k9o_eq k9e_183_45 (fin _ v _ Q hQ)
    by_cases c1 : c < 10000
    · have et : p_tkm c = 18 + c := if_pos c1
      rw [et]
      refine k9o_eq k9e_183_11 (k9o_T (by rw [n_toInt (by omega)]; omega) (k9o_eq k9e_183_18 (k9o_F (by rw [n_toInt (by omega)]; omega) ?_)))
      rw [nI_1]
      refine k9o_eq k9e_183_25 (w _ _ ?_)
      rw [show p_pvl e c = nI c from if_pos c1, show (18 : Int32) = nI 18 from rfl, n_sub (by omega), Nat.add_sub_cancel_left]
    · have ev : p_pvl e c = e (p_tkm c) := if_neg c1
      have hc' : c = 10098 ∨ c = 10102 ∨ c = 10115 ∨ c = 10116 ∨ c = 10108 ∨ c = 10110 := by simp only [p_pu] at hc; omega
      have low : ∀ k, k ≤ 5 → p_tkm c = k → k9_ok (k9_R S (d + 2) 183 29 [some (k9_r 12 0), some (k9_i (nI f0)), some (k9_i (nI z)), some (k9_i a), some (k9_i (nI (t + 1))), some (k9_i (nI p)), some (k9_i (nI k))] [k9_i (nI t), k9_r 54 0] I J) Q → k9_ok (k9_R S (d + 2) 183 11 [some (k9_r 12 0), some (k9_i (nI f0)), some (k9_i (nI z)), some (k9_i a), some (k9_i (nI t)), some (k9_i (nI p)), none] [k9_i (nI (p_tkm c))] I J) Q := by
        intro k hk ek h
        rw [ek]
        refine k9o_eq k9e_183_11 (k9o_F (by rw [n_toInt (by omega)]; omega) (k9o_eq k9e_183_15 (k9o_F (by rw [n_toInt (by omega)]; omega) (k9o_eq k9e_183_18 (k9o_T (by rw [n_toInt (by omega)]; omega) ?_)))))
        rw [nI_1]
        exact h
      have row : ∀ k, k < 4 → p_tkm c = k → k9_ok (k9_R S (d + 2) 183 29 [some (k9_r 12 0), some (k9_i (nI f0)), some (k9_i (nI z)), some (k9_i a), some (k9_i (nI (t + 1))), some (k9_i (nI p)), some (k9_i (nI k))] [k9_i (nI t), k9_r 54 0] I J) Q := by
        intro k hk ek
        refine k9o_eq k9e_183_29 (k9o_F (by rw [n_toInt (by omega)]; omega) (k9o_eq k9e_183_34 (k9o_F (by rw [n_toInt (by omega)]; omega) (k9o_eq k9e_183_40 (k9o_T (by rw [n_toInt (by omega)]; omega) (w k _ ?_))))))
        rw [n_cl (by omega), ev, ek, ← he, k9_em, if_pos hk]
      rcases hc' with rfl | rfl | rfl | rfl | rfl | rfl
      · exact low 1 (by omega) rfl (row 1 (by omega) rfl)
      · exact low 0 (by omega) rfl (row 0 (by omega) rfl)
      · exact low 2 (by omega) rfl (row 2 (by omega) rfl)
      · exact low 3 (by omega) rfl (row 3 (by omega) rfl)
      · refine low 4 (by omega) rfl (k9o_eq k9e_183_29 (k9o_T (by decide) (k9o_eq k9e_183_32 (w 4 _ ?_))))
        rw [ev, ← he]
        rfl
      · refine low 5 (by omega) rfl (k9o_eq k9e_183_29 (k9o_F (by decide) (k9o_eq k9e_183_34 (k9o_T (by decide) (k9o_eq k9e_183_37 (w 5 _ ?_))))))
        rw [ev, ← he]
        rfl
  · have e1 : nI t - 1 = nI (t - 1) := n_s1 ht
    have ex : I 54 0 (t - 1) = g (t - 1) := hS (t - 1) (by omega)
    have res : ∀ (v : Int32) (j : Nat), j < t → (k9_u I 54 0 (t - 1) v) 54 0 j = p_ud g (t - 1) v j := by
      intro v j hj
      by_cases hjt : j = t - 1
      · rw [hjt, p_ud_e]
        simp [k9_ur]
      · rw [p_ud_n hjt]
        simp [k9_ur, hjt]
        exact hS j (by omega)
    have w : ∀ (u : Nat) (v : Int32) (Q : k9_A → Prop), k9_ok (k9_R S (d + 2) 183 4 [some (k9_r 12 0), some (k9_i (nI f0)), some (k9_i (nI z)), some (k9_i a), some (k9_i (nI t)), some (k9_i (nI (p + 1))), none] [] (k9_u I 54 0 (t - 1) v) J) Q → k9_ok (k9_R S (d + 2) 183 78 [some (k9_r 12 0), some (k9_i (nI f0)), some (k9_i (nI z)), some (k9_i a), some (k9_i (nI t)), some (k9_i (nI p)), some (k9_i (nI u))] [k9_i v, k9_i (nI (t - 1)), k9_r 54 0] I J) Q := by
      intro u v Q h
      refine k9o_eq k9e_183_78 (k9o_T (by rw [n_toInt (by omega)]; omega) ?_)
      rw [n_cl (by omega)]
      exact k9o_eq k9e_183_79 (fin _ u _ Q h)
    rcases hc with rfl | rfl
    · have es : p_stp e 10033 (t, g) = (t, p_ud g (t - 1) (if (g (t - 1)).toInt = 0 then 1 else 0)) := rfl
      rw [es]
      refine ⟨k9_u I 54 0 (t - 1) (if (g (t - 1)).toInt = 0 then 1 else 0), res _, k9_fx_u (k9_fx_rf _ _) rfl, fun Q hQ => st Q ?_⟩
      refine k9o_eq k9e_183_11 (k9o_F (by decide) (k9o_eq k9e_183_15 (k9o_T (by decide) (k9o_eq k9e_183_46 (k9o_T (by decide) (k9o_eq k9e_183_52 (k9o_F (by decide) ?_)))))))
      rw [e1]
      refine k9o_eq k9e_183_68 ?_
      rw [e1]
      refine k9o_T (by rw [n_toInt (by omega)]; omega) ?_
      rw [n_cl (by omega), ex]
      refine k9o_eq k9e_183_74 ?_
      by_cases h0 : (g (t - 1)).toInt = 0
      · refine k9o_T h0 (k9o_eq k9e_183_75 (w _ _ Q ?_))
        rw [if_pos h0] at hQ
        exact hQ
      · refine k9o_F h0 (k9o_eq k9e_183_77 (w _ _ Q ?_))
        rw [if_neg h0] at hQ
        exact hQ
    · have es : p_stp e 10126 (t, g) = (t, p_ud g (t - 1) (-(g (t - 1)))) := rfl
      rw [es]
      refine ⟨k9_u I 54 0 (t - 1) (-(g (t - 1))), res _, k9_fx_u (k9_fx_rf _ _) rfl, fun Q hQ => st Q ?_⟩
      refine k9o_eq k9e_183_11 (k9o_F (by decide) (k9o_eq k9e_183_15 (k9o_T (by decide) (k9o_eq k9e_183_46 (k9o_F (by decide) (k9o_eq k9e_183_49 (k9o_T (by decide) (k9o_eq k9e_183_52 (k9o_T (by decide) ?_)))))))))
      rw [e1]
      refine k9o_eq k9e_183_60 ?_
      rw [e1]
      refine k9o_T (by rw [n_toInt (by omega)]; omega) ?_
      rw [n_cl (by omega), ex]
      exact k9o_eq k9e_183_66 (w _ _ Q hQ)
  · obtain ⟨n1, n2, n3⟩ := p_bi_n hc
    have es : p_stp e c (t, g) = (t - 1, p_ud g (t - 2) (p_bo c (g (t - 2)) (g (t - 1)))) := by rw [p_stp, if_neg n1, if_neg n2, if_neg n3]
    rw [es]
    have ek : 6 ≤ p_tkm c ∧ p_tkm c ≤ 15 := by
      rcases hc with rfl | rfl | rfl | rfl | rfl | rfl | rfl | rfl | rfl | rfl <;> decide
    have e1 : nI t + (-1) = nI (t - 1) := n_m1 (by omega)
    have e2 : nI (t - 1) - 1 = nI (t - 2) := by rw [n_s1 (by omega), show t - 1 - 1 = t - 2 by omega]
    refine ⟨k9_u I 54 0 (t - 2) (p_bo c (g (t - 2)) (g (t - 1))), fun j hj => ?_, k9_fx_u (k9_fx_rf _ _) rfl, fun Q hQ => st Q ?_⟩
    · have hj' : j < t - 1 := hj
      show (k9_u I 54 0 (t - 2) (p_bo c (g (t - 2)) (g (t - 1)))) 54 0 j = p_ud g (t - 2) (p_bo c (g (t - 2)) (g (t - 1))) j
      by_cases hjt : j = t - 2
      · rw [hjt, p_ud_e]
        simp [k9_ur]
      · rw [p_ud_n hjt]
        simp [k9_ur, hjt]
        exact hS j (by omega)
    · refine k9o_eq k9e_183_11 (k9o_F (by rw [n_toInt (by omega)]; omega) (k9o_eq k9e_183_15 (k9o_T (by rw [n_toInt (by omega)]; omega) (k9o_eq k9e_183_46 (k9o_F (by rw [n_toInt (by omega)]; omega) (k9o_eq k9e_183_49 (k9o_F (by rw [n_toInt (by omega)]; omega) (k9o_eq k9e_183_80 ?_))))))))
      rw [e1]
      refine k9o_eq k9e_183_81 ?_
      rw [e2]
      refine k9o_T (by rw [n_toInt (by omega)]; omega) ?_
      rw [n_cl (by omega), hS (t - 2) (by omega)]
      refine k9o_eq k9e_183_93 (k9o_T (by rw [n_toInt (by omega)]; omega) ?_)
      rw [n_cl (by omega), hS (t - 1) (by omega)]
      refine k9o_eq k9e_183_97 (k9o_call (k9s_182 hc) ?_)
      simp only [k9_ps_s]
      refine k9o_eq k9e_183_98 (k9o_T (by rw [n_toInt (by omega)]; omega) ?_)
      rw [n_cl (by omega)]
      exact fin _ _ _ Q hQ
/-- tokens -/
theorem k9s_183s {f0 z : Nat} (h200 : z ≤ 200) : ∀ (ts : List Nat) (p t : Nat) (g : Nat → Int32) (I : k9_I), k9_Cd (I 49 0) p (ts.map p_tkm) → p + ts.length ≤ z → p_hv 64 ts t → t ≤ 64 → k9_em I a = e → (∀ j, j < t → I 54 0 j = g j) → ∃ I', (∀ j, j < (p_sts e ts (t, g)).1 → I' 54 0 j = (p_sts e ts (t, g)).2 j) ∧ k9_fx k9_Fn I I' ∧ ∀ Q, k9_ok (k9_R S (d + 2) 183 4 [some (k9_r 12 0), some (k9_i (nI f0)), some (k9_i (nI z)), some (k9_i a), some (k9_i (nI (p_sts e ts (t, g)).1)), some (k9_i (nI (p + ts.length))), none] [] I' J) Q → k9_ok (k9_R S (d + 2) 183 4 [some (k9_r 12 0), some (k9_i (nI f0)), some (k9_i (nI z)), some (k9_i a), some (k9_i (nI t)), some (k9_i (nI p)), none] [] I J) Q := by
  intro ts
  induction ts with
  | nil =>
    intro p t g I _ _ _ _ _ hS
    exact ⟨I, hS, k9_fx_rf _ _, fun Q h => h⟩
  | cons c r ih =>
    intro p t g I hC hp hH h64 he hS
    rw [List.map_cons] at hC
    obtain ⟨c1, c2⟩ := k9_Cd_h hC
    rw [List.length_cons] at hp
    obtain ⟨I1, s1, x1, k1⟩ := k9s_183t (S := S) (d := d) (J := J) (f0 := f0) (z := z) c1 (by omega) h200 he (hH.elim (fun h => Or.inl ⟨h.1, h.2.1⟩) (fun h => h.elim (fun h => Or.inr (Or.inl ⟨h.1, h.2.1⟩)) (fun h => Or.inr (Or.inr ⟨h.1, h.2.1⟩)))) h64 hS
    have hn : p_hv 64 r (p_stp e c (t, g)).1 ∧ (p_stp e c (t, g)).1 ≤ 64 := by
      rcases hH with ⟨h1, h2, h3⟩ | ⟨h1, h2, h3⟩ | ⟨h1, h2, h3⟩
      · rw [p_stp, if_pos h1]
        exact ⟨h3, h2⟩
      · have n1 : ¬ p_pu c := by simp only [p_uy] at h1; simp only [p_pu]; omega
        rw [p_stp, if_neg n1]
        rcases h1 with rfl | rfl
        · rw [if_pos rfl]
          exact ⟨h3, h64⟩
        · rw [if_neg (by decide), if_pos rfl]
          exact ⟨h3, h64⟩
      · obtain ⟨n1, n2, n3⟩ := p_bi_n h1
        rw [p_stp, if_neg n1, if_neg n2, if_neg n3]
        exact ⟨h3, by show t - 1 ≤ 64; omega⟩
    obtain ⟨I2, s2, x2, k2⟩ := ih (p + 1) _ _ I1 (k9_Cd_c (funext fun j => x1 49 0 j rfl) c2) (by omega) hn.1 hn.2 ((k9_em_x x1).trans he) s1
    rw [show p + 1 + r.length = p + (r.length + 1) by omega] at k2
    exact ⟨I2, s2, k9_fx_tr x1 x2, fun Q h => k1 Q (k2 Q h)⟩
theorem k9s_183 (hx : p_xp ts) (hC : k9_Cd (I 49 0) p (ts.map p_tkm)) (h200 : p + ts.length ≤ 200) (he : k9_em I a = e) : ∃ I', k9_R S (d + 2) 183 0 [some (k9_r 12 0), some (k9_i (nI p)), some (k9_i (nI (p + ts.length))), some (k9_i a), none, none, none] [] I J = some (some (k9_i (p_vx e ts)), I', J) ∧ k9_fx k9_Fn I I' := by
  obtain ⟨I1, s1, x1, k1⟩ := k9s_183s (S := S) (d := d) (J := J) (f0 := p) (z := p + ts.length) h200 ts p 0 (fun j => I 54 0 j) I hC (Nat.le_refl _) (hx.2.1 0 64 (by omega)) (by omega) he (fun j hj => by omega)
  obtain ⟨g', f1, f2, f3⟩ := hx.1 e 0 (fun j => I 54 0 j)
  rw [f1] at s1
  refine ⟨I1, k9o_of (k9o_eq k9e_183_0 (k1 _ (k9o_eq k9e_183_4 (k9o_T (by omega) (k9o_eq k9e_183_101 (k9o_ret ?_)))))), x1⟩
  rw [s1 0 (by show 0 < 0 + 1; omega)]
  show (some (k9_i (g' 0)), I1, J) = _
  rw [f2]
theorem p_cl_i (x : Int32) : (if (0 : Int32) < (if x < 100 then x else 100) then (if x < 100 then x else 100) else 0) = nI (p_cl x) := by
  have h0 : (0 : Int32).toInt = 0 := by decide
  have h1 : (100 : Int32).toInt = 100 := by decide
  unfold p_cl
  by_cases c1 : x < 100
  · have d1 : x.toInt < 100 := by rw [Int32.lt_iff_toInt_lt, h1] at c1; exact c1
    rw [if_pos c1]
    by_cases c2 : (0 : Int32) < x
    · have d2 : 0 < x.toInt := by rw [Int32.lt_iff_toInt_lt, h0] at c2; exact c2
      rw [if_pos c2, if_neg (by omega), if_neg (by omega)]
      exact n_tn (by omega)
    · have d2 : ¬ 0 < x.toInt := by rw [Int32.lt_iff_toInt_lt, h0] at c2; exact c2
      rw [if_neg c2]
      by_cases c3 : x.toInt < 0
      · rw [if_pos c3]
        rfl
      · rw [if_neg c3, if_neg (by omega), show x.toInt = 0 by omega]
        rfl
  · have d1 : ¬ x.toInt < 100 := by rw [Int32.lt_iff_toInt_lt, h1] at c1; exact c1
    rw [if_neg c1, if_pos (by decide), if_neg (by omega)]
    by_cases c3 : 100 < x.toInt
    · rw [if_pos c3]
      rfl
    · rw [if_neg c3, show x.toInt = 100 by omega]
      rfl
def k9_Ll (I : k9_I) (ls : List k9_ln) : Prop := I 12 0 9 = nI ls.length ∧ ls.length ≤ 60 ∧ (p_rt ls).length ≤ 200 ∧ k9_Cd (I 49 0) 0 ((p_rt ls).map p_tkm) ∧ ∀ i, i < ls.length → I 46 0 i = nI (p_rt (ls.take i)).length ∧ I 47 0 i = nI ((p_rt (ls.take i)).length + (ls.getD i ([], [])).1.length) ∧ I 48 0 i = nI (p_rt (ls.take (i + 1))).length
theorem p_rt_c (x : k9_ln) (r : List k9_ln) : p_rt (x :: r) = x.1 ++ x.2 ++ p_rt r := by
  unfold p_rt
  rw [List.map_cons, List.flatten_cons]
theorem p_rt_2 (a b : List k9_ln) : p_rt (a ++ b) = p_rt a ++ p_rt b := by
  unfold p_rt
  rw [List.map_append, List.flatten_append]
/-- the lines -/
theorem k9s_187l (hok : ∀ x, x ∈ ls → p_okl x) : ∀ (r pre : List k9_ln) (I : k9_I), pre ++ r = ls → k9_Ll I ls → k9_em I a = e → ∃ I', k9_R S (d + 3) 187 10 [some (k9_r 12 0), some (k9_i a), some (k9_i (nI pre.length))] [] I J = some (some (k9_i (nI (p_cl (p_vl e r)))), I', J) ∧ k9_fx k9_Fn I I' := by
  intro r
  induction r with
  | nil =>
    intro pre I hls hL he
    rw [List.append_nil] at hls
    subst hls
    refine ⟨I, k9o_of (k9o_eq k9e_187_10 (k9o_T (by rw [hL.1]; omega) (k9o_eq k9e_187_54 (k9o_ret ?_)))), k9_fx_rf _ _⟩
    rw [p_vl]
    rfl
  | cons x r ih =>
    intro pre I hls hL he
    obtain ⟨h9, h60, h200, hC, hR⟩ := hL
    have hlen : ls.length = pre.length + (r.length + 1) := by rw [← hls, List.length_append, List.length_cons]
    obtain ⟨r1, r2, r3⟩ := hR pre.length (by omega)
    rw [← hls, List.take_left] at r1 r2
    rw [show (pre ++ x :: r).getD pre.length ([], []) = x by simp [List.getD_eq_getElem?_getD]] at r2
    rw [← hls, show (pre ++ x :: r).take (pre.length + 1) = pre ++ [x] by rw [show pre ++ x :: r = (pre ++ [x]) ++ r by simp, List.take_left' (by simp)], p_rt_a, List.length_append, List.length_append] at r3
    obtain ⟨o1, o2⟩ := hok x (by rw [← hls]; exact List.mem_append_right _ List.mem_cons_self)
    rw [← hls, p_rt_2, p_rt_c, List.append_assoc, List.map_append, List.map_append] at hC
    rw [← hls, p_rt_2, p_rt_c, List.append_assoc, List.length_append, List.length_append, List.length_append] at h200
    obtain ⟨-, C1⟩ := k9_Cd_a hC
    obtain ⟨C2, C3⟩ := k9_Cd_a C1
    rw [List.map_append] at C3
    obtain ⟨C4, -⟩ := k9_Cd_a C3
    rw [List.length_map, Nat.zero_add] at C2 C4
    rw [List.length_map] at C4
    obtain ⟨A, hA⟩ : ∃ A, A = (p_rt pre).length := ⟨_, rfl⟩
    rw [← hA] at r1 r2 r3 C2 C4 h200
    have st : ∀ Q, k9_ok (k9_R S (d + 3) 187 22 [some (k9_r 12 0), some (k9_i a), some (k9_i (nI pre.length))] [k9_i (nI A), k9_i (nI (A + x.1.length))] I J) Q → k9_ok (k9_R S (d + 3) 187 10 [some (k9_r 12 0), some (k9_i a), some (k9_i (nI pre.length))] [] I J) Q := by
      intro Q g
      refine k9o_eq k9e_187_10 (k9o_F (by rw [h9, n_toInt (by omega), n_toInt (by omega)]; omega) (k9o_eq k9e_187_14 (k9o_T (by rw [n_toInt (by omega)]; omega) ?_)))
      rw [n_cl (by omega), r2]
      refine k9o_eq k9e_187_18 (k9o_T (by rw [n_toInt (by omega)]; omega) ?_)
      rw [n_cl (by omega), r1]
      exact g
    have body : ∀ I1, k9_fx k9_Fn I I1 → ∃ I', k9_ok (k9_R S (d + 3) 187 36 [some (k9_r 12 0), some (k9_i a), some (k9_i (nI pre.length))] [] I1 J) (fun q => q = (some (k9_i (nI (p_cl (p_vx e x.2)))), I', J)) ∧ k9_fx k9_Fn I I' := by
      intro I1 x1
      obtain ⟨I2, e2, x2⟩ := k9s_183 (S := S) (d := d) (J := J) (p := A + x.1.length) o2 (k9_Cd_c (funext fun j => x1 49 0 j rfl) C4) (by omega) ((k9_em_x x1).trans he)
      refine ⟨I2, k9o_eq k9e_187_36 (k9o_T (by rw [n_toInt (by omega)]; omega) ?_), k9_fx_tr x1 x2⟩
      rw [n_cl (by omega), x1 47 0 _ rfl, r2]
      refine k9o_eq k9e_187_43 (k9o_T (by rw [n_toInt (by omega)]; omega) ?_)
      rw [n_cl (by omega), x1 48 0 _ rfl, r3]
      refine k9o_eq k9e_187_47 ?_
      rw [show A + (x.1.length + x.2.length) = A + x.1.length + x.2.length by omega]
      refine k9o_call e2 ?_
      simp only [k9_ps_s]
      refine k9o_eq k9e_187_49 (k9o_ret ?_)
      rw [p_cl_i]
    rw [p_vl]
    by_cases q : x.1 = []
    · rw [if_neg (fun z => z.1 q)]
      obtain ⟨I2, e2, x2⟩ := body I (k9_fx_rf _ _)
      exact ⟨I2, k9o_of (st _ (k9o_eq k9e_187_22 (k9o_T (by rw [q]; exact Int.le_refl _) e2))), x2⟩
    · have o1 := o1.resolve_left q
      have hq : 0 < x.1.length := List.length_pos_iff.mpr q
      obtain ⟨I1, e1, x1⟩ := k9s_183 (S := S) (d := d) (J := J) (p := A) o1 C2 (by omega) he
      have go : ∀ Q, k9_ok (k9_R S (d + 3) 187 34 [some (k9_r 12 0), some (k9_i a), some (k9_i (nI pre.length))] [k9_i (p_vx e x.1)] I1 J) Q → k9_ok (k9_R S (d + 3) 187 10 [some (k9_r 12 0), some (k9_i a), some (k9_i (nI pre.length))] [] I J) Q := by
        intro Q g
        refine st Q (k9o_eq k9e_187_22 (k9o_F (by rw [n_toInt (by omega), n_toInt (by omega)]; omega) (k9o_eq k9e_187_23 (k9o_T (by rw [n_toInt (by omega)]; omega) ?_))))
        rw [n_cl (by omega), r1]
        refine k9o_eq k9e_187_28 (k9o_T (by rw [n_toInt (by omega)]; omega) ?_)
        rw [n_cl (by omega), r2]
        refine k9o_eq k9e_187_32 (k9o_call e1 ?_)
        simp only [k9_ps_s]
        exact g
      by_cases q0 : (p_vx e x.1).toInt = 0
      · rw [if_pos ⟨q, q0⟩]
        obtain ⟨I2, e2, x2⟩ := ih (pre ++ [x]) I1 (by rw [List.append_assoc]; exact hls) ⟨(x1 12 0 9 rfl).trans h9, h60, by rw [← hls, p_rt_2, p_rt_c, List.append_assoc, List.length_append, List.length_append, List.length_append, ← hA]; exact h200, k9_Cd_c (funext fun j => x1 49 0 j rfl) (by rw [← hls, p_rt_2, p_rt_c, List.append_assoc, List.map_append, List.map_append]; exact hC), fun i hi => ⟨(x1 46 0 i rfl).trans (hR i hi).1, (x1 47 0 i rfl).trans (hR i hi).2.1, (x1 48 0 i rfl).trans (hR i hi).2.2⟩⟩ ((k9_em_x x1).trans he)
        rw [List.length_append, List.length_singleton] at e2
        refine ⟨I2, k9o_of (go _ (k9o_eq k9e_187_34 (k9o_T q0 (k9o_eq k9e_187_35 (k9o_eq k9e_187_52 ?_))))), k9_fx_tr x1 x2⟩
        rw [nI_1]
        exact k9o_to e2 rfl
      · rw [if_neg (fun z => q0 z.2)]
        obtain ⟨I2, e2, x2⟩ := body I1 x1
        exact ⟨I2, k9o_of (go _ (k9o_eq k9e_187_34 (k9o_F q0 e2))), x2⟩
/-- the reference's law has the values of the lines -/
theorem k9_ML_l (hok : ∀ x, x ∈ ls → p_okl x) (h8 : I 12 0 8 = 1) (hL : k9_Ll I ls) : k9_ML I (fun e => p_vl e ls) := by
  intro S d J I' a g8 g9 g46 g47 g48 g49 _
  obtain ⟨h9, h60, h200, hC, hR⟩ := hL
  obtain ⟨I2, e2, x2⟩ := k9s_187l (S := S) (d := d) (J := J) (a := a) hok ls [] I' rfl ⟨g9.trans h9, h60, h200, k9_Cd_c g49 hC, fun i hi => by rw [g46, g47, g48]; exact hR i hi⟩ rfl
  exact ⟨I2, k9o_of (k9o_eq k9e_187_0 (k9o_F (by rw [g8, h8]; decide) (k9o_eq k9e_187_8 (k9o_to e2 rfl)))), x2⟩
end KV10
