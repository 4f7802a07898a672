/-! ORDERS: told, the call -/
section KT34
variable {S : k9_S} {d : Nat} {I I' : k9_I} {J J' : k9_J} {w : Nat → Nat → Nat} {V : (Nat → Int32) → Int32} {b : Nat} {x1 x2 x3 : Int32} {h c : Nat → Nat} {L A f M : Nat}
theorem k9s_154 {n : Nat} {x : Int32} (h0 : I 12 0 0 = nI n) (h6 : n ≤ 6) : k9_R S (d + 1) 154 0 [some (k9_r 12 0), some (k9_i x)] [] I J = some (some (k9_i (if 0 ≤ x.toInt ∧ x.toInt < (n : Int) then 1 else 0)), I, J) := by
  have e1 := n_pm1 (n := n) (by omega)
  have e0 : (0 : Int32).toInt = 0 := by decide
  refine k9o_of (k9o_eq k9e_154_0 ?_)
  rw [h0]
  by_cases c : 0 ≤ x.toInt ∧ x.toInt < (n : Int)
  · rw [if_pos c]
    refine k9o_call (k9s_153 (S := S) (d := d) (by rw [e0, e1]; omega)) ?_
    simp only [k9_ps_s]
    exact k9o_eq k9e_154_7 (k9o_T (by decide) (k9o_ret rfl))
  · rw [if_neg c]
    refine k9o_call (k9s_153x (S := S) (d := d) (by rw [e0, e1]; omega)) ?_
    simp only [k9_ps_s]
    exact k9o_eq k9e_154_7 (k9o_T (by decide) (k9o_ret rfl))
theorem k9s_209 {s i : Nat} (hs : s < 6) (hi : i < 60) : k9_R S d 209 0 [some (k9_r 12 0), some (k9_i (nI s)), some (k9_i (nI i))] [] I J = some (some (k9_i (J 62 0 (60 * s + i)).toInt32), I, J) := by
  refine k9o_of (k9o_eq k9e_209_0 ?_)
  rw [n_x60, nI_add]
  refine k9o_T (by rw [n_toInt (by omega)]; omega) ?_
  rw [n_cl (by omega)]
  exact k9o_eq k9e_209_8 (k9o_ret rfl)
/-- the line out of a row -/
theorem k9s_211l {Q : k9_A → Prop} {x2 : Int32} {n s z : Nat} (h0 : I 12 0 0 = nI n) (h6 : n ≤ 6) (hs : s < 6) (hz : z ≤ 60) (h61 : I 61 0 s = nI z)
    (g : ∀ m o I', k9_Li I' n m o → k9_fx (fun k _ _ => Nat.beq k 63) I I' → ∀ x4 x5 : Int32, k9_ok (k9_R S (d + 2) 211 61 [some (k9_r 12 0), some (k9_i (nI s)), some (k9_i x2), some (k9_i (nI m)), some (k9_i x4), some (k9_i x5), none, none] [] I' J) Q) :
    k9_ok (k9_R S (d + 2) 211 13 [some (k9_r 12 0), some (k9_i (nI s)), some (k9_i x2), none, none, none, none, none] [] I J) Q := by
  have key : ∀ k i m o I1, i + k = z → k9_Li I1 n m o → k9_fx (fun k _ _ => Nat.beq k 63) I I1 → k9_ok (k9_R S (d + 2) 211 19 [some (k9_r 12 0), some (k9_i (nI s)), some (k9_i x2), some (k9_i (nI m)), some (k9_i 1), some (k9_i (nI i)), none, none] [] I1 J) Q := by
    intro k
    induction k with
    | zero =>
      intro i m o I1 hi hL hx
      obtain rfl : i = z := by omega
      refine k9o_eq k9e_211_19 (k9o_T (by rw [n_toInt (by omega)]; omega) ?_)
      rw [n_cl (by omega), hx 61 0 s rfl, h61]
      exact k9o_eq k9e_211_24 (k9o_T (by omega) (g m o I1 hL hx _ _))
    | succ k ih =>
      intro i m o I1 hi hL hx
      have hmn := p_pg hL.2.1 hL.2.2
      have m1 : I1 12 0 0 = nI n := (hx 12 0 0 rfl).trans h0
      obtain ⟨x, hxx⟩ : ∃ x : Int32, x = (J 62 0 (60 * s + i)).toInt32 := ⟨_, rfl⟩
      have e209 := k9s_209 (S := S) (d := d + 1) (I := I1) (J := J) hs (show i < 60 by omega)
      rw [← hxx] at e209
      have e154 := k9s_154 (S := S) (d := d) (J := J) (x := x) m1 h6
      -- the row's end, or one that is no piece
      have stop : ∀ x6 x7 : Int32, k9_ok (k9_R S (d + 2) 211 51 [some (k9_r 12 0), some (k9_i (nI s)), some (k9_i x2), some (k9_i (nI m)), some (k9_i 0), some (k9_i (nI i)), some (k9_i x6), some (k9_i x7)] [] I1 J) Q := by
        intro x6 x7
        refine k9o_eq k9e_211_51 (k9o_T (by decide) (k9o_eq k9e_211_59 ?_))
        rw [nI_1]
        refine k9o_eq k9e_211_19 (k9o_T (by rw [n_toInt (by omega)]; omega) ?_)
        rw [n_cl (by omega), hx 61 0 s rfl, h61]
        refine k9o_eq k9e_211_24 ?_
        by_cases c : z ≤ i + 1
        · exact k9o_T (by rw [n_toInt (by omega), n_toInt (by omega)]; omega) (g m o I1 hL hx _ _)
        · exact k9o_F (by rw [n_toInt (by omega), n_toInt (by omega)]; omega) (k9o_eq k9e_211_25 (k9o_T (by decide) (g m o I1 hL hx _ _)))
      have lp : ∀ k p (f : Int32), p + k = m → (f = 0 ∨ (f = 1 ∧ (0 ≤ x.toInt ∧ x.toInt < (n : Int)) ∧ ∀ k, k < p → (o k : Int) ≠ x.toInt)) → k9_ok (k9_R S (d + 2) 211 38 [some (k9_r 12 0), some (k9_i (nI s)), some (k9_i x2), some (k9_i (nI m)), some (k9_i f), some (k9_i (nI i)), some (k9_i x), some (k9_i (nI p))] [] I1 J) Q := by
        intro k
        induction k with
        | zero =>
          intro p f hp hf
          obtain rfl : p = m := by omega
          refine k9o_eq k9e_211_38 (k9o_T (by omega) ?_)
          rcases hf with rfl | ⟨rfl, hb, hn⟩
          · exact stop _ _
          · obtain ⟨y, hy, hyb, -⟩ := n_of (x := x) (by omega)
            have hyn : y < n := by omega
            have hne : ∀ k, k < p → o k ≠ y := fun k hk e => hn k hk (by rw [hy, n_toInt (by omega), e])
            obtain ⟨hlt, hL2⟩ := k9_Li_a hL hyn hne
            have o2 := ih (i + 1) (p + 1) _ _ (by omega) hL2 (k9_fx_u hx rfl)
            refine k9o_eq k9e_211_51 (k9o_F (by decide) (k9o_eq k9e_211_53 (k9o_T (by rw [n_toInt (by omega)]; omega) (k9o_eq k9e_211_59 ?_))))
            rw [n_cl (by omega), nI_1, nI_1, hy]
            exact o2
        | succ k ih2 =>
          intro p f hp hf
          have ap := hL.1 p (by omega)
          have bp := hL.2.1 p (by omega)
          refine k9o_eq k9e_211_38 (k9o_F (by rw [n_toInt (by omega), n_toInt (by omega)]; omega) (k9o_eq k9e_211_41 (k9o_T (by rw [n_toInt (by omega)]; omega) ?_)))
          rw [n_cl (by omega), ap]
          refine k9o_eq k9e_211_45 ?_
          by_cases e : (o p : Int) = x.toInt
          · refine k9o_T (by rw [n_toInt (by omega)]; exact e) (k9o_eq k9e_211_47 (k9o_eq k9e_211_49 ?_))
            rw [nI_1]
            exact ih2 (p + 1) 0 (by omega) (Or.inl rfl)
          · refine k9o_F (by rw [n_toInt (by omega)]; exact e) (k9o_eq k9e_211_49 ?_)
            rw [nI_1]
            refine ih2 (p + 1) f (by omega) ?_
            rcases hf with rfl | ⟨rfl, hb, hn⟩
            · exact Or.inl rfl
            · exact Or.inr ⟨rfl, hb, fun k hk => by
                by_cases c : k = p
                · rw [c]
                  exact e
                · exact hn k (by omega)⟩
      refine k9o_eq k9e_211_19 (k9o_T (by rw [n_toInt (by omega)]; omega) ?_)
      rw [n_cl (by omega), hx 61 0 s rfl, h61]
      refine k9o_eq k9e_211_24 (k9o_F (by rw [n_toInt (by omega), n_toInt (by omega)]; omega) (k9o_eq k9e_211_25 (k9o_F (by decide) (k9o_eq k9e_211_27 (k9o_call e209 ?_)))))
      simp only [k9_ps_s]
      refine k9o_eq k9e_211_31 (k9o_call e154 ?_)
      simp only [k9_ps_s]
      refine k9o_eq k9e_211_35 ?_
      refine lp m 0 _ (by omega) ?_
      by_cases c : 0 ≤ x.toInt ∧ x.toInt < (n : Int)
      · rw [if_pos c]
        exact Or.inr ⟨rfl, c, fun k hk => by omega⟩
      · rw [if_neg c]
        exact Or.inl rfl
  rw [k9e_211_13]
  exact key z 0 0 (fun _ => 0) I (by omega) ⟨fun k hk => by omega, fun k hk => by omega, fun i j hi => by omega⟩ (k9_fx_rf _ _)
theorem t_told (hI : k9_Inv I J) : k9_P S (d + 20) 115 211 [some (k9_r 1 0), some (k9_i x1), none, none] [some (k9_r 12 0), some (k9_i x1), none, none, none, none, none, none] I J k9_Inv ∨ ((∃ s z, x1 = nI s ∧ s < 6 ∧ k9_byr I s z) ∧ ∃ (a1 a2 : Int32) (I1 : k9_I) (J1 : k9_J) (I2 : k9_I) (J2 : k9_J), k9_R S (d + 20) 115 0 [some (k9_r 1 0), some (k9_i x1), none, none] [] I J = some (some (k9_i a1), I1, J1) ∧ k9_R S (d + 20) 211 0 [some (k9_r 12 0), some (k9_i x1), none, none, none, none, none, none] [] I1 J1 = some (some (k9_i a2), I2, J2) ∧ k9_Inv I2 J2) := by
  have hI' := hI
  obtain ⟨w, V, b, v⟩ := hI
  have v : k9_Iv I J w V b := v
  have hf := v.1.2.2.1
  have m0 := v.1.2.1.1
  have c0 := v.1.1.1
  have h6 := hf.1
  have hb := v.2.2.2.2.1.1
  have v6 := v.2.2.2.2.2.1
  by_cases h1 : 0 ≤ x1.toInt ∧ x1.toInt ≤ 5
  · obtain ⟨s, rfl, hs, -⟩ := n_of (x := x1) (by omega)
    have hs6 : s < 6 := by omega
    rcases k9_byrs hb (v6.1 s hs6) with ⟨z, hz⟩ | ⟨r, hr⟩
    · refine Or.inr ⟨⟨s, z, rfl, hs6, hz⟩, ?_⟩
      have hz60 := hz.2.2.2.2.2
      obtain ⟨n, hn⟩ : ∃ n, n = w 7 0 := ⟨_, rfl⟩
      rw [← hn] at h6 m0 c0
      -- the class
      have kc : ∀ k i n1 o1 I1, i + k = z → k9_Or I1 0 n1 o1 → (∀ j, j < n1 → o1 j < n) → k9_fx k9_F6 I I1 → ∃ (a : Int32) (I2 : k9_I), k9_ok (k9_R S (d + 20) 115 19 [some (k9_r 1 0), some (k9_i (nI s)), some (k9_r 11 s), some (k9_i (nI i))] [] I1 J) (fun q => q = (some (k9_i a), I2, J)) ∧ k9_fx k9_F6 I I2 := by
        intro k
        induction k with
        | zero =>
          intro i n1 o1 I1 hi hO ho hx
          obtain rfl : i = z := by omega
          obtain ⟨I2, n2, o2, e2, O2, ho2, x2, -⟩ := k9s_30 (S := S) (d := d + 17) (J := J) hO ho h6
          have hx2 := k9_fx_tr hx (k9_F6_o x2)
          have i2 : k9_Iv I2 J w V b := k9_Iv_0 (k9_fp_x hx2 (k9_F6_X rfl)) v
          obtain ⟨a, I3, e3, x3⟩ := k9_otroll0 (S := S) (d := d + 11) (J := J) i2.1.1 hf i2.2.2.1.1 O2 (fun j hj => by rw [← hn]; exact ho2 j hj)
          refine ⟨a, I3, k9o_eq k9e_115_19 (k9o_T (by rw [hx 11 s 3 rfl, hz.2.2.1]; omega) (k9o_eq k9e_115_35 ?_)), k9_fx_tr hx2 (k9_F6_t x3)⟩
          rw [hx 3 0 0 rfl, c0]
          refine k9o_call e2 ?_
          simp only [k9_ps_n]
          refine k9o_eq k9e_115_42 (k9o_call e3 ?_)
          simp only [k9_ps_s]
          exact k9o_eq k9e_115_46 (k9o_ret rfl)
        | succ k ih =>
          intro i n1 o1 I1 hi hO ho hx
          have e95 := k9s_95 (S := S) (d := d + 18) (I := I1) (J := J) (i0 := s) (show i < 60 by omega)
          obtain ⟨I2, n2, o2, e2, O2, ho2, x2⟩ := k9s_28a (S := S) (d := d + 18) (J := J) (x := (J 37 s i).toInt32) hO ho h6
          obtain ⟨a, I3, e3, x3⟩ := ih (i + 1) n2 o2 I2 (by omega) O2 ho2 (k9_fx_tr hx (k9_F6_o x2))
          refine ⟨a, I3, k9o_eq k9e_115_19 (k9o_F (by rw [hx 11 s 3 rfl, hz.2.2.1, n_toInt (by omega), n_toInt (by omega)]; omega) (k9o_eq k9e_115_23 (k9o_call e95 ?_))), x3⟩
          simp only [k9_ps_s]
          refine k9o_eq k9e_115_28 ?_
          rw [hx 3 0 0 rfl, c0]
          refine k9o_call e2 ?_
          simp only [k9_ps_n]
          refine k9o_eq k9e_115_33 ?_
          rw [nI_1]
          exact e3
      have e26 := k9s_26 (S := S) (d := d + 19) (I := I) (J := J) (i0 := 0)
      obtain ⟨a1, I2, o2, x2⟩ := kc z 0 0 (fun _ => 0) (k9_u I 7 0 1 0) (by omega) k9_Or_0 (fun j hj => by omega) (k9_fx_u (k9_fx_rf _ _) rfl)
      have i2 : k9_Iv I2 J w V b := k9_Iv_0 (k9_fp_x x2 (k9_F6_X rfl)) v
      have m2 := i2.1.2.1.1
      rw [← hn] at m2
      have z2 : k9_byr I2 s z := k9_by_t (funext fun p => x2 11 s p rfl) (x2 60 0 s rfl) (x2 61 0 s rfl) hz
      have e91 := k9s_91 (S := S) (d := d + 19) (J := J) hz
      have cls : k9_R S (d + 20) 115 0 [some (k9_r 1 0), some (k9_i (nI s)), none, none] [] I J = some (some (k9_i a1), I2, J) := by
        refine k9o_of ?_
        have e144 : k9_R S (d + 19) 144 0 [some (k9_r 1 0), some (k9_i (nI s))] [] I J = some (some (k9_r 11 s), I, J) := by
          refine k9o_of ?_
          simp (disch := omega) only [k9e_144_0, k9e_144_2, k9e_144_5, k9e_144_9, k9e_144_10, k9e_144_11, k9e_144_11b, Nat.reduceEqDiff, Int.reduceEq, Int.reduceLT, Int.reduceLE, k9_ps_s, k9_ps_n, k9_ur, false_and, and_false, true_and, and_true, true_or, or_true, false_or, or_false, eq_self, ↓reduceIte, not_true_eq_false, not_false_eq_true, n_toInt, n_cl, nI_1, nI_add, n_a0, n_p2, n_p3, n_p4, n_x2, n_x3, n_x4, n_x60, n_x100, n_pm1, k9L_m2, k9L_m1, k9L_0, k9L_1, k9L_2, k9L_3, k9L_4, k9L_5, k9L_6, k9L_7, k9L_8, k9L_9, k9L_10, k9L_20, k9L_23, k9L_24, k9L_30, k9L_40, k9L_50, k9L_60, k9L_99, k9L_100, k9L_120, k9L_255, k9L_999, k9L_1000, k9_bs, k9_ba]
          repeat (first | ((with_reducible refine k9q_T ?_ ?_); · omega) | ((with_reducible refine k9q_F ?_ ?_); · omega) | ((with_reducible refine k9q_Tb ?_ ?_); · omega) | ((with_reducible refine k9q_Fb ?_ ?_); · omega) | simp (disch := omega) only [k9e_144_0, k9e_144_2, k9e_144_5, k9e_144_9, k9e_144_10, k9e_144_11, k9e_144_11b, Nat.reduceEqDiff, Int.reduceEq, Int.reduceLT, Int.reduceLE, k9_ps_s, k9_ps_n, k9_ur, false_and, and_false, true_and, and_true, true_or, or_true, false_or, or_false, eq_self, ↓reduceIte, not_true_eq_false, not_false_eq_true, n_toInt, n_cl, nI_1, nI_add, n_a0, n_p2, n_p3, n_p4, n_x2, n_x3, n_x4, n_x60, n_x100, n_pm1, k9L_m2, k9L_m1, k9L_0, k9L_1, k9L_2, k9L_3, k9L_4, k9L_5, k9L_6, k9L_7, k9L_8, k9L_9, k9L_10, k9L_20, k9L_23, k9L_24, k9L_30, k9L_40, k9L_50, k9L_60, k9L_99, k9L_100, k9L_120, k9L_255, k9L_999, k9L_1000, k9_bs, k9_ba])
          exact k9o_ret rfl
        refine k9o_eq k9e_115_0 (k9o_call e144 ?_)
        simp only [k9_ps_s]
        refine k9o_eq k9e_115_3b (k9o_call e91 ?_)
        simp only [k9_ps_s]
        refine k9o_eq k9e_115_10 (k9o_F (by decide) (k9o_eq k9e_115_14 (k9o_call e26 ?_)))
        simp only [k9_ps_n]
        exact k9o_eq k9e_115_17 o2
      -- the reference
      have ref : k9_ok (k9_R S (d + 20) 211 0 [some (k9_r 12 0), some (k9_i (nI s)), none, none, none, none, none, none] [] I2 J) (fun q => ∃ (a2 : Int32) (I3 : k9_I), q = (some (k9_i a2), I3, J) ∧ k9_Inv I3 J) := by
        have e208 := k9s_208 (S := S) (d := d + 19) (J := J) hs6 z2
        have e156 : k9_R S (d + 19) 156 0 [some (k9_i (nI s))] [] I2 J = some (some (k9_i 1), I2, J) := by
          refine k9o_of ?_
          simp (disch := omega) only [k9e_156_0, k9e_156_4, Nat.reduceEqDiff, Int.reduceEq, Int.reduceLT, Int.reduceLE, k9_ps_s, k9_ps_n, k9_ur, false_and, and_false, true_and, and_true, true_or, or_true, false_or, or_false, eq_self, ↓reduceIte, not_true_eq_false, not_false_eq_true, n_toInt, n_cl, nI_1, nI_add, n_a0, n_p2, n_p3, n_p4, n_x2, n_x3, n_x4, n_x60, n_x100, n_pm1, k9L_m2, k9L_m1, k9L_0, k9L_1, k9L_2, k9L_3, k9L_4, k9L_5, k9L_6, k9L_7, k9L_8, k9L_9, k9L_10, k9L_20, k9L_23, k9L_24, k9L_30, k9L_40, k9L_50, k9L_60, k9L_99, k9L_100, k9L_120, k9L_255, k9L_999, k9L_1000, k9_bs, k9_ba]
          repeat (first | ((with_reducible refine k9q_T ?_ ?_); · omega) | ((with_reducible refine k9q_F ?_ ?_); · omega) | ((with_reducible refine k9q_Tb ?_ ?_); · omega) | ((with_reducible refine k9q_Fb ?_ ?_); · omega) | (refine k9o_call (k9s_153 (by first | omega | (simp (disch := omega) only [n_toInt, n_pm1, k9L_m2, k9L_m1, k9L_0, k9L_1, k9L_2, k9L_3, k9L_4, k9L_5, k9L_6, k9L_7, k9L_8, k9L_9, k9L_10, k9L_20, k9L_23, k9L_24, k9L_30, k9L_40, k9L_50, k9L_60, k9L_99, k9L_100, k9L_120, k9L_255, k9L_999, k9L_1000]; omega))) ?_; simp (disch := omega) only [k9e_156_0, k9e_156_4, Nat.reduceEqDiff, Int.reduceEq, Int.reduceLT, Int.reduceLE, k9_ps_s, k9_ps_n, k9_ur, false_and, and_false, true_and, and_true, true_or, or_true, false_or, or_false, eq_self, ↓reduceIte, not_true_eq_false, not_false_eq_true, n_toInt, n_cl, nI_1, nI_add, n_a0, n_p2, n_p3, n_p4, n_x2, n_x3, n_x4, n_x60, n_x100, n_pm1, k9L_m2, k9L_m1, k9L_0, k9L_1, k9L_2, k9L_3, k9L_4, k9L_5, k9L_6, k9L_7, k9L_8, k9L_9, k9L_10, k9L_20, k9L_23, k9L_24, k9L_30, k9L_40, k9L_50, k9L_60, k9L_99, k9L_100, k9L_120, k9L_255, k9L_999, k9L_1000, k9_bs, k9_ba]) | (refine k9o_call (k9s_153x (by first | omega | (simp (disch := omega) only [n_toInt, n_pm1, k9L_m2, k9L_m1, k9L_0, k9L_1, k9L_2, k9L_3, k9L_4, k9L_5, k9L_6, k9L_7, k9L_8, k9L_9, k9L_10, k9L_20, k9L_23, k9L_24, k9L_30, k9L_40, k9L_50, k9L_60, k9L_99, k9L_100, k9L_120, k9L_255, k9L_999, k9L_1000]; omega))) ?_; simp (disch := omega) only [k9e_156_0, k9e_156_4, Nat.reduceEqDiff, Int.reduceEq, Int.reduceLT, Int.reduceLE, k9_ps_s, k9_ps_n, k9_ur, false_and, and_false, true_and, and_true, true_or, or_true, false_or, or_false, eq_self, ↓reduceIte, not_true_eq_false, not_false_eq_true, n_toInt, n_cl, nI_1, nI_add, n_a0, n_p2, n_p3, n_p4, n_x2, n_x3, n_x4, n_x60, n_x100, n_pm1, k9L_m2, k9L_m1, k9L_0, k9L_1, k9L_2, k9L_3, k9L_4, k9L_5, k9L_6, k9L_7, k9L_8, k9L_9, k9L_10, k9L_20, k9L_23, k9L_24, k9L_30, k9L_40, k9L_50, k9L_60, k9L_99, k9L_100, k9L_120, k9L_255, k9L_999, k9L_1000, k9_bs, k9_ba]) | simp (disch := omega) only [k9e_156_0, k9e_156_4, Nat.reduceEqDiff, Int.reduceEq, Int.reduceLT, Int.reduceLE, k9_ps_s, k9_ps_n, k9_ur, false_and, and_false, true_and, and_true, true_or, or_true, false_or, or_false, eq_self, ↓reduceIte, not_true_eq_false, not_false_eq_true, n_toInt, n_cl, nI_1, nI_add, n_a0, n_p2, n_p3, n_p4, n_x2, n_x3, n_x4, n_x60, n_x100, n_pm1, k9L_m2, k9L_m1, k9L_0, k9L_1, k9L_2, k9L_3, k9L_4, k9L_5, k9L_6, k9L_7, k9L_8, k9L_9, k9L_10, k9L_20, k9L_23, k9L_24, k9L_30, k9L_40, k9L_50, k9L_60, k9L_99, k9L_100, k9L_120, k9L_255, k9L_999, k9L_1000, k9_bs, k9_ba])
          exact k9o_ret rfl
        refine k9o_eq k9e_211_0 (k9o_call e156 ?_)
        simp only [k9_ps_s]
        refine k9o_eq k9e_211_2 (k9o_F (by decide) (k9o_eq k9e_211_5 (k9o_call e208 ?_)))
        simp only [k9_ps_s]
        refine k9o_eq k9e_211_8 (k9o_T (by decide) (k9s_211l m2 h6 hs6 hz60 z2.2.2.2.2.1 (fun m o I3 hL x3 x4 x5 => ?_)))
        obtain ⟨I4, o4, e4, L4, x4'⟩ := k9s_210 (S := S) (d := d + 19) (J := J) ((x3 12 0 0 rfl).trans m2) h6 hL
        have hx4 := k9_fx_tr (k9_Fq_63 x3) (k9_Fq_63 x4')
        have i4 : k9_Iv I4 J w V b := k9_Iv_0 (k9_fp_x hx4 (k9_Fq_X rfl)) i2
        obtain ⟨I5, e5, m5, x5'⟩ := k9_orun (S := S) (d := d + 15) (J := J) (o := o4) (x := -1) i4.1.2.1 hf i4.2.2.1.2 (fun j hj => L4.1 j (by omega)) (fun j hj => by rw [← hn] at hj ⊢; exact L4.2.1 j hj) (fun i j hi hj e => L4.2.2 i j (by omega) (by omega) e)
        have hlen := p_len_b (k9_wf_cm (o := o4) hf (fun j hj => by rw [← hn] at hj ⊢; exact L4.2.1 j hj))
        obtain ⟨I6, e6, k6, x6⟩ := k9s_191 (S := S) (d := d + 19) (J := J) m5 (by omega) (fun t => p_sh_b t)
        have hx6 : k9_fx k9_F7 I2 I6 := k9_fx_tr (k9_fx_tr (k9_F7_q hx4) (k9_F7_q (k9_Fq_of x5'))) (k9_F7_44 x6)
        refine k9o_eq k9e_211_61 (k9o_call e4 ?_)
        simp only [k9_ps_n]
        refine k9o_eq k9e_211_64 (k9o_call e5 ?_)
        simp only [k9_ps_n]
        refine k9o_eq k9e_211_67 (k9o_call e6 ?_)
        simp only [k9_ps_n]
        exact k9o_eq k9e_211_69 (k9o_ret ⟨_, _, rfl, k9_Iv_e (k9_Iv_0 (k9_fp_x hx6 (k9_F7_X rfl)) i2)⟩)
      obtain ⟨q, eq, a2, I3, rfl, i3⟩ := ref
      exact ⟨a1, a2, I2, J, I3, J, cls, eq, i3⟩
    · refine Or.inl (k9P_of ?_)
      have e91 := k9s_91x (S := S) (d := d + 19) (J := J) hr
      have e92 := k9s_92 (S := S) (d := d + 19) (J := J) hr
      have e208 := k9s_208x (S := S) (d := d + 19) (J := J) hs6 hr
      have hneg := k9_nb_r hr
      simp (disch := omega) only [k9e_115_0, k9e_115_3, k9e_115_3b, k9e_115_10, k9e_115_11, k9e_115_13, k9e_144_0, k9e_144_2, k9e_144_5, k9e_144_9, k9e_144_10, k9e_144_11, k9e_144_11b, Nat.reduceEqDiff, Int.reduceEq, Int.reduceLT, Int.reduceLE, k9_ps_s, k9_ps_n, k9_ur, false_and, and_false, true_and, and_true, true_or, or_true, false_or, or_false, eq_self, ↓reduceIte, not_true_eq_false, not_false_eq_true, n_toInt, n_cl, nI_1, nI_add, n_a0, n_p2, n_p3, n_p4, n_x2, n_x3, n_x4, n_x60, n_x100, n_pm1, k9L_m2, k9L_m1, k9L_0, k9L_1, k9L_2, k9L_3, k9L_4, k9L_5, k9L_6, k9L_7, k9L_8, k9L_9, k9L_10, k9L_20, k9L_23, k9L_24, k9L_30, k9L_40, k9L_50, k9L_60, k9L_99, k9L_100, k9L_120, k9L_255, k9L_999, k9L_1000, k9_bs, k9_ba]
      repeat (first | ((with_reducible refine k9q_T ?_ ?_); · omega) | ((with_reducible refine k9q_F ?_ ?_); · omega) | ((with_reducible refine k9q_Tb ?_ ?_); · omega) | ((with_reducible refine k9q_Fb ?_ ?_); · omega) | (refine k9o_call (e91) ?_; simp (disch := omega) only [k9e_115_0, k9e_115_3, k9e_115_3b, k9e_115_10, k9e_115_11, k9e_115_13, k9e_144_0, k9e_144_2, k9e_144_5, k9e_144_9, k9e_144_10, k9e_144_11, k9e_144_11b, Nat.reduceEqDiff, Int.reduceEq, Int.reduceLT, Int.reduceLE, k9_ps_s, k9_ps_n, k9_ur, false_and, and_false, true_and, and_true, true_or, or_true, false_or, or_false, eq_self, ↓reduceIte, not_true_eq_false, not_false_eq_true, n_toInt, n_cl, nI_1, nI_add, n_a0, n_p2, n_p3, n_p4, n_x2, n_x3, n_x4, n_x60, n_x100, n_pm1, k9L_m2, k9L_m1, k9L_0, k9L_1, k9L_2, k9L_3, k9L_4, k9L_5, k9L_6, k9L_7, k9L_8, k9L_9, k9L_10, k9L_20, k9L_23, k9L_24, k9L_30, k9L_40, k9L_50, k9L_60, k9L_99, k9L_100, k9L_120, k9L_255, k9L_999, k9L_1000, k9_bs, k9_ba]) | (refine k9o_call (e92) ?_; simp (disch := omega) only [k9e_115_0, k9e_115_3, k9e_115_3b, k9e_115_10, k9e_115_11, k9e_115_13, k9e_144_0, k9e_144_2, k9e_144_5, k9e_144_9, k9e_144_10, k9e_144_11, k9e_144_11b, Nat.reduceEqDiff, Int.reduceEq, Int.reduceLT, Int.reduceLE, k9_ps_s, k9_ps_n, k9_ur, false_and, and_false, true_and, and_true, true_or, or_true, false_or, or_false, eq_self, ↓reduceIte, not_true_eq_false, not_false_eq_true, n_toInt, n_cl, nI_1, nI_add, n_a0, n_p2, n_p3, n_p4, n_x2, n_x3, n_x4, n_x60, n_x100, n_pm1, k9L_m2, k9L_m1, k9L_0, k9L_1, k9L_2, k9L_3, k9L_4, k9L_5, k9L_6, k9L_7, k9L_8, k9L_9, k9L_10, k9L_20, k9L_23, k9L_24, k9L_30, k9L_40, k9L_50, k9L_60, k9L_99, k9L_100, k9L_120, k9L_255, k9L_999, k9L_1000, k9_bs, k9_ba]) | simp (disch := omega) only [k9e_115_0, k9e_115_3, k9e_115_3b, k9e_115_10, k9e_115_11, k9e_115_13, k9e_144_0, k9e_144_2, k9e_144_5, k9e_144_9, k9e_144_10, k9e_144_11, k9e_144_11b, Nat.reduceEqDiff, Int.reduceEq, Int.reduceLT, Int.reduceLE, k9_ps_s, k9_ps_n, k9_ur, false_and, and_false, true_and, and_true, true_or, or_true, false_or, or_false, eq_self, ↓reduceIte, not_true_eq_false, not_false_eq_true, n_toInt, n_cl, nI_1, nI_add, n_a0, n_p2, n_p3, n_p4, n_x2, n_x3, n_x4, n_x60, n_x100, n_pm1, k9L_m2, k9L_m1, k9L_0, k9L_1, k9L_2, k9L_3, k9L_4, k9L_5, k9L_6, k9L_7, k9L_8, k9L_9, k9L_10, k9L_20, k9L_23, k9L_24, k9L_30, k9L_40, k9L_50, k9L_60, k9L_99, k9L_100, k9L_120, k9L_255, k9L_999, k9L_1000, k9_bs, k9_ba])
      refine k9o_ret ⟨_, _, _, rfl, ?_⟩
      simp (disch := omega) only [k9e_211_0, k9e_211_2, k9e_211_3, k9e_211_5, k9e_211_8, k9e_211_11, k9e_156_0, k9e_156_4, Nat.reduceEqDiff, Int.reduceEq, Int.reduceLT, Int.reduceLE, k9_ps_s, k9_ps_n, k9_ur, false_and, and_false, true_and, and_true, true_or, or_true, false_or, or_false, eq_self, ↓reduceIte, not_true_eq_false, not_false_eq_true, n_toInt, n_cl, nI_1, nI_add, n_a0, n_p2, n_p3, n_p4, n_x2, n_x3, n_x4, n_x60, n_x100, n_pm1, k9L_m2, k9L_m1, k9L_0, k9L_1, k9L_2, k9L_3, k9L_4, k9L_5, k9L_6, k9L_7, k9L_8, k9L_9, k9L_10, k9L_20, k9L_23, k9L_24, k9L_30, k9L_40, k9L_50, k9L_60, k9L_99, k9L_100, k9L_120, k9L_255, k9L_999, k9L_1000, k9_bs, k9_ba]
      repeat (first | ((with_reducible refine k9q_T ?_ ?_); · omega) | ((with_reducible refine k9q_F ?_ ?_); · omega) | ((with_reducible refine k9q_Tb ?_ ?_); · omega) | ((with_reducible refine k9q_Fb ?_ ?_); · omega) | (refine k9o_call (e208) ?_; simp (disch := omega) only [k9e_211_0, k9e_211_2, k9e_211_3, k9e_211_5, k9e_211_8, k9e_211_11, k9e_156_0, k9e_156_4, Nat.reduceEqDiff, Int.reduceEq, Int.reduceLT, Int.reduceLE, k9_ps_s, k9_ps_n, k9_ur, false_and, and_false, true_and, and_true, true_or, or_true, false_or, or_false, eq_self, ↓reduceIte, not_true_eq_false, not_false_eq_true, n_toInt, n_cl, nI_1, nI_add, n_a0, n_p2, n_p3, n_p4, n_x2, n_x3, n_x4, n_x60, n_x100, n_pm1, k9L_m2, k9L_m1, k9L_0, k9L_1, k9L_2, k9L_3, k9L_4, k9L_5, k9L_6, k9L_7, k9L_8, k9L_9, k9L_10, k9L_20, k9L_23, k9L_24, k9L_30, k9L_40, k9L_50, k9L_60, k9L_99, k9L_100, k9L_120, k9L_255, k9L_999, k9L_1000, k9_bs, k9_ba]) | (refine k9o_call (k9s_153 (by first | omega | (simp (disch := omega) only [n_toInt, n_pm1, k9L_m2, k9L_m1, k9L_0, k9L_1, k9L_2, k9L_3, k9L_4, k9L_5, k9L_6, k9L_7, k9L_8, k9L_9, k9L_10, k9L_20, k9L_23, k9L_24, k9L_30, k9L_40, k9L_50, k9L_60, k9L_99, k9L_100, k9L_120, k9L_255, k9L_999, k9L_1000]; omega))) ?_; simp (disch := omega) only [k9e_211_0, k9e_211_2, k9e_211_3, k9e_211_5, k9e_211_8, k9e_211_11, k9e_156_0, k9e_156_4, Nat.reduceEqDiff, Int.reduceEq, Int.reduceLT, Int.reduceLE, k9_ps_s, k9_ps_n, k9_ur, false_and, and_false, true_and, and_true, true_or, or_true, false_or, or_false, eq_self, ↓reduceIte, not_true_eq_false, not_false_eq_true, n_toInt, n_cl, nI_1, nI_add, n_a0, n_p2, n_p3, n_p4, n_x2, n_x3, n_x4, n_x60, n_x100, n_pm1, k9L_m2, k9L_m1, k9L_0, k9L_1, k9L_2, k9L_3, k9L_4, k9L_5, k9L_6, k9L_7, k9L_8, k9L_9, k9L_10, k9L_20, k9L_23, k9L_24, k9L_30, k9L_40, k9L_50, k9L_60, k9L_99, k9L_100, k9L_120, k9L_255, k9L_999, k9L_1000, k9_bs, k9_ba]) | (refine k9o_call (k9s_153x (by first | omega | (simp (disch := omega) only [n_toInt, n_pm1, k9L_m2, k9L_m1, k9L_0, k9L_1, k9L_2, k9L_3, k9L_4, k9L_5, k9L_6, k9L_7, k9L_8, k9L_9, k9L_10, k9L_20, k9L_23, k9L_24, k9L_30, k9L_40, k9L_50, k9L_60, k9L_99, k9L_100, k9L_120, k9L_255, k9L_999, k9L_1000]; omega))) ?_; simp (disch := omega) only [k9e_211_0, k9e_211_2, k9e_211_3, k9e_211_5, k9e_211_8, k9e_211_11, k9e_156_0, k9e_156_4, Nat.reduceEqDiff, Int.reduceEq, Int.reduceLT, Int.reduceLE, k9_ps_s, k9_ps_n, k9_ur, false_and, and_false, true_and, and_true, true_or, or_true, false_or, or_false, eq_self, ↓reduceIte, not_true_eq_false, not_false_eq_true, n_toInt, n_cl, nI_1, nI_add, n_a0, n_p2, n_p3, n_p4, n_x2, n_x3, n_x4, n_x60, n_x100, n_pm1, k9L_m2, k9L_m1, k9L_0, k9L_1, k9L_2, k9L_3, k9L_4, k9L_5, k9L_6, k9L_7, k9L_8, k9L_9, k9L_10, k9L_20, k9L_23, k9L_24, k9L_30, k9L_40, k9L_50, k9L_60, k9L_99, k9L_100, k9L_120, k9L_255, k9L_999, k9L_1000, k9_bs, k9_ba]) | simp (disch := omega) only [k9e_211_0, k9e_211_2, k9e_211_3, k9e_211_5, k9e_211_8, k9e_211_11, k9e_156_0, k9e_156_4, Nat.reduceEqDiff, Int.reduceEq, Int.reduceLT, Int.reduceLE, k9_ps_s, k9_ps_n, k9_ur, false_and, and_false, true_and, and_true, true_or, or_true, false_or, or_false, eq_self, ↓reduceIte, not_true_eq_false, not_false_eq_true, n_toInt, n_cl, nI_1, nI_add, n_a0, n_p2, n_p3, n_p4, n_x2, n_x3, n_x4, n_x60, n_x100, n_pm1, k9L_m2, k9L_m1, k9L_0, k9L_1, k9L_2, k9L_3, k9L_4, k9L_5, k9L_6, k9L_7, k9L_8, k9L_9, k9L_10, k9L_20, k9L_23, k9L_24, k9L_30, k9L_40, k9L_50, k9L_60, k9L_99, k9L_100, k9L_120, k9L_255, k9L_999, k9L_1000, k9_bs, k9_ba])
      exact k9o_ret ⟨_, _, rfl, hI'⟩
  · refine Or.inl (k9P_of ?_)
    repeat' (first | ((with_reducible refine k9q_T ?_ ?_); · omega) | ((with_reducible refine k9q_F ?_ ?_); · omega) | ((with_reducible refine k9q_Tb ?_ ?_); · omega) | ((with_reducible refine k9q_Fb ?_ ?_); · omega) | simp (disch := omega) only [k9e_115_0, k9e_115_3, k9e_115_3b, k9e_144_0, k9e_144_2, k9e_144_5, k9e_144_9, k9e_144_10, k9e_144_11, k9e_144_11b, Nat.reduceEqDiff, Int.reduceEq, Int.reduceLT, Int.reduceLE, k9_ps_s, k9_ps_n, k9_ur, false_and, and_false, true_and, and_true, true_or, or_true, false_or, or_false, eq_self, ↓reduceIte, not_true_eq_false, not_false_eq_true, n_toInt, n_cl, nI_1, nI_add, n_a0, n_p2, n_p3, n_p4, n_x2, n_x3, n_x4, n_x60, n_x100, n_pm1, k9L_m2, k9L_m1, k9L_0, k9L_1, k9L_2, k9L_3, k9L_4, k9L_5, k9L_6, k9L_7, k9L_8, k9L_9, k9L_10, k9L_20, k9L_23, k9L_24, k9L_30, k9L_40, k9L_50, k9L_60, k9L_99, k9L_100, k9L_120, k9L_255, k9L_999, k9L_1000, k9_bs, k9_ba] | (with_reducible refine k9q_if (fun _ => ?_) (fun _ => ?_)) | (with_reducible refine k9q_ifb (fun _ => ?_) (fun _ => ?_)))
    all_goals refine k9o_ret ⟨_, _, _, rfl, ?_⟩
    all_goals repeat' (first | ((with_reducible refine k9q_T ?_ ?_); · omega) | ((with_reducible refine k9q_F ?_ ?_); · omega) | ((with_reducible refine k9q_Tb ?_ ?_); · omega) | ((with_reducible refine k9q_Fb ?_ ?_); · omega) | (refine k9o_call (k9s_153 (by first | omega | (simp (disch := omega) only [n_toInt, n_pm1, k9L_m2, k9L_m1, k9L_0, k9L_1, k9L_2, k9L_3, k9L_4, k9L_5, k9L_6, k9L_7, k9L_8, k9L_9, k9L_10, k9L_20, k9L_23, k9L_24, k9L_30, k9L_40, k9L_50, k9L_60, k9L_99, k9L_100, k9L_120, k9L_255, k9L_999, k9L_1000]; omega))) ?_; simp (disch := omega) only [k9e_211_0, k9e_211_2, k9e_211_3, k9e_156_0, k9e_156_4, Nat.reduceEqDiff, Int.reduceEq, Int.reduceLT, Int.reduceLE, k9_ps_s, k9_ps_n, k9_ur, false_and, and_false, true_and, and_true, true_or, or_true, false_or, or_false, eq_self, ↓reduceIte, not_true_eq_false, not_false_eq_true, n_toInt, n_cl, nI_1, nI_add, n_a0, n_p2, n_p3, n_p4, n_x2, n_x3, n_x4, n_x60, n_x100, n_pm1, k9L_m2, k9L_m1, k9L_0, k9L_1, k9L_2, k9L_3, k9L_4, k9L_5, k9L_6, k9L_7, k9L_8, k9L_9, k9L_10, k9L_20, k9L_23, k9L_24, k9L_30, k9L_40, k9L_50, k9L_60, k9L_99, k9L_100, k9L_120, k9L_255, k9L_999, k9L_1000, k9_bs, k9_ba]) | (refine k9o_call (k9s_153x (by first | omega | (simp (disch := omega) only [n_toInt, n_pm1, k9L_m2, k9L_m1, k9L_0, k9L_1, k9L_2, k9L_3, k9L_4, k9L_5, k9L_6, k9L_7, k9L_8, k9L_9, k9L_10, k9L_20, k9L_23, k9L_24, k9L_30, k9L_40, k9L_50, k9L_60, k9L_99, k9L_100, k9L_120, k9L_255, k9L_999, k9L_1000]; omega))) ?_; simp (disch := omega) only [k9e_211_0, k9e_211_2, k9e_211_3, k9e_156_0, k9e_156_4, Nat.reduceEqDiff, Int.reduceEq, Int.reduceLT, Int.reduceLE, k9_ps_s, k9_ps_n, k9_ur, false_and, and_false, true_and, and_true, true_or, or_true, false_or, or_false, eq_self, ↓reduceIte, not_true_eq_false, not_false_eq_true, n_toInt, n_cl, nI_1, nI_add, n_a0, n_p2, n_p3, n_p4, n_x2, n_x3, n_x4, n_x60, n_x100, n_pm1, k9L_m2, k9L_m1, k9L_0, k9L_1, k9L_2, k9L_3, k9L_4, k9L_5, k9L_6, k9L_7, k9L_8, k9L_9, k9L_10, k9L_20, k9L_23, k9L_24, k9L_30, k9L_40, k9L_50, k9L_60, k9L_99, k9L_100, k9L_120, k9L_255, k9L_999, k9L_1000, k9_bs, k9_ba]) | simp (disch := omega) only [k9e_211_0, k9e_211_2, k9e_211_3, k9e_156_0, k9e_156_4, Nat.reduceEqDiff, Int.reduceEq, Int.reduceLT, Int.reduceLE, k9_ps_s, k9_ps_n, k9_ur, false_and, and_false, true_and, and_true, true_or, or_true, false_or, or_false, eq_self, ↓reduceIte, not_true_eq_false, not_false_eq_true, n_toInt, n_cl, nI_1, nI_add, n_a0, n_p2, n_p3, n_p4, n_x2, n_x3, n_x4, n_x60, n_x100, n_pm1, k9L_m2, k9L_m1, k9L_0, k9L_1, k9L_2, k9L_3, k9L_4, k9L_5, k9L_6, k9L_7, k9L_8, k9L_9, k9L_10, k9L_20, k9L_23, k9L_24, k9L_30, k9L_40, k9L_50, k9L_60, k9L_99, k9L_100, k9L_120, k9L_255, k9L_999, k9L_1000, k9_bs, k9_ba] | (with_reducible refine k9q_if (fun _ => ?_) (fun _ => ?_)) | (with_reducible refine k9q_ifb (fun _ => ?_) (fun _ => ?_)))
    all_goals exact k9o_ret ⟨_, _, rfl, hI'⟩
end KT34
