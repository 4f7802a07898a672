/-! THE LAW'S TEXT: the class reads levels and operands -/
section KV3
variable {S : k9_S} {d : Nat} {I I' : k9_I} {J J' : k9_J} {n a c f lv op : Nat} {l : Nat → Nat} {ts : List Nat}
def k9a_T1 (S : k9_S) (n : Nat) (l : Nat → Nat) (f : Nat) : Prop := ∀ (d : Nat) (I : k9_I) (J : k9_J) (lv op a : Nat) (ts : List Nat), k9_Tc I n l a ts → a ≤ n → ts.length ≤ a → lv ≤ 5 → op ≤ 6 → (6 - op) * 6 + lv < f → ∃ I', k9_R S (d + 2 * f + 4) 38 0 [some (k9_r 5 0), some (k9_i (nI (5 - lv))), some (k9_i (nI op)), none, none, none] [] I J = some (some (k9_i (nI (p_b (p_rd n l f lv op a).1))), I', J) ∧ k9_Tc I' n l (p_rd n l f lv op a).2.1 (ts ++ (p_rd n l f lv op a).2.2) ∧ k9_fx k9_Ftc I I'
def k9_T0 (S : k9_S) (n : Nat) (l : Nat → Nat) (f : Nat) : Prop := ∀ (d : Nat) (I : k9_I) (J : k9_J) (op a : Nat) (ts : List Nat), k9_Tc I n l a ts → a ≤ n → ts.length ≤ a → op ≤ 6 → (6 - op) * 6 < f → ∃ I', k9_R S (d + 2 * f + 3) 39 0 [some (k9_r 5 0), some (k9_i (nI op)), none] [] I J = some (some (k9_i (nI (p_b (p_rd n l f 0 op a).1))), I', J) ∧ k9_Tc I' n l (p_rd n l f 0 op a).2.1 (ts ++ (p_rd n l f 0 op a).2.2) ∧ k9_fx k9_Ftc I I'
theorem p_b_T {b : Bool} (h : b = true) : p_b b = 1 := if_pos h
theorem p_b_F {b : Bool} (h : ¬ b = true) : p_b b = 0 := if_neg h
/-- an operand -/
theorem k9s_39 (h1 : k9a_T1 S n l f) (h0 : k9_T0 S n l f) : k9_T0 S n l (f + 1) := by
  intro d I J op a ts hT ha hts hop hf
  have hn := hT.1
  have hl := p_lt_o hT.2.1 a
  have e41 := k9s_41 (S := S) (d := d + 2 * f + 4) (J := J) hT (by omega)
  have e44 := k9s_44 (S := S) (d := d + 2 * f + 4) (I := I) (J := J) hl
  have e45 := k9s_45 (S := S) (d := d + 2 * f + 4) (I := I) (J := J) hl
  have h5 := hT.2.2.2.2.1
  rw [show d + 2 * (f + 1) + 3 = d + 2 * f + 4 + 1 by omega, p_rd]
  have st : ∀ {Q : k9_A → Prop}, k9_ok (k9_R S (d + 2 * f + 4 + 1) 39 5 [some (k9_r 5 0), some (k9_i (nI op)), some (k9_i (p_lx (p_lt n l a)))] [k9_i (nI (if 48 ≤ p_lt n l a ∧ p_lt n l a ≤ 57 then 1 else 0))] I J) Q → k9_ok (k9_R S (d + 2 * f + 4 + 1) 39 0 [some (k9_r 5 0), some (k9_i (nI op)), none] [] I J) Q := by
    intro Q g
    refine k9o_eq k9e_39_0 (k9o_call e41 ?_)
    simp only [k9_ps_s]
    refine k9o_eq k9e_39_2 (k9o_call e44 ?_)
    simp only [k9_ps_s]
    exact g
  unfold p_od
  by_cases c1 : 48 ≤ p_lt n l a ∧ p_lt n l a ≤ 57
  · rw [if_pos c1]
    rw [if_pos c1] at st
    obtain ⟨I2, e2, T2, x2⟩ := k9s_40 (S := S) (d := d + 2 * f + 3) (J := J) hT ha (by omega)
    refine ⟨I2, k9o_of (st (k9o_eq k9e_39_5 (k9o_F (by decide) (k9o_eq k9e_39_6 (k9o_call e2 ?_))))), T2, x2⟩
    simp only [k9_ps_n]
    exact k9o_eq k9e_39_8 (k9o_ret rfl)
  · rw [if_neg c1]
    rw [if_neg c1] at st
    have st2 : ∀ {Q : k9_A → Prop}, k9_ok (k9_R S (d + 2 * f + 4 + 1) 39 12 [some (k9_r 5 0), some (k9_i (nI op)), some (k9_i (p_lx (p_lt n l a)))] [k9_i (nI (if p_na (p_lt n l a) then 1 else 0))] I J) Q → k9_ok (k9_R S (d + 2 * f + 4 + 1) 39 0 [some (k9_r 5 0), some (k9_i (nI op)), none] [] I J) Q := by
      intro Q g
      refine st (k9o_eq k9e_39_5 (k9o_T (by decide) (k9o_eq k9e_39_10 (k9o_call e45 ?_))))
      simp only [k9_ps_s]
      exact g
    by_cases c2 : p_na (p_lt n l a)
    · rw [if_pos c2]
      rw [if_pos c2] at st2
      have c2' : p_lt n l a ≤ 255 := by simp only [p_na] at c2; omega
      obtain ⟨I2, e2, T2, x2⟩ := k9s_43 (S := S) (d := d + 2 * f + 4) (J := J) (c := 10000 + p_lt n l a) (k9_Tc_p hT (a + 1)) (by omega)
      refine ⟨I2, k9o_of (st2 (k9o_eq k9e_39_12 (k9o_F (by decide) (k9o_eq k9e_39_13 ?_)))), T2, k9_fx_tr (k9_fx_u (k9_fx_rf _ _) rfl) x2⟩
      rw [p_lx_n c2', h5, nI_1, show (10000 : Int32) + nI (p_lt n l a) = nI (10000 + p_lt n l a) from nI_add 10000 _]
      refine k9o_call e2 ?_
      simp only [k9_ps_n]
      exact k9o_eq k9e_39_24 (k9o_ret rfl)
    · rw [if_neg c2]
      rw [if_neg c2] at st2
      have st3 : ∀ {Q : k9_A → Prop}, k9_ok (k9_R S (d + 2 * f + 4 + 1) 39 26 [some (k9_r 5 0), some (k9_i (nI op)), some (k9_i (p_lx (p_lt n l a)))] [] I J) Q → k9_ok (k9_R S (d + 2 * f + 4 + 1) 39 0 [some (k9_r 5 0), some (k9_i (nI op)), none] [] I J) Q := fun g => st2 (k9o_eq k9e_39_12 (k9o_T (by decide) g))
      have no : k9_ok (k9_R S (d + 2 * f + 4 + 1) 39 38 [some (k9_r 5 0), some (k9_i (nI op)), some (k9_i (p_lx (p_lt n l a)))] [] I J) (fun q => q = (some (k9_i (nI 0)), I, J)) := k9o_eq k9e_39_38 (k9o_ret rfl)
      by_cases c3 : op < 6 ∧ p_lt n l a = 40
      · rw [if_pos c3]
        obtain ⟨k1, k2, k3, k4⟩ := p_rd_k n l f 5 (op + 1) (a + 1) (p_lt_n (n := n) (l := l) (by omega))
        obtain ⟨I2, e2, T2, x2⟩ := h1 d (k9_u I 5 0 4 (nI (a + 1))) J 5 (op + 1) (a + 1) ts (k9_Tc_p hT _) (p_lt_n (n := n) (l := l) (by omega)) (by omega) (by omega) (by omega) (by omega)
        have x2' : k9_fx k9_Ftc I I2 := k9_fx_tr (k9_fx_u (k9_fx_rf _ _) rfl) x2
        have go : ∀ {Q : k9_A → Prop}, k9_ok (k9_R S (d + 2 * f + 4 + 1) 39 55 [some (k9_r 5 0), some (k9_i (nI op)), some (k9_i (p_lx (p_lt n l a)))] [k9_i (nI (p_b (p_rd n l f 5 (op + 1) (a + 1)).1))] I2 J) Q → k9_ok (k9_R S (d + 2 * f + 4 + 1) 39 0 [some (k9_r 5 0), some (k9_i (nI op)), none] [] I J) Q := by
          intro Q g
          refine st3 (k9o_eq k9e_39_26 (k9o_T (by omega) (k9o_eq k9e_39_35 (k9o_T (by rw [n_toInt (by omega)]; omega) (k9o_eq k9e_39_40 (k9o_T (by omega) ?_))))))
          rw [h5, nI_1]
          refine k9o_eq k9e_39_49 ?_
          rw [nI_1]
          refine k9o_call e2 ?_
          simp only [k9_ps_s]
          exact g
        have no2 : ∀ I3 : k9_I, k9_ok (k9_R S (d + 2 * f + 4 + 1) 39 62 [some (k9_r 5 0), some (k9_i (nI op)), some (k9_i (p_lx (p_lt n l a)))] [] I3 J) (fun q => q = (some (k9_i (nI 0)), I3, J)) := fun I3 => k9o_eq k9e_39_62 (k9o_eq k9e_39_63 (k9o_T (by decide) (k9o_ret rfl)))
        by_cases r1 : (p_rd n l f 5 (op + 1) (a + 1)).1 = true
        · rw [p_b_T r1] at go
          have e42 := k9s_42 (S := S) (d := d + 2 * f + 3) (J := J) (c := 41) T2 (by omega) (by omega)
          by_cases r2 : p_lt n l (p_rd n l f 5 (op + 1) (a + 1)).2.1 = 41
          · rw [if_pos ⟨r1, r2⟩]
            rw [if_pos r2, if_pos r2] at e42
            refine ⟨_, k9o_of (go (k9o_eq k9e_39_55 (k9o_F (by decide) (k9o_eq k9e_39_56 (k9o_call e42 ?_))))), k9_Tc_p T2 _, k9_fx_u x2' rfl⟩
            simp only [k9_ps_s]
            exact k9o_eq k9e_39_59 (k9o_F (by decide) (k9o_eq k9e_39_60 (k9o_eq k9e_39_63 (k9o_T (by decide) (k9o_ret rfl)))))
          · rw [if_neg (fun z => r2 z.2)]
            rw [if_neg r2, if_neg r2] at e42
            refine ⟨I2, k9o_of (go (k9o_eq k9e_39_55 (k9o_F (by decide) (k9o_eq k9e_39_56 (k9o_call e42 ?_))))), T2, x2'⟩
            simp only [k9_ps_s]
            exact k9o_eq k9e_39_59 (k9o_T (by decide) (no2 I2))
        · rw [if_neg (fun z => r1 z.1)]
          rw [p_b_F r1] at go
          exact ⟨I2, k9o_of (go (k9o_eq k9e_39_55 (k9o_T (by decide) (no2 I2)))), T2, x2'⟩
      · rw [if_neg c3]
        by_cases c4 : op < 6 ∧ (p_lt n l a = 33 ∨ p_lt n l a = 45)
        · rw [if_pos c4]
          obtain ⟨k1, k2, k3, k4⟩ := p_rd_k n l f 0 (op + 1) (a + 1) (p_lt_n (n := n) (l := l) (by omega))
          obtain ⟨I2, e2, T2, x2⟩ := h0 (d + 1) (k9_u I 5 0 4 (nI (a + 1))) J (op + 1) (a + 1) ts (k9_Tc_p hT _) (p_lt_n (n := n) (l := l) (by omega)) (by omega) (by omega) (by omega)
          rw [show d + 1 + 2 * f + 3 = d + 2 * f + 4 by omega] at e2
          have x2' : k9_fx k9_Ftc I I2 := k9_fx_tr (k9_fx_u (k9_fx_rf _ _) rfl) x2
          have go : ∀ {Q : k9_A → Prop}, k9_ok (k9_R S (d + 2 * f + 4 + 1) 39 69 [some (k9_r 5 0), some (k9_i (nI op)), some (k9_i (p_lx (p_lt n l a)))] [k9_i (nI (p_b (p_rd n l f 0 (op + 1) (a + 1)).1))] I2 J) Q → k9_ok (k9_R S (d + 2 * f + 4 + 1) 39 0 [some (k9_r 5 0), some (k9_i (nI op)), none] [] I J) Q := by
            intro Q g
            have t35 : k9_ok (k9_R S (d + 2 * f + 4 + 1) 39 35 [some (k9_r 5 0), some (k9_i (nI op)), some (k9_i (p_lx (p_lt n l a)))] [] I J) Q := by
              refine k9o_eq k9e_39_35 (k9o_T (by rw [n_toInt (by omega)]; omega) (k9o_eq k9e_39_40 (k9o_F (by omega) ?_)))
              rw [h5, nI_1]
              refine k9o_eq k9e_39_64 ?_
              rw [nI_1]
              refine k9o_call e2 ?_
              simp only [k9_ps_s]
              exact g
            refine st3 (k9o_eq k9e_39_26 (k9o_F (by omega) (k9o_eq k9e_39_29 ?_)))
            by_cases c5 : p_lt n l a = 33
            · exact k9o_T (by omega) t35
            · exact k9o_F (by omega) (k9o_eq k9e_39_32 (k9o_T (by omega) t35))
          by_cases r1 : (p_rd n l f 0 (op + 1) (a + 1)).1 = true
          · rw [if_pos r1]
            rw [p_b_T r1] at go
            obtain ⟨I3, e3, T3, x3⟩ := k9s_43 (S := S) (d := d + 2 * f + 4) (J := J) (c := if p_lt n l a = 45 then 10126 else 10033) T2 (by rw [List.length_append]; omega)
            rw [List.append_assoc] at T3
            refine ⟨I3, k9o_of (go (k9o_eq k9e_39_69 (k9o_F (by decide) (k9o_eq k9e_39_72 ?_)))), T3, k9_fx_tr x2' x3⟩
            by_cases c5 : p_lt n l a = 45
            · rw [if_pos c5] at e3
              refine k9o_T (by omega) (k9o_eq k9e_39_76 (k9o_eq k9e_39_79 (k9o_call e3 ?_)))
              simp only [k9_ps_n]
              exact k9o_eq k9e_39_80 (k9o_ret rfl)
            · rw [if_neg c5] at e3
              refine k9o_F (by omega) (k9o_eq k9e_39_78 (k9o_eq k9e_39_79 (k9o_call e3 ?_)))
              simp only [k9_ps_n]
              exact k9o_eq k9e_39_80 (k9o_ret rfl)
          · rw [if_neg r1]
            rw [p_b_F r1] at go
            exact ⟨I2, k9o_of (go (k9o_eq k9e_39_69 (k9o_T (by decide) (k9o_eq k9e_39_70 (k9o_ret rfl))))), T2, x2'⟩
        · rw [if_neg c4]
          refine ⟨I, k9o_of (st3 ?_), by rw [List.append_nil]; exact hT, k9_fx_rf _ _⟩
          have t35 : 6 ≤ op → k9_ok (k9_R S (d + 2 * f + 4 + 1) 39 35 [some (k9_r 5 0), some (k9_i (nI op)), some (k9_i (p_lx (p_lt n l a)))] [] I J) (fun q => q = (some (k9_i (nI 0)), I, J)) := fun h6 => k9o_eq k9e_39_35 (k9o_F (by rw [n_toInt (by omega)]; omega) no)
          refine k9o_eq k9e_39_26 ?_
          by_cases d1 : p_lt n l a = 40
          · exact k9o_T (by omega) (t35 (by omega))
          · refine k9o_F (by omega) (k9o_eq k9e_39_29 ?_)
            by_cases d2 : p_lt n l a = 33
            · exact k9o_T (by omega) (t35 (by omega))
            · refine k9o_F (by omega) (k9o_eq k9e_39_32 ?_)
              by_cases d3 : p_lt n l a = 45
              · exact k9o_T (by omega) (t35 (by omega))
              · exact k9o_F (by omega) no
/-- a level -/
theorem k9s_38 (h1 : k9a_T1 S n l f) (h0 : k9_T0 S n l (f + 1)) : k9a_T1 S n l (f + 1) := by
  intro d I J lv op a ts hT ha hts hlv hop hf
  cases lv with
  | zero =>
    obtain ⟨I2, e2, T2, x2⟩ := h0 d I J op a ts hT ha hts hop (by omega)
    refine ⟨I2, k9o_of (k9o_eq k9e_38_0 (k9o_F (by decide) (k9o_eq k9e_38_3 (k9o_call e2 ?_)))), T2, x2⟩
    simp only [k9_ps_s]
    refine k9o_eq k9e_38_6 (k9o_T ?_ (k9o_ret rfl))
    unfold p_b
    split <;> decide
  | succ lv =>
    rw [show d + 2 * (f + 1) + 4 = d + 2 * f + 5 + 1 by omega, p_rd]
    have hn := hT.1
    obtain ⟨I1, e1, T1, x1⟩ := h1 (d + 1) I J lv op a ts hT ha hts (by omega) hop (by omega)
    rw [show d + 1 + 2 * f + 4 = d + 2 * f + 5 by omega] at e1
    have hk := p_rd_k n l f lv op
    obtain ⟨k1, k2, k3, k4⟩ := hk a ha
    have e5 : nI (5 - (lv + 1)) + 1 = nI (5 - lv) := by rw [nI_1, show 5 - (lv + 1) + 1 = 5 - lv by omega]
    unfold p_lc
    have go : ∀ {Q : k9_A → Prop}, k9_ok (k9_R S (d + 2 * f + 5 + 1) 38 13 [some (k9_r 5 0), some (k9_i (nI (5 - (lv + 1)))), some (k9_i (nI op)), none, none, none] [k9_i (nI (p_b (p_rd n l f lv op a).1))] I1 J) Q → k9_ok (k9_R S (d + 2 * f + 5 + 1) 38 0 [some (k9_r 5 0), some (k9_i (nI (5 - (lv + 1)))), some (k9_i (nI op)), none, none, none] [] I J) Q := by
      intro Q g
      refine k9o_eq k9e_38_0 (k9o_T (by rw [n_toInt (by omega)]; omega) (k9o_eq k9e_38_7 ?_))
      rw [e5]
      refine k9o_call e1 ?_
      simp only [k9_ps_s]
      exact g
    by_cases r1 : (p_rd n l f lv op a).1 = true
    · rw [if_pos r1]
      rw [p_b_T r1] at go
      have key : ∀ k i b (ts' : List Nat) I2, i + k = p_mo (lv + 1) → k9_Tc I2 n l b ts' → b ≤ n → ts'.length ≤ b → ∃ I3, k9_R S (d + 2 * f + 5 + 1) 38 25 [some (k9_r 5 0), some (k9_i (nI (5 - (lv + 1)))), some (k9_i (nI op)), some (k9_i (nI (p_mo (lv + 1)))), some (k9_i (nI i)), none] [] I2 J = some (some (k9_i (nI (p_b (p_lp n l (p_rd n l f lv op) (lv + 1) k b).1))), I3, J) ∧ k9_Tc I3 n l (p_lp n l (p_rd n l f lv op) (lv + 1) k b).2.1 (ts' ++ (p_lp n l (p_rd n l f lv op) (lv + 1) k b).2.2) ∧ k9_fx k9_Ftc I2 I3 := by
        have hmo : p_mo (lv + 1) ≤ 120 := by unfold p_mo; split <;> omega
        intro k
        induction k with
        | zero =>
          intro i b ts' I2 hi T2 hb ht
          obtain rfl : i = p_mo (lv + 1) := by omega
          exact ⟨I2, k9o_of (k9o_eq k9e_38_25 (k9o_T (by omega) (k9o_eq k9e_38_58 (k9o_ret rfl)))), by rw [p_lp, List.append_nil]; exact T2, k9_fx_rf _ _⟩
        | succ k ih =>
          intro i b ts' I2 hi T2 hb ht
          have hl := p_lt_o T2.2.1 b
          have e41 := k9s_41 (S := S) (d := d + 2 * f + 5) (J := J) T2 (by omega)
          have e46 := k9s_46 (S := S) (d := d + 2 * f + 5) (I := I2) (J := J) (lv := lv + 1) (by omega) hlv hl
          have st : ∀ {Q : k9_A → Prop}, k9_ok (k9_R S (d + 2 * f + 5 + 1) 38 32 [some (k9_r 5 0), some (k9_i (nI (5 - (lv + 1)))), some (k9_i (nI op)), some (k9_i (nI (p_mo (lv + 1)))), some (k9_i (nI i)), none] [k9_i (nI (if p_jn (lv + 1) (p_lt n l b) then 1 else 0))] I2 J) Q → k9_ok (k9_R S (d + 2 * f + 5 + 1) 38 25 [some (k9_r 5 0), some (k9_i (nI (5 - (lv + 1)))), some (k9_i (nI op)), some (k9_i (nI (p_mo (lv + 1)))), some (k9_i (nI i)), none] [] I2 J) Q := by
            intro Q g
            refine k9o_eq k9e_38_25 (k9o_F (by rw [n_toInt (by omega), n_toInt (by omega)]; omega) (k9o_eq k9e_38_28 (k9o_call e41 ?_)))
            simp only [k9_ps_s]
            refine k9o_eq k9e_38_31 (k9o_call e46 ?_)
            simp only [k9_ps_s]
            exact g
          rw [p_lp]
          by_cases c : p_jn (lv + 1) (p_lt n l b)
          · rw [if_pos c]
            rw [if_pos c] at st
            have c255 : p_lt n l b ≤ 255 := by simp only [p_jn] at c; omega
            have hbn : b < n := p_lt_n (n := n) (l := l) (by omega)
            obtain ⟨I4, e4, T4, x4⟩ := h1 (d + 1) (k9_u I2 5 0 4 (nI (b + 1))) J lv op (b + 1) ts' (k9_Tc_p T2 _) hbn (by omega) (by omega) hop (by omega)
            rw [show d + 1 + 2 * f + 4 = d + 2 * f + 5 by omega] at e4
            have x4' : k9_fx k9_Ftc I2 I4 := k9_fx_tr (k9_fx_u (k9_fx_rf _ _) rfl) x4
            obtain ⟨j1, j2, j3, j4⟩ := hk (b + 1) hbn
            have go2 : ∀ {Q : k9_A → Prop}, k9_ok (k9_R S (d + 2 * f + 5 + 1) 38 48 [some (k9_r 5 0), some (k9_i (nI (5 - (lv + 1)))), some (k9_i (nI op)), some (k9_i (nI (p_mo (lv + 1)))), some (k9_i (nI i)), some (k9_i (nI (p_lt n l b)))] [k9_i (nI (p_b (p_rd n l f lv op (b + 1)).1))] I4 J) Q → k9_ok (k9_R S (d + 2 * f + 5 + 1) 38 25 [some (k9_r 5 0), some (k9_i (nI (5 - (lv + 1)))), some (k9_i (nI op)), some (k9_i (nI (p_mo (lv + 1)))), some (k9_i (nI i)), none] [] I2 J) Q := by
              intro Q g
              refine st (k9o_eq k9e_38_32 (k9o_F (by decide) (k9o_eq k9e_38_33 (k9o_call e41 ?_))))
              simp only [k9_ps_s]
              refine k9o_eq k9e_38_35 ?_
              rw [e5, T2.2.2.2.2.1, nI_1, p_lx_n c255]
              refine k9o_call e4 ?_
              simp only [k9_ps_s]
              exact g
            by_cases r2 : (p_rd n l f lv op (b + 1)).1 = true
            · rw [if_pos r2]
              rw [p_b_T r2] at go2
              obtain ⟨I5, e6, T5, x5⟩ := k9s_43 (S := S) (d := d + 2 * f + 5) (J := J) (c := 10000 + p_lt n l b) T4 (by rw [List.length_append]; omega)
              obtain ⟨I6, e7, T6, x6⟩ := ih (i + 1) (p_rd n l f lv op (b + 1)).2.1 _ I5 (by omega) T5 j2 (by rw [List.length_append, List.length_append, List.length_singleton]; omega)
              rw [List.append_assoc, List.append_assoc, List.singleton_append] at T6
              refine ⟨I6, k9o_of (go2 (k9o_eq k9e_38_48 (k9o_F (by decide) (k9o_eq k9e_38_51 ?_)))), T6, k9_fx_tr (k9_fx_tr x4' x5) x6⟩
              rw [show (10000 : Int32) + nI (p_lt n l b) = nI (10000 + p_lt n l b) from nI_add 10000 _]
              refine k9o_call e6 ?_
              simp only [k9_ps_n]
              refine k9o_eq k9e_38_56 ?_
              rw [nI_1]
              exact k9o_to e7 rfl
            · rw [if_neg r2]
              rw [p_b_F r2] at go2
              exact ⟨I4, k9o_of (go2 (k9o_eq k9e_38_48 (k9o_T (by decide) (k9o_eq k9e_38_49 (k9o_ret rfl))))), T4, x4'⟩
          · rw [if_neg c]
            rw [if_neg c] at st
            exact ⟨I2, k9o_of (st (k9o_eq k9e_38_32 (k9o_T (by decide) (k9o_eq k9e_38_58 (k9o_ret rfl))))), by rw [List.append_nil]; exact T2, k9_fx_rf _ _⟩
      obtain ⟨I3, e3, T3, x3⟩ := key (p_mo (lv + 1)) 0 (p_rd n l f lv op a).2.1 _ I1 (by omega) T1 k2 (by rw [List.length_append]; omega)
      rw [List.append_assoc] at T3
      refine ⟨I3, k9o_of (go (k9o_eq k9e_38_13 (k9o_F (by decide) (k9o_eq k9e_38_16 ?_)))), T3, k9_fx_tr x1 x3⟩
      by_cases c3 : lv + 1 = 3
      · have em : p_mo (lv + 1) = 1 := if_pos c3
        rw [em] at e3
        refine k9o_T (by rw [n_toInt (by omega)]; omega) (k9o_eq k9e_38_19 (k9o_eq k9e_38_22 (k9o_to e3 ?_)))
        rw [em]
      · have em : p_mo (lv + 1) = 120 := if_neg c3
        rw [em] at e3
        refine k9o_F (by rw [n_toInt (by omega)]; omega) (k9o_eq k9e_38_21 (k9o_eq k9e_38_22 (k9o_to e3 ?_)))
        rw [em]
    · rw [if_neg r1]
      rw [p_b_F r1] at go
      exact ⟨I1, k9o_of (go (k9o_eq k9e_38_13 (k9o_T (by decide) (k9o_eq k9e_38_14 (k9o_ret rfl))))), T1, x1⟩
theorem k9_T_a (S : k9_S) (n : Nat) (l : Nat → Nat) (f : Nat) : k9a_T1 S n l f ∧ k9_T0 S n l f := by
  induction f with
  | zero => exact ⟨fun d I J lv op a ts _ _ _ _ _ h => absurd h (Nat.not_lt_zero _), fun d I J op a ts _ _ _ _ h => absurd h (Nat.not_lt_zero _)⟩
  | succ f ih =>
    have h0 := k9s_39 ih.1 ih.2
    exact ⟨k9s_38 ih.1 h0, h0⟩
end KV3
