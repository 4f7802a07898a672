/-! THE LAW'S TEXT: the reference reads operands -/
section KV5
variable {S : k9_S} {d : Nat} {I I' : k9_I} {J J' : k9_J} {n a c f lv op v : Nat} {l : Nat → Nat} {ts : List Nat}
theorem p_nu_v (n : Nat) (l : Nat → Nat) (k v a : Nat) : (p_nu n l k v a).1 + 1 ≤ (v + 1) * 10 ^ k := by
  induction k generalizing v a with
  | zero => simp [p_nu]
  | succ k ih =>
    rw [p_nu]
    split
    · next c =>
      refine Nat.le_trans (ih (10 * v + p_lt n l a - 48) (a + 1)) ?_
      rw [Nat.pow_succ, Nat.mul_comm (10 ^ k) 10, ← Nat.mul_assoc]
      exact Nat.mul_le_mul_right _ (by omega)
    · show v + 1 ≤ (v + 1) * 10 ^ (k + 1)
      exact Nat.le_mul_of_pos_right _ (Nat.pow_pos (by omega))
theorem p_nu_9 (n : Nat) (l : Nat → Nat) (a : Nat) : (p_nu n l 4 0 a).1 ≤ 9999 := by
  have := p_nu_v n l 4 0 a
  omega
/-- a number is read -/
theorem k9s_174n (h : k9_Tm I n l a op ts) (ha : a ≤ n) (ht : ts.length ≤ 120) : ∃ I', k9_R S (d + 2) 174 7 [some (k9_r 12 0), some (k9_i (nI 0)), some (k9_i (nI 0))] [] I J = some (some (k9_i (nI 1)), I', J) ∧ k9_Tm I' n l (p_nu n l 4 0 a).2 op (ts ++ [(p_nu n l 4 0 a).1]) ∧ k9_fx k9_Ftm I I' := by
  have e9 := p_nu_9 n l a
  have key : ∀ k i v b I1, i + k = 4 → p_nu n l k v b = p_nu n l 4 0 a → k9_Tm I1 n l b op ts → b ≤ n → k9_fx k9_Ftm I I1 → ∃ I', k9_R S (d + 2) 174 7 [some (k9_r 12 0), some (k9_i (nI v)), some (k9_i (nI i))] [] I1 J = some (some (k9_i (nI 1)), I', J) ∧ k9_Tm I' n l (p_nu n l 4 0 a).2 op (ts ++ [(p_nu n l 4 0 a).1]) ∧ k9_fx k9_Ftm I I' := by
    intro k
    have out : ∀ (i v b : Nat) (I1 : k9_I), (v, b) = p_nu n l 4 0 a → k9_Tm I1 n l b op ts → k9_fx k9_Ftm I I1 → ∃ I', (k9_R S (d + 2) 174 33 [some (k9_r 12 0), some (k9_i (nI v)), some (k9_i (nI i))] [] I1 J = some (some (k9_i (nI 1)), I', J)) ∧ k9_Tm I' n l (p_nu n l 4 0 a).2 op (ts ++ [(p_nu n l 4 0 a).1]) ∧ k9_fx k9_Ftm I I' := by
      intro i v b I1 e hT hx
      rw [← e]
      rw [← e] at e9
      have e9' : v ≤ 9999 := e9
      obtain ⟨I2, e2, T2, x2⟩ := k9s_171 (S := S) (d := d + 1) (J := J) (c := v) hT (by omega)
      rw [show p_tkm v = 18 + v from if_pos (by omega)] at e2
      refine ⟨I2, k9o_of (k9o_eq k9e_174_33 ?_), T2, k9_fx_tr hx x2⟩
      rw [show (18 : Int32) + nI v = nI (18 + v) from nI_add 18 v]
      refine k9o_call e2 ?_
      simp only [k9_ps_s]
      exact k9o_eq k9e_174_38 (k9o_T (by decide) (k9o_ret rfl))
    induction k with
    | zero =>
      intro i v b I1 hi e hT hb hx
      obtain ⟨I2, e2, T2, x2⟩ := out i v b I1 e hT hx
      exact ⟨I2, k9o_of (k9o_eq k9e_174_7 (k9o_T (by rw [n_toInt (by omega)]; omega) (k9o_to e2 rfl))), T2, x2⟩
    | succ k ih =>
      intro i v b I1 hi e hT hb hx
      have hn := hT.1
      have e172 := k9s_172 (S := S) (d := d) (J := J) hT (by omega)
      have st : ∀ {Q : k9_A → Prop}, k9_ok (k9_R S (d + 2) 174 12 [some (k9_r 12 0), some (k9_i (nI v)), some (k9_i (nI i))] [k9_i (nI (if 48 ≤ p_lt n l b ∧ p_lt n l b ≤ 57 then 1 else 0))] I1 J) Q → k9_ok (k9_R S (d + 2) 174 7 [some (k9_r 12 0), some (k9_i (nI v)), some (k9_i (nI i))] [] I1 J) Q := by
        intro Q g
        refine k9o_eq k9e_174_7 (k9o_F (by rw [n_toInt (by omega)]; omega) (k9o_eq k9e_174_10 (k9o_call e172 ?_)))
        simp only [k9_ps_s]
        exact g
      rw [p_nu] at e
      by_cases c : 48 ≤ p_lt n l b ∧ p_lt n l b ≤ 57
      · rw [if_pos c] at e st
        have hbn := p_lt_n (n := n) (l := l) (a := b) (by omega)
        have el : p_lt n l b = l b := if_pos hbn
        obtain ⟨I2, e2, T2, x2⟩ := ih (i + 1) (10 * v + p_lt n l b - 48) (b + 1) (k9_u I1 12 0 14 (nI (b + 1))) (by omega) e (k9_Tm_p hT _) hbn (k9_fx_u hx rfl)
        refine ⟨I2, k9o_of (st (k9o_eq k9e_174_12 (k9o_F (by decide) (k9o_eq k9e_174_13 (k9o_T (by rw [hT.2.2.2.2.1, n_toInt (by omega)]; omega) ?_))))), T2, x2⟩
        rw [hT.2.2.2.2.1, n_cl (by omega), hT.2.2.2.1 b hbn, ← el]
        refine k9o_eq k9e_174_21 ?_
        rw [hT.2.2.2.2.1, nI_1, nI_1, show (10 : Int32) * nI v = nI (10 * v) from n_mul 10 v, nI_add, show (48 : Int32) = nI 48 from rfl, n_sub (by omega)]
        exact k9o_to e2 rfl
      · rw [if_neg c] at e st
        obtain ⟨I2, e2, T2, x2⟩ := out i v b I1 e hT hx
        exact ⟨I2, k9o_of (st (k9o_eq k9e_174_12 (k9o_T (by decide) (k9o_to e2 rfl)))), T2, x2⟩
  exact key 4 0 0 a I (by omega) rfl h ha (k9_fx_rf _ _)
theorem k9s_174 (h1 : k9_M1 S n l f) (hT : k9_Tm I n l a op ts) (ha : a ≤ n) (hts : ts.length ≤ a) (hop : op ≤ 6) (hf : (6 - op) * 6 < f + 1) : ∃ I', k9_R S (d + f + 4) 174 0 [some (k9_r 12 0), none, none] [] I J = some (some (k9_i (nI (p_b (p_rd n l (f + 1) 0 op a).1))), I', J) ∧ k9_Tm I' n l (p_rd n l (f + 1) 0 op a).2.1 op (ts ++ (p_rd n l (f + 1) 0 op a).2.2) ∧ k9_fx k9_Ftm I I' := by
  have hn := hT.1
  have hl := p_lt_o hT.2.1 a
  have h15 := hT.2.2.2.2.2.2.2
  have h14 := hT.2.2.2.2.1
  have e172 := k9s_172 (S := S) (d := d + f + 2) (J := J) hT (by omega)
  have e169 := k9s_169 (S := S) (d := d + f + 3) (J := J) hT (by omega)
  have e173 := k9s_173 (S := S) (d := d + f + 3) (I := I) (J := J) hl
  rw [p_rd]
  unfold p_od
  by_cases c1 : 48 ≤ p_lt n l a ∧ p_lt n l a ≤ 57
  · rw [if_pos c1]
    rw [if_pos c1] at e172
    obtain ⟨I2, e2, T2, x2⟩ := k9s_174n (S := S) (d := d + f + 2) (J := J) hT ha (by omega)
    refine ⟨I2, k9o_of (k9o_eq k9e_174_0 (k9o_call e172 ?_)), T2, x2⟩
    simp only [k9_ps_s]
    exact k9o_eq k9e_174_2 (k9o_F (by decide) (k9o_eq k9e_174_3 (k9o_to e2 rfl)))
  · rw [if_neg c1]
    rw [if_neg c1] at e172
    have st : ∀ {Q : k9_A → Prop}, k9_ok (k9_R S (d + f + 4) 174 42 [some (k9_r 12 0), none, none] [k9_i (if p_na (p_lt n l a) then nI (p_tkm (10000 + p_lt n l a)) else -1)] I J) Q → k9_ok (k9_R S (d + f + 4) 174 0 [some (k9_r 12 0), none, none] [] I J) Q := by
      intro Q g
      refine k9o_eq k9e_174_0 (k9o_call e172 ?_)
      simp only [k9_ps_s]
      refine k9o_eq k9e_174_2 (k9o_T (by decide) (k9o_eq k9e_174_39 (k9o_call e169 ?_)))
      simp only [k9_ps_s]
      refine k9o_eq k9e_174_41 (k9o_call e173 ?_)
      simp only [k9_ps_s]
      exact g
    by_cases c2 : p_na (p_lt n l a)
    · rw [if_pos c2]
      rw [if_pos c2] at st
      have ht : p_tkm (10000 + p_lt n l a) ≤ 17 := by
        rcases c2 with e | e | e | e | e | e <;> rw [e] <;> decide
      obtain ⟨I2, e2, T2, x2⟩ := k9s_171 (S := S) (d := d + f + 3) (J := J) (c := 10000 + p_lt n l a) (k9_Tm_p hT (a + 1)) (by omega)
      refine ⟨I2, k9o_of (st (k9o_eq k9e_174_42 (k9o_F (by rw [n_toInt (by omega)]; omega) (k9o_eq k9e_174_45 ?_)))), T2, k9_fx_tr (k9_fx_u (k9_fx_rf _ _) rfl) x2⟩
      rw [h14, nI_1]
      refine k9o_call e2 ?_
      simp only [k9_ps_s]
      exact k9o_eq k9e_174_54 (k9o_T (by decide) (k9o_ret rfl))
    · rw [if_neg c2]
      rw [if_neg c2] at st
      have st2 : ∀ {Q : k9_A → Prop}, k9_ok (k9_R S (d + f + 4) 174 55 [some (k9_r 12 0), some (k9_i (-1)), none] [] I J) Q → k9_ok (k9_R S (d + f + 4) 174 0 [some (k9_r 12 0), none, none] [] I J) Q := fun g => st (k9o_eq k9e_174_42 (k9o_T (by decide) g))
      by_cases c6 : op = 6
      · rw [if_neg (show ¬ (op < 6 ∧ p_lt n l a = 40) by omega), if_neg (show ¬ (op < 6 ∧ (p_lt n l a = 33 ∨ p_lt n l a = 45)) by omega)]
        exact ⟨I, k9o_of (st2 (k9o_eq k9e_174_55 (k9o_T (by rw [h15, c6]; decide) (k9o_eq k9e_174_59 (k9o_ret rfl))))), by rw [List.append_nil]; exact hT, k9_fx_rf _ _⟩
      · obtain ⟨Io, hIo⟩ : ∃ Io, Io = k9_u I 12 0 15 (nI (op + 1)) := ⟨_, rfl⟩
        have To : k9_Tm Io n l a (op + 1) ts := by rw [hIo]; exact k9_Tm_o hT (op + 1)
        have xo : k9_fx k9_Ftm I Io := by rw [hIo]; exact k9_fx_u (k9_fx_rf _ _) rfl
        have out : ∀ (x : Nat) (I3 : k9_I) (b : Nat) (ts' : List Nat), x ≤ 1 → k9_Tm I3 n l b (op + 1) ts' → k9_ok (k9_R S (d + f + 4) 174 114 [some (k9_r 12 0), some (k9_i (-1)), some (k9_i (nI x))] [] I3 J) (fun q => q = (some (k9_i (nI x)), k9_u I3 12 0 15 (nI op), J)) := by
          intro x I3 b ts' hx T3
          refine k9o_eq k9e_174_114 (k9o_T (by rw [n_toInt (by omega)]; omega) (k9o_ret ?_))
          rw [T3.2.2.2.2.2.2.2, n_s1 (by omega), Nat.add_sub_cancel]
        have e170 : ∀ z, z ≤ 255 → k9_R S (d + f + 3) 170 0 [some (k9_r 12 0), some (k9_i (nI z))] [] Io J = some (some (k9_i (nI (if p_lt n l a = z then 1 else 0))), (if p_lt n l a = z then k9_u Io 12 0 14 (nI (a + 1)) else Io), J) := fun z hz => k9s_170 (S := S) (d := d + f + 2) (J := J) To (by omega) hz
        have st3 : ∀ {Q : k9_A → Prop}, k9_ok (k9_R S (d + f + 4) 174 70 [some (k9_r 12 0), some (k9_i (-1)), none] [k9_i (nI (if p_lt n l a = 33 then 1 else 0))] (if p_lt n l a = 33 then k9_u Io 12 0 14 (nI (a + 1)) else Io) J) Q → k9_ok (k9_R S (d + f + 4) 174 0 [some (k9_r 12 0), none, none] [] I J) Q := by
          intro Q g
          refine st2 (k9o_eq k9e_174_55 (k9o_F (by rw [h15, n_toInt (by omega)]; omega) (k9o_eq k9e_174_61 ?_)))
          rw [h15, nI_1, ← hIo]
          refine k9o_call (e170 33 (by omega)) ?_
          simp only [k9_ps_s]
          exact g
        have sub0 : a < n → ∃ I', k9_R S (d + f + 3) 174 0 [some (k9_r 12 0), none, none] [] (k9_u Io 12 0 14 (nI (a + 1))) J = some (some (k9_i (nI (p_b (p_rd n l f 0 (op + 1) (a + 1)).1))), I', J) ∧ k9_Tm I' n l (p_rd n l f 0 (op + 1) (a + 1)).2.1 (op + 1) (ts ++ (p_rd n l f 0 (op + 1) (a + 1)).2.2) ∧ k9_fx k9_Ftm (k9_u Io 12 0 14 (nI (a + 1))) I' := fun han => h1 d _ J 0 (op + 1) (a + 1) ts (k9_Tm_p To _) han (by omega) (by omega) (by omega) (by omega)
        have sub5 : a < n → ∃ I', k9_R S (d + f + 3) 179 0 [some (k9_r 12 0)] [] (k9_u Io 12 0 14 (nI (a + 1))) J = some (some (k9_i (nI (p_b (p_rd n l f 5 (op + 1) (a + 1)).1))), I', J) ∧ k9_Tm I' n l (p_rd n l f 5 (op + 1) (a + 1)).2.1 (op + 1) (ts ++ (p_rd n l f 5 (op + 1) (a + 1)).2.2) ∧ k9_fx k9_Ftm (k9_u Io 12 0 14 (nI (a + 1))) I' := fun han => h1 d _ J 5 (op + 1) (a + 1) ts (k9_Tm_p To _) han (by omega) (by omega) (by omega) (by omega)
        by_cases c3 : p_lt n l a = 40
        · rw [if_pos (show op < 6 ∧ p_lt n l a = 40 by omega)]
          have han := p_lt_n (n := n) (l := l) (a := a) (by omega)
          obtain ⟨I2, e2, T2, x2⟩ := sub5 han
          obtain ⟨k1, k2, k3, k4⟩ := p_rd_k n l f 5 (op + 1) (a + 1) han
          have x2' : k9_fx k9_Ftm I I2 := k9_fx_tr (k9_fx_u xo rfl) x2
          rw [if_neg (show ¬ p_lt n l a = 33 by omega), if_neg (show ¬ p_lt n l a = 33 by omega)] at st3
          have e45 := e170 45 (by omega)
          rw [if_neg (show ¬ p_lt n l a = 45 by omega), if_neg (show ¬ p_lt n l a = 45 by omega)] at e45
          have e40 := e170 40 (by omega)
          rw [if_pos c3, if_pos c3] at e40
          have go : ∀ {Q : k9_A → Prop}, k9_ok (k9_R S (d + f + 4) 174 105 [some (k9_r 12 0), some (k9_i (-1)), none] [k9_i (nI (p_b (p_rd n l f 5 (op + 1) (a + 1)).1))] I2 J) Q → k9_ok (k9_R S (d + f + 4) 174 0 [some (k9_r 12 0), none, none] [] I J) Q := by
            intro Q g
            refine st3 (k9o_eq k9e_174_70 (k9o_T (by decide) (k9o_eq k9e_174_83 (k9o_call e45 ?_))))
            simp only [k9_ps_s]
            refine k9o_eq k9e_174_86 (k9o_T (by decide) (k9o_eq k9e_174_99 (k9o_call e40 ?_)))
            simp only [k9_ps_s]
            refine k9o_eq k9e_174_102 (k9o_F (by decide) (k9o_eq k9e_174_103 (k9o_call e2 ?_)))
            simp only [k9_ps_s]
            exact g
          by_cases r1 : (p_rd n l f 5 (op + 1) (a + 1)).1 = true
          · rw [p_b_T r1] at go
            have e41 := k9s_170 (S := S) (d := d + f + 2) (J := J) (c := 41) T2 (by omega) (by omega)
            by_cases r2 : p_lt n l (p_rd n l f 5 (op + 1) (a + 1)).2.1 = 41
            · rw [if_pos ⟨r1, r2⟩]
              rw [if_pos r2, if_pos r2] at e41
              refine ⟨_, k9o_of (go (k9o_eq k9e_174_105 (k9o_F (by decide) (k9o_eq k9e_174_106 (k9o_call e41 ?_))))), k9_Tm_o (k9_Tm_p T2 _) op, k9_fx_u (k9_fx_u x2' rfl) rfl⟩
              simp only [k9_ps_s]
              exact k9o_eq k9e_174_109 (k9o_F (by decide) (k9o_eq k9e_174_110 (k9o_eq k9e_174_113 (out 1 _ _ _ (by omega) (k9_Tm_p T2 _)))))
            · rw [if_neg (fun z => r2 z.2)]
              rw [if_neg r2, if_neg r2] at e41
              refine ⟨_, k9o_of (go (k9o_eq k9e_174_105 (k9o_F (by decide) (k9o_eq k9e_174_106 (k9o_call e41 ?_))))), k9_Tm_o T2 op, k9_fx_u x2' rfl⟩
              simp only [k9_ps_s]
              exact k9o_eq k9e_174_109 (k9o_T (by decide) (k9o_eq k9e_174_112 (k9o_eq k9e_174_113 (out 0 _ _ _ (by omega) T2))))
          · rw [if_neg (fun z => r1 z.1)]
            rw [p_b_F r1] at go
            exact ⟨_, k9o_of (go (k9o_eq k9e_174_105 (k9o_T (by decide) (k9o_eq k9e_174_112 (k9o_eq k9e_174_113 (out 0 _ _ _ (by omega) T2)))))), k9_Tm_o T2 op, k9_fx_u x2' rfl⟩
        · rw [if_neg (show ¬ (op < 6 ∧ p_lt n l a = 40) by omega)]
          by_cases c4 : p_lt n l a = 33
          · rw [if_pos (show op < 6 ∧ (p_lt n l a = 33 ∨ p_lt n l a = 45) by omega)]
            have han := p_lt_n (n := n) (l := l) (a := a) (by omega)
            obtain ⟨I2, e2, T2, x2⟩ := sub0 han
            obtain ⟨k1, k2, k3, k4⟩ := p_rd_k n l f 0 (op + 1) (a + 1) han
            have x2' : k9_fx k9_Ftm I I2 := k9_fx_tr (k9_fx_u xo rfl) x2
            rw [if_pos c4, if_pos c4] at st3
            have go : ∀ {Q : k9_A → Prop}, k9_ok (k9_R S (d + f + 4) 174 73 [some (k9_r 12 0), some (k9_i (-1)), none] [k9_i (nI (p_b (p_rd n l f 0 (op + 1) (a + 1)).1))] I2 J) Q → k9_ok (k9_R S (d + f + 4) 174 0 [some (k9_r 12 0), none, none] [] I J) Q := by
              intro Q g
              refine st3 (k9o_eq k9e_174_70 (k9o_F (by decide) (k9o_eq k9e_174_71 (k9o_call e2 ?_))))
              simp only [k9_ps_s]
              exact g
            by_cases r1 : (p_rd n l f 0 (op + 1) (a + 1)).1 = true
            · rw [if_pos r1, if_neg (show ¬ p_lt n l a = 45 by omega)]
              rw [p_b_T r1] at go
              obtain ⟨I3, e3, T3, x3⟩ := k9s_171 (S := S) (d := d + f + 3) (J := J) (c := 10033) T2 (by rw [List.length_append]; omega)
              rw [List.append_assoc] at T3
              have e3' : k9_R S (d + f + 3) 171 0 [some (k9_r 12 0), some (k9_i 16)] [] I2 J = some (some (k9_i (nI 1)), I3, J) := e3
              refine ⟨_, k9o_of (go (k9o_eq k9e_174_73 (k9o_F (by decide) (k9o_eq k9e_174_74 (k9o_call e3' ?_))))), k9_Tm_o T3 op, k9_fx_u (k9_fx_tr x2' x3) rfl⟩
              simp only [k9_ps_s]
              exact k9o_eq k9e_174_77 (k9o_F (by decide) (k9o_eq k9e_174_78 (k9o_eq k9e_174_81 (out 1 _ _ _ (by omega) T3))))
            · rw [if_neg r1]
              rw [p_b_F r1] at go
              exact ⟨_, k9o_of (go (k9o_eq k9e_174_73 (k9o_T (by decide) (k9o_eq k9e_174_80 (k9o_eq k9e_174_81 (out 0 _ _ _ (by omega) T2)))))), k9_Tm_o T2 op, k9_fx_u x2' rfl⟩
          · rw [if_neg c4, if_neg c4] at st3
            have e45 := e170 45 (by omega)
            by_cases c5 : p_lt n l a = 45
            · rw [if_pos (show op < 6 ∧ (p_lt n l a = 33 ∨ p_lt n l a = 45) by omega)]
              rw [if_pos c5, if_pos c5] at e45
              have han := p_lt_n (n := n) (l := l) (a := a) (by omega)
              obtain ⟨I2, e2, T2, x2⟩ := sub0 han
              obtain ⟨k1, k2, k3, k4⟩ := p_rd_k n l f 0 (op + 1) (a + 1) han
              have x2' : k9_fx k9_Ftm I I2 := k9_fx_tr (k9_fx_u xo rfl) x2
              have go : ∀ {Q : k9_A → Prop}, k9_ok (k9_R S (d + f + 4) 174 89 [some (k9_r 12 0), some (k9_i (-1)), none] [k9_i (nI (p_b (p_rd n l f 0 (op + 1) (a + 1)).1))] I2 J) Q → k9_ok (k9_R S (d + f + 4) 174 0 [some (k9_r 12 0), none, none] [] I J) Q := by
                intro Q g
                refine st3 (k9o_eq k9e_174_70 (k9o_T (by decide) (k9o_eq k9e_174_83 (k9o_call e45 ?_))))
                simp only [k9_ps_s]
                refine k9o_eq k9e_174_86 (k9o_F (by decide) (k9o_eq k9e_174_87 (k9o_call e2 ?_)))
                simp only [k9_ps_s]
                exact g
              by_cases r1 : (p_rd n l f 0 (op + 1) (a + 1)).1 = true
              · rw [if_pos r1, if_pos c5]
                rw [p_b_T r1] at go
                obtain ⟨I3, e3, T3, x3⟩ := k9s_171 (S := S) (d := d + f + 3) (J := J) (c := 10126) T2 (by rw [List.length_append]; omega)
                rw [List.append_assoc] at T3
                have e3' : k9_R S (d + f + 3) 171 0 [some (k9_r 12 0), some (k9_i 17)] [] I2 J = some (some (k9_i (nI 1)), I3, J) := e3
                refine ⟨_, k9o_of (go (k9o_eq k9e_174_89 (k9o_F (by decide) (k9o_eq k9e_174_90 (k9o_call e3' ?_))))), k9_Tm_o T3 op, k9_fx_u (k9_fx_tr x2' x3) rfl⟩
                simp only [k9_ps_s]
                exact k9o_eq k9e_174_93 (k9o_F (by decide) (k9o_eq k9e_174_94 (k9o_eq k9e_174_97 (out 1 _ _ _ (by omega) T3))))
              · rw [if_neg r1]
                rw [p_b_F r1] at go
                exact ⟨_, k9o_of (go (k9o_eq k9e_174_89 (k9o_T (by decide) (k9o_eq k9e_174_96 (k9o_eq k9e_174_97 (out 0 _ _ _ (by omega) T2)))))), k9_Tm_o T2 op, k9_fx_u x2' rfl⟩
            · rw [if_neg (show ¬ (op < 6 ∧ (p_lt n l a = 33 ∨ p_lt n l a = 45)) by omega)]
              rw [if_neg c5, if_neg c5] at e45
              have e40 := e170 40 (by omega)
              rw [if_neg c3, if_neg c3] at e40
              refine ⟨_, k9o_of (st3 (k9o_eq k9e_174_70 (k9o_T (by decide) (k9o_eq k9e_174_83 (k9o_call e45 ?_))))), by rw [List.append_nil]; exact k9_Tm_o To op, k9_fx_u xo rfl⟩
              simp only [k9_ps_s]
              refine k9o_eq k9e_174_86 (k9o_T (by decide) (k9o_eq k9e_174_99 (k9o_call e40 ?_)))
              simp only [k9_ps_s]
              exact k9o_eq k9e_174_102 (k9o_T (by decide) (k9o_eq k9e_174_112 (k9o_eq k9e_174_113 (out 0 _ _ _ (by omega) To))))
theorem k9_M1_a (S : k9_S) (n : Nat) (l : Nat → Nat) (f : Nat) : k9_M1 S n l f := by
  induction f with
  | zero => exact fun d I J lv op a ts _ _ _ _ _ h => absurd h (Nat.not_lt_zero _)
  | succ f ih =>
    intro d I J lv op a ts hT ha hts hlv hop hf
    obtain rfl | rfl | rfl | rfl | rfl | rfl : lv = 0 ∨ lv = 1 ∨ lv = 2 ∨ lv = 3 ∨ lv = 4 ∨ lv = 5 := by omega
    · exact k9s_174 ih hT ha hts hop hf
    · rw [p_rd]
      exact k9s_175 ih hT ha hts hop (by omega)
    · rw [p_rd]
      exact k9s_176 ih hT ha hts hop (by omega)
    · rw [p_rd]
      exact k9s_177 ih hT ha hts hop (by omega)
    · rw [p_rd]
      exact k9s_178 ih hT ha hts hop (by omega)
    · rw [p_rd]
      exact k9s_179 ih hT ha hts hop (by omega)
end KV5
