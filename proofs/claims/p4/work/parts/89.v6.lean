/-! THE LAW'S TEXT: lines, the class -/
section KV6
variable {S : k9_S} {d : Nat} {I I' : k9_I} {J J' : k9_J} {n a c f lv op v : Nat} {l : Nat → Nat} {ts : List Nat}
theorem p_rd_ne (n : Nat) (l : Nat → Nat) (f : Nat) : ∀ lv op a, (p_rd n l f lv op a).1 = true → (p_rd n l f lv op a).2.2 ≠ [] := by
  induction f with
  | zero =>
    intro lv op a h
    rw [p_rd] at h
    cases h
  | succ f ih =>
    intro lv op a
    cases lv with
    | zero =>
      rw [p_rd]
      unfold p_od
      by_cases c1 : 48 ≤ p_lt n l a ∧ p_lt n l a ≤ 57
      · rw [if_pos c1]
        intro _ z
        cases z
      · rw [if_neg c1]
        by_cases c2 : p_na (p_lt n l a)
        · rw [if_pos c2]
          intro _ z
          cases z
        · rw [if_neg c2]
          by_cases c3 : op < 6 ∧ p_lt n l a = 40
          · rw [if_pos c3]
            by_cases e : (p_rd n l f 5 (op + 1) (a + 1)).1 = true ∧ p_lt n l (p_rd n l f 5 (op + 1) (a + 1)).2.1 = 41
            · rw [if_pos e]
              exact fun _ => ih 5 (op + 1) (a + 1) e.1
            · rw [if_neg e]
              intro z
              cases z
          · rw [if_neg c3]
            by_cases c4 : op < 6 ∧ (p_lt n l a = 33 ∨ p_lt n l a = 45)
            · rw [if_pos c4]
              by_cases e : (p_rd n l f 0 (op + 1) (a + 1)).1 = true
              · rw [if_pos e]
                intro _ z
                exact absurd (List.append_eq_nil_iff.mp z).2 (by intro y; cases y)
              · rw [if_neg e]
                intro z
                cases z
            · rw [if_neg c4]
              intro z
              cases z
    | succ lv =>
      rw [p_rd]
      unfold p_lc
      by_cases e : (p_rd n l f lv op a).1 = true
      · rw [if_pos e]
        intro _ z
        exact ih lv op a e (List.append_eq_nil_iff.mp z).1
      · rw [if_neg e]
        intro z
        cases z
abbrev k9_ln : Type := List Nat × List Nat
def p_e0 (n : Nat) (l : Nat → Nat) (a : Nat) : k9_pr := p_rd n l 42 5 0 a
def p_lin (n : Nat) (l : Nat → Nat) (a : Nat) : Bool × Nat × k9_ln :=
  if (p_e0 n l a).1 = true then
    (if p_lt n l (p_e0 n l a).2.1 = 63 then ((p_e0 n l ((p_e0 n l a).2.1 + 1)).1, (p_e0 n l ((p_e0 n l a).2.1 + 1)).2.1, ((p_e0 n l a).2.2, (p_e0 n l ((p_e0 n l a).2.1 + 1)).2.2)) else (true, (p_e0 n l a).2.1, ([], (p_e0 n l a).2.2)))
  else (false, (p_e0 n l a).2.1, ([], []))
def p_tl (n : Nat) (l : Nat → Nat) : Nat → Nat → Bool × Nat × List k9_ln
  | 0, a => (true, a, [])
  | k + 1, a => if a < n then (if p_lt n l a = 59 then (if (p_lin n l (a + 1)).1 = true then ((p_tl n l k (p_lin n l (a + 1)).2.1).1, (p_tl n l k (p_lin n l (a + 1)).2.1).2.1, (p_lin n l (a + 1)).2.2 :: (p_tl n l k (p_lin n l (a + 1)).2.1).2.2) else (false, (p_lin n l (a + 1)).2.1, [])) else (false, a, [])) else (true, a, [])
def p_tx (n : Nat) (l : Nat → Nat) : Bool × Nat × List k9_ln :=
  if (p_lin n l 0).1 = true then ((p_tl n l 119 (p_lin n l 0).2.1).1, (p_tl n l 119 (p_lin n l 0).2.1).2.1, (p_lin n l 0).2.2 :: (p_tl n l 119 (p_lin n l 0).2.1).2.2) else (false, (p_lin n l 0).2.1, [])
/-- a line as the class keeps it -/
def p_ctk (x : k9_ln) : List Nat := if x.1 = [] then x.2 ++ [10059] else x.1 ++ 10063 :: (x.2 ++ [10059])
theorem p_ctk_c {q b : List Nat} (h : q ≠ []) : p_ctk (q, b) = q ++ 10063 :: (b ++ [10059]) := if_neg h
theorem p_e0_ne {n : Nat} {l : Nat → Nat} {a : Nat} (h : (p_e0 n l a).1 = true) : (p_e0 n l a).2.2 ≠ [] := p_rd_ne n l 42 5 0 a h
theorem p_e0_k (n : Nat) (l : Nat → Nat) (a : Nat) (h : a ≤ n) : p_kr n a (p_e0 n l a) := p_rd_k n l 42 5 0 a h
theorem p_lin_k (n : Nat) (l : Nat → Nat) (a : Nat) (h : a ≤ n) : a ≤ (p_lin n l a).2.1 ∧ (p_lin n l a).2.1 ≤ n ∧ ((p_lin n l a).1 = true → a < (p_lin n l a).2.1 ∧ (p_lin n l a).2.2.1.length + (p_lin n l a).2.2.2.length + a ≤ (p_lin n l a).2.1 ∧ (p_ctk (p_lin n l a).2.2).length + a ≤ (p_lin n l a).2.1 + 1) := by
  unfold p_lin
  obtain ⟨h1, h2, h3, h4⟩ := p_e0_k n l a h
  by_cases e : (p_e0 n l a).1 = true
  · have h5 := h4 e
    rw [if_pos e]
    by_cases e2 : p_lt n l (p_e0 n l a).2.1 = 63
    · rw [if_pos e2]
      have hn := p_lt_n (n := n) (l := l) (a := (p_e0 n l a).2.1) (by omega)
      obtain ⟨g1, g2, g3, g4⟩ := p_e0_k n l ((p_e0 n l a).2.1 + 1) hn
      refine ⟨by show a ≤ (p_e0 n l ((p_e0 n l a).2.1 + 1)).2.1; omega, g2, fun z => ⟨by show a < (p_e0 n l ((p_e0 n l a).2.1 + 1)).2.1; omega, ?_, ?_⟩⟩
      · show (p_e0 n l a).2.2.length + (p_e0 n l ((p_e0 n l a).2.1 + 1)).2.2.length + a ≤ (p_e0 n l ((p_e0 n l a).2.1 + 1)).2.1
        omega
      · show (p_ctk ((p_e0 n l a).2.2, (p_e0 n l ((p_e0 n l a).2.1 + 1)).2.2)).length + a ≤ (p_e0 n l ((p_e0 n l a).2.1 + 1)).2.1 + 1
        rw [p_ctk_c (p_e0_ne e)]
        show ((p_e0 n l a).2.2 ++ 10063 :: ((p_e0 n l ((p_e0 n l a).2.1 + 1)).2.2 ++ [10059])).length + a ≤ (p_e0 n l ((p_e0 n l a).2.1 + 1)).2.1 + 1
        rw [List.length_append, List.length_cons, List.length_append, List.length_singleton]
        omega
    · rw [if_neg e2]
      refine ⟨h1, h2, fun z => ⟨h5, ?_, ?_⟩⟩
      · show 0 + (p_e0 n l a).2.2.length + a ≤ (p_e0 n l a).2.1
        omega
      · show ((p_e0 n l a).2.2 ++ [10059]).length + a ≤ (p_e0 n l a).2.1 + 1
        rw [List.length_append, List.length_singleton]
        omega
  · rw [if_neg e]
    exact ⟨h1, h2, fun z => by cases z⟩
theorem k9s_38e (hT : k9_Tc I n l a ts) (ha : a ≤ n) (ht : ts.length ≤ a) : ∃ I', k9_R S (d + 88) 38 0 [some (k9_r 5 0), some (k9_i 0), some (k9_i 0), none, none, none] [] I J = some (some (k9_i (nI (p_b (p_e0 n l a).1))), I', J) ∧ k9_Tc I' n l (p_e0 n l a).2.1 (ts ++ (p_e0 n l a).2.2) ∧ k9_fx k9_Ftc I I' := (k9_T_a S n l 42).1 d I J 5 0 a ts hT ha ht (by omega) (by omega) (by omega)
/-- a line, the class -/
theorem k9s_37 (hT : k9_Tc I n l a ts) (ha : a ≤ n) (ht : ts.length ≤ a) : ∃ I' ts', k9_R S (d + 89) 37 0 [some (k9_r 5 0)] [] I J = some (some (k9_i (nI (p_b (p_lin n l a).1))), I', J) ∧ k9_Tc I' n l (p_lin n l a).2.1 ts' ∧ k9_fx k9_Ftc I I' ∧ ((p_lin n l a).1 = true → ts' = ts ++ p_ctk (p_lin n l a).2.2) := by
  obtain ⟨I1, e1, T1, x1⟩ := k9s_38e (S := S) (d := d) (J := J) hT ha ht
  have hn := hT.1
  obtain ⟨h1, h2, h3, h4⟩ := p_e0_k n l a ha
  unfold p_lin
  have go : ∀ {Q : k9_A → Prop}, k9_ok (k9_R S (d + 89) 37 4 [some (k9_r 5 0)] [k9_i (nI (p_b (p_e0 n l a).1))] I1 J) Q → k9_ok (k9_R S (d + 89) 37 0 [some (k9_r 5 0)] [] I J) Q := by
    intro Q g
    refine k9o_eq k9e_37_0 (k9o_call e1 ?_)
    simp only [k9_ps_s]
    exact g
  by_cases r1 : (p_e0 n l a).1 = true
  · rw [if_pos r1]
    rw [p_b_T r1] at go
    have h5 := h4 r1
    have e42 := k9s_42 (S := S) (d := d + 87) (J := J) (c := 63) T1 (by omega) (by omega)
    have lineend : ∀ (b : Nat) (ts2 : List Nat) (I2 : k9_I) (Q : k9_A → Prop), k9_Tc I2 n l b ts2 → ts2.length ≤ 120 → (∀ I3, k9_Tc I3 n l b (ts2 ++ [10059]) → k9_fx k9_Ftc I2 I3 → Q (some (k9_i (nI 1)), I3, J)) → k9_ok (k9_R S (d + 89) 37 21 [some (k9_r 5 0)] [] I2 J) Q := by
      intro b ts2 I2 Q T2 hl g
      obtain ⟨I3, e3, T3, x3⟩ := k9s_43 (S := S) (d := d + 88) (J := J) (c := 10059) T2 hl
      have e3' : k9_R S (d + 88) 43 0 [some (k9_r 5 0), some (k9_i 10059)] [] I2 J = some (none, I3, J) := e3
      refine k9o_eq k9e_37_21 (k9o_call e3' ?_)
      simp only [k9_ps_n]
      exact k9o_eq k9e_37_24 (k9o_ret (g I3 T3 x3))
    by_cases r2 : p_lt n l (p_e0 n l a).2.1 = 63
    · rw [if_pos r2]
      rw [if_pos r2, if_pos r2] at e42
      have hlt := p_lt_n (n := n) (l := l) (a := (p_e0 n l a).2.1) (by omega)
      obtain ⟨I3, e3, T3, x3⟩ := k9s_43 (S := S) (d := d + 88) (J := J) (c := 10063) (k9_Tc_p T1 ((p_e0 n l a).2.1 + 1)) (by rw [List.length_append]; omega)
      have e3' : k9_R S (d + 88) 43 0 [some (k9_r 5 0), some (k9_i 10063)] [] (k9_u I1 5 0 4 (nI ((p_e0 n l a).2.1 + 1))) J = some (none, I3, J) := e3
      have x3' : k9_fx k9_Ftc I I3 := k9_fx_tr (k9_fx_u x1 rfl) x3
      obtain ⟨I4, e4, T4, x4⟩ := k9s_38e (S := S) (d := d) (J := J) T3 hlt (by rw [List.length_append, List.length_append, List.length_singleton]; omega)
      obtain ⟨g1, g2, g3, g4⟩ := p_e0_k n l ((p_e0 n l a).2.1 + 1) hlt
      have go2 : ∀ {Q : k9_A → Prop}, k9_ok (k9_R S (d + 89) 37 18 [some (k9_r 5 0)] [k9_i (nI (p_b (p_e0 n l ((p_e0 n l a).2.1 + 1)).1))] I4 J) Q → k9_ok (k9_R S (d + 89) 37 0 [some (k9_r 5 0)] [] I J) Q := by
        intro Q g
        refine go (k9o_eq k9e_37_4 (k9o_F (by decide) (k9o_eq k9e_37_7 (k9o_call e42 ?_))))
        simp only [k9_ps_s]
        refine k9o_eq k9e_37_10 (k9o_F (by decide) (k9o_eq k9e_37_11 (k9o_call e3' ?_)))
        simp only [k9_ps_n]
        refine k9o_eq k9e_37_14 (k9o_call e4 ?_)
        simp only [k9_ps_s]
        exact g
      by_cases r3 : (p_e0 n l ((p_e0 n l a).2.1 + 1)).1 = true
      · rw [p_b_T r3] at go2 ⊢
        have L := lineend (p_e0 n l ((p_e0 n l a).2.1 + 1)).2.1 _ I4 (fun q => ∃ I3, q = (some (k9_i (nI 1)), I3, J) ∧ k9_Tc I3 n l (p_e0 n l ((p_e0 n l a).2.1 + 1)).2.1 (ts ++ p_ctk ((p_e0 n l a).2.2, (p_e0 n l ((p_e0 n l a).2.1 + 1)).2.2)) ∧ k9_fx k9_Ftc I I3) T4 (by rw [List.length_append, List.length_append, List.length_append, List.length_singleton]; omega) (fun I5 T5 x5 => ⟨I5, rfl, by
          rw [p_ctk_c (p_e0_ne r1)]
          simpa only [List.append_assoc, List.singleton_append, List.cons_append, List.nil_append] using T5, k9_fx_tr (k9_fx_tr x3' x4) x5⟩)
        obtain ⟨q, eq, I5, rfl, T5, x5⟩ := go2 (k9o_eq k9e_37_18 (k9o_F (by decide) L))
        exact ⟨I5, _, eq, T5, x5, fun _ => rfl⟩
      · rw [p_b_F r3] at go2 ⊢
        exact ⟨I4, _, k9o_of (go2 (k9o_eq k9e_37_18 (k9o_T (by decide) (k9o_eq k9e_37_19 (k9o_ret rfl))))), T4, k9_fx_tr x3' x4, fun z => absurd z r3⟩
    · rw [if_neg r2]
      rw [if_neg r2, if_neg r2] at e42
      have L := lineend (p_e0 n l a).2.1 _ I1 (fun q => ∃ I3, q = (some (k9_i (nI 1)), I3, J) ∧ k9_Tc I3 n l (p_e0 n l a).2.1 (ts ++ p_ctk ([], (p_e0 n l a).2.2)) ∧ k9_fx k9_Ftc I I3) T1 (by rw [List.length_append]; omega) (fun I5 T5 x5 => ⟨I5, rfl, by
        unfold p_ctk
        rw [if_pos rfl]
        simpa only [List.append_assoc] using T5, k9_fx_tr x1 x5⟩)
      have st : k9_ok (k9_R S (d + 89) 37 0 [some (k9_r 5 0)] [] I J) (fun q => ∃ I3, q = (some (k9_i (nI 1)), I3, J) ∧ k9_Tc I3 n l (p_e0 n l a).2.1 (ts ++ p_ctk ([], (p_e0 n l a).2.2)) ∧ k9_fx k9_Ftc I I3) := by
        refine go (k9o_eq k9e_37_4 (k9o_F (by decide) (k9o_eq k9e_37_7 (k9o_call e42 ?_))))
        simp only [k9_ps_s]
        exact k9o_eq k9e_37_10 (k9o_T (by decide) L)
      obtain ⟨q, eq, I5, rfl, T5, x5⟩ := st
      exact ⟨I5, _, eq, T5, x5, fun _ => rfl⟩
  · rw [if_neg r1]
    rw [p_b_F r1] at go
    exact ⟨I1, _, k9o_of (go (k9o_eq k9e_37_4 (k9o_T (by decide) (k9o_eq k9e_37_5 (k9o_ret rfl))))), T1, x1, fun z => by cases z⟩
def p_fr (b : Bool) (a : Nat) : Int32 := if b = true then -1 else nI a
/-- the text, the class -/
theorem k9s_36 (hn : n ≤ 120) (hlb : ∀ p, p < n → l p ≤ 255) (h50 : I 5 0 0 = nI n) (h26 : ∀ p, p < n → I 26 0 p = nI (l p)) : ∃ I' ts', k9_R S (d + 90) 36 0 [some (k9_r 5 0), none, none] [] I J = some (some (k9_i (p_fr (p_tx n l).1 (p_tx n l).2.1)), I', J) ∧ k9_Tc I' n l (p_tx n l).2.1 ts' ∧ k9_fx k9_Ftc I I' ∧ ((p_tx n l).1 = true → ts' = ((p_tx n l).2.2.map p_ctk).flatten) := by
  -- the end
  have bad : ∀ (i b : Nat) (ts1 : List Nat) (I1 : k9_I), k9_Tc I1 n l b ts1 → k9_ok (k9_R S (d + 90) 36 11 [some (k9_r 5 0), some (k9_i (nI 0)), some (k9_i (nI i))] [] I1 J) (fun q => q = (some (k9_i (nI b)), I1, J)) := by
    intro i b ts1 I1 T1
    have e34 : k9_ok (k9_R S (d + 90) 36 34 [some (k9_r 5 0), some (k9_i (nI 0)), some (k9_i (nI i))] [] I1 J) (fun q => q = (some (k9_i (nI b)), I1, J)) := by
      refine k9o_eq k9e_36_34 (k9o_T (by decide) (k9o_eq k9e_36_38 (k9o_eq k9e_36_40 (k9o_ret ?_))))
      rw [T1.2.2.2.2.1]
    refine k9o_eq k9e_36_11 (k9o_if (fun _ => e34) (fun _ => k9o_eq k9e_36_14 (k9o_T (by decide) e34)))
  have good : ∀ (i : Nat) (I1 : k9_I), k9_ok (k9_R S (d + 90) 36 34 [some (k9_r 5 0), some (k9_i (nI 1)), some (k9_i (nI i))] [] I1 J) (fun q => q = (some (k9_i (-1)), I1, J)) := fun i I1 => k9o_eq k9e_36_34 (k9o_F (by decide) (k9o_eq k9e_36_36 (k9o_eq k9e_36_40 (k9o_ret rfl))))
  have key : ∀ k i b ts1 I1, i + k = 120 → k9_Tc I1 n l b ts1 → b ≤ n → ts1.length ≤ b + 1 → ∃ I' ts', k9_R S (d + 90) 36 11 [some (k9_r 5 0), some (k9_i (nI 1)), some (k9_i (nI i))] [] I1 J = some (some (k9_i (p_fr (p_tl n l k b).1 (p_tl n l k b).2.1)), I', J) ∧ k9_Tc I' n l (p_tl n l k b).2.1 ts' ∧ k9_fx k9_Ftc I1 I' ∧ ((p_tl n l k b).1 = true → ts' = ts1 ++ ((p_tl n l k b).2.2.map p_ctk).flatten) := by
    intro k
    induction k with
    | zero =>
      intro i b ts1 I1 hi T1 hb ht
      exact ⟨I1, ts1, k9o_of (k9o_eq k9e_36_11 (k9o_T (by rw [n_toInt (by omega)]; omega) (good i I1))), T1, k9_fx_rf _ _, fun _ => by simp [p_tl]⟩
    | succ k ih =>
      intro i b ts1 I1 hi T1 hb ht
      rw [p_tl]
      have st0 : ∀ {Q : k9_A → Prop}, k9_ok (k9_R S (d + 90) 36 16 [some (k9_r 5 0), some (k9_i (nI 1)), some (k9_i (nI i))] [] I1 J) Q → k9_ok (k9_R S (d + 90) 36 11 [some (k9_r 5 0), some (k9_i (nI 1)), some (k9_i (nI i))] [] I1 J) Q := fun g => k9o_eq k9e_36_11 (k9o_F (by rw [n_toInt (by omega)]; omega) (k9o_eq k9e_36_14 (k9o_F (by decide) g)))
      have c0 := T1.2.2.1
      have c4 := T1.2.2.2.2.1
      by_cases c1 : b < n
      · rw [if_pos c1]
        have e42 := k9s_42 (S := S) (d := d + 88) (J := J) (c := 59) T1 (by omega) (by omega)
        by_cases c2 : p_lt n l b = 59
        · rw [if_pos c2]
          rw [if_pos c2, if_pos c2] at e42
          obtain ⟨I2, ts2, e2, T2, x2, h2⟩ := k9s_37 (S := S) (d := d) (J := J) (k9_Tc_p T1 (b + 1)) c1 ht
          have x2' : k9_fx k9_Ftc I1 I2 := k9_fx_tr (k9_fx_u (k9_fx_rf _ _) rfl) x2
          obtain ⟨g1, g2, g3⟩ := p_lin_k n l (b + 1) c1
          have st : ∀ {Q : k9_A → Prop}, k9_ok (k9_R S (d + 90) 36 27 [some (k9_r 5 0), some (k9_i (nI 1)), some (k9_i (nI i))] [k9_i (nI (p_b (p_lin n l (b + 1)).1))] I2 J) Q → k9_ok (k9_R S (d + 90) 36 11 [some (k9_r 5 0), some (k9_i (nI 1)), some (k9_i (nI i))] [] I1 J) Q := by
            intro Q g
            refine st0 (k9o_eq k9e_36_16 (k9o_F (by rw [c0, c4, n_toInt (by omega), n_toInt (by omega)]; omega) (k9o_eq k9e_36_21 (k9o_call e42 ?_))))
            simp only [k9_ps_s]
            refine k9o_eq k9e_36_24 (k9o_F (by decide) (k9o_eq k9e_36_25 (k9o_call e2 ?_)))
            simp only [k9_ps_s]
            exact g
          by_cases r : (p_lin n l (b + 1)).1 = true
          · rw [if_pos r]
            rw [p_b_T r] at st
            obtain ⟨g4, g5, g6⟩ := g3 r
            have hts2 := h2 r
            obtain ⟨I3, ts3, e3, T3, x3, h3⟩ := ih (i + 1) (p_lin n l (b + 1)).2.1 ts2 I2 (by omega) T2 g2 (by rw [hts2, List.length_append]; omega)
            refine ⟨I3, ts3, k9o_of (st (k9o_eq k9e_36_27 (k9o_F (by decide) (k9o_eq k9e_36_28 (k9o_eq k9e_36_31 ?_))))), T3, k9_fx_tr x2' x3, fun z => ?_⟩
            · rw [nI_1]
              exact k9o_to e3 rfl
            · rw [h3 z, hts2, List.map_cons, List.flatten_cons, List.append_assoc]
          · rw [if_neg r]
            rw [p_b_F r] at st
            refine ⟨I2, ts2, k9o_of (st (k9o_eq k9e_36_27 (k9o_T (by decide) (k9o_eq k9e_36_30 (k9o_eq k9e_36_31 ?_))))), T2, x2', fun z => by cases z⟩
            rw [nI_1]
            exact bad (i + 1) _ ts2 I2 T2
        · rw [if_neg c2]
          rw [if_neg c2, if_neg c2] at e42
          refine ⟨I1, ts1, k9o_of (st0 (k9o_eq k9e_36_16 (k9o_F (by rw [c0, c4, n_toInt (by omega), n_toInt (by omega)]; omega) (k9o_eq k9e_36_21 (k9o_call e42 ?_))))), T1, k9_fx_rf _ _, fun z => by cases z⟩
          simp only [k9_ps_s]
          refine k9o_eq k9e_36_24 (k9o_T (by decide) (k9o_eq k9e_36_30 (k9o_eq k9e_36_31 ?_)))
          rw [nI_1]
          exact bad (i + 1) _ ts1 I1 T1
      · rw [if_neg c1]
        exact ⟨I1, ts1, k9o_of (st0 (k9o_eq k9e_36_16 (k9o_T (by rw [c0, c4, n_toInt (by omega), n_toInt (by omega)]; omega) (good i I1)))), T1, k9_fx_rf _ _, fun _ => by simp⟩
  obtain ⟨I0, hI0⟩ : ∃ I0, I0 = k9_u (k9_u I 5 0 4 0) 5 0 1 0 := ⟨_, rfl⟩
  have T0 : k9_Tc I0 n l 0 [] := by
    rw [hI0]
    exact ⟨hn, hlb, by simp [k9_ur, h50], fun p hp => by simp [k9_ur, h26 p hp], by simp [k9_ur]; rfl, by simp [k9_ur]; rfl, fun i hi => by simp at hi⟩
  have x0 : k9_fx k9_Ftc I I0 := by
    rw [hI0]
    exact k9_fx_u (k9_fx_u (k9_fx_rf _ _) rfl) rfl
  obtain ⟨I1, ts1, e1, T1, x1, h1⟩ := k9s_37 (S := S) (d := d) (J := J) T0 (Nat.zero_le _) (Nat.le_refl _)
  obtain ⟨g1, g2, g3⟩ := p_lin_k n l 0 (Nat.zero_le _)
  have st : ∀ {Q : k9_A → Prop}, k9_ok (k9_R S (d + 90) 36 11 [some (k9_r 5 0), some (k9_i (nI (p_b (p_lin n l 0).1))), some (k9_i (nI 1))] [] I1 J) Q → k9_ok (k9_R S (d + 90) 36 0 [some (k9_r 5 0), none, none] [] I J) Q := by
    intro Q g
    refine k9o_eq k9e_36_0 ?_
    rw [← hI0]
    refine k9o_call e1 ?_
    simp only [k9_ps_s]
    exact k9o_eq k9e_36_8 g
  unfold p_tx
  by_cases r : (p_lin n l 0).1 = true
  · rw [if_pos r]
    rw [p_b_T r] at st
    obtain ⟨g4, g5, g6⟩ := g3 r
    have hts := h1 r
    obtain ⟨I2, ts2, e2, T2, x2, h2⟩ := key 119 1 (p_lin n l 0).2.1 ts1 I1 (by omega) T1 g2 (by rw [hts, List.nil_append]; omega)
    refine ⟨I2, ts2, k9o_of (st (k9o_to e2 rfl)), T2, k9_fx_tr (k9_fx_tr x0 x1) x2, fun z => ?_⟩
    rw [h2 z, hts, List.map_cons, List.flatten_cons, List.nil_append]
  · rw [if_neg r]
    rw [p_b_F r] at st
    exact ⟨I1, ts1, k9o_of (st (bad 1 _ ts1 I1 T1)), T1, k9_fx_tr x0 x1, fun z => by cases z⟩
end KV6
