/-! ORDERS: the next one -/
section KT28
variable {S : k9_S} {d : Nat} {I I' : k9_I} {J J' : k9_J} {w : Nat → Nat → Nat} {V : (Nat → Int32) → Int32} {b : Nat} {x1 x2 x3 : Int32} {h c : Nat → Nat} {L A f M : Nat}
def p_pv (o : Nat → Nat) : Nat → Nat
  | 0 => 0
  | k + 1 => if o k ≤ o (k + 1) then k + 1 else p_pv o k
def p_sc (o : Nat → Nat) (i : Nat) : Nat → Nat
  | 0 => 0
  | j + 1 => if j + 1 ≤ i ∨ o i ≤ o (j + 1) then j + 1 else p_sc o i j
def p_sw (o : Nat → Nat) (a b : Nat) : Nat → Nat := fun k => if k = b then o a else if k = a then o b else o k
def p_rv : Nat → (Nat → Nat) → Nat → Nat → (Nat → Nat)
  | 0, o, _, _ => o
  | f + 1, o, a, b => if a < b then p_rv f (p_sw o a b) (a + 1) (b - 1) else o
/-- the next order of n (where there is one) -/
def p_nx (n : Nat) (o : Nat → Nat) : Nat → Nat := p_rv 6 (p_sw o (p_pv o (n - 1) - 1) (p_sc o (p_pv o (n - 1) - 1) (n - 1))) (p_pv o (n - 1)) (n - 1)
theorem p_pv_b (o : Nat → Nat) : ∀ k, p_pv o k ≤ k
  | 0 => Nat.le_refl _
  | k + 1 => by
    have := p_pv_b o k
    rw [p_pv]
    split <;> omega
theorem p_sc_b (o : Nat → Nat) (i : Nat) : ∀ k, p_sc o i k ≤ k
  | 0 => Nat.le_refl _
  | k + 1 => by
    have := p_sc_b o i k
    rw [p_sc]
    split <;> omega
theorem k9_Or_sw {i0 n a e : Nat} {o : Nat → Nat} (hO : k9_Or I i0 n o) (ha : a < n) (he : e < n) : k9_Or (k9_u (k9_u I 30 i0 a (nI (o e))) 30 i0 e (nI (o a))) i0 n (p_sw o a e) := by
  refine ⟨by simpa [k9_ur] using hO.1, hO.2.1, fun k hk => ?_⟩
  have := hO.2.2 k hk
  unfold p_sw
  by_cases e1 : k = e
  · simp [k9_ur, e1]
  · by_cases e2 : k = a
    · subst e2
      simp [k9_ur, e1]
    · simpa [k9_ur, e1, e2] using this
theorem k9s_33 {i0 n a e : Nat} {o : Nat → Nat} (hO : k9_Or I i0 n o) (ha : a < n) (he : e < n) : ∃ I', k9_R S d 33 0 [some (k9_r 7 i0), some (k9_i (nI a)), some (k9_i (nI e)), none] [] I J = some (none, I', J) ∧ k9_Or I' i0 n (p_sw o a e) ∧ k9_fx (k9_Fo i0) I I' := by
  have h6 := hO.2.1
  refine ⟨_, k9o_of ?_, k9_Or_sw hO ha he, k9_fx_u (k9_fx_u (k9_fx_rf _ _) (k9_Fo_t _ rfl _)) (k9_Fo_t _ rfl _)⟩
  refine k9o_eq k9e_33_0 (k9o_F (by rw [n_toInt (by omega)]; omega) (k9o_eq k9e_33_2 (k9o_F (by rw [n_toInt (by omega)]; omega) (k9o_eq k9e_33_5 (k9o_F (by rw [n_toInt (by omega)]; omega) (k9o_eq k9e_33_7 (k9o_T (by rw [n_toInt (by omega)]; omega) (k9o_eq k9e_33_11 (k9o_T (by rw [n_toInt (by omega)]; omega) (k9o_eq k9e_33_15 (k9o_T (by rw [n_toInt (by omega)]; omega) (k9o_eq k9e_33_23 (k9o_T (by rw [n_toInt (by omega)]; omega) (k9o_eq k9e_33_24 (k9o_T (by rw [n_toInt (by omega)]; omega) (k9o_eq k9e_33_29 ?_))))))))))))))))
  rw [n_cl (by omega), n_cl (by omega), hO.2.2 a ha, hO.2.2 e he]
  exact k9o_ret rfl
/-- pieces behind a place turned round -/
theorem k9s_32r {i0 n : Nat} {x1 x2 x3 : Int32} : ∀ f a e o I1, a ≤ n → e < n → e < a + 2 * f → k9_Or I1 i0 n o → k9_fx (k9_Fo i0) I I1 → ∃ I', k9_ok (k9_R S (d + 1) 32 56 [some (k9_r 7 i0), some (k9_i x1), some (k9_i x2), some (k9_i x3), some (k9_i (nI a)), some (k9_i (nI e))] [] I1 J) (fun q => q = (some (k9_i 1), I', J)) ∧ k9_Or I' i0 n (p_rv f o a e) ∧ k9_fx (k9_Fo i0) I I' := by
  intro f
  induction f with
  | zero =>
    intro a e o I1 ha he hf hO hx
    have h6 := hO.2.1
    exact ⟨I1, k9o_eq k9e_32_56 (k9o_T (by rw [n_toInt (by omega), n_toInt (by omega)]; omega) (k9o_eq k9e_32_66 (k9o_ret rfl))), hO, hx⟩
  | succ f ih =>
    intro a e o I1 ha he hf hO hx
    have h6 := hO.2.1
    rw [p_rv]
    by_cases c : a < e
    · rw [if_pos c]
      obtain ⟨I2, e2, O2, x2'⟩ := k9s_33 (S := S) (d := d) (J := J) hO (show a < n by omega) he
      obtain ⟨I3, e3, O3, x3'⟩ := ih (a + 1) (e - 1) _ I2 (by omega) (by omega) (by omega) O2 (k9_fx_tr hx x2')
      refine ⟨I3, k9o_eq k9e_32_56 (k9o_F (by rw [n_toInt (by omega), n_toInt (by omega)]; omega) (k9o_eq k9e_32_59 (k9o_call e2 ?_))), O3, x3'⟩
      simp only [k9_ps_n]
      refine k9o_eq k9e_32_63 ?_
      rw [nI_1, n_m1 (by omega)]
      exact e3
    · rw [if_neg c]
      exact ⟨I1, k9o_eq k9e_32_56 (k9o_T (by rw [n_toInt (by omega), n_toInt (by omega)]; omega) (k9o_eq k9e_32_66 (k9o_ret rfl))), hO, hx⟩
theorem k9s_32s {i0 n i : Nat} {o : Nat → Nat} {x1 : Int32} {Q : k9_A → Prop} (hO : k9_Or I i0 n o) (hi : i + 1 < n) (hm : ∀ k, k < n → o k < 100) (g : k9_ok (k9_R S d 32 46 [some (k9_r 7 i0), some (k9_i x1), some (k9_i (nI i)), some (k9_i (nI (p_sc o i (n - 1)))), none, none] [] I J) Q) : k9_ok (k9_R S d 32 32 [some (k9_r 7 i0), some (k9_i x1), some (k9_i (nI i)), some (k9_i (nI (n - 1))), none, none] [] I J) Q := by
  have h6 := hO.2.1
  have key : ∀ j, j < n → i ≤ j → p_sc o i j = p_sc o i (n - 1) → k9_ok (k9_R S d 32 32 [some (k9_r 7 i0), some (k9_i x1), some (k9_i (nI i)), some (k9_i (nI j)), none, none] [] I J) Q := by
    intro j
    induction j with
    | zero =>
      intro hj hij hs
      rw [p_sc] at hs
      rw [← hs] at g
      exact k9o_eq k9e_32_32 (k9o_T (by rw [n_toInt (by omega), n_toInt (by omega)]; omega) g)
    | succ j ih =>
      intro hj hij hs
      rw [p_sc] at hs
      by_cases c : j + 1 ≤ i
      · rw [if_pos (Or.inl c)] at hs
        rw [← hs] at g
        exact k9o_eq k9e_32_32 (k9o_T (by rw [n_toInt (by omega), n_toInt (by omega)]; omega) g)
      · have aj := hO.2.2 (j + 1) hj
        have ai := hO.2.2 i (by omega)
        have bj := hm (j + 1) hj
        have bi := hm i (by omega)
        refine k9o_eq k9e_32_32 (k9o_F (by rw [n_toInt (by omega), n_toInt (by omega)]; omega) (k9o_eq k9e_32_35 (k9o_T (by rw [n_toInt (by omega)]; omega) (k9o_eq k9e_32_39 (k9o_T (by rw [n_toInt (by omega)]; omega) ?_)))))
        rw [n_cl (by omega), n_cl (by omega), aj, ai]
        refine k9o_eq k9e_32_43 ?_
        by_cases e : o i ≤ o (j + 1)
        · rw [if_pos (Or.inr e)] at hs
          rw [← hs] at g
          exact k9o_T (by rw [n_toInt (by omega), n_toInt (by omega)]; omega) g
        · rw [if_neg (by omega)] at hs
          refine k9o_F (by rw [n_toInt (by omega), n_toInt (by omega)]; omega) (k9o_eq k9e_32_44 ?_)
          rw [n_m1 (by omega)]
          exact ih (by omega) (by omega) hs
  exact key (n - 1) (by omega) (by omega) rfl
theorem k9s_32 {i0 n : Nat} {o : Nat → Nat} (hO : k9_Or I i0 n o) (h1 : 1 ≤ n) (hm : ∀ k, k < n → o k < 100) : (p_pv o (n - 1) = 0 ∧ k9_R S (d + 1) 32 0 [some (k9_r 7 i0), none, none, none, none, none] [] I J = some (some (k9_i 0), I, J)) ∨ (p_pv o (n - 1) ≠ 0 ∧ ∃ I', k9_R S (d + 1) 32 0 [some (k9_r 7 i0), none, none, none, none, none] [] I J = some (some (k9_i 1), I', J) ∧ k9_Or I' i0 n (p_nx n o) ∧ k9_fx (k9_Fo i0) I I') := by
  have h6 := hO.2.1
  have hp := p_pv_b o (n - 1)
  have st : ∀ Q : k9_A → Prop, (∀ x : Int32, x = (if p_pv o (n - 1) = 0 then -1 else nI (p_pv o (n - 1) - 1)) → k9_ok (k9_R S (d + 1) 32 26 [some (k9_r 7 i0), some (k9_i (nI (n - 1))), some (k9_i x), none, none, none] [] I J) Q) → k9_ok (k9_R S (d + 1) 32 0 [some (k9_r 7 i0), none, none, none, none, none] [] I J) Q := by
    intro Q g
    have key : ∀ k, k < n → p_pv o k = p_pv o (n - 1) → ∀ x : Int32, x = (if k = 0 then -1 else nI (k - 1)) → k9_ok (k9_R S (d + 1) 32 11 [some (k9_r 7 i0), some (k9_i (nI (n - 1))), some (k9_i x), none, none, none] [] I J) Q := by
      intro k
      induction k with
      | zero =>
        intro hk hs x hx
        rw [if_pos rfl] at hx
        rw [p_pv] at hs
        refine k9o_eq k9e_32_11 (k9o_T (by rw [hx]; decide) (g x ?_))
        rw [if_pos hs.symm, hx]
      | succ k ih =>
        intro hk hs x hx
        rw [if_neg (by omega), Nat.add_sub_cancel] at hx
        subst hx
        have a0 := hO.2.2 k (by omega)
        have a1 := hO.2.2 (k + 1) hk
        have b0 := hm k (by omega)
        have b1 := hm (k + 1) hk
        rw [p_pv] at hs
        refine k9o_eq k9e_32_11 (k9o_F (by rw [n_toInt (by omega)]; omega) (k9o_eq k9e_32_13 (k9o_T (by rw [n_toInt (by omega)]; omega) (k9o_eq k9e_32_17 ?_))))
        rw [n_cl (by omega), nI_1, n_cl (by omega), a0, a1]
        refine k9o_T (by rw [n_toInt (by omega)]; omega) (k9o_eq k9e_32_23 ?_)
        by_cases c : o k ≤ o (k + 1)
        · rw [if_pos c] at hs
          refine k9o_T (by rw [n_toInt (by omega), n_toInt (by omega)]; omega) (g _ ?_)
          rw [← hs, if_neg (by omega), Nat.add_sub_cancel]
        · rw [if_neg c] at hs
          refine k9o_F (by rw [n_toInt (by omega), n_toInt (by omega)]; omega) (k9o_eq k9e_32_24 ?_)
          refine ih (by omega) hs _ ?_
          by_cases z : k = 0
          · subst z
            rw [if_pos rfl]
            decide
          · rw [if_neg z, n_m1 (by omega)]
    have e7 : (if (6 : Int32) < I 7 i0 1 then (6 : Int32) else I 7 i0 1) = nI n := by
      rw [hO.1]
      refine if_neg (fun z => ?_)
      have z := Int32.lt_iff_toInt_lt.mp z
      rw [n_toInt (by omega)] at z
      have : (6 : Int32).toInt = 6 := by decide
      omega
    rw [k9e_32_0, e7, n_s1 h1]
    refine key (n - 1) (by omega) rfl _ ?_
    by_cases z : n - 1 = 0
    · rw [if_pos z, z]
      decide
    · rw [if_neg z, n_s1 (by omega)]
  by_cases c : p_pv o (n - 1) = 0
  · refine Or.inl ⟨c, k9o_of (st _ (fun x hx => ?_))⟩
    rw [if_pos c] at hx
    exact k9o_eq k9e_32_26 (k9o_F (by rw [hx]; decide) (k9o_eq k9e_32_28 (k9o_ret rfl)))
  · refine Or.inr ⟨c, ?_⟩
    obtain ⟨i, hi⟩ : ∃ i, i = p_pv o (n - 1) - 1 := ⟨_, rfl⟩
    have hs := p_sc_b o i (n - 1)
    obtain ⟨I2, e2, O2, x2'⟩ := k9s_33 (S := S) (d := d) (J := J) hO (show i < n by omega) (show p_sc o i (n - 1) < n by omega)
    obtain ⟨I3, o3, O3, x3'⟩ := k9s_32r (S := S) (d := d) (J := J) (x1 := nI (n - 1)) (x2 := nI i) (x3 := nI (p_sc o i (n - 1))) 6 (p_pv o (n - 1)) (n - 1) _ I2 (by omega) (by omega) (by omega) O2 x2'
    rw [hi] at O3
    refine ⟨I3, k9o_of (st _ (fun x hx => ?_)), O3, x3'⟩
    rw [if_neg c, ← hi] at hx
    subst hx
    refine k9o_eq k9e_32_26 (k9o_T (by rw [n_toInt (by omega)]; omega) (k9o_eq k9e_32_30 (k9s_32s hO (by omega) hm (k9o_eq k9e_32_46 (k9o_call e2 ?_)))))
    simp only [k9_ps_n]
    refine k9o_eq k9e_32_50 ?_
    rw [nI_1, show i + 1 = p_pv o (n - 1) by omega]
    exact o3
theorem k9s_32z {i0 : Nat} {o : Nat → Nat} (hO : k9_Or I i0 0 o) : k9_R S (d + 1) 32 0 [some (k9_r 7 i0), none, none, none, none, none] [] I J = some (some (k9_i 0), I, J) := by
  have e7 : (if (6 : Int32) < I 7 i0 1 then (6 : Int32) else I 7 i0 1) = nI 0 := by
    rw [hO.1]
    decide
  refine k9o_of (k9o_eq k9e_32_0 ?_)
  rw [e7]
  exact k9o_eq k9e_32_11 (k9o_T (by decide) (k9o_eq k9e_32_26 (k9o_F (by decide) (k9o_eq k9e_32_28 (k9o_ret rfl)))))
end KT28
