/-! ORDERS: the next one, in the reference -/
section KT29
variable {S : k9_S} {d : Nat} {I I' : k9_I} {J J' : k9_J} {w : Nat → Nat → Nat} {V : (Nat → Int32) → Int32} {b : Nat} {x1 x2 x3 : Int32} {h c : Nat → Nat} {L A f M : Nat}
def k9_Om (I : k9_I) (n : Nat) (o : Nat → Nat) : Prop := I 12 0 0 = nI n ∧ n ≤ 6 ∧ ∀ k, k < n → I 69 0 k = nI (o k)
def k9_F69 (k _ _ : Nat) : Bool := Nat.beq k 69
theorem k9s_206 {n a e : Nat} {o : Nat → Nat} (hO : k9_Om I n o) (ha : a < n) (he : e < n) : ∃ I', k9_R S d 206 0 [some (k9_r 12 0), some (k9_i (nI a)), some (k9_i (nI e)), none] [] I J = some (none, I', J) ∧ k9_Om I' n (p_sw o a e) ∧ k9_fx k9_F69 I I' := by
  have h6 := hO.2.1
  have hsw : k9_Om (k9_u (k9_u I 69 0 a (nI (o e))) 69 0 e (nI (o a))) n (p_sw o a e) := by
    refine ⟨by simpa [k9_ur] using hO.1, hO.2.1, fun k hk => ?_⟩
    have := hO.2.2 k hk
    unfold p_sw
    by_cases e1 : k = e
    · simp [k9_ur, e1]
    · by_cases e2 : k = a
      · subst e2
        simp [k9_ur, e1]
      · simpa [k9_ur, e1, e2] using this
  refine ⟨_, k9o_of ?_, hsw, k9_fx_u (k9_fx_u (k9_fx_rf _ _) rfl) rfl⟩
  refine k9o_eq k9e_206_0 (k9o_T (by rw [n_toInt (by omega)]; omega) (k9o_eq k9e_206_4 (k9o_T (by rw [n_toInt (by omega)]; omega) (k9o_eq k9e_206_12 (k9o_T (by rw [n_toInt (by omega)]; omega) (k9o_eq k9e_206_13 (k9o_T (by rw [n_toInt (by omega)]; omega) (k9o_eq k9e_206_18 ?_))))))))
  rw [n_cl (by omega), n_cl (by omega), hO.2.2 a ha, hO.2.2 e he]
  exact k9o_ret rfl
theorem k9s_205r {n : Nat} {x1 x2 : Int32} : ∀ f a e o I1, a ≤ n → e < n → e < a + 2 * f → k9_Om I1 n o → k9_fx k9_F69 I I1 → ∃ I', k9_ok (k9_R S (d + 1) 205 53 [some (k9_r 12 0), some (k9_i x1), some (k9_i x2), some (k9_i (nI a)), some (k9_i (nI e))] [] I1 J) (fun q => q = (some (k9_i 1), I', J)) ∧ k9_Om I' n (p_rv f o a e) ∧ k9_fx k9_F69 I I' := by
  intro f
  induction f with
  | zero =>
    intro a e o I1 ha he hf hO hx
    have h6 := hO.2.1
    exact ⟨I1, k9o_eq k9e_205_53 (k9o_T (by rw [n_toInt (by omega), n_toInt (by omega)]; omega) (k9o_eq k9e_205_63 (k9o_ret rfl))), hO, hx⟩
  | succ f ih =>
    intro a e o I1 ha he hf hO hx
    have h6 := hO.2.1
    rw [p_rv]
    by_cases c : a < e
    · rw [if_pos c]
      obtain ⟨I2, e2, O2, x2'⟩ := k9s_206 (S := S) (d := d) (J := J) hO (show a < n by omega) he
      obtain ⟨I3, e3, O3, x3'⟩ := ih (a + 1) (e - 1) _ I2 (by omega) (by omega) (by omega) O2 (k9_fx_tr hx x2')
      refine ⟨I3, k9o_eq k9e_205_53 (k9o_F (by rw [n_toInt (by omega), n_toInt (by omega)]; omega) (k9o_eq k9e_205_56 (k9o_call e2 ?_))), O3, x3'⟩
      simp only [k9_ps_n]
      refine k9o_eq k9e_205_60 ?_
      rw [nI_1, n_m1 (by omega)]
      exact e3
    · rw [if_neg c]
      exact ⟨I1, k9o_eq k9e_205_53 (k9o_T (by rw [n_toInt (by omega), n_toInt (by omega)]; omega) (k9o_eq k9e_205_63 (k9o_ret rfl))), hO, hx⟩
theorem k9s_205s {n i : Nat} {o : Nat → Nat} {Q : k9_A → Prop} (hO : k9_Om I n o) (hi : i + 1 < n) (hu : o i ≤ o (i + 1)) (hm : ∀ k, k < n → o k < 100) (g : k9_ok (k9_R S d 205 40 [some (k9_r 12 0), some (k9_i (nI i)), some (k9_i (nI (p_sc o i (n - 1)))), none, none] [] I J) Q) : k9_ok (k9_R S d 205 29 [some (k9_r 12 0), some (k9_i (nI i)), some (k9_i (nI (n - 1))), none, none] [] I J) Q := by
  have h6 := hO.2.1
  have key : ∀ j, j < n → i < j → p_sc o i j = p_sc o i (n - 1) → k9_ok (k9_R S d 205 29 [some (k9_r 12 0), some (k9_i (nI i)), some (k9_i (nI j)), none, none] [] I J) Q := by
    intro j
    induction j with
    | zero =>
      intro hj hij hs
      omega
    | succ j ih =>
      intro hj hij hs
      rw [p_sc] at hs
      have aj := hO.2.2 (j + 1) hj
      have ai := hO.2.2 i (by omega)
      have bj := hm (j + 1) hj
      have bi := hm i (by omega)
      refine k9o_eq k9e_205_29 (k9o_T (by rw [n_toInt (by omega)]; omega) (k9o_eq k9e_205_33 (k9o_T (by rw [n_toInt (by omega)]; omega) ?_)))
      rw [n_cl (by omega), n_cl (by omega), aj, ai]
      refine k9o_eq k9e_205_37 ?_
      by_cases e : o i ≤ o (j + 1)
      · rw [if_pos (Or.inr e)] at hs
        rw [← hs] at g
        exact k9o_T (by rw [n_toInt (by omega), n_toInt (by omega)]; omega) g
      · rw [if_neg (by omega)] at hs
        refine k9o_F (by rw [n_toInt (by omega), n_toInt (by omega)]; omega) (k9o_eq k9e_205_38 ?_)
        rw [n_m1 (by omega)]
        have : i ≠ j := fun z => by
          subst z
          exact e hu
        exact ih (by omega) (by omega) hs
  exact key (n - 1) (by omega) (by omega) rfl
theorem p_pv_u (o : Nat → Nat) : ∀ k, p_pv o k ≠ 0 → o (p_pv o k - 1) ≤ o (p_pv o k - 1 + 1)
  | 0, h => absurd rfl h
  | k + 1, h => by
    rw [p_pv] at h ⊢
    by_cases c : o k ≤ o (k + 1)
    · rw [if_pos c]
      exact c
    · rw [if_neg c] at h ⊢
      exact p_pv_u o k h
theorem k9s_205 {n : Nat} {o : Nat → Nat} (hO : k9_Om I n o) (h1 : 1 ≤ n) (hm : ∀ k, k < n → o k < 100) : (p_pv o (n - 1) = 0 ∧ k9_R S (d + 1) 205 0 [some (k9_r 12 0), none, none, none, none] [] I J = some (some (k9_i 0), I, J)) ∨ (p_pv o (n - 1) ≠ 0 ∧ ∃ I', k9_R S (d + 1) 205 0 [some (k9_r 12 0), none, none, none, none] [] I J = some (some (k9_i 1), I', J) ∧ k9_Om I' n (p_nx n o) ∧ k9_fx k9_F69 I I') := by
  have h6 := hO.2.1
  have hp := p_pv_b o (n - 1)
  have st : ∀ Q : k9_A → Prop, (∀ x : Int32, x = (if p_pv o (n - 1) = 0 then -1 else nI (p_pv o (n - 1) - 1)) → k9_ok (k9_R S (d + 1) 205 20 [some (k9_r 12 0), some (k9_i x), none, none, none] [] I J) Q) → k9_ok (k9_R S (d + 1) 205 0 [some (k9_r 12 0), none, none, none, none] [] I J) Q := by
    intro Q g
    have key : ∀ k, k < n → p_pv o k = p_pv o (n - 1) → ∀ x : Int32, x = (if k = 0 then -1 else nI (k - 1)) → k9_ok (k9_R S (d + 1) 205 5 [some (k9_r 12 0), some (k9_i x), none, none, none] [] I J) Q := by
      intro k
      induction k with
      | zero =>
        intro hk hs x hx
        rw [if_pos rfl] at hx
        rw [p_pv] at hs
        refine k9o_eq k9e_205_5 (k9o_T (by rw [hx]; decide) (g x ?_))
        rw [if_pos hs.symm, hx]
      | succ k ih =>
        intro hk hs x hx
        rw [if_neg (by omega), Nat.add_sub_cancel] at hx
        subst hx
        have a0 := hO.2.2 k (by omega)
        have a1 := hO.2.2 (k + 1) hk
        have b0 := hm k (by omega)
        have b1 := hm (k + 1) hk
        rw [p_pv] at hs
        refine k9o_eq k9e_205_5 (k9o_F (by rw [n_toInt (by omega)]; omega) (k9o_eq k9e_205_7 (k9o_T (by rw [n_toInt (by omega)]; omega) (k9o_eq k9e_205_11 ?_))))
        rw [n_cl (by omega), nI_1, n_cl (by omega), a0, a1]
        refine k9o_T (by rw [n_toInt (by omega)]; omega) (k9o_eq k9e_205_17 ?_)
        by_cases c : o k ≤ o (k + 1)
        · rw [if_pos c] at hs
          refine k9o_T (by rw [n_toInt (by omega), n_toInt (by omega)]; omega) (g _ ?_)
          rw [← hs, if_neg (by omega), Nat.add_sub_cancel]
        · rw [if_neg c] at hs
          refine k9o_F (by rw [n_toInt (by omega), n_toInt (by omega)]; omega) (k9o_eq k9e_205_18 ?_)
          refine ih (by omega) hs _ ?_
          by_cases z : k = 0
          · subst z
            rw [if_pos rfl]
            decide
          · rw [if_neg z, n_m1 (by omega)]
    rw [k9e_205_0, hO.1]
    refine key (n - 1) (by omega) rfl _ ?_
    by_cases z : n - 1 = 0
    · rw [if_pos z, show n = 1 by omega]
      decide
    · rw [if_neg z, show (2 : Int32) = nI 2 from rfl, n_sub (by omega)]
      rfl
  by_cases c : p_pv o (n - 1) = 0
  · refine Or.inl ⟨c, k9o_of (st _ (fun x hx => ?_))⟩
    rw [if_pos c] at hx
    exact k9o_eq k9e_205_20 (k9o_F (by rw [hx]; decide) (k9o_eq k9e_205_22 (k9o_ret rfl)))
  · refine Or.inr ⟨c, ?_⟩
    have hu := p_pv_u o (n - 1) c
    obtain ⟨i, hi⟩ : ∃ i, i = p_pv o (n - 1) - 1 := ⟨_, rfl⟩
    have hs := p_sc_b o i (n - 1)
    obtain ⟨I2, e2, O2, x2'⟩ := k9s_206 (S := S) (d := d) (J := J) hO (show i < n by omega) (show p_sc o i (n - 1) < n by omega)
    obtain ⟨I3, o3, O3, x3'⟩ := k9s_205r (S := S) (d := d) (J := J) (x1 := nI i) (x2 := nI (p_sc o i (n - 1))) 6 (p_pv o (n - 1)) (n - 1) _ I2 (by omega) (by omega) (by omega) O2 x2'
    rw [hi] at O3
    refine ⟨I3, k9o_of (st _ (fun x hx => ?_)), O3, x3'⟩
    rw [if_neg c, ← hi] at hx
    subst hx
    rw [← hi] at hu
    refine k9o_eq k9e_205_20 (k9o_T (by rw [n_toInt (by omega)]; omega) (k9o_eq k9e_205_24 ?_))
    rw [hO.1, n_s1 h1]
    refine k9s_205s hO (by omega) hu hm (k9o_eq k9e_205_40 (k9o_call e2 ?_))
    simp only [k9_ps_n]
    refine k9o_eq k9e_205_44 ?_
    rw [O2.1, n_s1 h1, nI_1, show i + 1 = p_pv o (n - 1) by omega]
    exact o3
theorem k9s_205z {o : Nat → Nat} (hO : k9_Om I 0 o) : k9_R S (d + 1) 205 0 [some (k9_r 12 0), none, none, none, none] [] I J = some (some (k9_i 0), I, J) := by
  refine k9o_of (k9o_eq k9e_205_0 ?_)
  rw [hO.1]
  exact k9o_eq k9e_205_5 (k9o_T (by decide) (k9o_eq k9e_205_20 (k9o_F (by decide) (k9o_eq k9e_205_22 (k9o_ret rfl)))))
/-- the table of all orders: each next one -/
def p_tabok (n : Nat) : Bool := (List.range (p_fc n)).all (fun k => if k + 1 < p_fc n then (!Nat.beq (p_pv (p_or n k) (n - 1)) 0) && (List.range n).all (fun j => Nat.beq (p_nx n (p_or n k) j) (p_or n (k + 1) j)) else Nat.beq (p_pv (p_or n k) (n - 1)) 0)
theorem p_tabok_all : (List.range 6).all p_tabok = true := by decide +kernel
end KT29
