/-! ORDERS: told, the parts (the answers differ: both sides return alone is said) -/
section KT33
variable {S : k9_S} {d : Nat} {I I' : k9_I} {J J' : k9_J} {w : Nat → Nat → Nat} {V : (Nat → Int32) → Int32} {b : Nat} {x1 x2 x3 : Int32} {h c : Nat → Nat} {L A f M : Nat}
theorem k9_otroll0 {n : Nat} {o : Nat → Nat} {i2 : Nat} (hW : k9_Wk I 0 w) (hf : k9_wf w) (hC : k9_CL I V) (hO : k9_Or I i2 n o) (hb : ∀ k, k < n → o k < w 7 0) :
    ∃ (a : Int32) (I2 : k9_I), k9_R S (d + 8) 149 0 [some (k9_r 1 0), some (k9_r 7 i2)] [] I J = some (some (k9_i a), I2, J) ∧ k9_fx k9_Ft I I2 := by
  have ho : ∀ k, k < w 7 0 → (if k < n then o k else 0) < w 7 0 := fun k hk => by
    split
    · exact hb k (by assumption)
    · omega
  obtain ⟨I1, e1, w1, x1⟩ := k9s_16 (S := S) (d := d + 5) (J := J) (i0 := 1) (i1 := 0) (by decide) hW hf hO ho
  have hwf := k9_wf_cm hf ho
  obtain ⟨e10, I2, e2, b2, w2, x2⟩ := k9_troll (S := S) (d := d + 3) (J := J) w1 hwf (k9_CL_t (k9_Ft_w x1) hC)
  have hlen := p_len_b hwf
  have e10' := k9s_10 (S := S) (d := d + 5) (J := J) w1 hwf
  have e61 := k9s_61 (S := S) (d := d + 5) (J := J) (q := 1) b2 (by omega) (by omega) (fun t => p_sh_b t) (by omega)
  rw [if_neg (by decide), if_pos rfl] at e61
  refine ⟨nI (p_oo w V (fun k => if k < n then o k else 0)), I2, k9o_of ?_, k9_fx_tr (k9_Ft_w x1) (k9_Ft_b x2)⟩
  refine k9o_eq k9e_149_0 (k9o_call e1 ?_)
  simp only [k9_ps_n]
  refine k9o_eq k9e_149_8 (k9o_call e10' ?_)
  simp only [k9_ps_s]
  refine k9o_eq k9e_149_17 (k9o_call e2 ?_)
  simp only [k9_ps_n]
  refine k9o_eq k9e_149_18 (k9o_call e61 ?_)
  simp only [k9_ps_s]
  exact k9o_eq k9e_149_22 (k9o_ret rfl)
theorem k9s_28a {n m : Nat} {o : Nat → Nat} {x : Int32} (hO : k9_Or I 0 n o) (hm : ∀ k, k < n → o k < m) (hm6 : m ≤ 6) : ∃ I' n' o', k9_R S (d + 1) 28 0 [some (k9_r 7 0), some (k9_i x), some (k9_i (nI m))] [] I J = some (none, I', J) ∧ k9_Or I' 0 n' o' ∧ (∀ k, k < n' → o' k < m) ∧ k9_fx (k9_Fo 0) I I' := by
  have h100 : ∀ k, k < n → o k < 100 := fun k hk => by
    have := hm k hk
    omega
  by_cases c : x.toInt < 0 ∨ (m : Int) ≤ x.toInt ∨ 6 ≤ n ∨ ∃ k, k < n ∧ (o k : Int) = x.toInt
  · exact ⟨I, n, o, k9s_28x hO h100 hm6 c, hO, hm, k9_fx_rf _ _⟩
  · obtain ⟨y, rfl, hy, -⟩ := n_of (x := x) (by omega)
    have hn : ∀ k, k < n → o k ≠ y := fun k hk z => c (Or.inr (Or.inr (Or.inr ⟨k, hk, by rw [z, n_toInt (by omega)]⟩)))
    have c1 : ¬ (m : Int) ≤ (nI y).toInt := fun z => c (Or.inr (Or.inl z))
    have c2 : ¬ 6 ≤ n := fun z => c (Or.inr (Or.inr (Or.inl z)))
    rw [n_toInt (by omega)] at c1
    refine ⟨_, _, _, k9s_28 hO h100 (by omega) hm6 (by omega) hn, k9_Or_add hO (by omega), fun k hk => ?_, k9_fx_u (k9_fx_u (k9_fx_rf _ _) (k9_Fo_t _ rfl _)) (k9_Fo_t _ rfl _)⟩
    show (if k = n then y else o k) < m
    split
    · omega
    · exact hm k (by omega)
/-- the line of the reference, m of them -/
def k9_Li (I : k9_I) (n m : Nat) (o : Nat → Nat) : Prop := (∀ k, k < m → I 63 0 k = nI (o k)) ∧ (∀ k, k < m → o k < n) ∧ ∀ i j, i < m → j < m → o i = o j → i = j
theorem p_pg {o : Nat → Nat} {n m : Nat} (hb : ∀ k, k < m → o k < n) (hj : ∀ i j, i < m → j < m → o i = o j → i = j) : m ≤ n := by
  have h1 := p_sm_o (fun _ => 1) o n m hb
  rw [p_sm_1, p_sm_c (r' := fun x => p_ot o x m) n (fun k _ => Nat.one_mul _)] at h1
  have := (p_sm_full (fun x => p_ot_1 o x m hj) n).1
  omega
theorem p_ot_g (o : Nat → Nat) (x : Nat) : ∀ m, (∃ k, k < m ∧ o k = x) → 1 ≤ p_ot o x m
  | 0, ⟨k, hk, _⟩ => by omega
  | m + 1, ⟨k, hk, e⟩ => by
    rw [p_ot, p_sm]
    by_cases c : o m = x
    · rw [if_pos c]
      omega
    · have : k ≠ m := fun z => c (z ▸ e)
      have := p_ot_g o x m ⟨k, by omega, e⟩
      rw [p_ot] at this
      omega
theorem p_sm_g {c : Nat → Nat} : ∀ n, (∀ x, x < n → 1 ≤ c x) → n ≤ p_sm c n
  | 0, _ => Nat.zero_le _
  | n + 1, h => by
    have := p_sm_g n (fun x hx => h x (by omega))
    have := h n (by omega)
    rw [p_sm]
    omega
theorem p_full {o : Nat → Nat} {n m : Nat} (hb : ∀ k, k < m → o k < n) (hs : ∀ x, x < n → ∃ k, k < m ∧ o k = x) : n ≤ m := by
  have h1 := p_sm_o (fun _ => 1) o n m hb
  rw [p_sm_1, p_sm_c (r' := fun x => p_ot o x m) n (fun k _ => Nat.one_mul _)] at h1
  have := p_sm_g n (fun x hx => p_ot_g o x m (hs x hx))
  omega
theorem k9_Li_a {n m x : Nat} {o : Nat → Nat} (hL : k9_Li I n m o) (hx : x < n) (hn : ∀ k, k < m → o k ≠ x) : m < n ∧ k9_Li (k9_u I 63 0 m (nI x)) n (m + 1) (fun k => if k = m then x else o k) := by
  have hb : ∀ k, k < m + 1 → (if k = m then x else o k) < n := fun k hk => by
    split
    · exact hx
    · exact hL.2.1 k (by omega)
  have hj : ∀ i j, i < m + 1 → j < m + 1 → (if i = m then x else o i) = (if j = m then x else o j) → i = j := fun i j hi hj e => by
    by_cases c1 : i = m
    · by_cases c2 : j = m
      · omega
      · rw [if_pos c1, if_neg c2] at e
        exact absurd e.symm (hn j (by omega))
    · by_cases c2 : j = m
      · rw [if_neg c1, if_pos c2] at e
        exact absurd e (hn i (by omega))
      · rw [if_neg c1, if_neg c2] at e
        exact hL.2.2 i j (by omega) (by omega) e
  have := p_pg (o := fun k => if k = m then x else o k) hb hj
  refine ⟨by omega, fun k hk => ?_, hb, hj⟩
  by_cases e : k = m
  · simp [k9_ur, e]
  · simpa [k9_ur, e] using hL.1 k (by omega)
/-- the others come behind -/
theorem k9s_210 {n m : Nat} {o : Nat → Nat} (h0 : I 12 0 0 = nI n) (h6 : n ≤ 6) (hL : k9_Li I n m o) : ∃ I' o', k9_R S d 210 0 [some (k9_r 12 0), some (k9_i (nI m)), none, none, none, none] [] I J = some (none, I', J) ∧ k9_Li I' n n o' ∧ k9_fx (fun k _ _ => Nat.beq k 63) I I' := by
  have hmn := p_pg hL.2.1 hL.2.2
  -- is a piece among the first
  have inn : ∀ (Q : k9_A → Prop) m2 j o1 I1, m ≤ m2 → j < n → k9_Li I1 n m2 o1 → k9_fx (fun k _ _ => Nat.beq k 63) I I1 → (∀ k, k < m → o1 k = o k) →
      ((∃ k, k < m ∧ o k = j) → ∀ x5 : Int32, k9_ok (k9_R S d 210 25 [some (k9_r 12 0), some (k9_i (nI m)), some (k9_i (nI m2)), some (k9_i (nI j)), some (k9_i 1), some (k9_i x5)] [] I1 J) Q) →
      ((∀ k, k < m → o k ≠ j) → ∀ x5 : Int32, k9_ok (k9_R S d 210 25 [some (k9_r 12 0), some (k9_i (nI m)), some (k9_i (nI m2)), some (k9_i (nI j)), some (k9_i 0), some (k9_i x5)] [] I1 J) Q) →
      k9_ok (k9_R S d 210 8 [some (k9_r 12 0), some (k9_i (nI m)), some (k9_i (nI m2)), some (k9_i (nI j)), none, none] [] I1 J) Q := by
    intro Q m2 j o1 I1 hm hj hL1 hx hoo g1 g0
    have lp : ∀ k p (f : Int32), p + k = m → (f = 1 ∧ (∃ k, k < p ∧ o k = j)) ∨ (f = 0 ∧ ∀ k, k < p → o k ≠ j) → k9_ok (k9_R S d 210 12 [some (k9_r 12 0), some (k9_i (nI m)), some (k9_i (nI m2)), some (k9_i (nI j)), some (k9_i f), some (k9_i (nI p))] [] I1 J) Q := by
      intro k
      induction k with
      | zero =>
        intro p f hp hf
        obtain rfl : p = m := by omega
        refine k9o_eq k9e_210_12 (k9o_T (by omega) ?_)
        rcases hf with ⟨rfl, e⟩ | ⟨rfl, e⟩
        · exact g1 e _
        · exact g0 e _
      | succ k ih =>
        intro p f hp hf
        have ap := hL1.1 p (by omega)
        have bp := hL1.2.1 p (by omega)
        have op := hoo p (by omega)
        rw [op] at ap bp
        refine k9o_eq k9e_210_12 (k9o_F (by rw [n_toInt (by omega), n_toInt (by omega)]; omega) (k9o_eq k9e_210_15 (k9o_T (by rw [n_toInt (by omega)]; omega) ?_)))
        rw [n_cl (by omega), ap]
        refine k9o_eq k9e_210_19 ?_
        by_cases e : o p = j
        · refine k9o_T (by rw [e]) (k9o_eq k9e_210_21 (k9o_eq k9e_210_23 ?_))
          rw [nI_1]
          exact ih (p + 1) 1 (by omega) (Or.inl ⟨rfl, p, by omega, e⟩)
        · refine k9o_F (by rw [n_toInt (by omega), n_toInt (by omega)]; omega) (k9o_eq k9e_210_23 ?_)
          rw [nI_1]
          refine ih (p + 1) f (by omega) ?_
          rcases hf with ⟨rfl, k, hk, z⟩ | ⟨rfl, z⟩
          · exact Or.inl ⟨rfl, k, by omega, z⟩
          · exact Or.inr ⟨rfl, fun k hk => by
              by_cases c : k = p
              · rw [c]
                exact e
              · exact z k (by omega)⟩
    rw [k9e_210_8]
    exact lp m 0 0 (by omega) (Or.inr ⟨rfl, fun k hk => by omega⟩)
  have key : ∀ k j m2 o1 I1, j + k = n → m ≤ m2 → k9_Li I1 n m2 o1 → k9_fx (fun k _ _ => Nat.beq k 63) I I1 → (∀ k, k < m → o1 k = o k) → (∀ i, i < j → ∃ k, k < m2 ∧ o1 k = i) → (∀ k, m ≤ k → k < m2 → o1 k < j) → ∃ I' o', k9_ok (k9_R S d 210 4 [some (k9_r 12 0), some (k9_i (nI m)), some (k9_i (nI m2)), some (k9_i (nI j)), none, none] [] I1 J) (fun q => q = (none, I', J)) ∧ k9_Li I' n n o' ∧ k9_fx (fun k _ _ => Nat.beq k 63) I I' := by
    intro k
    induction k with
    | zero =>
      intro j m2 o1 I1 hj hm hL1 hx hoo hs hl
      obtain rfl : j = n := by omega
      have a1 := p_pg hL1.2.1 hL1.2.2
      have a2 := p_full hL1.2.1 hs
      obtain rfl : m2 = j := by omega
      exact ⟨I1, o1, k9o_eq k9e_210_4 (k9o_T (by rw [hx 12 0 0 rfl, h0]; omega) (k9o_eq k9e_210_35 (k9o_ret rfl))), hL1, hx⟩
    | succ k ih =>
      intro j m2 o1 I1 hj hm hL1 hx hoo hs hl
      by_cases c : ∃ k, k < m ∧ o k = j
      · obtain ⟨I2, o2, e2, r2⟩ := ih (j + 1) m2 o1 I1 (by omega) hm hL1 hx hoo (fun i hi => by
          by_cases z : i = j
          · obtain ⟨k, hk, e⟩ := c
            exact ⟨k, by omega, by rw [hoo k hk, e, z]⟩
          · exact hs i (by omega)) (fun k h1 h2 => by
          have := hl k h1 h2
          omega)
        refine ⟨I2, o2, k9o_eq k9e_210_4 (k9o_F (by rw [hx 12 0 0 rfl, h0, n_toInt (by omega), n_toInt (by omega)]; omega) (inn _ m2 j o1 I1 hm (by omega) hL1 hx hoo (fun _ x5 => ?_) (fun z x5 => ?_))), r2⟩
        · refine k9o_eq k9e_210_25 (k9o_F (by decide) (k9o_eq k9e_210_33 ?_))
          rw [nI_1]
          exact e2
        · obtain ⟨k, hk, e⟩ := c
          exact absurd e (z k hk)
      · have hne : ∀ k, k < m2 → o1 k ≠ j := fun k hk e => by
          by_cases z : k < m
          · exact c ⟨k, z, by rw [← hoo k z, e]⟩
          · have := hl k (by omega) hk
            omega
        obtain ⟨hlt, hL2⟩ := k9_Li_a hL1 (show j < n by omega) hne
        obtain ⟨I2, o2, e2, r2⟩ := ih (j + 1) (m2 + 1) _ _ (by omega) (by omega) hL2 (k9_fx_u hx rfl) (fun k hk => by
          show (if k = m2 then j else o1 k) = o k
          rw [if_neg (by omega)]
          exact hoo k hk) (fun i hi => by
          by_cases z : i = j
          · exact ⟨m2, by omega, by rw [if_pos rfl, z]⟩
          · obtain ⟨k, hk, e⟩ := hs i (by omega)
            exact ⟨k, by omega, by rw [if_neg (by omega), e]⟩) (fun k h1 h2 => by
          show (if k = m2 then j else o1 k) < j + 1
          split
          · omega
          · have := hl k h1 (by omega)
            omega)
        refine ⟨I2, o2, k9o_eq k9e_210_4 (k9o_F (by rw [hx 12 0 0 rfl, h0, n_toInt (by omega), n_toInt (by omega)]; omega) (inn _ m2 j o1 I1 hm (by omega) hL1 hx hoo (fun z x5 => absurd z c) (fun _ x5 => ?_))), r2⟩
        refine k9o_eq k9e_210_25 (k9o_T (by decide) (k9o_eq k9e_210_27 (k9o_T (by rw [n_toInt (by omega)]; omega) (k9o_eq k9e_210_33 ?_))))
        rw [n_cl (by omega), nI_1, nI_1]
        exact e2
  obtain ⟨I2, o2, e2, r2⟩ := key n 0 m o I (by omega) (Nat.le_refl _) hL (k9_fx_rf _ _) (fun _ _ => rfl) (fun i hi => by omega) (fun k h1 h2 => by omega)
  exact ⟨I2, o2, k9o_of (k9o_eq k9e_210_0 e2), r2⟩
end KT33
