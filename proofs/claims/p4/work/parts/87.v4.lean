/-! THE LAW'S TEXT: the reference reads it -/
section KV4
variable {S : k9_S} {d : Nat} {I I' : k9_I} {J J' : k9_J} {n a c f lv op v : Nat} {l : Nat → Nat} {ts : List Nat}
/-- the reference's code of a token -/
def p_tkm (c : Nat) : Nat := if c < 10000 then 18 + c else if c = 10098 then 1 else if c = 10102 then 0 else if c = 10115 then 2 else if c = 10116 then 3 else if c = 10108 then 4 else if c = 10110 then 5 else if c = 10124 then 6 else if c = 10038 then 7 else if c = 10060 then 8 else if c = 10061 then 9 else if c = 10062 then 10 else if c = 10043 then 11 else if c = 10045 then 12 else if c = 10042 then 13 else if c = 10047 then 14 else if c = 10037 then 15 else if c = 10033 then 16 else 17
def k9_Tm (I : k9_I) (n : Nat) (l : Nat → Nat) (a op : Nat) (ts : List Nat) : Prop := n ≤ 120 ∧ (∀ p, p < n → l p ≤ 255) ∧ I 12 0 6 = nI n ∧ (∀ p, p < n → I 45 0 p = nI (l p)) ∧ I 12 0 14 = nI a ∧ I 12 0 16 = nI ts.length ∧ (∀ i, i < ts.length → I 53 0 i = nI (p_tkm (ts.getD i 0))) ∧ I 12 0 15 = nI op
def k9_Ftm (k _ p : Nat) : Bool := Nat.beq k 53 || (Nat.beq k 12 && (Nat.beq p 14 || Nat.beq p 15 || Nat.beq p 16))
theorem k9_Tm_p (h : k9_Tm I n l a op ts) (b : Nat) : k9_Tm (k9_u I 12 0 14 (nI b)) n l b op ts := by
  obtain ⟨h1, h2, h3, h4, h5, h6, h7, h8⟩ := h
  exact ⟨h1, h2, by simp [k9_ur, h3], fun p hp => by simp [k9_ur, h4 p hp], by simp [k9_ur], by simp [k9_ur, h6], fun i hi => by
    have := h7 i hi
    simpa [k9_ur] using this, by simp [k9_ur, h8]⟩
theorem k9_Tm_o (h : k9_Tm I n l a op ts) (b : Nat) : k9_Tm (k9_u I 12 0 15 (nI b)) n l a b ts := by
  obtain ⟨h1, h2, h3, h4, h5, h6, h7, h8⟩ := h
  exact ⟨h1, h2, by simp [k9_ur, h3], fun p hp => by simp [k9_ur, h4 p hp], by simp [k9_ur, h5], by simp [k9_ur, h6], fun i hi => by
    have := h7 i hi
    simpa [k9_ur] using this, by simp [k9_ur]⟩
theorem k9s_169 (h : k9_Tm I n l a op ts) (ha : a ≤ 120) : k9_R S d 169 0 [some (k9_r 12 0)] [] I J = some (some (k9_i (p_lx (p_lt n l a))), I, J) := by
  obtain ⟨h1, h2, h3, h4, h5, h6, h7, h8⟩ := h
  refine k9o_of (k9o_eq k9e_169_0 ?_)
  by_cases e : a < n
  · have el : p_lt n l a = l a := if_pos e
    have := h2 a e
    rw [el, p_lx_n (show l a ≤ 255 from this)]
    refine k9o_F (by rw [h3, h5, n_toInt (by omega), n_toInt (by omega)]; omega) (k9o_eq k9e_169_5 (k9o_T (by rw [h5, n_toInt (by omega)]; omega) ?_))
    rw [h5, n_cl (by omega), h4 a e]
    exact k9o_eq k9e_169_10 (k9o_eq k9e_169_12 (k9o_ret rfl))
  · have el : p_lt n l a = 999 := if_neg e
    rw [el]
    exact k9o_T (by rw [h3, h5, n_toInt (by omega), n_toInt (by omega)]; omega) (k9o_eq k9e_169_11 (k9o_eq k9e_169_12 (k9o_ret rfl)))
theorem k9s_170 (h : k9_Tm I n l a op ts) (ha : a ≤ 120) (hc : c ≤ 255) : k9_R S (d + 1) 170 0 [some (k9_r 12 0), some (k9_i (nI c))] [] I J = some (some (k9_i (nI (if p_lt n l a = c then 1 else 0))), (if p_lt n l a = c then k9_u I 12 0 14 (nI (a + 1)) else I), J) := by
  have hl := p_lt_o h.2.1 a
  have h5 := h.2.2.2.2.1
  refine k9o_of (k9o_eq k9e_170_0 (k9o_call (k9s_169 h ha) ?_))
  simp only [k9_ps_s]
  refine k9o_eq k9e_170_2 ?_
  by_cases e : p_lt n l a = c
  · rw [if_pos e, if_pos e]
    refine k9o_T (by rw [n_toInt (n := c) (by omega)]; omega) (k9o_eq k9e_170_6 (k9o_ret ?_))
    rw [h5, nI_1]
    rfl
  · rw [if_neg e, if_neg e]
    exact k9o_F (by rw [n_toInt (n := c) (by omega)]; omega) (k9o_eq k9e_170_4 (k9o_ret rfl))
theorem k9s_171 (h : k9_Tm I n l a op ts) (ht : ts.length < 200) : ∃ I', k9_R S d 171 0 [some (k9_r 12 0), some (k9_i (nI (p_tkm c)))] [] I J = some (some (k9_i (nI 1)), I', J) ∧ k9_Tm I' n l a op (ts ++ [c]) ∧ k9_fx k9_Ftm I I' := by
  obtain ⟨h1, h2, h3, h4, h5, h6, h7, h8⟩ := h
  refine ⟨k9_u (k9_u I 12 0 16 (nI (ts.length + 1))) 53 0 ts.length (nI (p_tkm c)), ?_, ⟨h1, h2, by simp [k9_ur, h3], fun p hp => by simp [k9_ur, h4 p hp], by simp [k9_ur, h5], by simp [k9_ur], fun i hi => ?_, by simp [k9_ur, h8]⟩, k9_fx_u (k9_fx_u (k9_fx_rf _ _) rfl) rfl⟩
  · refine k9o_of (k9o_eq k9e_171_0 ?_)
    rw [h6, nI_1]
    refine k9o_T (by rw [n_toInt (by omega)]; omega) ?_
    rw [n_cl (by omega)]
    exact k9o_eq k9e_171_11 (k9o_ret rfl)
  · rw [List.length_append, List.length_singleton] at hi
    by_cases e : i = ts.length
    · subst e
      simp [k9_ur, List.getD_eq_getElem?_getD]
    · have := h7 i (by omega)
      rw [show (ts ++ [c]).getD i 0 = ts.getD i 0 by simp [List.getD_eq_getElem?_getD, List.getElem?_append_left (show i < ts.length by omega)]]
      simpa [k9_ur, e] using this
theorem k9s_172 (h : k9_Tm I n l a op ts) (ha : a ≤ 120) : k9_R S (d + 1) 172 0 [some (k9_r 12 0)] [] I J = some (some (k9_i (nI (if 48 ≤ p_lt n l a ∧ p_lt n l a ≤ 57 then 1 else 0))), I, J) := by
  have hl := p_lt_o h.2.1 a
  have e169 := k9s_169 (S := S) (d := d) (J := J) h ha
  refine k9o_of (k9o_eq k9e_172_0 (k9o_call e169 ?_))
  simp only [k9_ps_s]
  refine k9o_eq k9e_172_2 ?_
  by_cases e : 48 ≤ p_lt n l a ∧ p_lt n l a ≤ 57
  · rw [if_pos e]
    refine k9o_F (by omega) (k9o_eq k9e_172_4 (k9o_call e169 ?_))
    simp only [k9_ps_s]
    exact k9o_eq k9e_172_6 (k9o_F (by omega) (k9o_eq k9e_172_8 (k9o_eq k9e_172_11 (k9o_T (by decide) (k9o_ret rfl)))))
  · rw [if_neg e]
    by_cases e2 : (p_lx (p_lt n l a)).toInt < 48
    · exact k9o_T e2 (k9o_eq k9e_172_10 (k9o_eq k9e_172_11 (k9o_T (by decide) (k9o_ret rfl))))
    · refine k9o_F e2 (k9o_eq k9e_172_4 (k9o_call e169 ?_))
      simp only [k9_ps_s]
      exact k9o_eq k9e_172_6 (k9o_T (by omega) (k9o_eq k9e_172_10 (k9o_eq k9e_172_11 (k9o_T (by decide) (k9o_ret rfl)))))
theorem k9s_173 (hl : (c = 999 ∧ (p_lx c).toInt = -1) ∨ (c ≤ 255 ∧ (p_lx c).toInt = (c : Int))) : k9_R S d 173 0 [some (k9_i (p_lx c))] [] I J = some (some (k9_i (if p_na c then nI (p_tkm (10000 + c)) else -1)), I, J) := by
  refine k9o_of (k9o_eq k9e_173_0 ?_)
  by_cases e : p_na c
  · rw [if_pos e]
    rcases e with rfl | rfl | rfl | rfl | rfl | rfl
    all_goals repeat (first | ((with_reducible refine k9q_T ?_ ?_); · omega) | ((with_reducible refine k9q_F ?_ ?_); · omega) | ((with_reducible refine k9q_Tb ?_ ?_); · omega) | ((with_reducible refine k9q_Fb ?_ ?_); · omega))
    · exact k9o_eq k9e_173_2 (k9o_ret rfl)
    · exact k9o_eq k9e_173_4 (k9o_ret rfl)
    · exact k9o_eq k9e_173_6 (k9o_ret rfl)
    · exact k9o_eq k9e_173_8 (k9o_ret rfl)
    · exact k9o_eq k9e_173_10 (k9o_ret rfl)
    · exact k9o_eq k9e_173_12 (k9o_ret rfl)
  · rw [if_neg e]
    have e' : ¬ (c = 98 ∨ c = 102 ∨ c = 115 ∨ c = 116 ∨ c = 108 ∨ c = 110) := e
    repeat' (first | ((with_reducible refine k9q_F ?_ ?_); · omega) | (with_reducible refine k9q_if (fun _ => ?_) (fun _ => ?_)))
    all_goals exact k9o_eq k9e_173_14 (k9o_ret rfl)
def k9_mL (lv : Nat) : List (Option k9_v) := if lv = 0 then [none, none] else if lv ≤ 3 then [none] else []
def k9_M1 (S : k9_S) (n : Nat) (l : Nat → Nat) (f : Nat) : Prop := ∀ (d : Nat) (I : k9_I) (J : k9_J) (lv op a : Nat) (ts : List Nat), k9_Tm I n l a op ts → a ≤ n → ts.length ≤ a → lv ≤ 5 → op ≤ 6 → (6 - op) * 6 + lv < f → ∃ I', k9_R S (d + f + 3) (174 + lv) 0 (some (k9_r 12 0) :: k9_mL lv) [] I J = some (some (k9_i (nI (p_b (p_rd n l f lv op a).1))), I', J) ∧ k9_Tm I' n l (p_rd n l f lv op a).2.1 op (ts ++ (p_rd n l f lv op a).2.2) ∧ k9_fx k9_Ftm I I'
theorem k9s_175 (h1 : k9_M1 S n l f) (hT : k9_Tm I n l a op ts) (ha : a ≤ n) (hts : ts.length ≤ a) (hop : op ≤ 6) (hf : (6 - op) * 6 + 0 < f) : ∃ I', k9_R S (d + f + 4) 175 0 [some (k9_r 12 0), none] [] I J = some (some (k9_i (nI (p_b (p_lc n l (p_rd n l f 0 op) 1 a).1))), I', J) ∧ k9_Tm I' n l (p_lc n l (p_rd n l f 0 op) 1 a).2.1 op (ts ++ (p_lc n l (p_rd n l f 0 op) 1 a).2.2) ∧ k9_fx k9_Ftm I I' := by
  have sub : ∀ (I : k9_I) (a : Nat) (ts : List Nat), k9_Tm I n l a op ts → a ≤ n → ts.length ≤ a → ∃ I', k9_R S (d + f + 3) 174 0 [some (k9_r 12 0), none, none] [] I J = some (some (k9_i (nI (p_b (p_rd n l f 0 op a).1))), I', J) ∧ k9_Tm I' n l (p_rd n l f 0 op a).2.1 op (ts ++ (p_rd n l f 0 op a).2.2) ∧ k9_fx k9_Ftm I I' := fun I a ts g1 g2 g3 => h1 d I J 0 op a ts g1 g2 g3 (by omega) hop hf
  have hn := hT.1
  obtain ⟨I1, e1, T1, x1⟩ := sub I a ts hT ha hts
  have hk := p_rd_k n l f 0 op
  obtain ⟨k1, k2, k3, k4⟩ := hk a ha
  unfold p_lc
  by_cases r1 : (p_rd n l f 0 op a).1 = true
  · rw [if_pos r1]
    rw [p_b_T r1] at e1
    have stop : ∀ (b : Nat) (ts' : List Nat) (I2 : k9_I), k9_Tm I2 n l b op ts' → b ≤ n → ¬ p_jn 1 (p_lt n l b) → k9_ok (k9_R S (d + f + 4) 175 5 [some (k9_r 12 0), none] [] I2 J) (fun q => q = (some (k9_i (nI 1)), I2, J)) := by
      intro b ts' I2 T2 hb c
      have hl := p_lt_o T2.2.1 b
      have c' : ¬ (p_lt n l b = 42 ∨ p_lt n l b = 47 ∨ p_lt n l b = 37) := fun z => c (by simp only [p_jn]; omega)
      have e169 := k9s_169 (S := S) (d := d + f + 3) (J := J) T2 (by omega)
      refine k9o_eq k9e_175_5 (k9o_call e169 ?_)
      simp only [k9_ps_s]
      refine k9o_eq k9e_175_7 (k9o_F (by omega) ?_)
      refine k9o_eq k9e_175_11 (k9o_call e169 ?_)
      simp only [k9_ps_s]
      refine k9o_eq k9e_175_13 (k9o_F (by omega) ?_)
      refine k9o_eq k9e_175_17 (k9o_call e169 ?_)
      simp only [k9_ps_s]
      refine k9o_eq k9e_175_19 (k9o_F (by omega) ?_)
      exact k9o_eq k9e_175_23 (k9o_eq k9e_175_24 (k9o_F (by decide) (k9o_eq k9e_175_27 (k9o_ret rfl))))
    have step : ∀ (b : Nat) (ts' : List Nat) (I2 I4 : k9_I) (z : Nat) (Q : k9_A → Prop), k9_Tm I2 n l b op ts' → b ≤ n → p_jn 1 (p_lt n l b) → k9_R S (d + f + 3) 174 0 [some (k9_r 12 0), none, none] [] (k9_u I2 12 0 14 (nI (b + 1))) J = some (some (k9_i (nI z)), I4, J) → k9_ok (k9_R S (d + f + 4) 175 37 [some (k9_r 12 0), some (k9_i (nI (p_tkm (10000 + p_lt n l b))))] [k9_i (nI z)] I4 J) Q → k9_ok (k9_R S (d + f + 4) 175 5 [some (k9_r 12 0), none] [] I2 J) Q := by
      intro b ts' I2 I4 z Q T2 hb c e4 g
      have hl := p_lt_o T2.2.1 b
      have e169 := k9s_169 (S := S) (d := d + f + 3) (J := J) T2 (by omega)
      have c' : p_lt n l b = 42 ∨ p_lt n l b = 47 ∨ p_lt n l b = 37 := by simp only [p_jn] at c; omega
      have fin : ∀ (k : Nat), k ≤ 17 → k = p_tkm (10000 + p_lt n l b) → k9_ok (k9_R S (d + f + 4) 175 24 [some (k9_r 12 0), none] [k9_i (nI k)] I2 J) Q := by
        intro k hk17 ek
        refine k9o_eq k9e_175_24 (k9o_T (by rw [n_toInt (by omega)]; omega) (k9o_eq k9e_175_29 ?_))
        rw [T2.2.2.2.2.1, nI_1]
        refine k9o_call e4 ?_
        simp only [k9_ps_s]
        rw [ek]
        exact g
      rcases c' with c' | c' | c'
      · refine k9o_eq k9e_175_5 (k9o_call e169 ?_)
        simp only [k9_ps_s]
        refine k9o_eq k9e_175_7 (k9o_T (by omega) ?_)
        exact k9o_eq k9e_175_9 (fin 13 (by omega) (by rw [c']; rfl))
      · refine k9o_eq k9e_175_5 (k9o_call e169 ?_)
        simp only [k9_ps_s]
        refine k9o_eq k9e_175_7 (k9o_F (by omega) ?_)
        refine k9o_eq k9e_175_11 (k9o_call e169 ?_)
        simp only [k9_ps_s]
        refine k9o_eq k9e_175_13 (k9o_T (by omega) ?_)
        exact k9o_eq k9e_175_15 (fin 14 (by omega) (by rw [c']; rfl))
      · refine k9o_eq k9e_175_5 (k9o_call e169 ?_)
        simp only [k9_ps_s]
        refine k9o_eq k9e_175_7 (k9o_F (by omega) ?_)
        refine k9o_eq k9e_175_11 (k9o_call e169 ?_)
        simp only [k9_ps_s]
        refine k9o_eq k9e_175_13 (k9o_F (by omega) ?_)
        refine k9o_eq k9e_175_17 (k9o_call e169 ?_)
        simp only [k9_ps_s]
        refine k9o_eq k9e_175_19 (k9o_T (by omega) ?_)
        exact k9o_eq k9e_175_21 (fin 15 (by omega) (by rw [c']; rfl))
    have key : ∀ (k b : Nat) (ts' : List Nat) (I2 : k9_I), n ≤ b + k → k9_Tm I2 n l b op ts' → b ≤ n → ts'.length ≤ b → ∃ I3, k9_R S (d + f + 4) 175 5 [some (k9_r 12 0), none] [] I2 J = some (some (k9_i (nI (p_b (p_lp n l (p_rd n l f 0 op) 1 k b).1))), I3, J) ∧ k9_Tm I3 n l (p_lp n l (p_rd n l f 0 op) 1 k b).2.1 op (ts' ++ (p_lp n l (p_rd n l f 0 op) 1 k b).2.2) ∧ k9_fx k9_Ftm I2 I3 := by
      intro k
      induction k with
      | zero =>
        intro b ts' I2 hk T2 hb ht
        have el : p_lt n l b = 999 := if_neg (by omega)
        exact ⟨I2, k9o_of (stop b ts' I2 T2 hb (by rw [el]; decide)), by rw [p_lp, List.append_nil]; exact T2, k9_fx_rf _ _⟩
      | succ k ih =>
        intro b ts' I2 hkk T2 hb ht
        rw [p_lp]
        by_cases c : p_jn 1 (p_lt n l b)
        · rw [if_pos c]
          have hbn : b < n := p_lt_n (n := n) (l := l) (by simp only [p_jn] at c; omega)
          obtain ⟨I4, e4, T4, x4⟩ := sub (k9_u I2 12 0 14 (nI (b + 1))) (b + 1) ts' (k9_Tm_p T2 _) hbn (by omega)
          have x4' : k9_fx k9_Ftm I2 I4 := k9_fx_tr (k9_fx_u (k9_fx_rf _ _) rfl) x4
          obtain ⟨j1, j2, j3, j4⟩ := hk (b + 1) hbn
          by_cases r2 : (p_rd n l f 0 op (b + 1)).1 = true
          · rw [if_pos r2]
            rw [p_b_T r2] at e4
            obtain ⟨I5, e6, T5, x5⟩ := k9s_171 (S := S) (d := d + f + 3) (J := J) (c := 10000 + p_lt n l b) T4 (by rw [List.length_append]; omega)
            obtain ⟨I6, e7, T6, x6⟩ := ih (p_rd n l f 0 op (b + 1)).2.1 _ I5 (by omega) T5 j2 (by rw [List.length_append, List.length_append, List.length_singleton]; omega)
            rw [List.append_assoc, List.append_assoc, List.singleton_append] at T6
            refine ⟨I6, k9o_of (step b ts' I2 I4 1 _ T2 hb c e4 (k9o_eq k9e_175_37 (k9o_F (by decide) (k9o_eq k9e_175_40 (k9o_call e6 ?_))))), T6, k9_fx_tr (k9_fx_tr x4' x5) x6⟩
            simp only [k9_ps_s]
            exact k9o_eq k9e_175_43 (k9o_to e7 rfl)
          · rw [if_neg r2]
            rw [p_b_F r2] at e4
            exact ⟨I4, k9o_of (step b ts' I2 I4 0 _ T2 hb c e4 (k9o_eq k9e_175_37 (k9o_T (by decide) (k9o_eq k9e_175_38 (k9o_ret rfl))))), T4, x4'⟩
        · rw [if_neg c]
          exact ⟨I2, k9o_of (stop b ts' I2 T2 hb c), by rw [List.append_nil]; exact T2, k9_fx_rf _ _⟩
    obtain ⟨I3, e3, T3, x3⟩ := key 120 (p_rd n l f 0 op a).2.1 _ I1 (by omega) T1 k2 (by rw [List.length_append]; omega)
    rw [List.append_assoc] at T3
    refine ⟨I3, k9o_of (k9o_eq k9e_175_0 (k9o_call e1 ?_)), T3, k9_fx_tr x1 x3⟩
    simp only [k9_ps_s]
    exact k9o_eq k9e_175_2 (k9o_F (by decide) (k9o_to e3 rfl))
  · rw [if_neg r1]
    rw [p_b_F r1] at e1
    refine ⟨I1, k9o_of (k9o_eq k9e_175_0 (k9o_call e1 ?_)), T1, x1⟩
    simp only [k9_ps_s]
    exact k9o_eq k9e_175_2 (k9o_T (by decide) (k9o_eq k9e_175_3 (k9o_ret rfl)))
theorem k9s_176 (h1 : k9_M1 S n l f) (hT : k9_Tm I n l a op ts) (ha : a ≤ n) (hts : ts.length ≤ a) (hop : op ≤ 6) (hf : (6 - op) * 6 + 1 < f) : ∃ I', k9_R S (d + f + 4) 176 0 [some (k9_r 12 0), none] [] I J = some (some (k9_i (nI (p_b (p_lc n l (p_rd n l f 1 op) 2 a).1))), I', J) ∧ k9_Tm I' n l (p_lc n l (p_rd n l f 1 op) 2 a).2.1 op (ts ++ (p_lc n l (p_rd n l f 1 op) 2 a).2.2) ∧ k9_fx k9_Ftm I I' := by
  have sub : ∀ (I : k9_I) (a : Nat) (ts : List Nat), k9_Tm I n l a op ts → a ≤ n → ts.length ≤ a → ∃ I', k9_R S (d + f + 3) 175 0 [some (k9_r 12 0), none] [] I J = some (some (k9_i (nI (p_b (p_rd n l f 1 op a).1))), I', J) ∧ k9_Tm I' n l (p_rd n l f 1 op a).2.1 op (ts ++ (p_rd n l f 1 op a).2.2) ∧ k9_fx k9_Ftm I I' := fun I a ts g1 g2 g3 => h1 d I J 1 op a ts g1 g2 g3 (by omega) hop hf
  have hn := hT.1
  obtain ⟨I1, e1, T1, x1⟩ := sub I a ts hT ha hts
  have hk := p_rd_k n l f 1 op
  obtain ⟨k1, k2, k3, k4⟩ := hk a ha
  unfold p_lc
  by_cases r1 : (p_rd n l f 1 op a).1 = true
  · rw [if_pos r1]
    rw [p_b_T r1] at e1
    have stop : ∀ (b : Nat) (ts' : List Nat) (I2 : k9_I), k9_Tm I2 n l b op ts' → b ≤ n → ¬ p_jn 2 (p_lt n l b) → k9_ok (k9_R S (d + f + 4) 176 5 [some (k9_r 12 0), none] [] I2 J) (fun q => q = (some (k9_i (nI 1)), I2, J)) := by
      intro b ts' I2 T2 hb c
      have hl := p_lt_o T2.2.1 b
      have c' : ¬ (p_lt n l b = 43 ∨ p_lt n l b = 45) := fun z => c (by simp only [p_jn]; omega)
      have e169 := k9s_169 (S := S) (d := d + f + 3) (J := J) T2 (by omega)
      refine k9o_eq k9e_176_5 (k9o_call e169 ?_)
      simp only [k9_ps_s]
      refine k9o_eq k9e_176_7 (k9o_F (by omega) ?_)
      refine k9o_eq k9e_176_11 (k9o_call e169 ?_)
      simp only [k9_ps_s]
      refine k9o_eq k9e_176_13 (k9o_F (by omega) ?_)
      exact k9o_eq k9e_176_17 (k9o_eq k9e_176_18 (k9o_F (by decide) (k9o_eq k9e_176_21 (k9o_ret rfl))))
    have step : ∀ (b : Nat) (ts' : List Nat) (I2 I4 : k9_I) (z : Nat) (Q : k9_A → Prop), k9_Tm I2 n l b op ts' → b ≤ n → p_jn 2 (p_lt n l b) → k9_R S (d + f + 3) 175 0 [some (k9_r 12 0), none] [] (k9_u I2 12 0 14 (nI (b + 1))) J = some (some (k9_i (nI z)), I4, J) → k9_ok (k9_R S (d + f + 4) 176 31 [some (k9_r 12 0), some (k9_i (nI (p_tkm (10000 + p_lt n l b))))] [k9_i (nI z)] I4 J) Q → k9_ok (k9_R S (d + f + 4) 176 5 [some (k9_r 12 0), none] [] I2 J) Q := by
      intro b ts' I2 I4 z Q T2 hb c e4 g
      have hl := p_lt_o T2.2.1 b
      have e169 := k9s_169 (S := S) (d := d + f + 3) (J := J) T2 (by omega)
      have c' : p_lt n l b = 43 ∨ p_lt n l b = 45 := by simp only [p_jn] at c; omega
      have fin : ∀ (k : Nat), k ≤ 17 → k = p_tkm (10000 + p_lt n l b) → k9_ok (k9_R S (d + f + 4) 176 18 [some (k9_r 12 0), none] [k9_i (nI k)] I2 J) Q := by
        intro k hk17 ek
        refine k9o_eq k9e_176_18 (k9o_T (by rw [n_toInt (by omega)]; omega) (k9o_eq k9e_176_23 ?_))
        rw [T2.2.2.2.2.1, nI_1]
        refine k9o_call e4 ?_
        simp only [k9_ps_s]
        rw [ek]
        exact g
      rcases c' with c' | c'
      · refine k9o_eq k9e_176_5 (k9o_call e169 ?_)
        simp only [k9_ps_s]
        refine k9o_eq k9e_176_7 (k9o_T (by omega) ?_)
        exact k9o_eq k9e_176_9 (fin 11 (by omega) (by rw [c']; rfl))
      · refine k9o_eq k9e_176_5 (k9o_call e169 ?_)
        simp only [k9_ps_s]
        refine k9o_eq k9e_176_7 (k9o_F (by omega) ?_)
        refine k9o_eq k9e_176_11 (k9o_call e169 ?_)
        simp only [k9_ps_s]
        refine k9o_eq k9e_176_13 (k9o_T (by omega) ?_)
        exact k9o_eq k9e_176_15 (fin 12 (by omega) (by rw [c']; rfl))
    have key : ∀ (k b : Nat) (ts' : List Nat) (I2 : k9_I), n ≤ b + k → k9_Tm I2 n l b op ts' → b ≤ n → ts'.length ≤ b → ∃ I3, k9_R S (d + f + 4) 176 5 [some (k9_r 12 0), none] [] I2 J = some (some (k9_i (nI (p_b (p_lp n l (p_rd n l f 1 op) 2 k b).1))), I3, J) ∧ k9_Tm I3 n l (p_lp n l (p_rd n l f 1 op) 2 k b).2.1 op (ts' ++ (p_lp n l (p_rd n l f 1 op) 2 k b).2.2) ∧ k9_fx k9_Ftm I2 I3 := by
      intro k
      induction k with
      | zero =>
        intro b ts' I2 hk T2 hb ht
        have el : p_lt n l b = 999 := if_neg (by omega)
        exact ⟨I2, k9o_of (stop b ts' I2 T2 hb (by rw [el]; decide)), by rw [p_lp, List.append_nil]; exact T2, k9_fx_rf _ _⟩
      | succ k ih =>
        intro b ts' I2 hkk T2 hb ht
        rw [p_lp]
        by_cases c : p_jn 2 (p_lt n l b)
        · rw [if_pos c]
          have hbn : b < n := p_lt_n (n := n) (l := l) (by simp only [p_jn] at c; omega)
          obtain ⟨I4, e4, T4, x4⟩ := sub (k9_u I2 12 0 14 (nI (b + 1))) (b + 1) ts' (k9_Tm_p T2 _) hbn (by omega)
          have x4' : k9_fx k9_Ftm I2 I4 := k9_fx_tr (k9_fx_u (k9_fx_rf _ _) rfl) x4
          obtain ⟨j1, j2, j3, j4⟩ := hk (b + 1) hbn
          by_cases r2 : (p_rd n l f 1 op (b + 1)).1 = true
          · rw [if_pos r2]
            rw [p_b_T r2] at e4
            obtain ⟨I5, e6, T5, x5⟩ := k9s_171 (S := S) (d := d + f + 3) (J := J) (c := 10000 + p_lt n l b) T4 (by rw [List.length_append]; omega)
            obtain ⟨I6, e7, T6, x6⟩ := ih (p_rd n l f 1 op (b + 1)).2.1 _ I5 (by omega) T5 j2 (by rw [List.length_append, List.length_append, List.length_singleton]; omega)
            rw [List.append_assoc, List.append_assoc, List.singleton_append] at T6
            refine ⟨I6, k9o_of (step b ts' I2 I4 1 _ T2 hb c e4 (k9o_eq k9e_176_31 (k9o_F (by decide) (k9o_eq k9e_176_34 (k9o_call e6 ?_))))), T6, k9_fx_tr (k9_fx_tr x4' x5) x6⟩
            simp only [k9_ps_s]
            exact k9o_eq k9e_176_37 (k9o_to e7 rfl)
          · rw [if_neg r2]
            rw [p_b_F r2] at e4
            exact ⟨I4, k9o_of (step b ts' I2 I4 0 _ T2 hb c e4 (k9o_eq k9e_176_31 (k9o_T (by decide) (k9o_eq k9e_176_32 (k9o_ret rfl))))), T4, x4'⟩
        · rw [if_neg c]
          exact ⟨I2, k9o_of (stop b ts' I2 T2 hb c), by rw [List.append_nil]; exact T2, k9_fx_rf _ _⟩
    obtain ⟨I3, e3, T3, x3⟩ := key 120 (p_rd n l f 1 op a).2.1 _ I1 (by omega) T1 k2 (by rw [List.length_append]; omega)
    rw [List.append_assoc] at T3
    refine ⟨I3, k9o_of (k9o_eq k9e_176_0 (k9o_call e1 ?_)), T3, k9_fx_tr x1 x3⟩
    simp only [k9_ps_s]
    exact k9o_eq k9e_176_2 (k9o_F (by decide) (k9o_to e3 rfl))
  · rw [if_neg r1]
    rw [p_b_F r1] at e1
    refine ⟨I1, k9o_of (k9o_eq k9e_176_0 (k9o_call e1 ?_)), T1, x1⟩
    simp only [k9_ps_s]
    exact k9o_eq k9e_176_2 (k9o_T (by decide) (k9o_eq k9e_176_3 (k9o_ret rfl)))
theorem k9s_177 (h1 : k9_M1 S n l f) (hT : k9_Tm I n l a op ts) (ha : a ≤ n) (hts : ts.length ≤ a) (hop : op ≤ 6) (hf : (6 - op) * 6 + 2 < f) : ∃ I', k9_R S (d + f + 4) 177 0 [some (k9_r 12 0), none] [] I J = some (some (k9_i (nI (p_b (p_lc n l (p_rd n l f 2 op) 3 a).1))), I', J) ∧ k9_Tm I' n l (p_lc n l (p_rd n l f 2 op) 3 a).2.1 op (ts ++ (p_lc n l (p_rd n l f 2 op) 3 a).2.2) ∧ k9_fx k9_Ftm I I' := by
  have sub : ∀ (I : k9_I) (a : Nat) (ts : List Nat), k9_Tm I n l a op ts → a ≤ n → ts.length ≤ a → ∃ I', k9_R S (d + f + 3) 176 0 [some (k9_r 12 0), none] [] I J = some (some (k9_i (nI (p_b (p_rd n l f 2 op a).1))), I', J) ∧ k9_Tm I' n l (p_rd n l f 2 op a).2.1 op (ts ++ (p_rd n l f 2 op a).2.2) ∧ k9_fx k9_Ftm I I' := fun I a ts g1 g2 g3 => h1 d I J 2 op a ts g1 g2 g3 (by omega) hop hf
  have hn := hT.1
  obtain ⟨I1, e1, T1, x1⟩ := sub I a ts hT ha hts
  have hk := p_rd_k n l f 2 op
  obtain ⟨k1, k2, k3, k4⟩ := hk a ha
  unfold p_lc
  by_cases r1 : (p_rd n l f 2 op a).1 = true
  · rw [if_pos r1]
    rw [p_b_T r1] at e1
    have stop : ∀ (b : Nat) (ts' : List Nat) (I2 : k9_I), k9_Tm I2 n l b op ts' → b ≤ n → ¬ p_jn 3 (p_lt n l b) → k9_ok (k9_R S (d + f + 4) 177 5 [some (k9_r 12 0), none] [] I2 J) (fun q => q = (some (k9_i (nI 1)), I2, J)) := by
      intro b ts' I2 T2 hb c
      have hl := p_lt_o T2.2.1 b
      have c' : ¬ (p_lt n l b = 60 ∨ p_lt n l b = 61 ∨ p_lt n l b = 62) := fun z => c (by simp only [p_jn]; omega)
      have e169 := k9s_169 (S := S) (d := d + f + 3) (J := J) T2 (by omega)
      refine k9o_eq k9e_177_5 (k9o_call e169 ?_)
      simp only [k9_ps_s]
      refine k9o_eq k9e_177_7 (k9o_F (by omega) ?_)
      refine k9o_eq k9e_177_11 (k9o_call e169 ?_)
      simp only [k9_ps_s]
      refine k9o_eq k9e_177_13 (k9o_F (by omega) ?_)
      refine k9o_eq k9e_177_17 (k9o_call e169 ?_)
      simp only [k9_ps_s]
      refine k9o_eq k9e_177_19 (k9o_F (by omega) ?_)
      exact k9o_eq k9e_177_23 (k9o_eq k9e_177_24 (k9o_F (by decide) (k9o_eq k9e_177_27 (k9o_ret rfl))))
    have step : ∀ (b : Nat) (ts' : List Nat) (I2 I4 : k9_I) (z : Nat) (Q : k9_A → Prop), k9_Tm I2 n l b op ts' → b ≤ n → p_jn 3 (p_lt n l b) → k9_R S (d + f + 3) 176 0 [some (k9_r 12 0), none] [] (k9_u I2 12 0 14 (nI (b + 1))) J = some (some (k9_i (nI z)), I4, J) → k9_ok (k9_R S (d + f + 4) 177 37 [some (k9_r 12 0), some (k9_i (nI (p_tkm (10000 + p_lt n l b))))] [k9_i (nI z)] I4 J) Q → k9_ok (k9_R S (d + f + 4) 177 5 [some (k9_r 12 0), none] [] I2 J) Q := by
      intro b ts' I2 I4 z Q T2 hb c e4 g
      have hl := p_lt_o T2.2.1 b
      have e169 := k9s_169 (S := S) (d := d + f + 3) (J := J) T2 (by omega)
      have c' : p_lt n l b = 60 ∨ p_lt n l b = 61 ∨ p_lt n l b = 62 := by simp only [p_jn] at c; omega
      have fin : ∀ (k : Nat), k ≤ 17 → k = p_tkm (10000 + p_lt n l b) → k9_ok (k9_R S (d + f + 4) 177 24 [some (k9_r 12 0), none] [k9_i (nI k)] I2 J) Q := by
        intro k hk17 ek
        refine k9o_eq k9e_177_24 (k9o_T (by rw [n_toInt (by omega)]; omega) (k9o_eq k9e_177_29 ?_))
        rw [T2.2.2.2.2.1, nI_1]
        refine k9o_call e4 ?_
        simp only [k9_ps_s]
        rw [ek]
        exact g
      rcases c' with c' | c' | c'
      · refine k9o_eq k9e_177_5 (k9o_call e169 ?_)
        simp only [k9_ps_s]
        refine k9o_eq k9e_177_7 (k9o_T (by omega) ?_)
        exact k9o_eq k9e_177_9 (fin 8 (by omega) (by rw [c']; rfl))
      · refine k9o_eq k9e_177_5 (k9o_call e169 ?_)
        simp only [k9_ps_s]
        refine k9o_eq k9e_177_7 (k9o_F (by omega) ?_)
        refine k9o_eq k9e_177_11 (k9o_call e169 ?_)
        simp only [k9_ps_s]
        refine k9o_eq k9e_177_13 (k9o_T (by omega) ?_)
        exact k9o_eq k9e_177_15 (fin 9 (by omega) (by rw [c']; rfl))
      · refine k9o_eq k9e_177_5 (k9o_call e169 ?_)
        simp only [k9_ps_s]
        refine k9o_eq k9e_177_7 (k9o_F (by omega) ?_)
        refine k9o_eq k9e_177_11 (k9o_call e169 ?_)
        simp only [k9_ps_s]
        refine k9o_eq k9e_177_13 (k9o_F (by omega) ?_)
        refine k9o_eq k9e_177_17 (k9o_call e169 ?_)
        simp only [k9_ps_s]
        refine k9o_eq k9e_177_19 (k9o_T (by omega) ?_)
        exact k9o_eq k9e_177_21 (fin 10 (by omega) (by rw [c']; rfl))
    have key : ∀ (b : Nat) (ts' : List Nat) (I2 : k9_I), k9_Tm I2 n l b op ts' → b ≤ n → ts'.length ≤ b → ∃ I3, k9_R S (d + f + 4) 177 5 [some (k9_r 12 0), none] [] I2 J = some (some (k9_i (nI (p_b (p_lp n l (p_rd n l f 2 op) 3 1 b).1))), I3, J) ∧ k9_Tm I3 n l (p_lp n l (p_rd n l f 2 op) 3 1 b).2.1 op (ts' ++ (p_lp n l (p_rd n l f 2 op) 3 1 b).2.2) ∧ k9_fx k9_Ftm I2 I3 := by
      intro b ts' I2 T2 hb ht
      rw [p_lp]
      by_cases c : p_jn 3 (p_lt n l b)
      · rw [if_pos c]
        have hbn : b < n := p_lt_n (n := n) (l := l) (by simp only [p_jn] at c; omega)
        obtain ⟨I4, e4, T4, x4⟩ := sub (k9_u I2 12 0 14 (nI (b + 1))) (b + 1) ts' (k9_Tm_p T2 _) hbn (by omega)
        have x4' : k9_fx k9_Ftm I2 I4 := k9_fx_tr (k9_fx_u (k9_fx_rf _ _) rfl) x4
        obtain ⟨j1, j2, j3, j4⟩ := hk (b + 1) hbn
        by_cases r2 : (p_rd n l f 2 op (b + 1)).1 = true
        · rw [if_pos r2]
          rw [p_b_T r2] at e4
          obtain ⟨I5, e6, T5, x5⟩ := k9s_171 (S := S) (d := d + f + 3) (J := J) (c := 10000 + p_lt n l b) T4 (by rw [List.length_append]; omega)
          rw [List.append_assoc] at T5
          refine ⟨I5, k9o_of (step b ts' I2 I4 1 _ T2 hb c e4 (k9o_eq k9e_177_37 (k9o_F (by decide) (k9o_eq k9e_177_38 (k9o_call e6 ?_))))), T5, k9_fx_tr x4' x5⟩
          simp only [k9_ps_s]
          exact k9o_eq k9e_177_41 (k9o_F (by decide) (k9o_eq k9e_177_42 (k9o_eq k9e_177_45 (k9o_T (by decide) (k9o_ret rfl)))))
        · rw [if_neg r2]
          rw [p_b_F r2] at e4
          exact ⟨I4, k9o_of (step b ts' I2 I4 0 _ T2 hb c e4 (k9o_eq k9e_177_37 (k9o_T (by decide) (k9o_eq k9e_177_44 (k9o_eq k9e_177_45 (k9o_T (by decide) (k9o_ret rfl))))))), T4, x4'⟩
      · rw [if_neg c]
        exact ⟨I2, k9o_of (stop b ts' I2 T2 hb c), by rw [List.append_nil]; exact T2, k9_fx_rf _ _⟩
    obtain ⟨I3, e3, T3, x3⟩ := key (p_rd n l f 2 op a).2.1 _ I1 T1 k2 (by rw [List.length_append]; omega)
    rw [List.append_assoc] at T3
    refine ⟨I3, k9o_of (k9o_eq k9e_177_0 (k9o_call e1 ?_)), T3, k9_fx_tr x1 x3⟩
    simp only [k9_ps_s]
    exact k9o_eq k9e_177_2 (k9o_F (by decide) (k9o_to e3 rfl))
  · rw [if_neg r1]
    rw [p_b_F r1] at e1
    refine ⟨I1, k9o_of (k9o_eq k9e_177_0 (k9o_call e1 ?_)), T1, x1⟩
    simp only [k9_ps_s]
    exact k9o_eq k9e_177_2 (k9o_T (by decide) (k9o_eq k9e_177_3 (k9o_ret rfl)))
theorem k9s_178 (h1 : k9_M1 S n l f) (hT : k9_Tm I n l a op ts) (ha : a ≤ n) (hts : ts.length ≤ a) (hop : op ≤ 6) (hf : (6 - op) * 6 + 3 < f) : ∃ I', k9_R S (d + f + 4) 178 0 [some (k9_r 12 0)] [] I J = some (some (k9_i (nI (p_b (p_lc n l (p_rd n l f 3 op) 4 a).1))), I', J) ∧ k9_Tm I' n l (p_lc n l (p_rd n l f 3 op) 4 a).2.1 op (ts ++ (p_lc n l (p_rd n l f 3 op) 4 a).2.2) ∧ k9_fx k9_Ftm I I' := by
  have sub : ∀ (I : k9_I) (a : Nat) (ts : List Nat), k9_Tm I n l a op ts → a ≤ n → ts.length ≤ a → ∃ I', k9_R S (d + f + 3) 177 0 [some (k9_r 12 0), none] [] I J = some (some (k9_i (nI (p_b (p_rd n l f 3 op a).1))), I', J) ∧ k9_Tm I' n l (p_rd n l f 3 op a).2.1 op (ts ++ (p_rd n l f 3 op a).2.2) ∧ k9_fx k9_Ftm I I' := fun I a ts g1 g2 g3 => h1 d I J 3 op a ts g1 g2 g3 (by omega) hop hf
  have hn := hT.1
  obtain ⟨I1, e1, T1, x1⟩ := sub I a ts hT ha hts
  have hk := p_rd_k n l f 3 op
  obtain ⟨k1, k2, k3, k4⟩ := hk a ha
  unfold p_lc
  by_cases r1 : (p_rd n l f 3 op a).1 = true
  · rw [if_pos r1]
    rw [p_b_T r1] at e1
    have stop : ∀ (b : Nat) (ts' : List Nat) (I2 : k9_I), k9_Tm I2 n l b op ts' → b ≤ n → ¬ p_jn 4 (p_lt n l b) → k9_ok (k9_R S (d + f + 4) 178 5 [some (k9_r 12 0)] [] I2 J) (fun q => q = (some (k9_i (nI 1)), I2, J)) := by
      intro b ts' I2 T2 hb c
      have hl := p_lt_o T2.2.1 b
      have c' : ¬ p_lt n l b = 38 := fun z => c (by simp only [p_jn]; omega)
      have e170 := k9s_170 (S := S) (d := d + f + 2) (J := J) (c := 38) T2 (by omega) (by omega)
      rw [if_neg c', if_neg c'] at e170
      refine k9o_eq k9e_178_5 (k9o_call e170 ?_)
      simp only [k9_ps_s]
      exact k9o_eq k9e_178_8 (k9o_T (by decide) (k9o_eq k9e_178_19 (k9o_ret rfl)))
    have step : ∀ (b : Nat) (ts' : List Nat) (I2 I4 : k9_I) (z : Nat) (Q : k9_A → Prop), k9_Tm I2 n l b op ts' → b ≤ n → p_jn 4 (p_lt n l b) → k9_R S (d + f + 3) 177 0 [some (k9_r 12 0), none] [] (k9_u I2 12 0 14 (nI (b + 1))) J = some (some (k9_i (nI z)), I4, J) → k9_ok (k9_R S (d + f + 4) 178 11 [some (k9_r 12 0)] [k9_i (nI z)] I4 J) Q → k9_ok (k9_R S (d + f + 4) 178 5 [some (k9_r 12 0)] [] I2 J) Q := by
      intro b ts' I2 I4 z Q T2 hb c e4 g
      have c' : p_lt n l b = 38 := by simp only [p_jn] at c; omega
      have e170 := k9s_170 (S := S) (d := d + f + 2) (J := J) (c := 38) T2 (by omega) (by omega)
      rw [if_pos c', if_pos c'] at e170
      refine k9o_eq k9e_178_5 (k9o_call e170 ?_)
      simp only [k9_ps_s]
      refine k9o_eq k9e_178_8 (k9o_F (by decide) (k9o_eq k9e_178_9 (k9o_call e4 ?_)))
      simp only [k9_ps_s]
      exact g
    have key : ∀ (k b : Nat) (ts' : List Nat) (I2 : k9_I), n ≤ b + k → k9_Tm I2 n l b op ts' → b ≤ n → ts'.length ≤ b → ∃ I3, k9_R S (d + f + 4) 178 5 [some (k9_r 12 0)] [] I2 J = some (some (k9_i (nI (p_b (p_lp n l (p_rd n l f 3 op) 4 k b).1))), I3, J) ∧ k9_Tm I3 n l (p_lp n l (p_rd n l f 3 op) 4 k b).2.1 op (ts' ++ (p_lp n l (p_rd n l f 3 op) 4 k b).2.2) ∧ k9_fx k9_Ftm I2 I3 := by
      intro k
      induction k with
      | zero =>
        intro b ts' I2 hk T2 hb ht
        have el : p_lt n l b = 999 := if_neg (by omega)
        exact ⟨I2, k9o_of (stop b ts' I2 T2 hb (by rw [el]; decide)), by rw [p_lp, List.append_nil]; exact T2, k9_fx_rf _ _⟩
      | succ k ih =>
        intro b ts' I2 hkk T2 hb ht
        rw [p_lp]
        by_cases c : p_jn 4 (p_lt n l b)
        · rw [if_pos c]
          have hbn : b < n := p_lt_n (n := n) (l := l) (by simp only [p_jn] at c; omega)
          obtain ⟨I4, e4, T4, x4⟩ := sub (k9_u I2 12 0 14 (nI (b + 1))) (b + 1) ts' (k9_Tm_p T2 _) hbn (by omega)
          have x4' : k9_fx k9_Ftm I2 I4 := k9_fx_tr (k9_fx_u (k9_fx_rf _ _) rfl) x4
          obtain ⟨j1, j2, j3, j4⟩ := hk (b + 1) hbn
          by_cases r2 : (p_rd n l f 3 op (b + 1)).1 = true
          · rw [if_pos r2]
            rw [p_b_T r2] at e4
            obtain ⟨I5, e6, T5, x5⟩ := k9s_171 (S := S) (d := d + f + 3) (J := J) (c := 10000 + p_lt n l b) T4 (by rw [List.length_append]; omega)
            obtain ⟨I6, e7, T6, x6⟩ := ih (p_rd n l f 3 op (b + 1)).2.1 _ I5 (by omega) T5 j2 (by rw [List.length_append, List.length_append, List.length_singleton]; omega)
            have c' : p_lt n l b = 38 := by simp only [p_jn] at c; omega
            have e6 : k9_R S (d + f + 3) 171 0 [some (k9_r 12 0), some (k9_i 7)] [] I4 J = some (some (k9_i (nI 1)), I5, J) := by
              have et : p_tkm (10000 + p_lt n l b) = 7 := by rw [c']; rfl
              rw [et] at e6
              exact e6
            rw [List.append_assoc, List.append_assoc, List.singleton_append] at T6
            refine ⟨I6, k9o_of (step b ts' I2 I4 1 _ T2 hb c e4 (k9o_eq k9e_178_11 (k9o_F (by decide) (k9o_eq k9e_178_14 (k9o_call e6 ?_))))), T6, k9_fx_tr (k9_fx_tr x4' x5) x6⟩
            simp only [k9_ps_s]
            exact k9o_eq k9e_178_17 (k9o_to e7 rfl)
          · rw [if_neg r2]
            rw [p_b_F r2] at e4
            exact ⟨I4, k9o_of (step b ts' I2 I4 0 _ T2 hb c e4 (k9o_eq k9e_178_11 (k9o_T (by decide) (k9o_eq k9e_178_12 (k9o_ret rfl))))), T4, x4'⟩
        · rw [if_neg c]
          exact ⟨I2, k9o_of (stop b ts' I2 T2 hb c), by rw [List.append_nil]; exact T2, k9_fx_rf _ _⟩
    obtain ⟨I3, e3, T3, x3⟩ := key 120 (p_rd n l f 3 op a).2.1 _ I1 (by omega) T1 k2 (by rw [List.length_append]; omega)
    rw [List.append_assoc] at T3
    refine ⟨I3, k9o_of (k9o_eq k9e_178_0 (k9o_call e1 ?_)), T3, k9_fx_tr x1 x3⟩
    simp only [k9_ps_s]
    exact k9o_eq k9e_178_2 (k9o_F (by decide) (k9o_to e3 rfl))
  · rw [if_neg r1]
    rw [p_b_F r1] at e1
    refine ⟨I1, k9o_of (k9o_eq k9e_178_0 (k9o_call e1 ?_)), T1, x1⟩
    simp only [k9_ps_s]
    exact k9o_eq k9e_178_2 (k9o_T (by decide) (k9o_eq k9e_178_3 (k9o_ret rfl)))
theorem k9s_179 (h1 : k9_M1 S n l f) (hT : k9_Tm I n l a op ts) (ha : a ≤ n) (hts : ts.length ≤ a) (hop : op ≤ 6) (hf : (6 - op) * 6 + 4 < f) : ∃ I', k9_R S (d + f + 4) 179 0 [some (k9_r 12 0)] [] I J = some (some (k9_i (nI (p_b (p_lc n l (p_rd n l f 4 op) 5 a).1))), I', J) ∧ k9_Tm I' n l (p_lc n l (p_rd n l f 4 op) 5 a).2.1 op (ts ++ (p_lc n l (p_rd n l f 4 op) 5 a).2.2) ∧ k9_fx k9_Ftm I I' := by
  have sub : ∀ (I : k9_I) (a : Nat) (ts : List Nat), k9_Tm I n l a op ts → a ≤ n → ts.length ≤ a → ∃ I', k9_R S (d + f + 3) 178 0 [some (k9_r 12 0)] [] I J = some (some (k9_i (nI (p_b (p_rd n l f 4 op a).1))), I', J) ∧ k9_Tm I' n l (p_rd n l f 4 op a).2.1 op (ts ++ (p_rd n l f 4 op a).2.2) ∧ k9_fx k9_Ftm I I' := fun I a ts g1 g2 g3 => h1 d I J 4 op a ts g1 g2 g3 (by omega) hop hf
  have hn := hT.1
  obtain ⟨I1, e1, T1, x1⟩ := sub I a ts hT ha hts
  have hk := p_rd_k n l f 4 op
  obtain ⟨k1, k2, k3, k4⟩ := hk a ha
  unfold p_lc
  by_cases r1 : (p_rd n l f 4 op a).1 = true
  · rw [if_pos r1]
    rw [p_b_T r1] at e1
    have stop : ∀ (b : Nat) (ts' : List Nat) (I2 : k9_I), k9_Tm I2 n l b op ts' → b ≤ n → ¬ p_jn 5 (p_lt n l b) → k9_ok (k9_R S (d + f + 4) 179 5 [some (k9_r 12 0)] [] I2 J) (fun q => q = (some (k9_i (nI 1)), I2, J)) := by
      intro b ts' I2 T2 hb c
      have hl := p_lt_o T2.2.1 b
      have c' : ¬ p_lt n l b = 124 := fun z => c (by simp only [p_jn]; omega)
      have e170 := k9s_170 (S := S) (d := d + f + 2) (J := J) (c := 124) T2 (by omega) (by omega)
      rw [if_neg c', if_neg c'] at e170
      refine k9o_eq k9e_179_5 (k9o_call e170 ?_)
      simp only [k9_ps_s]
      exact k9o_eq k9e_179_8 (k9o_T (by decide) (k9o_eq k9e_179_19 (k9o_ret rfl)))
    have step : ∀ (b : Nat) (ts' : List Nat) (I2 I4 : k9_I) (z : Nat) (Q : k9_A → Prop), k9_Tm I2 n l b op ts' → b ≤ n → p_jn 5 (p_lt n l b) → k9_R S (d + f + 3) 178 0 [some (k9_r 12 0)] [] (k9_u I2 12 0 14 (nI (b + 1))) J = some (some (k9_i (nI z)), I4, J) → k9_ok (k9_R S (d + f + 4) 179 11 [some (k9_r 12 0)] [k9_i (nI z)] I4 J) Q → k9_ok (k9_R S (d + f + 4) 179 5 [some (k9_r 12 0)] [] I2 J) Q := by
      intro b ts' I2 I4 z Q T2 hb c e4 g
      have c' : p_lt n l b = 124 := by simp only [p_jn] at c; omega
      have e170 := k9s_170 (S := S) (d := d + f + 2) (J := J) (c := 124) T2 (by omega) (by omega)
      rw [if_pos c', if_pos c'] at e170
      refine k9o_eq k9e_179_5 (k9o_call e170 ?_)
      simp only [k9_ps_s]
      refine k9o_eq k9e_179_8 (k9o_F (by decide) (k9o_eq k9e_179_9 (k9o_call e4 ?_)))
      simp only [k9_ps_s]
      exact g
    have key : ∀ (k b : Nat) (ts' : List Nat) (I2 : k9_I), n ≤ b + k → k9_Tm I2 n l b op ts' → b ≤ n → ts'.length ≤ b → ∃ I3, k9_R S (d + f + 4) 179 5 [some (k9_r 12 0)] [] I2 J = some (some (k9_i (nI (p_b (p_lp n l (p_rd n l f 4 op) 5 k b).1))), I3, J) ∧ k9_Tm I3 n l (p_lp n l (p_rd n l f 4 op) 5 k b).2.1 op (ts' ++ (p_lp n l (p_rd n l f 4 op) 5 k b).2.2) ∧ k9_fx k9_Ftm I2 I3 := by
      intro k
      induction k with
      | zero =>
        intro b ts' I2 hk T2 hb ht
        have el : p_lt n l b = 999 := if_neg (by omega)
        exact ⟨I2, k9o_of (stop b ts' I2 T2 hb (by rw [el]; decide)), by rw [p_lp, List.append_nil]; exact T2, k9_fx_rf _ _⟩
      | succ k ih =>
        intro b ts' I2 hkk T2 hb ht
        rw [p_lp]
        by_cases c : p_jn 5 (p_lt n l b)
        · rw [if_pos c]
          have hbn : b < n := p_lt_n (n := n) (l := l) (by simp only [p_jn] at c; omega)
          obtain ⟨I4, e4, T4, x4⟩ := sub (k9_u I2 12 0 14 (nI (b + 1))) (b + 1) ts' (k9_Tm_p T2 _) hbn (by omega)
          have x4' : k9_fx k9_Ftm I2 I4 := k9_fx_tr (k9_fx_u (k9_fx_rf _ _) rfl) x4
          obtain ⟨j1, j2, j3, j4⟩ := hk (b + 1) hbn
          by_cases r2 : (p_rd n l f 4 op (b + 1)).1 = true
          · rw [if_pos r2]
            rw [p_b_T r2] at e4
            obtain ⟨I5, e6, T5, x5⟩ := k9s_171 (S := S) (d := d + f + 3) (J := J) (c := 10000 + p_lt n l b) T4 (by rw [List.length_append]; omega)
            obtain ⟨I6, e7, T6, x6⟩ := ih (p_rd n l f 4 op (b + 1)).2.1 _ I5 (by omega) T5 j2 (by rw [List.length_append, List.length_append, List.length_singleton]; omega)
            have c' : p_lt n l b = 124 := by simp only [p_jn] at c; omega
            have e6 : k9_R S (d + f + 3) 171 0 [some (k9_r 12 0), some (k9_i 6)] [] I4 J = some (some (k9_i (nI 1)), I5, J) := by
              have et : p_tkm (10000 + p_lt n l b) = 6 := by rw [c']; rfl
              rw [et] at e6
              exact e6
            rw [List.append_assoc, List.append_assoc, List.singleton_append] at T6
            refine ⟨I6, k9o_of (step b ts' I2 I4 1 _ T2 hb c e4 (k9o_eq k9e_179_11 (k9o_F (by decide) (k9o_eq k9e_179_14 (k9o_call e6 ?_))))), T6, k9_fx_tr (k9_fx_tr x4' x5) x6⟩
            simp only [k9_ps_s]
            exact k9o_eq k9e_179_17 (k9o_to e7 rfl)
          · rw [if_neg r2]
            rw [p_b_F r2] at e4
            exact ⟨I4, k9o_of (step b ts' I2 I4 0 _ T2 hb c e4 (k9o_eq k9e_179_11 (k9o_T (by decide) (k9o_eq k9e_179_12 (k9o_ret rfl))))), T4, x4'⟩
        · rw [if_neg c]
          exact ⟨I2, k9o_of (stop b ts' I2 T2 hb c), by rw [List.append_nil]; exact T2, k9_fx_rf _ _⟩
    obtain ⟨I3, e3, T3, x3⟩ := key 120 (p_rd n l f 4 op a).2.1 _ I1 (by omega) T1 k2 (by rw [List.length_append]; omega)
    rw [List.append_assoc] at T3
    refine ⟨I3, k9o_of (k9o_eq k9e_179_0 (k9o_call e1 ?_)), T3, k9_fx_tr x1 x3⟩
    simp only [k9_ps_s]
    exact k9o_eq k9e_179_2 (k9o_F (by decide) (k9o_to e3 rfl))
  · rw [if_neg r1]
    rw [p_b_F r1] at e1
    refine ⟨I1, k9o_of (k9o_eq k9e_179_0 (k9o_call e1 ?_)), T1, x1⟩
    simp only [k9_ps_s]
    exact k9o_eq k9e_179_2 (k9o_T (by decide) (k9o_eq k9e_179_3 (k9o_ret rfl)))
end KV4
