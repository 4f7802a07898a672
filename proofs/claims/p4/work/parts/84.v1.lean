/-! THE LAW'S TEXT: how it is read -/
section KV1
def p_lt (n : Nat) (l : Nat → Nat) (a : Nat) : Nat := if a < n then l a else 999
def p_lx (c : Nat) : Int32 := if c = 999 then -1 else nI c
def p_b (b : Bool) : Nat := if b = true then 1 else 0
def p_nu (n : Nat) (l : Nat → Nat) : Nat → Nat → Nat → Nat × Nat
  | 0, v, a => (v, a)
  | k + 1, v, a => if 48 ≤ p_lt n l a ∧ p_lt n l a ≤ 57 then p_nu n l k (10 * v + p_lt n l a - 48) (a + 1) else (v, a)
abbrev p_jn (lv c : Nat) : Prop := (lv = 5 ∧ c = 124) ∨ (lv = 4 ∧ c = 38) ∨ (lv = 3 ∧ (c = 60 ∨ c = 61 ∨ c = 62)) ∨ (lv = 2 ∧ (c = 43 ∨ c = 45)) ∨ (lv = 1 ∧ (c = 42 ∨ c = 47 ∨ c = 37))
abbrev p_na (c : Nat) : Prop := c = 98 ∨ c = 102 ∨ c = 115 ∨ c = 116 ∨ c = 108 ∨ c = 110
abbrev k9_pr : Type := Bool × Nat × List Nat
def p_lp (n : Nat) (l : Nat → Nat) (r : Nat → k9_pr) (lv : Nat) : Nat → Nat → k9_pr
  | 0, a => (true, a, [])
  | k + 1, a => if p_jn lv (p_lt n l a) then (if (r (a + 1)).1 = true then ((p_lp n l r lv k (r (a + 1)).2.1).1, (p_lp n l r lv k (r (a + 1)).2.1).2.1, (r (a + 1)).2.2 ++ (10000 + p_lt n l a) :: (p_lp n l r lv k (r (a + 1)).2.1).2.2) else (false, (r (a + 1)).2.1, (r (a + 1)).2.2)) else (true, a, [])
def p_mo (lv : Nat) : Nat := if lv = 3 then 1 else 120
def p_lc (n : Nat) (l : Nat → Nat) (r : Nat → k9_pr) (lv a : Nat) : k9_pr :=
  if (r a).1 = true then ((p_lp n l r lv (p_mo lv) (r a).2.1).1, (p_lp n l r lv (p_mo lv) (r a).2.1).2.1, (r a).2.2 ++ (p_lp n l r lv (p_mo lv) (r a).2.1).2.2) else (false, (r a).2.1, (r a).2.2)
def p_od (n : Nat) (l : Nat → Nat) (r5 r0 : Nat → k9_pr) (op a : Nat) : k9_pr :=
  if 48 ≤ p_lt n l a ∧ p_lt n l a ≤ 57 then (true, (p_nu n l 4 0 a).2, [(p_nu n l 4 0 a).1])
  else if p_na (p_lt n l a) then (true, a + 1, [10000 + p_lt n l a])
  else if op < 6 ∧ p_lt n l a = 40 then (if (r5 (a + 1)).1 = true ∧ p_lt n l (r5 (a + 1)).2.1 = 41 then (true, (r5 (a + 1)).2.1 + 1, (r5 (a + 1)).2.2) else (false, (r5 (a + 1)).2.1, (r5 (a + 1)).2.2))
  else if op < 6 ∧ (p_lt n l a = 33 ∨ p_lt n l a = 45) then (if (r0 (a + 1)).1 = true then (true, (r0 (a + 1)).2.1, (r0 (a + 1)).2.2 ++ [if p_lt n l a = 45 then 10126 else 10033]) else (false, (r0 (a + 1)).2.1, (r0 (a + 1)).2.2))
  else (false, a, [])
def p_rd (n : Nat) (l : Nat → Nat) : Nat → Nat → Nat → Nat → k9_pr
  | 0, _, _, a => (false, a, [])
  | f + 1, 0, op, a => p_od n l (p_rd n l f 5 (op + 1)) (p_rd n l f 0 (op + 1)) op a
  | f + 1, lv + 1, op, a => p_lc n l (p_rd n l f lv op) (lv + 1) a
/-- what every reading keeps -/
def p_kr (n a : Nat) (u : k9_pr) : Prop := a ≤ u.2.1 ∧ u.2.1 ≤ n ∧ u.2.2.length + a ≤ u.2.1 ∧ (u.1 = true → a < u.2.1)
theorem p_lt_n {n : Nat} {l : Nat → Nat} {a : Nat} (h : p_lt n l a ≠ 999) : a < n := by
  unfold p_lt at h
  by_cases c : a < n
  · exact c
  · rw [if_neg c] at h
    exact absurd rfl h
theorem p_nu_k (n : Nat) (l : Nat → Nat) (k v a : Nat) (h : a ≤ n) : a ≤ (p_nu n l k v a).2 ∧ (p_nu n l k v a).2 ≤ n := by
  induction k generalizing v a with
  | zero => exact ⟨Nat.le_refl _, h⟩
  | succ k ih =>
    rw [p_nu]
    split
    · next c =>
      have := p_lt_n (n := n) (l := l) (a := a) (by omega)
      have := ih (10 * v + p_lt n l a - 48) (a + 1) (by omega)
      omega
    · exact ⟨Nat.le_refl _, h⟩
theorem p_nu_1 (n : Nat) (l : Nat → Nat) (k v a : Nat) (h : a ≤ n) (c : 48 ≤ p_lt n l a ∧ p_lt n l a ≤ 57) : a < (p_nu n l (k + 1) v a).2 := by
  rw [p_nu, if_pos c]
  have := p_lt_n (n := n) (l := l) (a := a) (by omega)
  have := p_nu_k n l k (10 * v + p_lt n l a - 48) (a + 1) (by omega)
  omega
theorem p_lp_k (n : Nat) (l : Nat → Nat) (r : Nat → k9_pr) (lv k a : Nat) (h : a ≤ n) (hr : ∀ b, b ≤ n → p_kr n b (r b)) : a ≤ (p_lp n l r lv k a).2.1 ∧ (p_lp n l r lv k a).2.1 ≤ n ∧ (p_lp n l r lv k a).2.2.length + a ≤ (p_lp n l r lv k a).2.1 := by
  induction k generalizing a with
  | zero => exact ⟨Nat.le_refl _, h, by simp [p_lp]⟩
  | succ k ih =>
    rw [p_lp]
    by_cases c : p_jn lv (p_lt n l a)
    · rw [if_pos c]
      have := p_lt_n (n := n) (l := l) (a := a) (by simp only [p_jn] at c; omega)
      obtain ⟨h1, h2, h3, h4⟩ := hr (a + 1) (by omega)
      by_cases e : (r (a + 1)).1 = true
      · rw [if_pos e]
        have := ih (r (a + 1)).2.1 h2
        refine ⟨?_, ?_, ?_⟩
        · show a ≤ (p_lp n l r lv k (r (a + 1)).2.1).2.1
          omega
        · exact this.2.1
        · show ((r (a + 1)).2.2 ++ (10000 + p_lt n l a) :: (p_lp n l r lv k (r (a + 1)).2.1).2.2).length + a ≤ (p_lp n l r lv k (r (a + 1)).2.1).2.1
          rw [List.length_append, List.length_cons]
          omega
      · rw [if_neg e]
        refine ⟨?_, h2, ?_⟩
        · show a ≤ (r (a + 1)).2.1
          omega
        · show (r (a + 1)).2.2.length + a ≤ (r (a + 1)).2.1
          omega
    · rw [if_neg c]
      exact ⟨Nat.le_refl _, h, by simp⟩
theorem p_rd_k (n : Nat) (l : Nat → Nat) (f : Nat) : ∀ lv op a, a ≤ n → p_kr n a (p_rd n l f lv op a) := by
  induction f with
  | zero =>
    intro lv op a h
    rw [p_rd]
    exact ⟨Nat.le_refl _, h, by simp, fun z => by cases z⟩
  | succ f ih =>
    intro lv op a h
    cases lv with
    | zero =>
      rw [p_rd]
      unfold p_od
      by_cases c1 : 48 ≤ p_lt n l a ∧ p_lt n l a ≤ 57
      · rw [if_pos c1]
        have h1 := p_nu_k n l 4 0 a h
        have h2 : a < (p_nu n l 4 0 a).2 := p_nu_1 n l 3 0 a h c1
        refine ⟨h1.1, h1.2, ?_, fun _ => h2⟩
        show 1 + a ≤ (p_nu n l 4 0 a).2
        omega
      · rw [if_neg c1]
        by_cases c2 : p_na (p_lt n l a)
        · rw [if_pos c2]
          have := p_lt_n (n := n) (l := l) (a := a) (by simp only [p_na] at c2; omega)
          refine ⟨Nat.le_succ _, this, ?_, fun _ => Nat.lt_succ_self _⟩
          show 1 + a ≤ a + 1
          omega
        · rw [if_neg c2]
          by_cases c3 : op < 6 ∧ p_lt n l a = 40
          · rw [if_pos c3]
            have := p_lt_n (n := n) (l := l) (a := a) (by omega)
            obtain ⟨h1, h2, h3, h4⟩ := ih 5 (op + 1) (a + 1) (by omega)
            by_cases e : (p_rd n l f 5 (op + 1) (a + 1)).1 = true ∧ p_lt n l (p_rd n l f 5 (op + 1) (a + 1)).2.1 = 41
            · rw [if_pos e]
              have := p_lt_n (n := n) (l := l) (a := (p_rd n l f 5 (op + 1) (a + 1)).2.1) (by omega)
              refine ⟨?_, this, ?_, fun _ => ?_⟩
              · show a ≤ (p_rd n l f 5 (op + 1) (a + 1)).2.1 + 1
                omega
              · show (p_rd n l f 5 (op + 1) (a + 1)).2.2.length + a ≤ (p_rd n l f 5 (op + 1) (a + 1)).2.1 + 1
                omega
              · show a < (p_rd n l f 5 (op + 1) (a + 1)).2.1 + 1
                omega
            · rw [if_neg e]
              refine ⟨?_, h2, ?_, fun z => by cases z⟩
              · show a ≤ (p_rd n l f 5 (op + 1) (a + 1)).2.1
                omega
              · show (p_rd n l f 5 (op + 1) (a + 1)).2.2.length + a ≤ (p_rd n l f 5 (op + 1) (a + 1)).2.1
                omega
          · rw [if_neg c3]
            by_cases c4 : op < 6 ∧ (p_lt n l a = 33 ∨ p_lt n l a = 45)
            · rw [if_pos c4]
              have := p_lt_n (n := n) (l := l) (a := a) (by omega)
              obtain ⟨h1, h2, h3, h4⟩ := ih 0 (op + 1) (a + 1) (by omega)
              by_cases e : (p_rd n l f 0 (op + 1) (a + 1)).1 = true
              · rw [if_pos e]
                refine ⟨?_, h2, ?_, fun _ => ?_⟩
                · show a ≤ (p_rd n l f 0 (op + 1) (a + 1)).2.1
                  omega
                · show ((p_rd n l f 0 (op + 1) (a + 1)).2.2 ++ [if p_lt n l a = 45 then 10126 else 10033]).length + a ≤ (p_rd n l f 0 (op + 1) (a + 1)).2.1
                  rw [List.length_append, List.length_singleton]
                  omega
                · show a < (p_rd n l f 0 (op + 1) (a + 1)).2.1
                  omega
              · rw [if_neg e]
                refine ⟨?_, h2, ?_, fun z => by cases z⟩
                · show a ≤ (p_rd n l f 0 (op + 1) (a + 1)).2.1
                  omega
                · show (p_rd n l f 0 (op + 1) (a + 1)).2.2.length + a ≤ (p_rd n l f 0 (op + 1) (a + 1)).2.1
                  omega
            · rw [if_neg c4]
              exact ⟨Nat.le_refl _, h, by simp, fun z => by cases z⟩
    | succ lv =>
      rw [p_rd]
      unfold p_lc
      obtain ⟨h1, h2, h3, h4⟩ := ih lv op a h
      by_cases e : (p_rd n l f lv op a).1 = true
      · rw [if_pos e]
        obtain ⟨g1, g2, g3⟩ := p_lp_k n l (p_rd n l f lv op) (lv + 1) (p_mo (lv + 1)) (p_rd n l f lv op a).2.1 h2 (fun b hb => ih lv op b hb)
        have := h4 e
        refine ⟨?_, g2, ?_, fun _ => ?_⟩
        · show a ≤ (p_lp n l (p_rd n l f lv op) (lv + 1) (p_mo (lv + 1)) (p_rd n l f lv op a).2.1).2.1
          omega
        · show ((p_rd n l f lv op a).2.2 ++ (p_lp n l (p_rd n l f lv op) (lv + 1) (p_mo (lv + 1)) (p_rd n l f lv op a).2.1).2.2).length + a ≤ (p_lp n l (p_rd n l f lv op) (lv + 1) (p_mo (lv + 1)) (p_rd n l f lv op a).2.1).2.1
          rw [List.length_append]
          omega
        · show a < (p_lp n l (p_rd n l f lv op) (lv + 1) (p_mo (lv + 1)) (p_rd n l f lv op a).2.1).2.1
          omega
      · rw [if_neg e]
        exact ⟨h1, h2, h3, fun z => by cases z⟩
/-- a letter's number -/
theorem p_lt_o {n : Nat} {l : Nat → Nat} (hl : ∀ p, p < n → l p ≤ 255) (a : Nat) : (p_lt n l a = 999 ∧ (p_lx (p_lt n l a)).toInt = -1) ∨ (p_lt n l a ≤ 255 ∧ (p_lx (p_lt n l a)).toInt = (p_lt n l a : Int)) := by
  by_cases c : a < n
  · refine Or.inr ?_
    have := hl a c
    have e : p_lt n l a = l a := if_pos c
    rw [e]
    refine ⟨this, ?_⟩
    unfold p_lx
    rw [if_neg (by omega), n_toInt (by omega)]
  · have e : p_lt n l a = 999 := if_neg c
    rw [e]
    exact Or.inl ⟨rfl, by decide⟩
theorem p_lx_n {c : Nat} (h : c ≤ 255) : p_lx c = nI c := if_neg (by omega)
end KV1
