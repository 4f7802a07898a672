/-! THE INVARIANT: what class and reference hold between two calls -/
/-- which part of the state a cell belongs to: 0 scratch, 1 work, 2 tape, 3 law, 4 changes, 5 bodies, 6 shelves, 7 waits, 8 what was rolled, 9 the evenest order -/
def v_c1 : List Nat := [0, 0, 0, 0, 0, 0, 0, 0, 0, 0, 0, 7, 8, 9, 9]
def v_c12 : List Nat := [1, 0, 0, 0, 0, 0, 2, 0, 3, 3, 0, 0, 0, 0, 0, 0, 0, 0, 0, 0, 0, 0, 0, 7, 0, 7, 7, 0, 4, 4, 0, 5, 0, 5, 0, 0, 0, 0, 0, 0, 0, 0, 0, 0, 0, 0, 0, 0, 0, 0, 0, 0, 0]
def v_c6 : List Nat := [3, 3, 0, 3, 0, 0, 0]
def v_ck : List Nat := [0, 100, 101, 102, 0, 103, 104, 105, 4, 7, 106, 6, 107, 0, 0, 0, 0, 0, 0, 0, 102, 102, 102, 102, 108, 108, 2, 0, 3, 0, 105, 4, 4, 4, 4, 5, 5, 6, 6, 0, 1, 1, 1, 1, 1, 2, 3, 3, 3, 3, 0, 0, 0, 0, 0, 7, 7, 4, 5, 5, 6, 6, 6, 0, 0, 0, 0, 0, 0, 0, 0, 0]
def v_cs (c i p : Nat) : Nat := match c with
  | 100 => k9_nth 0 v_c1 p
  | 101 => bif Nat.beq i 0 then 8 else 0
  | 102 => bif Nat.beq i 0 then 1 else 0
  | 103 => bif Nat.beq p 0 then 2 else 0
  | 104 => k9_nth 0 v_c6 p
  | 105 => bif Nat.beq i 1 then 9 else 0
  | 106 => bif Nat.beq p 0 || Nat.beq p 1 then 5 else 0
  | 107 => k9_nth 0 v_c12 p
  | 108 => bif Nat.beq i 0 then 8 else 0
  | c => c
def v_cl (k i p : Nat) : Nat := v_cs (k9_nth 0 v_ck k) i p
/-- what lies outside the parts X is as it was -/
def k9_fp (X : Nat → Bool) (I I' : k9_I) : Prop := ∀ k i p, X (v_cl k i p) = false → I' k i p = I k i p
theorem k9_fp_rf (X : Nat → Bool) (I : k9_I) : k9_fp X I I := fun _ _ _ _ => rfl
theorem k9_fp_tr {X : Nat → Bool} {I I' I'' : k9_I} (h : k9_fp X I I') (g : k9_fp X I' I'') : k9_fp X I I'' := fun k i p e => (g k i p e).trans (h k i p e)
theorem k9_fp_u {X : Nat → Bool} {I I' : k9_I} (h : k9_fp X I I') {k i p : Nat} {v : Int32} (e : X (v_cl k i p) = true) : k9_fp X I (k9_u I' k i p v) := by
  intro k' i' p' e'
  rw [k9_ur, if_neg]
  · exact h _ _ _ e'
  · rintro ⟨rfl, rfl, rfl⟩
    rw [e] at e'
    cases e'
theorem k9_fp_w {X Y : Nat → Bool} {I I' : k9_I} (h : k9_fp X I I') (w : ∀ c, Y c = false → X c = false) : k9_fp Y I I' := fun k i p e => h k i p (w _ e)
theorem k9_fp_x {X : Nat → Bool} {F : Nat → Nat → Nat → Bool} {I I' : k9_I} (h : k9_fx F I I') (w : ∀ k i p, F k i p = true → X (v_cl k i p) = true) : k9_fp X I I' := fun k i p e => h k i p (by
  cases f : F k i p with
  | false => rfl
  | true => rw [w k i p f] at e; cases e)
def k9_X0 (c : Nat) : Bool := Nat.beq c 0
def k9_Xs (l : List Nat) (c : Nat) : Bool := Nat.beq c 0 || l.any (fun a => Nat.beq c a)
/-- the work of the reference -/
def k9_Wm (I : k9_I) (w : Nat → Nat → Nat) : Prop :=
  I 12 0 0 = nI (w 7 0) ∧ I 44 0 0 = nI (w 4 0) ∧ I 44 0 1 = nI (w 5 0) ∧ I 44 0 2 = nI (w 6 0) ∧
  ∀ p, p < w 7 0 → I 40 0 p = nI (w 0 p) ∧ I 41 0 p = nI (w 1 p) ∧ I 42 0 p = nI (w 2 p) ∧ I 43 0 p = nI (w 3 p)
def k9_vW (I : k9_I) (w : Nat → Nat → Nat) : Prop := k9_Wk I 0 w ∧ k9_Wm I w ∧ k9_wf w ∧ ∀ p, p < w 7 0 → w 1 p ≤ 9
def k9_vT (I : k9_I) : Prop := ∃ c : Nat, c ≤ 120 ∧ I 5 0 0 = nI c ∧ I 12 0 6 = nI c ∧ ∀ p, p < c → ∃ l : Nat, l ≤ 255 ∧ I 26 0 p = nI l ∧ I 45 0 p = nI l
def k9_Fn (k _ _ : Nat) : Bool := Nat.beq k 54
/-- the reference's law has the values V -/
def k9_ML (I : k9_I) (V : (Nat → Int32) → Int32) : Prop :=
  ∀ (S : k9_S) (d : Nat) (J : k9_J) (I' : k9_I) (a : Int32), I' 12 0 8 = I 12 0 8 → I' 12 0 9 = I 12 0 9 → I' 46 0 = I 46 0 → I' 47 0 = I 47 0 → I' 48 0 = I 48 0 → I' 49 0 = I 49 0 →
    (∀ k, k < 4 → ∃ c : Nat, c ≤ 100 ∧ I' 65 0 k = nI c) →
    ∃ I'', k9_R S (d + 3) 187 0 [some (k9_r 12 0), some (k9_i a), none] [] I' J = some (some (k9_i (nI (p_cl (V (fun k => if k < 4 then I' 65 0 k else if k = 4 then a else I' 12 0 0))))), I'', J) ∧ k9_fx k9_Fn I' I''
def k9_vL (I : k9_I) (V : (Nat → Int32) → Int32) : Prop := k9_CL I V ∧ k9_ML I V
def k9_vC (I : k9_I) (w : Nat → Nat → Nat) : Prop := ∃ a b : Nat, a + b ≤ 40 ∧ I 8 0 0 = nI a ∧ I 8 0 1 = nI b ∧ I 12 0 29 = nI a ∧ I 12 0 28 = nI (a + b) ∧
  ∀ k, k < a + b → ∃ p q x y : Nat, p_has w p q ∧ p_lo q ≤ x ∧ x ≤ p_hi q ∧ p_lo q ≤ y ∧ y ≤ p_hi q ∧ I 31 0 k = nI p ∧ I 32 0 k = nI q ∧ I 33 0 k = nI x ∧ I 34 0 k = nI y ∧ I 57 0 (4 * k) = nI p ∧ I 57 0 (4 * k + 1) = nI q ∧ I 57 0 (4 * k + 2) = nI x ∧ I 57 0 (4 * k + 3) = nI y
def k9_vB (I : k9_I) (b : Nat) : Prop := b ≤ 50 ∧ I 10 0 0 = nI b ∧ I 12 0 31 = nI b ∧ (∀ k, k < b → ∃ g : Nat, g ≤ 7 ∧ I 35 0 k = nI g ∧ I 58 0 k = nI g) ∧
  ∃ t : Nat, t ≤ 1000 ∧ I 10 0 1 = nI t ∧ I 12 0 33 = nI t ∧ ∀ k, k < t → k < 24 → I 36 0 k = I 59 0 k
/-- what is put into a row of a sort -/
def p_nm (s : Nat) (v : Int64) : Int64 := if s = 0 then v.toInt32.toInt8.toInt32.toInt64 else if s = 1 then v.toInt32.toInt16.toInt32.toInt64 else if s = 2 then v.toInt32.toInt64 else if s = 3 then v else if (lg_cmp v 0).toInt = 0 then 0 else 1
def k9_Sh (I : k9_I) (J : k9_J) (b s : Nat) : Prop :=
  (I 11 s 0 = nI 0 ∧ I 60 0 s = -1) ∨
  (I 11 s 0 = nI 1 ∧ ∃ y : Nat, y < b ∧ I 11 s 1 = nI y ∧ I 60 0 s = nI (10 + y)) ∨
  (I 11 s 0 = nI 2 ∧ ∃ q z : Nat, q ≤ 4 ∧ z ≤ 60 ∧ I 11 s 2 = nI q ∧ I 11 s 3 = nI z ∧ I 60 0 s = nI q ∧ I 61 0 s = nI z ∧ ∀ p, p < 60 → p_nm q (J 37 s p) = J 37 s p)
def k9_vS (I : k9_I) (J : k9_J) (b : Nat) : Prop := (∀ s, s < 6 → k9_Sh I J b s) ∧ ∀ s, s < 6 → ∀ p, p < 60 → J 62 0 (60 * s + p) = J 37 s p
def k9_On (on sec sec' : Int32) : Prop := (on = 1 ∧ ∃ z : Nat, z ≤ 999 ∧ sec = nI z ∧ sec' = nI z) ∨ (on = 0 ∧ sec' = -2)
def k9_vD (I : k9_I) : Prop := k9_On (I 9 0 0) (I 9 0 1) (I 12 0 23) ∧ (∀ k, k < 5 → I 9 0 (k + 2) = I 55 0 k) ∧
  ((I 1 0 11 = 0 ∧ I 12 0 25 = 0) ∨ (I 1 0 11 = 1 ∧ I 12 0 25 = 1 ∧ k9_On (I 9 1 0) (I 9 1 1) (I 12 0 26) ∧ ∀ k, k < 5 → I 9 1 (k + 2) = I 56 0 k))
def k9_vR (I : k9_I) (w : Nat → Nat → Nat) (V : (Nat → Int32) → Int32) : Prop := I 1 0 12 = 0 ∨ (I 1 0 12 = 1 ∧ k9_Br I 0 (p_len w) (p_tt w 0) (p_sh w (p_tt w) V) (p_co w) 0 1000)
/-- off, the sum, of the pieces in an order -/
def p_oo (w : Nat → Nat → Nat) (V : (Nat → Int32) → Int32) (o : Nat → Nat) : Nat := (p_of (p_sh (p_cm w o) (p_tt (p_cm w o)) V) (fun t => p_ct (p_len (p_cm w o)) (min t (p_len (p_cm w o)))) (p_len (p_cm w o) + 1)).2.1
/-- the evenest of the first k + 1 orders of a list: its sum, itself -/
def p_ev (w : Nat → Nat → Nat) (V : (Nat → Int32) → Int32) (s : Nat → Nat → Nat) : Nat → Nat × (Nat → Nat)
  | 0 => (p_oo w V (s 0), s 0)
  | k + 1 => if p_oo w V (s (k + 1)) < (p_ev w V s k).1 then (p_oo w V (s (k + 1)), s (k + 1)) else p_ev w V s k
/-- all orders of n, by numbers -/
def p_tab : List (List (List Nat)) := [
  [[]],
  [[0]],
  [[0, 1], [1, 0]],
  [[0, 1, 2], [0, 2, 1], [1, 0, 2], [1, 2, 0], [2, 0, 1], [2, 1, 0]],
  [[0, 1, 2, 3], [0, 1, 3, 2], [0, 2, 1, 3], [0, 2, 3, 1], [0, 3, 1, 2], [0, 3, 2, 1], [1, 0, 2, 3], [1, 0, 3, 2], [1, 2, 0, 3], [1, 2, 3, 0], [1, 3, 0, 2], [1, 3, 2, 0], [2, 0, 1, 3], [2, 0, 3, 1], [2, 1, 0, 3], [2, 1, 3, 0], [2, 3, 0, 1], [2, 3, 1, 0], [3, 0, 1, 2], [3, 0, 2, 1], [3, 1, 0, 2], [3, 1, 2, 0], [3, 2, 0, 1], [3, 2, 1, 0]],
  [[0, 1, 2, 3, 4], [0, 1, 2, 4, 3], [0, 1, 3, 2, 4], [0, 1, 3, 4, 2], [0, 1, 4, 2, 3], [0, 1, 4, 3, 2], [0, 2, 1, 3, 4], [0, 2, 1, 4, 3], [0, 2, 3, 1, 4], [0, 2, 3, 4, 1], [0, 2, 4, 1, 3], [0, 2, 4, 3, 1], [0, 3, 1, 2, 4], [0, 3, 1, 4, 2], [0, 3, 2, 1, 4], [0, 3, 2, 4, 1], [0, 3, 4, 1, 2], [0, 3, 4, 2, 1], [0, 4, 1, 2, 3], [0, 4, 1, 3, 2], [0, 4, 2, 1, 3], [0, 4, 2, 3, 1], [0, 4, 3, 1, 2], [0, 4, 3, 2, 1], [1, 0, 2, 3, 4], [1, 0, 2, 4, 3], [1, 0, 3, 2, 4], [1, 0, 3, 4, 2], [1, 0, 4, 2, 3], [1, 0, 4, 3, 2], [1, 2, 0, 3, 4], [1, 2, 0, 4, 3], [1, 2, 3, 0, 4], [1, 2, 3, 4, 0], [1, 2, 4, 0, 3], [1, 2, 4, 3, 0], [1, 3, 0, 2, 4], [1, 3, 0, 4, 2], [1, 3, 2, 0, 4], [1, 3, 2, 4, 0], [1, 3, 4, 0, 2], [1, 3, 4, 2, 0], [1, 4, 0, 2, 3], [1, 4, 0, 3, 2], [1, 4, 2, 0, 3], [1, 4, 2, 3, 0], [1, 4, 3, 0, 2], [1, 4, 3, 2, 0], [2, 0, 1, 3, 4], [2, 0, 1, 4, 3], [2, 0, 3, 1, 4], [2, 0, 3, 4, 1], [2, 0, 4, 1, 3], [2, 0, 4, 3, 1], [2, 1, 0, 3, 4], [2, 1, 0, 4, 3], [2, 1, 3, 0, 4], [2, 1, 3, 4, 0], [2, 1, 4, 0, 3], [2, 1, 4, 3, 0], [2, 3, 0, 1, 4], [2, 3, 0, 4, 1], [2, 3, 1, 0, 4], [2, 3, 1, 4, 0], [2, 3, 4, 0, 1], [2, 3, 4, 1, 0], [2, 4, 0, 1, 3], [2, 4, 0, 3, 1], [2, 4, 1, 0, 3], [2, 4, 1, 3, 0], [2, 4, 3, 0, 1], [2, 4, 3, 1, 0], [3, 0, 1, 2, 4], [3, 0, 1, 4, 2], [3, 0, 2, 1, 4], [3, 0, 2, 4, 1], [3, 0, 4, 1, 2], [3, 0, 4, 2, 1], [3, 1, 0, 2, 4], [3, 1, 0, 4, 2], [3, 1, 2, 0, 4], [3, 1, 2, 4, 0], [3, 1, 4, 0, 2], [3, 1, 4, 2, 0], [3, 2, 0, 1, 4], [3, 2, 0, 4, 1], [3, 2, 1, 0, 4], [3, 2, 1, 4, 0], [3, 2, 4, 0, 1], [3, 2, 4, 1, 0], [3, 4, 0, 1, 2], [3, 4, 0, 2, 1], [3, 4, 1, 0, 2], [3, 4, 1, 2, 0], [3, 4, 2, 0, 1], [3, 4, 2, 1, 0], [4, 0, 1, 2, 3], [4, 0, 1, 3, 2], [4, 0, 2, 1, 3], [4, 0, 2, 3, 1], [4, 0, 3, 1, 2], [4, 0, 3, 2, 1], [4, 1, 0, 2, 3], [4, 1, 0, 3, 2], [4, 1, 2, 0, 3], [4, 1, 2, 3, 0], [4, 1, 3, 0, 2], [4, 1, 3, 2, 0], [4, 2, 0, 1, 3], [4, 2, 0, 3, 1], [4, 2, 1, 0, 3], [4, 2, 1, 3, 0], [4, 2, 3, 0, 1], [4, 2, 3, 1, 0], [4, 3, 0, 1, 2], [4, 3, 0, 2, 1], [4, 3, 1, 0, 2], [4, 3, 1, 2, 0], [4, 3, 2, 0, 1], [4, 3, 2, 1, 0]]]
def p_or (n k j : Nat) : Nat := k9_nth 0 (k9_nth [] (k9_nth [] p_tab n) k) j
def p_fc (n : Nat) : Nat := k9_nth 0 [1, 1, 2, 6, 24, 120] n
def k9_vO (I : k9_I) (w : Nat → Nat → Nat) (V : (Nat → Int32) → Int32) : Prop := I 1 0 13 = 0 ∨ (I 1 0 13 = 1 ∧ w 7 0 ≤ 5 ∧ I 1 0 14 = nI (p_ev w V (p_or (w 7 0)) (p_fc (w 7 0) - 1)).1 ∧ k9_Or I 1 (w 7 0) (p_ev w V (p_or (w 7 0)) (p_fc (w 7 0) - 1)).2)
def k9_Inv (I : k9_I) (J : k9_J) : Prop := ∃ w V b, k9_vW I w ∧ k9_vT I ∧ k9_vL I V ∧ k9_vC I w ∧ k9_vB I b ∧ k9_vS I J b ∧ k9_vD I ∧ k9_vR I w V ∧ k9_vO I w V
section KI
variable {I I' : k9_I} {J J' : k9_J} {w : Nat → Nat → Nat} {V : (Nat → Int32) → Int32} {b : Nat}
theorem k9_vW_c (h : ∀ k i p, v_cl k i p = 1 → I' k i p = I k i p) (v : k9_vW I w) : k9_vW I' w := by
  obtain ⟨⟨a0, a1, a2, a3, a4⟩, ⟨c0, c1, c2, c3, c4⟩, hf, hv⟩ := v
  exact ⟨⟨(h _ _ _ rfl).trans a0, (h _ _ _ rfl).trans a1, (h _ _ _ rfl).trans a2, (h _ _ _ rfl).trans a3, fun p hp => ⟨(h _ _ _ rfl).trans (a4 p hp).1, (h _ _ _ rfl).trans (a4 p hp).2.1, (h _ _ _ rfl).trans (a4 p hp).2.2.1, (h _ _ _ rfl).trans (a4 p hp).2.2.2⟩⟩,
    ⟨(h _ _ _ rfl).trans c0, (h _ _ _ rfl).trans c1, (h _ _ _ rfl).trans c2, (h _ _ _ rfl).trans c3, fun p hp => ⟨(h _ _ _ rfl).trans (c4 p hp).1, (h _ _ _ rfl).trans (c4 p hp).2.1, (h _ _ _ rfl).trans (c4 p hp).2.2.1, (h _ _ _ rfl).trans (c4 p hp).2.2.2⟩⟩, hf, hv⟩
theorem k9_vT_c (h : ∀ k i p, v_cl k i p = 2 → I' k i p = I k i p) (v : k9_vT I) : k9_vT I' := by
  obtain ⟨c, h1, h2, h3, h4⟩ := v
  refine ⟨c, h1, (h _ _ _ rfl).trans h2, (h _ _ _ rfl).trans h3, fun p hp => ?_⟩
  obtain ⟨l, a, a1, a2⟩ := h4 p hp
  exact ⟨l, a, (h _ _ _ rfl).trans a1, (h _ _ _ rfl).trans a2⟩
theorem k9_ML_c (h : ∀ k i p, v_cl k i p = 3 → I' k i p = I k i p) (v : k9_ML I V) : k9_ML I' V :=
  fun S d J I1 a e8 e9 e46 e47 e48 e49 => v S d J I1 a (e8.trans (h _ _ _ rfl)) (e9.trans (h _ _ _ rfl)) (e46.trans (funext fun p => h _ _ _ rfl)) (e47.trans (funext fun p => h _ _ _ rfl)) (e48.trans (funext fun p => h _ _ _ rfl)) (e49.trans (funext fun p => h _ _ _ rfl))
theorem k9_vL_c (h : ∀ k i p, v_cl k i p = 3 → I' k i p = I k i p) (v : k9_vL I V) : k9_vL I' V :=
  ⟨k9_CL_fx v.1 (h _ _ _ rfl) (h _ _ _ rfl) (h _ _ _ rfl) (funext fun p => h _ _ _ rfl), k9_ML_c h v.2⟩
theorem k9_vC_c (h : ∀ k i p, v_cl k i p = 4 → I' k i p = I k i p) (v : k9_vC I w) : k9_vC I' w := by
  obtain ⟨x, y, h1, h2, h3, h4, h5, h6⟩ := v
  refine ⟨x, y, h1, (h _ _ _ rfl).trans h2, (h _ _ _ rfl).trans h3, (h _ _ _ rfl).trans h4, (h _ _ _ rfl).trans h5, fun k hk => ?_⟩
  obtain ⟨p, q, a, c, g1, g2, g3, g4, g5, g6, g7, g8, g9, g10, g11, g12, g13⟩ := h6 k hk
  exact ⟨p, q, a, c, g1, g2, g3, g4, g5, (h _ _ _ rfl).trans g6, (h _ _ _ rfl).trans g7, (h _ _ _ rfl).trans g8, (h _ _ _ rfl).trans g9, (h _ _ _ rfl).trans g10, (h _ _ _ rfl).trans g11, (h _ _ _ rfl).trans g12, (h _ _ _ rfl).trans g13⟩
theorem k9_vB_c (h : ∀ k i p, v_cl k i p = 5 → I' k i p = I k i p) (v : k9_vB I b) : k9_vB I' b := by
  obtain ⟨h1, h2, h3, h4, t, h5, h6, h7, h8⟩ := v
  refine ⟨h1, (h _ _ _ rfl).trans h2, (h _ _ _ rfl).trans h3, fun k hk => ?_, t, h5, (h _ _ _ rfl).trans h6, (h _ _ _ rfl).trans h7, fun k hk hk2 => (h _ _ _ rfl).trans ((h8 k hk hk2).trans (h _ _ _ rfl).symm)⟩
  obtain ⟨g, a, a1, a2⟩ := h4 k hk
  exact ⟨g, a, (h _ _ _ rfl).trans a1, (h _ _ _ rfl).trans a2⟩
theorem k9_vS_c (h : ∀ k i p, v_cl k i p = 6 → I' k i p = I k i p) (v : k9_vS I J b) : k9_vS I' J b := by
  refine ⟨fun s hs => ?_, v.2⟩
  rcases v.1 s hs with ⟨h1, h2⟩ | ⟨h1, y, h2, h3, h4⟩ | ⟨h1, q, z, h2, h3, h4, h5, h6, h7, h8⟩
  · exact Or.inl ⟨(h _ _ _ rfl).trans h1, (h _ _ _ rfl).trans h2⟩
  · exact Or.inr (Or.inl ⟨(h _ _ _ rfl).trans h1, y, h2, (h _ _ _ rfl).trans h3, (h _ _ _ rfl).trans h4⟩)
  · exact Or.inr (Or.inr ⟨(h _ _ _ rfl).trans h1, q, z, h2, h3, (h _ _ _ rfl).trans h4, (h _ _ _ rfl).trans h5, (h _ _ _ rfl).trans h6, (h _ _ _ rfl).trans h7, h8⟩)
theorem k9_vD_c (h : ∀ k i p, v_cl k i p = 7 → I' k i p = I k i p) (v : k9_vD I) : k9_vD I' := by
  obtain ⟨h1, h2, h3⟩ := v
  refine ⟨?_, fun k hk => (h _ _ _ rfl).trans ((h2 k hk).trans (h _ _ _ rfl).symm), ?_⟩
  · rw [h 9 0 0 rfl, h 9 0 1 rfl, h 12 0 23 rfl]
    exact h1
  · rw [h 1 0 11 rfl, h 12 0 25 rfl, h 9 1 0 rfl, h 9 1 1 rfl, h 12 0 26 rfl]
    rcases h3 with h3 | ⟨a, b, c, e⟩
    · exact Or.inl h3
    · exact Or.inr ⟨a, b, c, fun k hk => (h _ _ _ rfl).trans ((e k hk).trans (h _ _ _ rfl).symm)⟩
theorem k9_vR_c (h : ∀ k i p, v_cl k i p = 8 → I' k i p = I k i p) (v : k9_vR I w V) : k9_vR I' w V := by
  rcases v with v | ⟨v, a, b, c⟩
  · exact Or.inl ((h _ _ _ rfl).trans v)
  · exact Or.inr ⟨(h _ _ _ rfl).trans v, (h _ _ _ rfl).trans a, (h _ _ _ rfl).trans b, fun t h1 h2 => ⟨(h _ _ _ rfl).trans (c t h1 h2).1, (h _ _ _ rfl).trans (c t h1 h2).2⟩⟩
theorem k9_vO_c (h : ∀ k i p, v_cl k i p = 9 → I' k i p = I k i p) (v : k9_vO I w V) : k9_vO I' w V := by
  rcases v with v | ⟨v, a, b, c1, c2, c3⟩
  · exact Or.inl ((h _ _ _ rfl).trans v)
  · exact Or.inr ⟨(h _ _ _ rfl).trans v, a, (h _ _ _ rfl).trans b, (h _ _ _ rfl).trans c1, c2, fun k hk => (h _ _ _ rfl).trans (c3 k hk)⟩
theorem k9_fp_c {X : Nat → Bool} (h : k9_fp X I I') {c : Nat} (e : X c = false) : ∀ k i p, v_cl k i p = c → I' k i p = I k i p := fun k i p z => h k i p (by rw [z]; exact e)
/-- scratch alone has changed -/
theorem k9_Inv_0 (h : k9_fp (k9_Xs []) I I') (v : k9_Inv I J) : k9_Inv I' J := by
  obtain ⟨w, V, b, v1, v2, v3, v4, v5, v6, v7, v8, v9⟩ := v
  exact ⟨w, V, b, k9_vW_c (k9_fp_c h rfl) v1, k9_vT_c (k9_fp_c h rfl) v2, k9_vL_c (k9_fp_c h rfl) v3, k9_vC_c (k9_fp_c h rfl) v4, k9_vB_c (k9_fp_c h rfl) v5, k9_vS_c (k9_fp_c h rfl) v6, k9_vD_c (k9_fp_c h rfl) v7, k9_vR_c (k9_fp_c h rfl) v8, k9_vO_c (k9_fp_c h rfl) v9⟩
end KI
