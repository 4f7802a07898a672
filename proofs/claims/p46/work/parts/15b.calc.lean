/-! RUNS: how one goes through a run of the model -/
def k9_ok (r : Option k9_A) (Q : k9_A → Prop) : Prop := ∃ q, r = some q ∧ Q q
theorem k9o_ret {q : k9_A} {Q : k9_A → Prop} (h : Q q) : k9_ok (some q) Q := ⟨q, rfl, h⟩
theorem k9o_eq {r r' : Option k9_A} {Q : k9_A → Prop} (h : r = r') (g : k9_ok r' Q) : k9_ok r Q := by rw [h]; exact g
theorem k9o_T {c : Prop} [Decidable c] {r s : Option k9_A} {Q : k9_A → Prop} (h : c) (g : k9_ok r Q) : k9_ok (if c then r else s) Q := by rw [if_pos h]; exact g
theorem k9o_F {c : Prop} [Decidable c] {r s : Option k9_A} {Q : k9_A → Prop} (h : ¬ c) (g : k9_ok s Q) : k9_ok (if c then r else s) Q := by rw [if_neg h]; exact g
theorem k9o_if {c : Prop} [Decidable c] {r s : Option k9_A} {Q : k9_A → Prop} (g : c → k9_ok r Q) (g' : ¬ c → k9_ok s Q) : k9_ok (if c then r else s) Q := by
  by_cases h : c
  · rw [if_pos h]; exact g h
  · rw [if_neg h]; exact g' h
theorem k9o_bind {r : Option k9_A} {f : k9_A → Option k9_A} {P Q : k9_A → Prop} (h : k9_ok r P) (g : ∀ a I J, P (a, I, J) → k9_ok (f (a, I, J)) Q) : k9_ok (r.bind f) Q := by
  obtain ⟨⟨a, I, J⟩, e, p⟩ := h
  rw [e]
  exact g a I J p
theorem k9o_call {r : Option k9_A} {f : k9_A → Option k9_A} {q : k9_A} {Q : k9_A → Prop} (h : r = some q) (g : k9_ok (f q) Q) : k9_ok (r.bind f) Q := by
  rw [h]
  exact g
theorem k9o_mono {r : Option k9_A} {P Q : k9_A → Prop} (h : k9_ok r P) (g : ∀ a I J, P (a, I, J) → Q (a, I, J)) : k9_ok r Q := by
  obtain ⟨⟨a, I, J⟩, e, p⟩ := h
  exact ⟨_, e, g a I J p⟩
theorem k9o_of {r : Option k9_A} {q : k9_A} (h : k9_ok r (fun q' => q' = q)) : r = some q := by
  obtain ⟨q', e, p⟩ := h
  rw [e, p]
theorem k9o_to {r : Option k9_A} {q : k9_A} {Q : k9_A → Prop} (h : r = some q) (p : Q q) : k9_ok r Q := ⟨q, h, p⟩
theorem k9_ps_s {v : k9_v} {st : List k9_v} : k9_ps (some v) st = v :: st := rfl
theorem k9_ps_n {st : List k9_v} : k9_ps none st = st := rfl
theorem k9c_lt {x y : Int32} {a b : Int} (ha : x.toInt = a) (hb : y.toInt = b) : x < y ↔ a < b := by rw [Int32.lt_iff_toInt_lt, ha, hb]
theorem k9c_le {x y : Int32} {a b : Int} (ha : x.toInt = a) (hb : y.toInt = b) : x ≤ y ↔ a ≤ b := by rw [Int32.le_iff_toInt_le, ha, hb]
theorem k9c_eq {x y : Int32} {a b : Int} (ha : x.toInt = a) (hb : y.toInt = b) : x = y ↔ a = b := by rw [← Int32.toInt_inj, ha, hb]
theorem k9_bc (S : k9_S) (n : Nat) {d y ix : Nat} {L : k9_L} {st : List k9_v} {I : k9_I} {J : k9_J} {P P' : Prop} [Decidable P] [Decidable P'] {r s : Option k9_A} (e : P ↔ P') (h : k9_n S n d y ix L st I J = if decide P = true then r else s) : k9_R S d y ix L st I J = if P' then r else s := by
  rw [← k9_n_eq S n, h]
  by_cases hp : P
  · rw [if_pos (decide_eq_true hp), if_pos (e.mp hp)]
  · rw [if_neg (by rw [decide_eq_false hp]; exact Bool.false_ne_true), if_neg (fun z => hp (e.mpr z))]
theorem k9_bg (S : k9_S) (n : Nat) {d y ix : Nat} {L : k9_L} {st : List k9_v} {I : k9_I} {J : k9_J} {x : Int32} {m : Nat} {r : Option k9_A} (h : k9_n S n d y ix L st I J = if k9_in x m = true then r else none) : k9_R S d y ix L st I J = if 0 ≤ x.toInt ∧ x.toInt < m then r else none := by
  rw [← k9_n_eq S n, h]
  simp only [k9_in, decide_eq_true_eq]
theorem k9_sw1 {α : Type} {x c : Int32} {b : Int} (hb : c.toInt = b) {r s s' : α} (h : s = s') : (if x = c then r else s) = if x.toInt = b then r else s' := by
  rw [h]
  by_cases e : x = c
  · rw [if_pos e, if_pos ((k9c_eq rfl hb).mp e)]
  · rw [if_neg e, if_neg (fun z => e ((k9c_eq rfl hb).mpr z))]
theorem k9_ur {I : k9_I} {k i p : Nat} {v : Int32} {k' i' p' : Nat} : k9_u I k i p v k' i' p' = if k' = k ∧ i' = i ∧ p' = p then v else I k' i' p' := rfl
theorem k9_urJ {I : k9_J} {k i p : Nat} {v : Int64} {k' i' p' : Nat} : k9_uJ I k i p v k' i' p' = if k' = k ∧ i' = i ∧ p' = p then v else I k' i' p' := rfl
/-- what lies outside F is as it was -/
def k9_fx (F : Nat → Nat → Nat → Bool) (I I' : k9_I) : Prop := ∀ k i p, F k i p = false → I' k i p = I k i p
theorem k9_fx_rf (F : Nat → Nat → Nat → Bool) (I : k9_I) : k9_fx F I I := fun _ _ _ _ => rfl
theorem k9_fx_tr {F : Nat → Nat → Nat → Bool} {I I' I'' : k9_I} (h : k9_fx F I I') (g : k9_fx F I' I'') : k9_fx F I I'' := fun k i p e => (g k i p e).trans (h k i p e)
theorem k9_fx_u {F : Nat → Nat → Nat → Bool} {I I' : k9_I} (h : k9_fx F I I') {k i p : Nat} {v : Int32} (e : F k i p = true) : k9_fx F I (k9_u I' k i p v) := by
  intro k' i' p' e'
  rw [k9_ur, if_neg]
  · exact h _ _ _ e'
  · rintro ⟨rfl, rfl, rfl⟩
    rw [e] at e'
    cases e'
theorem k9_fx_w {F G : Nat → Nat → Nat → Bool} {I I' : k9_I} (h : k9_fx F I I') (w : ∀ k i p, G k i p = false → F k i p = false) : k9_fx G I I' := fun k i p e => h k i p (w k i p e)
theorem k9_fx_row {F : Nat → Nat → Nat → Bool} {I I' : k9_I} (h : k9_fx F I I') (k i : Nat) (e : ∀ p, F k i p = false) : I' k i = I k i := funext fun p => h k i p (e p)
/-! numbers -/
theorem n_toInt {n : Nat} (h : n < 2147483648) : (nI n).toInt = (n : Int) := nI_toInt h
theorem n_cl {n : Nat} (h : n < 2147483648) : (nI n).toNatClampNeg = n := nI_clamp h
theorem n_sub {a b : Nat} (h : b ≤ a) : nI a - nI b = nI (a - b) := pk_sub h
theorem n_s1 {a : Nat} (h : 1 ≤ a) : nI a - 1 = nI (a - 1) := pk_sub (b := 1) h
theorem n_m1 {a : Nat} (h : 1 ≤ a) : nI a + (-1) = nI (a - 1) := by
  obtain ⟨b, rfl⟩ : ∃ b, a = b + 1 := ⟨a - 1, by omega⟩
  exact pk_m1 b
theorem n_mul (a b : Nat) : nI a * nI b = nI (a * b) := pk_mul a b
theorem n_div {a d : Nat} (ha : a < 2147483648) (h0 : 0 < d) (hd : d < 2147483648) : nI a / nI d = nI (a / d) := pk_div ha h0 hd
theorem n_rem {a d : Nat} (ha : a < 2147483648) (h0 : 0 < d) (hd : d < 2147483648) : nI a - nI a / nI d * nI d = nI (a % d) := pk_rem ha h0 hd
theorem n_inj {a b : Nat} (ha : a < 2147483648) (hb : b < 2147483648) : nI a = nI b ↔ a = b := nI_eq ha hb
/-- an int within 0 .. is a number -/
theorem n_of {x : Int32} (h : 0 ≤ x.toInt) : ∃ n : Nat, x = nI n ∧ (n : Int) = x.toInt ∧ n < 2147483648 := by
  refine ⟨x.toInt.toNat, ?_, by omega, ?_⟩
  · have h2 := Int32.toInt_lt x
    apply Int32.toInt_inj.mp
    rw [nI_toInt (by omega)]
    omega
  · have h2 := Int32.toInt_lt x
    omega
theorem n_rng (x : Int32) : -2147483648 ≤ x.toInt ∧ x.toInt < 2147483648 := by
  have h1 := Int32.le_toInt x
  have h2 := Int32.toInt_lt x
  omega
theorem n_ext {x y : Int32} (h : x.toInt = y.toInt) : x = y := Int32.toInt_inj.mp h
theorem n_a0 (a : Nat) : nI a + 0 = nI a := Int32.add_zero _
