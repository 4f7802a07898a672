theorem k9o_Tb {c : Prop} [Decidable c] {r s : Option k9_A} {f : k9_A → Option k9_A} {Q : k9_A → Prop} (h : c) (g : k9_ok (r.bind f) Q) : k9_ok ((if c then r else s).bind f) Q := by rw [if_pos h]; exact g
theorem k9o_Fb {c : Prop} [Decidable c] {r s : Option k9_A} {f : k9_A → Option k9_A} {Q : k9_A → Prop} (h : ¬ c) (g : k9_ok (s.bind f) Q) : k9_ok ((if c then r else s).bind f) Q := by rw [if_neg h]; exact g
theorem k9o_ifb {c : Prop} [Decidable c] {r s : Option k9_A} {f : k9_A → Option k9_A} {Q : k9_A → Prop} (g : c → k9_ok (r.bind f) Q) (g' : ¬ c → k9_ok (s.bind f) Q) : k9_ok ((if c then r else s).bind f) Q := by
  by_cases h : c
  · rw [if_pos h]; exact g h
  · rw [if_neg h]; exact g' h
theorem k9_bs {q : k9_A} {f : k9_A → Option k9_A} : (some q).bind f = f q := rfl
theorem k9_ba {r : Option k9_A} {f g : k9_A → Option k9_A} : (r.bind f).bind g = r.bind fun q => (f q).bind g := by cases r <;> rfl
/-- the class and the reference called with the same: the same answer, and the invariant holds behind it -/
def k9_P (S : k9_S) (d y z : Nat) (A B : k9_L) (I : k9_I) (J : k9_J) (Q : k9_I → k9_J → Prop) : Prop := ∃ (v : Int32) (I1 : k9_I) (J1 : k9_J) (I2 : k9_I) (J2 : k9_J), k9_R S d y 0 A [] I J = some (some (k9_i v), I1, J1) ∧ k9_R S d z 0 B [] I1 J1 = some (some (k9_i v), I2, J2) ∧ Q I2 J2
theorem k9P_of {S : k9_S} {d y z : Nat} {A B : k9_L} {I : k9_I} {J : k9_J} {Q : k9_I → k9_J → Prop} (h : k9_ok (k9_R S d y 0 A [] I J) (fun q => ∃ (v : Int32) (I1 : k9_I) (J1 : k9_J), q = (some (k9_i v), I1, J1) ∧ k9_ok (k9_R S d z 0 B [] I1 J1) (fun q' => ∃ I2 J2, q' = (some (k9_i v), I2, J2) ∧ Q I2 J2))) : k9_P S d y z A B I J Q := by
  obtain ⟨q, e, v, I1, J1, rfl, q', e', I2, J2, rfl, hq⟩ := h
  exact ⟨v, I1, J1, I2, J2, e, e', hq⟩
def k9_PJ (S : k9_S) (d y z : Nat) (A B : k9_L) (I : k9_I) (J : k9_J) (Q : k9_I → k9_J → Prop) : Prop := ∃ (v : Int64) (I1 : k9_I) (J1 : k9_J) (I2 : k9_I) (J2 : k9_J), k9_R S d y 0 A [] I J = some (some (k9_l v), I1, J1) ∧ k9_R S d z 0 B [] I1 J1 = some (some (k9_l v), I2, J2) ∧ Q I2 J2
theorem k9PJ_of {S : k9_S} {d y z : Nat} {A B : k9_L} {I : k9_I} {J : k9_J} {Q : k9_I → k9_J → Prop} (h : k9_ok (k9_R S d y 0 A [] I J) (fun q => ∃ (v : Int64) (I1 : k9_I) (J1 : k9_J), q = (some (k9_l v), I1, J1) ∧ k9_ok (k9_R S d z 0 B [] I1 J1) (fun q' => ∃ I2 J2, q' = (some (k9_l v), I2, J2) ∧ Q I2 J2))) : k9_PJ S d y z A B I J Q := by
  obtain ⟨q, e, v, I1, J1, rfl, q', e', I2, J2, rfl, hq⟩ := h
  exact ⟨v, I1, J1, I2, J2, e, e', hq⟩
theorem n_p2 (a : Nat) : nI a + 2 = nI (a + 2) := nI_add a 2
theorem n_p3 (a : Nat) : nI a + 3 = nI (a + 3) := nI_add a 3
theorem n_p4 (a : Nat) : nI a + 4 = nI (a + 4) := nI_add a 4
theorem n_x2 (a : Nat) : 2 * nI a = nI (2 * a) := n_mul 2 a
theorem n_x3 (a : Nat) : 3 * nI a = nI (3 * a) := n_mul 3 a
theorem n_x4 (a : Nat) : 4 * nI a = nI (4 * a) := n_mul 4 a
theorem n_x60 (a : Nat) : 60 * nI a = nI (60 * a) := n_mul 60 a
theorem n_x100 (a : Nat) : 100 * nI a = nI (100 * a) := n_mul 100 a
theorem n_pm1 {n : Nat} (h : n < 1000000000) : (nI n - 1).toInt = (n : Int) - 1 := by
  have := pk_sub_toInt (a := n) (b := 1) (by omega) (by omega)
  exact this
theorem k9q_T {c : Prop} {i : Decidable c} {r s : Option k9_A} {Q : k9_A → Prop} (h : c) (g : k9_ok r Q) : k9_ok (@ite _ c i r s) Q := by rw [if_pos h]; exact g
theorem k9q_F {c : Prop} {i : Decidable c} {r s : Option k9_A} {Q : k9_A → Prop} (h : ¬ c) (g : k9_ok s Q) : k9_ok (@ite _ c i r s) Q := by rw [if_neg h]; exact g
theorem k9q_Tb {c : Prop} {i : Decidable c} {r s : Option k9_A} {f : k9_A → Option k9_A} {Q : k9_A → Prop} (h : c) (g : k9_ok (r.bind f) Q) : k9_ok ((@ite _ c i r s).bind f) Q := by rw [if_pos h]; exact g
theorem k9q_Fb {c : Prop} {i : Decidable c} {r s : Option k9_A} {f : k9_A → Option k9_A} {Q : k9_A → Prop} (h : ¬ c) (g : k9_ok (s.bind f) Q) : k9_ok ((@ite _ c i r s).bind f) Q := by rw [if_neg h]; exact g
theorem k9q_if {c : Prop} {i : Decidable c} {r s : Option k9_A} {Q : k9_A → Prop} (g : c → k9_ok r Q) (g' : ¬ c → k9_ok s Q) : k9_ok (@ite _ c i r s) Q := by
  by_cases h : c
  · rw [if_pos h]; exact g h
  · rw [if_neg h]; exact g' h
theorem k9q_ifb {c : Prop} {i : Decidable c} {r s : Option k9_A} {f : k9_A → Option k9_A} {Q : k9_A → Prop} (g : c → k9_ok (r.bind f) Q) (g' : ¬ c → k9_ok (s.bind f) Q) : k9_ok ((@ite _ c i r s).bind f) Q := by
  by_cases h : c
  · rw [if_pos h]; exact g h
  · rw [if_neg h]; exact g' h
theorem k9L_m11 : (-11 : Int32).toInt = -11 := by decide
theorem k9L_m12 : (-12 : Int32).toInt = -12 := by decide
theorem k9L_m13 : (-13 : Int32).toInt = -13 := by decide
theorem k9L_m14 : (-14 : Int32).toInt = -14 := by decide
