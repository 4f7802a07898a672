/-! BODIES: act, the class -/
section KT35
variable {S : k9_S} {d : Nat} {I I' : k9_I} {J J' : k9_J} {w : Nat → Nat → Nat} {V : (Nat → Int32) → Int32} {b : Nat} {x1 x2 x3 : Int32} {h c : Nat → Nat} {L A f M : Nat}
def p_tb (k a : Nat) : Nat := k9_nth 0 [1, 10, 11, 2, 20, 0, 0, 0, 0, 30, 0, 0, 0, 41, 40, 0, 0, 0, 50, 0, 0, 0, 0, 60, 70, 0, 0, 0, 0, 80, 0, 81] (4 * k + a)
theorem p_tb_t : ∀ k, k ≤ 7 → ∀ a, a ≤ 3 → k9_tab 83 (4 * k + a) = nI (p_tb k a) := by decide +kernel
theorem p_tb_8 : ∀ a, a ≤ 3 → p_tb 8 a = 0 := by decide
theorem p_ab_8 : ∀ k, k ≤ 8 → p_ab k ≤ 8 := by decide
theorem p_tb_b : ∀ k, k ≤ 8 → ∀ a, a ≤ 3 → p_tb k a ≤ 81 := by decide +kernel
theorem k9s_86 {k a : Nat} (hk : k ≤ 8) (ha : a ≤ 3) : k9_R S d 86 0 [some (k9_i (p_vv k)), some (k9_i (nI a))] [] I J = some (some (k9_i (nI (p_tb k a))), I, J) := by
  refine k9o_of (k9o_eq k9e_86_0 ?_)
  by_cases e : k = 8
  · subst e
    rw [p_tb_8 a ha]
    exact k9o_T (by decide) (k9o_eq k9e_86_18 (k9o_eq k9e_86_19 (k9o_ret rfl)))
  · rw [show p_vv k = nI k from if_neg e]
    refine k9o_F (by rw [n_toInt (by omega)]; omega) (k9o_eq k9e_86_2 (k9o_F (by rw [n_toInt (by omega)]; omega) (k9o_eq k9e_86_5 (k9o_F (by rw [n_toInt (by omega)]; omega) (k9o_eq k9e_86_7 (k9o_F (by rw [n_toInt (by omega)]; omega) (k9o_eq k9e_86_10 ?_)))))))
    rw [show nI k * (4 : Int32) + nI a = nI (4 * k + a) from by rw [show (4 : Int32) = nI 4 from rfl, n_mul, nI_add, Nat.mul_comm]]
    refine k9o_T (by rw [n_toInt (by omega)]; omega) ?_
    rw [n_cl (by omega), p_tb_t k (by omega) a ha]
    exact k9o_eq k9e_86_17 (k9o_eq k9e_86_19 (k9o_ret rfl))
def p_wk : Nat → Nat → Nat → Nat
  | 0, k, _ => k
  | n + 1, k, a => if p_tb k a = 0 then p_wk n (p_ab k) a else k
theorem p_wk_b (a : Nat) : ∀ n k, k ≤ 8 → p_wk n k a ≤ 8
  | 0, _, h => h
  | n + 1, k, h => by
    rw [p_wk]
    split
    · exact p_wk_b a n _ (p_ab_8 k h)
    · exact h
/-- a name noted -/
def k9_nt (I : k9_I) (n : Nat) : k9_I := k9_u (if 0 ≤ (I 10 0 1).toInt ∧ (I 10 0 1).toInt < 24 then k9_u I 36 0 (I 10 0 1).toNatClampNeg (nI n) else I) 10 0 1 (I 10 0 1 + 1)
def k9_tc (I : k9_I) : List Nat → k9_I
  | [] => I
  | n :: l => k9_tc (k9_nt I n) l
theorem k9_tc_a (I : k9_I) (l m : List Nat) : k9_tc I (l ++ m) = k9_tc (k9_tc I l) m := by
  induction l generalizing I with
  | nil => rfl
  | cons n l ih => exact ih _
theorem k9s_87 {n : Nat} : k9_R S d 87 0 [some (k9_r 10 0), some (k9_i (nI n))] [] I J = some (none, k9_nt I n, J) := by
  have e1 : ¬ (0 ≤ (I 10 0 1).toInt ∧ (I 10 0 1).toInt < 24) → k9_nt I n = k9_u I 10 0 1 (I 10 0 1 + 1) := fun c => by
    unfold k9_nt
    rw [if_neg c]
  have e2 : (0 ≤ (I 10 0 1).toInt ∧ (I 10 0 1).toInt < 24) → k9_nt I n = k9_u (k9_u I 36 0 (I 10 0 1).toNatClampNeg (nI n)) 10 0 1 (I 10 0 1 + 1) := fun c => by
    unfold k9_nt
    rw [if_pos c]
  refine k9o_of (k9o_eq k9e_87_0 ?_)
  by_cases c1 : (I 10 0 1).toInt < 0
  · exact k9o_T c1 (k9o_eq k9e_87_13 (k9o_ret (by rw [e1 (by omega)])))
  · refine k9o_F c1 (k9o_eq k9e_87_3 ?_)
    by_cases c2 : 24 ≤ (I 10 0 1).toInt
    · exact k9o_T c2 (k9o_eq k9e_87_13 (k9o_ret (by rw [e1 (by omega)])))
    · refine k9o_F c2 (k9o_eq k9e_87_7 (k9o_T (by omega) (k9o_eq k9e_87_13 (k9o_ret ?_))))
      rw [e2 (by omega)]
      simp [k9_ur]
def k9_ac (I : k9_I) (g : Nat) (x1 : Int32) : Prop := I 10 0 4 = x1 ∧ ∃ b i : Nat, b ≤ 50 ∧ I 10 0 0 = nI b ∧ i < b ∧ x1 = nI i ∧ I 35 0 i = nI g
theorem k9_ac_n {g n : Nat} (hA : k9_ac I g x1) : k9_ac (k9_nt I n) g x1 := by
  obtain ⟨a, b, i, h1, h2, h3, h4, h5⟩ := hA
  unfold k9_nt
  refine ⟨?_, b, i, h1, ?_, h3, h4, ?_⟩
  · split <;> simp [k9_ur, a]
  · split <;> simp [k9_ur, h2]
  · split <;> simp [k9_ur, h5]
theorem k9_ac_c {g : Nat} (l : List Nat) (hA : k9_ac I g x1) : k9_ac (k9_tc I l) g x1 := by
  induction l generalizing I with
  | nil => exact hA
  | cons n l ih => exact ih (k9_ac_n hA)
theorem k9s_78a {g : Nat} (hA : k9_ac I g x1) : k9_R S d 78 0 [some (k9_r 10 0), some (k9_i (I 10 0 4))] [] I J = some (some (k9_i (nI g)), I, J) := by
  obtain ⟨a, b, i, h1, h2, h3, rfl, h5⟩ := hA
  rw [a]
  refine k9o_of (k9o_eq k9e_78_0 (k9o_F (by rw [n_toInt (by omega)]; omega) (k9o_eq k9e_78_2 (k9o_F (by rw [h2, n_toInt (by omega), n_toInt (by omega)]; omega) (k9o_eq k9e_78_6 (k9o_F (by rw [n_toInt (by omega)]; omega) (k9o_eq k9e_78_9 (k9o_T (by rw [n_toInt (by omega)]; omega) ?_))))))))
  rw [n_cl (by omega), h5]
  exact k9o_eq k9e_78_13 (k9o_eq k9e_78_15 (k9o_ret rfl))
/-- a name's body -/
def p_cn (r : Nat → Nat → Int32 → Option (List Nat × Int32)) (g pk nm : Nat) (x1 x3 : Int32) : Option (List Nat × Int32) :=
  if nm = 1 then some ([], x3 + x1)
  else if nm = 2 then (r g 1 x3).bind fun u => (r g 2 1).bind fun v => some (u.1 ++ v.1, u.2 - v.2)
  else if nm = 10 then (r g 0 x3).bind fun u => some (u.1, u.2 * 2)
  else if nm = 11 then some ([], x3 ^^^ x1)
  else if nm = 20 then (r pk 0 x3).bind fun u => some (u.1, u.2 + 3)
  else if nm = 30 then (r pk 1 x3).bind fun u => some (u.1, -u.2)
  else if nm = 40 then (r pk 2 x3).bind fun u => some (u.1, u.2 * 3)
  else if nm = 41 then r pk 1 (x3 + 1)
  else if nm = 50 then (r pk 2 x3).bind fun u => (r g 0 2).bind fun v => some (u.1 ++ v.1, u.2 - v.2)
  else if nm = 60 then (r pk 3 x3).bind fun u => some (u.1, u.2 ^^^ 5)
  else if nm = 70 then (r pk 0 x3).bind fun u => some (u.1, u.2 * 2)
  else if nm = 80 then (r pk 1 x3).bind fun u => (r g 2 2).bind fun v => some (u.1 ++ v.1, u.2 + v.2)
  else if nm = 81 then (r pk 3 x3).bind fun u => some (u.1, u.2 - 1)
  else some ([], 0)
def p_ca (g : Nat) (x1 : Int32) : Nat → Nat → Nat → Int32 → Option (List Nat × Int32)
  | 0, _, _, _ => none
  | f + 1, k, a, x3 => if p_tb (p_wk 8 k a) a = 0 then some ([], 0) else (p_cn (p_ca g x1 f) g (p_ab (p_wk 8 k a)) (p_tb (p_wk 8 k a) a) x1 x3).bind fun u => some (p_tb (p_wk 8 k a) a :: u.1, u.2)
end KT35
