/-! THE LAW'S TEXT: the class reads it -/
section KV2
variable {S : k9_S} {d : Nat} {I I' : k9_I} {J J' : k9_J} {n a c f lv op : Nat} {l : Nat → Nat} {ts : List Nat}
def k9_Tc (I : k9_I) (n : Nat) (l : Nat → Nat) (a : Nat) (ts : List Nat) : Prop := n ≤ 120 ∧ (∀ p, p < n → l p ≤ 255) ∧ I 5 0 0 = nI n ∧ (∀ p, p < n → I 26 0 p = nI (l p)) ∧ I 5 0 4 = nI a ∧ I 5 0 1 = nI ts.length ∧ ∀ i, i < ts.length → I 27 0 i = nI (ts.getD i 0)
def k9_Ftc (k _ p : Nat) : Bool := Nat.beq k 27 || (Nat.beq k 5 && (Nat.beq p 1 || Nat.beq p 4))
theorem k9_Tc_p (h : k9_Tc I n l a ts) (b : Nat) : k9_Tc (k9_u I 5 0 4 (nI b)) n l b ts := by
  obtain ⟨h1, h2, h3, h4, h5, h6, h7⟩ := h
  exact ⟨h1, h2, by simp [k9_ur, h3], fun p hp => by simp [k9_ur, h4 p hp], by simp [k9_ur], by simp [k9_ur, h6], fun i hi => by
    have := h7 i hi
    simpa [k9_ur] using this⟩
theorem k9s_41 (h : k9_Tc I n l a ts) (ha : a ≤ 120) : k9_R S d 41 0 [some (k9_r 5 0)] [] I J = some (some (k9_i (p_lx (p_lt n l a))), I, J) := by
  obtain ⟨h1, h2, h3, h4, h5, h6, h7⟩ := h
  refine k9o_of (k9o_eq k9e_41_0 (k9o_F (by rw [h5, n_toInt (by omega)]; omega) (k9o_eq k9e_41_3 ?_)))
  by_cases e : a < n
  · have el : p_lt n l a = l a := if_pos e
    have := h2 a e
    rw [el, p_lx_n (show l a ≤ 255 from this)]
    refine k9o_F (by rw [h3, h5, n_toInt (by omega), n_toInt (by omega)]; omega) (k9o_eq k9e_41_8 (k9o_F (by rw [h5, n_toInt (by omega)]; omega) (k9o_eq k9e_41_12 (k9o_T (by rw [h5, n_toInt (by omega)]; omega) ?_))))
    rw [h5, n_cl (by omega), h4 a e]
    exact k9o_eq k9e_41_17 (k9o_eq k9e_41_19 (k9o_ret rfl))
  · have el : p_lt n l a = 999 := if_neg e
    rw [el]
    exact k9o_T (by rw [h3, h5, n_toInt (by omega), n_toInt (by omega)]; omega) (k9o_eq k9e_41_18 (k9o_eq k9e_41_19 (k9o_ret rfl)))
theorem k9s_42 (h : k9_Tc I n l a ts) (ha : a ≤ 120) (hc : c ≤ 255) : k9_R S (d + 1) 42 0 [some (k9_r 5 0), some (k9_i (nI c))] [] I J = some (some (k9_i (nI (if p_lt n l a = c then 1 else 0))), (if p_lt n l a = c then k9_u I 5 0 4 (nI (a + 1)) else I), J) := by
  have hl := p_lt_o h.2.1 a
  have h5 := h.2.2.2.2.1
  refine k9o_of (k9o_eq k9e_42_0 (k9o_call (k9s_41 h ha) ?_))
  simp only [k9_ps_s]
  refine k9o_eq k9e_42_2 ?_
  by_cases e : p_lt n l a = c
  · rw [if_pos e, if_pos e]
    refine k9o_T (by rw [n_toInt (n := c) (by omega)]; omega) (k9o_eq k9e_42_6 (k9o_ret ?_))
    rw [h5, nI_1]
    rfl
  · rw [if_neg e, if_neg e]
    exact k9o_F (by rw [n_toInt (n := c) (by omega)]; omega) (k9o_eq k9e_42_4 (k9o_ret rfl))
theorem k9s_43 (h : k9_Tc I n l a ts) (ht : ts.length ≤ 120) : ∃ I', k9_R S d 43 0 [some (k9_r 5 0), some (k9_i (nI c))] [] I J = some (none, I', J) ∧ k9_Tc I' n l a (ts ++ [c]) ∧ k9_fx k9_Ftc I I' := by
  obtain ⟨h1, h2, h3, h4, h5, h6, h7⟩ := h
  refine ⟨k9_u (k9_u I 27 0 ts.length (nI c)) 5 0 1 (nI (ts.length + 1)), ?_, ⟨h1, h2, by simp [k9_ur, h3], fun p hp => by simp [k9_ur, h4 p hp], by simp [k9_ur, h5], by simp [k9_ur], fun i hi => ?_⟩, k9_fx_u (k9_fx_u (k9_fx_rf _ _) rfl) rfl⟩
  · refine k9o_of (k9o_eq k9e_43_0 (k9o_F (by rw [h6, n_toInt (by omega)]; omega) (k9o_eq k9e_43_3 (k9o_F (by rw [h6, n_toInt (by omega)]; omega) (k9o_eq k9e_43_7 (k9o_T (by rw [h6, n_toInt (by omega)]; omega) ?_))))))
    rw [h6, n_cl (by omega)]
    refine k9o_eq k9e_43_13 ?_
    rw [show (k9_u I 27 0 ts.length (nI c)) 5 0 1 = I 5 0 1 from rfl, h6, nI_1]
    exact k9o_eq k9e_43_19 (k9o_ret rfl)
  · rw [List.length_append, List.length_singleton] at hi
    by_cases e : i = ts.length
    · subst e
      simp [k9_ur, List.getD_eq_getElem?_getD]
    · have := h7 i (by omega)
      rw [show (ts ++ [c]).getD i 0 = ts.getD i 0 by simp [List.getD_eq_getElem?_getD, List.getElem?_append_left (show i < ts.length by omega)]]
      simpa [k9_ur, e] using this
theorem k9s_44 (hl : (c = 999 ∧ (p_lx c).toInt = -1) ∨ (c ≤ 255 ∧ (p_lx c).toInt = (c : Int))) : k9_R S d 44 0 [some (k9_i (p_lx c))] [] I J = some (some (k9_i (nI (if 48 ≤ c ∧ c ≤ 57 then 1 else 0))), I, J) := by
  refine k9o_of ?_
  by_cases e : 48 ≤ c ∧ c ≤ 57
  · rw [if_pos e]
    exact k9o_eq k9e_44_0 (k9o_F (by omega) (k9o_eq k9e_44_3 (k9o_F (by omega) (k9o_eq k9e_44_6 (k9o_eq k9e_44_9 (k9o_T (by decide) (k9o_ret rfl)))))))
  · rw [if_neg e]
    refine k9o_eq k9e_44_0 ?_
    by_cases e2 : (p_lx c).toInt < 48
    · exact k9o_T e2 (k9o_eq k9e_44_8 (k9o_eq k9e_44_9 (k9o_T (by decide) (k9o_ret rfl))))
    · exact k9o_F e2 (k9o_eq k9e_44_3 (k9o_T (by omega) (k9o_eq k9e_44_8 (k9o_eq k9e_44_9 (k9o_T (by decide) (k9o_ret rfl))))))
theorem k9s_45 (hl : (c = 999 ∧ (p_lx c).toInt = -1) ∨ (c ≤ 255 ∧ (p_lx c).toInt = (c : Int))) : k9_R S d 45 0 [some (k9_i (p_lx c))] [] I J = some (some (k9_i (nI (if p_na c then 1 else 0))), I, J) := by
  refine k9o_of ?_
  have y : p_na c → k9_ok (k9_R S d 45 18 [some (k9_i (p_lx c))] [] I J) (fun q => q = (some (k9_i (nI (if p_na c then 1 else 0))), I, J)) := fun e => by
    rw [if_pos e]
    exact k9o_eq k9e_45_18 (k9o_eq k9e_45_21 (k9o_T (by decide) (k9o_ret rfl)))
  have z : ¬ p_na c → k9_ok (k9_R S d 45 20 [some (k9_i (p_lx c))] [] I J) (fun q => q = (some (k9_i (nI (if p_na c then 1 else 0))), I, J)) := fun e => by
    rw [if_neg e]
    exact k9o_eq k9e_45_20 (k9o_eq k9e_45_21 (k9o_T (by decide) (k9o_ret rfl)))
  refine k9o_eq k9e_45_0 (k9o_if (fun h => y (by omega)) (fun h1 => k9o_eq k9e_45_3 (k9o_if (fun h => y (by omega)) (fun h2 => k9o_eq k9e_45_6 (k9o_if (fun h => y (by omega)) (fun h3 => k9o_eq k9e_45_9 (k9o_if (fun h => y (by omega)) (fun h4 => k9o_eq k9e_45_12 (k9o_if (fun h => y (by omega)) (fun h5 => k9o_eq k9e_45_15 (k9o_if (fun h => y (by omega)) (fun h6 => z (by omega)))))))))))))
theorem k9s_46 (h1 : 1 ≤ lv) (h5 : lv ≤ 5) (hl : (c = 999 ∧ (p_lx c).toInt = -1) ∨ (c ≤ 255 ∧ (p_lx c).toInt = (c : Int))) : k9_R S d 46 0 [some (k9_i (nI (5 - lv))), some (k9_i (p_lx c))] [] I J = some (some (k9_i (nI (if p_jn lv c then 1 else 0))), I, J) := by
  refine k9o_of (k9o_eq k9e_46_0 ?_)
  have y8 : ∀ x0, p_jn lv c → k9_ok (k9_R S d 46 8 [some (k9_i x0), some (k9_i (p_lx c))] [k9_i 1] I J) (fun q => q = (some (k9_i (nI (if p_jn lv c then 1 else 0))), I, J)) := fun x0 e => by
    rw [if_pos e]
    exact k9o_eq k9e_46_8 (k9o_T (by decide) (k9o_ret rfl))
  obtain rfl | rfl | rfl | rfl | rfl : lv = 1 ∨ lv = 2 ∨ lv = 3 ∨ lv = 4 ∨ lv = 5 := by omega
  · refine k9o_F (by decide) (k9o_F (by decide) (k9o_F (by decide) (k9o_F (by decide) (k9o_eq k9e_46_39 ?_))))
    by_cases e : p_jn 1 c
    · rw [if_pos e]
      have t : ∀ x0, k9_ok (k9_R S d 46 48 [some (k9_i x0), some (k9_i (p_lx c))] [] I J) (fun q => q = (some (k9_i (nI 1)), I, J)) := fun x0 => k9o_eq k9e_46_48 (k9o_eq k9e_46_51 (k9o_T (by decide) (k9o_ret rfl)))
      exact k9o_if (fun _ => t _) (fun g1 => k9o_eq k9e_46_42 (k9o_if (fun _ => t _) (fun g2 => k9o_eq k9e_46_45 (k9o_if (fun _ => t _) (fun g3 => absurd e (by simp only [p_jn]; omega))))))
    · rw [if_neg e]
      have e' : ¬ (c = 42 ∨ c = 47 ∨ c = 37) := fun z => e (by simp only [p_jn]; omega)
      exact k9o_F (by omega) (k9o_eq k9e_46_42 (k9o_F (by omega) (k9o_eq k9e_46_45 (k9o_F (by omega) (k9o_eq k9e_46_50 (k9o_eq k9e_46_51 (k9o_T (by decide) (k9o_ret rfl))))))))
  · refine k9o_F (by decide) (k9o_F (by decide) (k9o_F (by decide) (k9o_T (by decide) (k9o_eq k9e_46_29 ?_))))
    by_cases e : p_jn 2 c
    · rw [if_pos e]
      have t : ∀ x0, k9_ok (k9_R S d 46 35 [some (k9_i x0), some (k9_i (p_lx c))] [] I J) (fun q => q = (some (k9_i (nI 1)), I, J)) := fun x0 => k9o_eq k9e_46_35 (k9o_eq k9e_46_38 (k9o_T (by decide) (k9o_ret rfl)))
      exact k9o_if (fun _ => t _) (fun g1 => k9o_eq k9e_46_32 (k9o_if (fun _ => t _) (fun g2 => absurd e (by simp only [p_jn]; omega))))
    · rw [if_neg e]
      have e' : ¬ (c = 43 ∨ c = 45) := fun z => e (by simp only [p_jn]; omega)
      exact k9o_F (by omega) (k9o_eq k9e_46_32 (k9o_F (by omega) (k9o_eq k9e_46_37 (k9o_eq k9e_46_38 (k9o_T (by decide) (k9o_ret rfl))))))
  · refine k9o_F (by decide) (k9o_F (by decide) (k9o_T (by decide) (k9o_eq k9e_46_16 ?_)))
    by_cases e : p_jn 3 c
    · rw [if_pos e]
      have t : ∀ x0, k9_ok (k9_R S d 46 25 [some (k9_i x0), some (k9_i (p_lx c))] [] I J) (fun q => q = (some (k9_i (nI 1)), I, J)) := fun x0 => k9o_eq k9e_46_25 (k9o_eq k9e_46_28 (k9o_T (by decide) (k9o_ret rfl)))
      exact k9o_if (fun _ => t _) (fun g1 => k9o_eq k9e_46_19 (k9o_if (fun _ => t _) (fun g2 => k9o_eq k9e_46_22 (k9o_if (fun _ => t _) (fun g3 => absurd e (by simp only [p_jn]; omega))))))
    · rw [if_neg e]
      have e' : ¬ (c = 60 ∨ c = 61 ∨ c = 62) := fun z => e (by simp only [p_jn]; omega)
      exact k9o_F (by omega) (k9o_eq k9e_46_19 (k9o_F (by omega) (k9o_eq k9e_46_22 (k9o_F (by omega) (k9o_eq k9e_46_27 (k9o_eq k9e_46_28 (k9o_T (by decide) (k9o_ret rfl))))))))
  · refine k9o_F (by decide) (k9o_T (by decide) (k9o_eq k9e_46_9 ?_))
    by_cases e : p_jn 4 c
    · rw [if_pos e]
      have e' : c = 38 := by simp only [p_jn] at e; omega
      exact k9o_T (by omega) (k9o_eq k9e_46_12 (k9o_eq k9e_46_15 (k9o_T (by decide) (k9o_ret rfl))))
    · rw [if_neg e]
      have e' : ¬ c = 38 := fun z => e (by simp only [p_jn]; omega)
      exact k9o_F (by omega) (k9o_eq k9e_46_14 (k9o_eq k9e_46_15 (k9o_T (by decide) (k9o_ret rfl))))
  · refine k9o_T (by decide) (k9o_eq k9e_46_2 ?_)
    by_cases e : p_jn 5 c
    · rw [if_pos e]
      have e' : c = 124 := by simp only [p_jn] at e; omega
      exact k9o_T (by omega) (k9o_eq k9e_46_5 (k9o_eq k9e_46_8 (k9o_T (by decide) (k9o_ret rfl))))
    · rw [if_neg e]
      have e' : ¬ c = 124 := fun z => e (by simp only [p_jn]; omega)
      exact k9o_F (by omega) (k9o_eq k9e_46_7 (k9o_eq k9e_46_8 (k9o_T (by decide) (k9o_ret rfl))))
/-- a number is read -/
theorem k9s_40 (h : k9_Tc I n l a ts) (ha : a ≤ n) (ht : ts.length ≤ 120) : ∃ I', k9_R S (d + 1) 40 0 [some (k9_r 5 0), none, none] [] I J = some (none, I', J) ∧ k9_Tc I' n l (p_nu n l 4 0 a).2 (ts ++ [(p_nu n l 4 0 a).1]) ∧ k9_fx k9_Ftc I I' := by
  have key : ∀ k i v b I1, i + k = 4 → k9_Tc I1 n l b ts → b ≤ n → k9_fx k9_Ftc I I1 → ∃ I', k9_R S (d + 1) 40 4 [some (k9_r 5 0), some (k9_i (nI v)), some (k9_i (nI i))] [] I1 J = some (none, I', J) ∧ k9_Tc I' n l (p_nu n l k v b).2 (ts ++ [(p_nu n l k v b).1]) ∧ k9_fx k9_Ftc I I' := by
    intro k
    induction k with
    | zero =>
      intro i v b I1 hi hT hb hx
      obtain ⟨I2, e2, T2, x2⟩ := k9s_43 (S := S) (d := d) (J := J) (c := v) hT ht
      refine ⟨I2, k9o_of (k9o_eq k9e_40_4 (k9o_T (by rw [n_toInt (by omega)]; omega) (k9o_eq k9e_40_28 (k9o_call e2 ?_)))), T2, k9_fx_tr hx x2⟩
      simp only [k9_ps_n]
      exact k9o_eq k9e_40_31 (k9o_ret rfl)
    | succ k ih =>
      intro i v b I1 hi hT hb hx
      have hn := hT.1
      have hl := p_lt_o hT.2.1 b
      have e41 := k9s_41 (S := S) (d := d) (J := J) hT (by omega)
      have e44 := k9s_44 (S := S) (d := d) (I := I1) (J := J) hl
      rw [p_nu]
      by_cases c : 48 ≤ p_lt n l b ∧ p_lt n l b ≤ 57
      · rw [if_pos c]
        rw [if_pos c] at e44
        have hbn := p_lt_n (n := n) (l := l) (a := b) (by omega)
        obtain ⟨I2, e2, T2, x2⟩ := ih (i + 1) (10 * v + p_lt n l b - 48) (b + 1) (k9_u I1 5 0 4 (nI (b + 1))) (by omega) (k9_Tc_p hT _) hbn (k9_fx_u hx rfl)
        refine ⟨I2, ?_, T2, x2⟩
        refine k9o_of (k9o_eq k9e_40_4 (k9o_F (by rw [n_toInt (by omega)]; omega) (k9o_eq k9e_40_7 (k9o_call e41 ?_))))
        simp only [k9_ps_s]
        refine k9o_eq k9e_40_9 (k9o_call e44 ?_)
        simp only [k9_ps_s]
        refine k9o_eq k9e_40_10 (k9o_F (by decide) (k9o_eq k9e_40_11 (k9o_call e41 ?_)))
        simp only [k9_ps_s]
        refine k9o_eq k9e_40_16 ?_
        rw [p_lx_n (show p_lt n l b ≤ 255 by omega), hT.2.2.2.2.1, nI_1, nI_1, show nI v * (10 : Int32) = nI (v * 10) from n_mul v 10, nI_add, show (48 : Int32) = nI 48 from rfl, n_sub (by omega), Nat.mul_comm v 10]
        exact k9o_to e2 rfl
      · rw [if_neg c]
        rw [if_neg c] at e44
        obtain ⟨I2, e2, T2, x2⟩ := k9s_43 (S := S) (d := d) (J := J) (c := v) hT ht
        refine ⟨I2, ?_, T2, k9_fx_tr hx x2⟩
        refine k9o_of (k9o_eq k9e_40_4 (k9o_F (by rw [n_toInt (by omega)]; omega) (k9o_eq k9e_40_7 (k9o_call e41 ?_))))
        simp only [k9_ps_s]
        refine k9o_eq k9e_40_9 (k9o_call e44 ?_)
        simp only [k9_ps_s]
        refine k9o_eq k9e_40_10 (k9o_T (by decide) (k9o_eq k9e_40_28 (k9o_call e2 ?_)))
        simp only [k9_ps_n]
        exact k9o_eq k9e_40_31 (k9o_ret rfl)
  rw [k9e_40_0]
  exact key 4 0 0 a I (by omega) h ha (k9_fx_rf _ _)
end KV2
