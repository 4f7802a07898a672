/-! THE LAW: its value, the reference -/
section KV10
variable {S : k9_S} {d : Nat} {I I' : k9_I} {J J' : k9_J} {t z p c i : Nat} {x y a : Int32} {e g : Nat → Int32} {ts : List Nat} {ls : List k9_ln}
def k9_em (I : k9_I) (a : Int32) : Nat → Int32 := fun k => if k < 4 then I 65 0 k else if k = 4 then a else I 12 0 0
theorem k9_em_x (h : k9_fx k9_Fn I I') : k9_em I' a = k9_em I a := by
  funext k
  unfold k9_em
  rw [h 65 0 k rfl, h 12 0 0 rfl]
theorem k9s_182 (hc : p_bi c) : k9_R S d 182 0 [some (k9_i (nI (p_tkm c))), some (k9_i x), some (k9_i y)] [] I J = some (some (k9_i (p_bo c x y)), I, J) := by
  refine k9o_of (k9o_eq k9e_182_0 ?_)
  rcases hc with rfl | rfl | rfl | rfl | rfl | rfl | rfl | rfl | rfl | rfl
  · refine k9o_T (by decide) (k9o_eq k9e_182_2 ?_)
    by_cases h1 : x.toInt = 0
    · refine k9o_T h1 (k9o_eq k9e_182_4 ?_)
      by_cases h2 : y.toInt = 0
      · exact k9o_T h2 (k9o_eq k9e_182_8 (k9o_eq k9e_182_9 (k9o_ret (by rw [show p_bo 10124 x y = if x.toInt = 0 ∧ y.toInt = 0 then 0 else 1 from rfl, if_pos ⟨h1, h2⟩]))))
      · exact k9o_F h2 (k9o_eq k9e_182_6 (k9o_eq k9e_182_9 (k9o_ret (by rw [show p_bo 10124 x y = if x.toInt = 0 ∧ y.toInt = 0 then 0 else 1 from rfl, if_neg (fun z => h2 z.2)]))))
    · exact k9o_F h1 (k9o_eq k9e_182_6 (k9o_eq k9e_182_9 (k9o_ret (by rw [show p_bo 10124 x y = if x.toInt = 0 ∧ y.toInt = 0 then 0 else 1 from rfl, if_neg (fun z => h1 z.1)]))))
  · refine k9o_F (by decide) (k9o_T (by decide) (k9o_eq k9e_182_10 ?_))
    by_cases h1 : x.toInt = 0
    · exact k9o_T h1 (k9o_eq k9e_182_16 (k9o_eq k9e_182_17 (k9o_ret (by rw [show p_bo 10038 x y = if x.toInt = 0 ∨ y.toInt = 0 then 0 else 1 from rfl, if_pos (Or.inl h1)]))))
    · refine k9o_F h1 (k9o_eq k9e_182_12 ?_)
      by_cases h2 : y.toInt = 0
      · exact k9o_T h2 (k9o_eq k9e_182_16 (k9o_eq k9e_182_17 (k9o_ret (by rw [show p_bo 10038 x y = if x.toInt = 0 ∨ y.toInt = 0 then 0 else 1 from rfl, if_pos (Or.inr h2)]))))
      · exact k9o_F h2 (k9o_eq k9e_182_14 (k9o_eq k9e_182_17 (k9o_ret (by rw [show p_bo 10038 x y = if x.toInt = 0 ∨ y.toInt = 0 then 0 else 1 from rfl, if_neg (fun z => z.elim h1 h2)]))))
  · refine k9o_F (by decide) (k9o_F (by decide) (k9o_T (by decide) (k9o_eq k9e_182_18 ?_)))
    by_cases h1 : x.toInt < y.toInt
    · exact k9o_F (by omega) (k9o_eq k9e_182_21 (k9o_eq k9e_182_24 (k9o_ret (by rw [show p_bo 10060 x y = if x.toInt < y.toInt then 1 else 0 from rfl, if_pos h1]))))
    · exact k9o_T (by omega) (k9o_eq k9e_182_23 (k9o_eq k9e_182_24 (k9o_ret (by rw [show p_bo 10060 x y = if x.toInt < y.toInt then 1 else 0 from rfl, if_neg h1]))))
  · refine k9o_F (by decide) (k9o_F (by decide) (k9o_F (by decide) (k9o_T (by decide) (k9o_eq k9e_182_25 ?_))))
    by_cases h1 : x.toInt = y.toInt
    · exact k9o_T h1 (k9o_eq k9e_182_28 (k9o_eq k9e_182_31 (k9o_ret (by rw [show p_bo 10061 x y = if x.toInt = y.toInt then 1 else 0 from rfl, if_pos h1]))))
    · exact k9o_F h1 (k9o_eq k9e_182_30 (k9o_eq k9e_182_31 (k9o_ret (by rw [show p_bo 10061 x y = if x.toInt = y.toInt then 1 else 0 from rfl, if_neg h1]))))
  · refine k9o_F (by decide) (k9o_F (by decide) (k9o_F (by decide) (k9o_F (by decide) (k9o_T (by decide) (k9o_eq k9e_182_32 ?_)))))
    by_cases h1 : y.toInt < x.toInt
    · exact k9o_F (by omega) (k9o_eq k9e_182_35 (k9o_eq k9e_182_38 (k9o_ret (by rw [show p_bo 10062 x y = if y.toInt < x.toInt then 1 else 0 from rfl, if_pos h1]))))
    · exact k9o_T (by omega) (k9o_eq k9e_182_37 (k9o_eq k9e_182_38 (k9o_ret (by rw [show p_bo 10062 x y = if y.toInt < x.toInt then 1 else 0 from rfl, if_neg h1]))))
  · exact k9o_F (by decide) (k9o_F (by decide) (k9o_F (by decide) (k9o_F (by decide) (k9o_F (by decide) (k9o_T (by decide) (k9o_eq k9e_182_39 (k9o_ret rfl)))))))
  · exact k9o_F (by decide) (k9o_F (by decide) (k9o_F (by decide) (k9o_F (by decide) (k9o_F (by decide) (k9o_F (by decide) (k9o_T (by decide) (k9o_eq k9e_182_43 (k9o_ret rfl))))))))
  · exact k9o_F (by decide) (k9o_F (by decide) (k9o_F (by decide) (k9o_F (by decide) (k9o_F (by decide) (k9o_F (by decide) (k9o_F (by decide) (k9o_T (by decide) (k9o_eq k9e_182_47 (k9o_ret rfl)))))))))
  · refine k9o_F (by decide) (k9o_F (by decide) (k9o_F (by decide) (k9o_F (by decide) (k9o_F (by decide) (k9o_F (by decide) (k9o_F (by decide) (k9o_F (by decide) (k9o_T (by decide) (k9o_eq k9e_182_51 ?_)))))))))
    by_cases h1 : y.toInt = 0
    · exact k9o_T h1 (k9o_eq k9e_182_53 (k9o_eq k9e_182_58 (k9o_ret (by rw [show p_bo 10047 x y = if y.toInt = 0 then 0 else x / y from rfl, if_pos h1]))))
    · exact k9o_F h1 (k9o_eq k9e_182_55 (k9o_T h1 (k9o_eq k9e_182_58 (k9o_ret (by rw [show p_bo 10047 x y = if y.toInt = 0 then 0 else x / y from rfl, if_neg h1])))))
  · refine k9o_F (by decide) (k9o_F (by decide) (k9o_F (by decide) (k9o_F (by decide) (k9o_F (by decide) (k9o_F (by decide) (k9o_F (by decide) (k9o_F (by decide) (k9o_F (by decide) (k9o_eq k9e_182_59 ?_)))))))))
    by_cases h1 : y.toInt = 0
    · exact k9o_T h1 (k9o_eq k9e_182_61 (k9o_eq k9e_182_66 (k9o_ret (by rw [show p_bo 10037 x y = if y.toInt = 0 then 0 else x - x / y * y from rfl, if_pos h1]))))
    · exact k9o_F h1 (k9o_eq k9e_182_63 (k9o_T h1 (k9o_eq k9e_182_66 (k9o_ret (by rw [show p_bo 10037 x y = if y.toInt = 0 then 0 else x - x / y * y from rfl, if_neg h1])))))
/-- one token -/
theorem k9s_183t {f0 z : Nat} (hp : I 49 0 p = nI (p_tkm c)) (hpz : p < z) (h200 : z ≤ 200) (he : k9_em I a = e) (hc : (p_pu c ∧ t < 64) ∨ (p_uy c ∧ 1 ≤ t) ∨ (p_bi c ∧ 2 ≤ t)) (h64 : t ≤ 64) (hS : ∀ j, j < t → I 54 0 j = g j) : ∃ I', (∀ j, j < (p_stp e c (t, g)).1 → I' 54 0 j = (p_stp e c (t, g)).2 j) ∧ k9_fx k9_Fn I I' ∧ ∀ Q, k9_ok (k9_R S (d + 2) 183 4 [some (k9_r 12 0), some (k9_i (nI f0)), some (k9_i (nI z)), some (k9_i a), some (k9_i (nI (p_stp e c (t, g)).1)), some (k9_i (nI (p + 1))), none] [] I' J) Q → k9_ok (k9_R S (d + 2) 183 4 [some (k9_r 12 0), some (k9_i (nI f0)), some (k9_i (nI z)), some (k9_i a), some (k9_i (nI t)), some (k9_i (nI p)), none] [] I J) Q := by
  have st : ∀ Q, k9_ok (k9_R S (d + 2) 183 11 [some (k9_r 12 0), some (k9_i (nI f0)), some (k9_i (nI z)), some (k9_i a), some (k9_i (nI t)), some (k9_i (nI p)), none] [k9_i (nI (p_tkm c))] I J) Q → k9_ok (k9_R S (d + 2) 183 4 [some (k9_r 12 0), some (k9_i (nI f0)), some (k9_i (nI z)), some (k9_i a), some (k9_i (nI t)), some (k9_i (nI p)), none] [] I J) Q := by
    intro Q h
    refine k9o_eq k9e_183_4 (k9o_F (by rw [n_toInt (by omega), n_toInt (by omega)]; omega) (k9o_eq k9e_183_7 (k9o_T (by rw [n_toInt (by omega)]; omega) ?_)))
    rw [n_cl (by omega), hp]
    exact h
  have fin : ∀ (u v : Nat) (I1 : k9_I) (Q : k9_A → Prop), k9_ok (k9_R S (d + 2) 183 4 [some (k9_r 12 0), some (k9_i (nI f0)), some (k9_i (nI z)), some (k9_i a), some (k9_i (nI u)), some (k9_i (nI (p + 1))), none] [] I1 J) Q → k9_ok (k9_R S (d + 2) 183 99 [some (k9_r 12 0), some (k9_i (nI f0)), some (k9_i (nI z)), some (k9_i a), some (k9_i (nI u)), some (k9_i (nI p)), some (k9_i (nI v))] [] I1 J) Q := by
    intro u v I1 Q h
    refine k9o_eq k9e_183_99 ?_
    rw [nI_1]
    exact h
  rcases hc with ⟨hc, ht⟩ | ⟨hc, ht⟩ | ⟨hc, ht⟩
  · rw [p_stp, if_pos hc]
    have res : ∀ j, j < t + 1 → (k9_u I 54 0 t (p_pvl e c)) 54 0 j = p_ud g t (p_pvl e c) j := by
      intro j hj
      by_cases hjt : j = t
      · rw [hjt, p_ud_e]
        simp [k9_ur]
      · rw [p_ud_n hjt]
        simp [k9_ur, hjt]
        exact hS j (by omega)
    refine ⟨k9_u I 54 0 t (p_pvl e c), res, k9_fx_u (k9_fx_rf _ _) rfl, fun Q hQ => st Q ?_⟩
    have w : ∀ (v : Nat) (x : Int32), x = p_pvl e c → k9_ok (k9_R S (d + 2) 183 44 [some (k9_r 12 0), some (k9_i (nI f0)), some (k9_i (nI z)), some (k9_i a), some (k9_i (nI (t + 1))), some (k9_i (nI p)), some (k9_i (nI v))] [k9_i x, k9_i (nI t), k9_r 54 0] I J) Q := by
      intro v x hx
      refine k9o_eq k9e_183_44 (k9o_T (by rw [n_toInt (by omega)]; omega) ?_)
      rw [n_cl (by omega), hx]
      exact k9o_eq k9e_183_45 (fin _ v _ Q hQ)
    by_cases c1 : c < 10000
    · have et : p_tkm c = 18 + c := if_pos c1
      rw [et]
      refine k9o_eq k9e_183_11 (k9o_T (by rw [n_toInt (by omega)]; omega) (k9o_eq k9e_183_18 (k9o_F (by rw [n_toInt (by omega)]; omega) ?_)))
      rw [nI_1]
      refine k9o_eq k9e_183_25 (w _ _ ?_)
      rw [show p_pvl e c = nI c from if_pos c1, show (18 : Int32) = nI 18 from rfl, n_sub (by omega), Nat.add_sub_cancel_left]
    · have ev : p_pvl e c = e (p_tkm c) := if_neg c1
      have hc' : c = 10098 ∨ c = 10102 ∨ c = 10115 ∨ c = 10116 ∨ c = 10108 ∨ c = 10110 := by simp only [p_pu] at hc; omega
      have low : ∀ k, k ≤ 5 → p_tkm c = k → k9_ok (k9_R S (d + 2) 183 29 [some (k9_r 12 0), some (k9_i (nI f0)), some (k9_i (nI z)), some (k9_i a), some (k9_i (nI (t + 1))), some (k9_i (nI p)), some (k9_i (nI k))] [k9_i (nI t), k9_r 54 0] I J) Q → k9_ok (k9_R S (d + 2) 183 11 [some (k9_r 12 0), some (k9_i (nI f0)), some (k9_i (nI z)), some (k9_i a), some (k9_i (nI t)), some (k9_i (nI p)), none] [k9_i (nI (p_tkm c))] I J) Q := by
        intro k hk ek h
        rw [ek]
        refine k9o_eq k9e_183_11 (k9o_F (by rw [n_toInt (by omega)]; omega) (k9o_eq k9e_183_15 (k9o_F (by rw [n_toInt (by omega)]; omega) (k9o_eq k9e_183_18 (k9o_T (by rw [n_toInt (by omega)]; omega) ?_)))))
        rw [nI_1]
        exact h
      have row : ∀ k, k < 4 → p_tkm c = k → k9_ok (k9_R S (d + 2) 183 29 [some (k9_r 12 0), some (k9_i (nI f0)), some (k9_i (nI z)), some (k9_i a), some (k9_i (nI (t + 1))), some (k9_i (nI p)), some (k9_i (nI k))] [k9_i (nI t), k9_r 54 0] I J) Q := by
        intro k hk ek
        refine k9o_eq k9e_183_29 (k9o_F (by rw [n_toInt (by omega)]; omega) (k9o_eq k9e_183_34 (k9o_F (by rw [n_toInt (by omega)]; omega) (k9o_eq k9e_183_40 (k9o_T (by rw [n_toInt (by omega)]; omega) (w k _ ?_))))))
        rw [n_cl (by omega), ev, ek, ← he, k9_em, if_pos hk]
      rcases hc' with rfl | rfl | rfl | rfl | rfl | rfl
      · exact low 1 (by omega) rfl (row 1 (by omega) rfl)
      · exact low 0 (by omega) rfl (row 0 (by omega) rfl)
      · exact low 2 (by omega) rfl (row 2 (by omega) rfl)
      · exact low 3 (by omega) rfl (row 3 (by omega) rfl)
      · refine low 4 (by omega) rfl (k9o_eq k9e_183_29 (k9o_T (by decide) (k9o_eq k9e_183_32 (w 4 _ ?_))))
        rw [ev, ← he]
        rfl
      · refine low 5 (by omega) rfl (k9o_eq k9e_183_29 (k9o_F (by decide) (k9o_eq k9e_183_34 (k9o_T (by decide) (k9o_eq k9e_183_37 (w 5 _ ?_))))))
        rw [ev, ← he]
        rfl
  · have e1 : nI t - 1 = nI (t - 1) := n_s1 ht
    have ex : I 54 0 (t - 1) = g (t - 1) := hS (t - 1) (by omega)
    have res : ∀ (v : Int32) (j : Nat), j < t → (k9_u I 54 0 (t - 1) v) 54 0 j = p_ud g (t - 1) v j := by
      intro v j hj
      by_cases hjt : j = t - 1
      · rw [hjt, p_ud_e]
        simp [k9_ur]
      · rw [p_ud_n hjt]
        simp [k9_ur, hjt]
        exact hS j (by omega)
    have w : ∀ (u : Nat) (v : Int32) (Q : k9_A → Prop), k9_ok (k9_R S (d + 2) 183 4 [some (k9_r 12 0), some (k9_i (nI f0)), some (k9_i (nI z)), some (k9_i a), some (k9_i (nI t)), some (k9_i (nI (p + 1))), none] [] (k9_u I 54 0 (t - 1) v) J) Q → k9_ok (k9_R S (d + 2) 183 78 [some (k9_r 12 0), some (k9_i (nI f0)), some (k9_i (nI z)), some (k9_i a), some (k9_i (nI t)), some (k9_i (nI p)), some (k9_i (nI u))] [k9_i v, k9_i (nI (t - 1)), k9_r 54 0] I J) Q := by
      intro u v Q h
      refine k9o_eq k9e_183_78 (k9o_T (by rw [n_toInt (by omega)]; omega) ?_)
      rw [n_cl (by omega)]
      exact k9o_eq k9e_183_79 (fin _ u _ Q h)
    rcases hc with rfl | rfl
    · have es : p_stp e 10033 (t, g) = (t, p_ud g (t - 1) (if (g (t - 1)).toInt = 0 then 1 else 0)) := rfl
      rw [es]
      refine ⟨k9_u I 54 0 (t - 1) (if (g (t - 1)).toInt = 0 then 1 else 0), res _, k9_fx_u (k9_fx_rf _ _) rfl, fun Q hQ => st Q ?_⟩
      refine k9o_eq k9e_183_11 (k9o_F (by decide) (k9o_eq k9e_183_15 (k9o_T (by decide) (k9o_eq k9e_183_46 (k9o_T (by decide) (k9o_eq k9e_183_52 (k9o_F (by decide) ?_)))))))
      rw [e1]
      refine k9o_eq k9e_183_68 ?_
      rw [e1]
      refine k9o_T (by rw [n_toInt (by omega)]; omega) ?_
      rw [n_cl (by omega), ex]
      refine k9o_eq k9e_183_74 ?_
      by_cases h0 : (g (t - 1)).toInt = 0
      · refine k9o_T h0 (k9o_eq k9e_183_75 (w _ _ Q ?_))
        rw [if_pos h0] at hQ
        exact hQ
      · refine k9o_F h0 (k9o_eq k9e_183_77 (w _ _ Q ?_))
        rw [if_neg h0] at hQ
        exact hQ
    · have es : p_stp e 10126 (t, g) = (t, p_ud g (t - 1) (-(g (t - 1)))) := rfl
      rw [es]
      refine ⟨k9_u I 54 0 (t - 1) (-(g (t - 1))), res _, k9_fx_u (k9_fx_rf _ _) rfl, fun Q hQ => st Q ?_⟩
      refine k9o_eq k9e_183_11 (k9o_F (by decide) (k9o_eq k9e_183_15 (k9o_T (by decide) (k9o_eq k9e_183_46 (k9o_F (by decide) (k9o_eq k9e_183_49 (k9o_T (by decide) (k9o_eq k9e_183_52 (k9o_T (by decide) ?_)))))))))
      rw [e1]
      refine k9o_eq k9e_183_60 ?_
      rw [e1]
      refine k9o_T (by rw [n_toInt (by omega)]; omega) ?_
      rw [n_cl (by omega), ex]
      exact k9o_eq k9e_183_66 (w _ _ Q hQ)
  · obtain ⟨n1, n2, n3⟩ := p_bi_n hc
    have es : p_stp e c (t, g) = (t - 1, p_ud g (t - 2) (p_bo c (g (t - 2)) (g (t - 1)))) := by rw [p_stp, if_neg n1, if_neg n2, if_neg n3]
    rw [es]
    have ek : 6 ≤ p_tkm c ∧ p_tkm c ≤ 15 := by
      rcases hc with rfl | rfl | rfl | rfl | rfl | rfl | rfl | rfl | rfl | rfl <;> decide
    have e1 : nI t + (-1) = nI (t - 1) := n_m1 (by omega)
    have e2 : nI (t - 1) - 1 = nI (t - 2) := by rw [n_s1 (by omega), show t - 1 - 1 = t - 2 by omega]
    refine ⟨k9_u I 54 0 (t - 2) (p_bo c (g (t - 2)) (g (t - 1))), fun j hj => ?_, k9_fx_u (k9_fx_rf _ _) rfl, fun Q hQ => st Q ?_⟩
    · have hj' : j < t - 1 := hj
      show (k9_u I 54 0 (t - 2) (p_bo c (g (t - 2)) (g (t - 1)))) 54 0 j = p_ud g (t - 2) (p_bo c (g (t - 2)) (g (t - 1))) j
      by_cases hjt : j = t - 2
      · rw [hjt, p_ud_e]
        simp [k9_ur]
      · rw [p_ud_n hjt]
        simp [k9_ur, hjt]
        exact hS j (by omega)
    · refine k9o_eq k9e_183_11 (k9o_F (by rw [n_toInt (by omega)]; omega) (k9o_eq k9e_183_15 (k9o_T (by rw [n_toInt (by omega)]; omega) (k9o_eq k9e_183_46 (k9o_F (by rw [n_toInt (by omega)]; omega) (k9o_eq k9e_183_49 (k9o_F (by rw [n_toInt (by omega)]; omega) (k9o_eq k9e_183_80 ?_))))))))
      rw [e1]
      refine k9o_eq k9e_183_81 ?_
      rw [e2]
      refine k9o_T (by rw [n_toInt (by omega)]; omega) ?_
      rw [n_cl (by omega), hS (t - 2) (by omega)]
      refine k9o_eq k9e_183_93 (k9o_T (by rw [n_toInt (by omega)]; omega) ?_)
      rw [n_cl (by omega), hS (t - 1) (by omega)]
      refine k9o_eq k9e_183_97 (k9o_call (k9s_182 hc) ?_)
      simp only [k9_ps_s]
      refine k9o_eq k9e_183_98 (k9o_T (by rw [n_toInt (by omega)]; omega) ?_)
      rw [n_cl (by omega)]
      exact fin _ _ _ Q hQ
/-- tokens -/
theorem k9s_183s {f0 z : Nat} (h200 : z ≤ 200) : ∀ (ts : List Nat) (p t : Nat) (g : Nat → Int32) (I : k9_I), k9_Cd (I 49 0) p (ts.map p_tkm) → p + ts.length ≤ z → p_hv 64 ts t → t ≤ 64 → k9_em I a = e → (∀ j, j < t → I 54 0 j = g j) → ∃ I', (∀ j, j < (p_sts e ts (t, g)).1 → I' 54 0 j = (p_sts e ts (t, g)).2 j) ∧ k9_fx k9_Fn I I' ∧ ∀ Q, k9_ok (k9_R S (d + 2) 183 4 [some (k9_r 12 0), some (k9_i (nI f0)), some (k9_i (nI z)), some (k9_i a), some (k9_i (nI (p_sts e ts (t, g)).1)), some (k9_i (nI (p + ts.length))), none] [] I' J) Q → k9_ok (k9_R S (d + 2) 183 4 [some (k9_r 12 0), some (k9_i (nI f0)), some (k9_i (nI z)), some (k9_i a), some (k9_i (nI t)), some (k9_i (nI p)), none] [] I J) Q := by
  intro ts
  induction ts with
  | nil =>
    intro p t g I _ _ _ _ _ hS
    exact ⟨I, hS, k9_fx_rf _ _, fun Q h => h⟩
  | cons c r ih =>
    intro p t g I hC hp hH h64 he hS
    rw [List.map_cons] at hC
    obtain ⟨c1, c2⟩ := k9_Cd_h hC
    rw [List.length_cons] at hp
    obtain ⟨I1, s1, x1, k1⟩ := k9s_183t (S := S) (d := d) (J := J) (f0 := f0) (z := z) c1 (by omega) h200 he (hH.elim (fun h => Or.inl ⟨h.1, h.2.1⟩) (fun h => h.elim (fun h => Or.inr (Or.inl ⟨h.1, h.2.1⟩)) (fun h => Or.inr (Or.inr ⟨h.1, h.2.1⟩)))) h64 hS
    have hn : p_hv 64 r (p_stp e c (t, g)).1 ∧ (p_stp e c (t, g)).1 ≤ 64 := by
      rcases hH with ⟨h1, h2, h3⟩ | ⟨h1, h2, h3⟩ | ⟨h1, h2, h3⟩
      · rw [p_stp, if_pos h1]
        exact ⟨h3, h2⟩
      · have n1 : ¬ p_pu c := by simp only [p_uy] at h1; simp only [p_pu]; omega
        rw [p_stp, if_neg n1]
        rcases h1 with rfl | rfl
        · rw [if_pos rfl]
          exact ⟨h3, h64⟩
        · rw [if_neg (by decide), if_pos rfl]
          exact ⟨h3, h64⟩
      · obtain ⟨n1, n2, n3⟩ := p_bi_n h1
        rw [p_stp, if_neg n1, if_neg n2, if_neg n3]
        exact ⟨h3, by show t - 1 ≤ 64; omega⟩
    obtain ⟨I2, s2, x2, k2⟩ := ih (p + 1) _ _ I1 (k9_Cd_c (funext fun j => x1 49 0 j rfl) c2) (by omega) hn.1 hn.2 ((k9_em_x x1).trans he) s1
    rw [show p + 1 + r.length = p + (r.length + 1) by omega] at k2
    exact ⟨I2, s2, k9_fx_tr x1 x2, fun Q h => k1 Q (k2 Q h)⟩
theorem k9s_183 (hx : p_xp ts) (hC : k9_Cd (I 49 0) p (ts.map p_tkm)) (h200 : p + ts.length ≤ 200) (he : k9_em I a = e) : ∃ I', k9_R S (d + 2) 183 0 [some (k9_r 12 0), some (k9_i (nI p)), some (k9_i (nI (p + ts.length))), some (k9_i a), none, none, none] [] I J = some (some (k9_i (p_vx e ts)), I', J) ∧ k9_fx k9_Fn I I' := by
  obtain ⟨I1, s1, x1, k1⟩ := k9s_183s (S := S) (d := d) (J := J) (f0 := p) (z := p + ts.length) h200 ts p 0 (fun j => I 54 0 j) I hC (Nat.le_refl _) (hx.2.1 0 64 (by omega)) (by omega) he (fun j hj => by omega)
  obtain ⟨g', f1, f2, f3⟩ := hx.1 e 0 (fun j => I 54 0 j)
  rw [f1] at s1
  refine ⟨I1, k9o_of (k9o_eq k9e_183_0 (k1 _ (k9o_eq k9e_183_4 (k9o_T (by omega) (k9o_eq k9e_183_101 (k9o_ret ?_)))))), x1⟩
  rw [s1 0 (by show 0 < 0 + 1; omega)]
  show (some (k9_i (g' 0)), I1, J) = _
  rw [f2]
theorem p_cl_i (x : Int32) : (if (0 : Int32) < (if x < 100 then x else 100) then (if x < 100 then x else 100) else 0) = nI (p_cl x) := by
  have h0 : (0 : Int32).toInt = 0 := by decide
  have h1 : (100 : Int32).toInt = 100 := by decide
  unfold p_cl
  by_cases c1 : x < 100
  · have d1 : x.toInt < 100 := by rw [Int32.lt_iff_toInt_lt, h1] at c1; exact c1
    rw [if_pos c1]
    by_cases c2 : (0 : Int32) < x
    · have d2 : 0 < x.toInt := by rw [Int32.lt_iff_toInt_lt, h0] at c2; exact c2
      rw [if_pos c2, if_neg (by omega), if_neg (by omega)]
      exact n_tn (by omega)
    · have d2 : ¬ 0 < x.toInt := by rw [Int32.lt_iff_toInt_lt, h0] at c2; exact c2
      rw [if_neg c2]
      by_cases c3 : x.toInt < 0
      · rw [if_pos c3]
        rfl
      · rw [if_neg c3, if_neg (by omega), show x.toInt = 0 by omega]
        rfl
  · have d1 : ¬ x.toInt < 100 := by rw [Int32.lt_iff_toInt_lt, h1] at c1; exact c1
    rw [if_neg c1, if_pos (by decide), if_neg (by omega)]
    by_cases c3 : 100 < x.toInt
    · rw [if_pos c3]
      rfl
    · rw [if_neg c3, show x.toInt = 100 by omega]
      rfl
def k9_Ll (I : k9_I) (ls : List k9_ln) : Prop := I 12 0 9 = nI ls.length ∧ ls.length ≤ 60 ∧ (p_rt ls).length ≤ 200 ∧ k9_Cd (I 49 0) 0 ((p_rt ls).map p_tkm) ∧ ∀ i, i < ls.length → I 46 0 i = nI (p_rt (ls.take i)).length ∧ I 47 0 i = nI ((p_rt (ls.take i)).length + (ls.getD i ([], [])).1.length) ∧ I 48 0 i = nI (p_rt (ls.take (i + 1))).length
theorem p_rt_c (x : k9_ln) (r : List k9_ln) : p_rt (x :: r) = x.1 ++ x.2 ++ p_rt r := by
  unfold p_rt
  rw [List.map_cons, List.flatten_cons]
theorem p_rt_2 (a b : List k9_ln) : p_rt (a ++ b) = p_rt a ++ p_rt b := by
  unfold p_rt
  rw [List.map_append, List.flatten_append]
/-- the lines -/
theorem k9s_187l (hok : ∀ x, x ∈ ls → p_okl x) : ∀ (r pre : List k9_ln) (I : k9_I), pre ++ r = ls → k9_Ll I ls → k9_em I a = e → ∃ I', k9_R S (d + 3) 187 10 [some (k9_r 12 0), some (k9_i a), some (k9_i (nI pre.length))] [] I J = some (some (k9_i (nI (p_cl (p_vl e r)))), I', J) ∧ k9_fx k9_Fn I I' := by
  intro r
  induction r with
  | nil =>
    intro pre I hls hL he
    rw [List.append_nil] at hls
    subst hls
    refine ⟨I, k9o_of (k9o_eq k9e_187_10 (k9o_T (by rw [hL.1]; omega) (k9o_eq k9e_187_54 (k9o_ret ?_)))), k9_fx_rf _ _⟩
    rw [p_vl]
    rfl
  | cons x r ih =>
    intro pre I hls hL he
    obtain ⟨h9, h60, h200, hC, hR⟩ := hL
    have hlen : ls.length = pre.length + (r.length + 1) := by rw [← hls, List.length_append, List.length_cons]
    obtain ⟨r1, r2, r3⟩ := hR pre.length (by omega)
    rw [← hls, List.take_left] at r1 r2
    rw [show (pre ++ x :: r).getD pre.length ([], []) = x by simp [List.getD_eq_getElem?_getD]] at r2
    rw [← hls, show (pre ++ x :: r).take (pre.length + 1) = pre ++ [x] by rw [show pre ++ x :: r = (pre ++ [x]) ++ r by simp, List.take_left' (by simp)], p_rt_a, List.length_append, List.length_append] at r3
    obtain ⟨o1, o2⟩ := hok x (by rw [← hls]; exact List.mem_append_right _ List.mem_cons_self)
    rw [← hls, p_rt_2, p_rt_c, List.append_assoc, List.map_append, List.map_append] at hC
    rw [← hls, p_rt_2, p_rt_c, List.append_assoc, List.length_append, List.length_append, List.length_append] at h200
    obtain ⟨-, C1⟩ := k9_Cd_a hC
    obtain ⟨C2, C3⟩ := k9_Cd_a C1
    rw [List.map_append] at C3
    obtain ⟨C4, -⟩ := k9_Cd_a C3
    rw [List.length_map, Nat.zero_add] at C2 C4
    rw [List.length_map] at C4
    obtain ⟨A, hA⟩ : ∃ A, A = (p_rt pre).length := ⟨_, rfl⟩
    rw [← hA] at r1 r2 r3 C2 C4 h200
    have st : ∀ Q, k9_ok (k9_R S (d + 3) 187 22 [some (k9_r 12 0), some (k9_i a), some (k9_i (nI pre.length))] [k9_i (nI A), k9_i (nI (A + x.1.length))] I J) Q → k9_ok (k9_R S (d + 3) 187 10 [some (k9_r 12 0), some (k9_i a), some (k9_i (nI pre.length))] [] I J) Q := by
      intro Q g
      refine k9o_eq k9e_187_10 (k9o_F (by rw [h9, n_toInt (by omega), n_toInt (by omega)]; omega) (k9o_eq k9e_187_14 (k9o_T (by rw [n_toInt (by omega)]; omega) ?_)))
      rw [n_cl (by omega), r2]
      refine k9o_eq k9e_187_18 (k9o_T (by rw [n_toInt (by omega)]; omega) ?_)
      rw [n_cl (by omega), r1]
      exact g
    have body : ∀ I1, k9_fx k9_Fn I I1 → ∃ I', k9_ok (k9_R S (d + 3) 187 36 [some (k9_r 12 0), some (k9_i a), some (k9_i (nI pre.length))] [] I1 J) (fun q => q = (some (k9_i (nI (p_cl (p_vx e x.2)))), I', J)) ∧ k9_fx k9_Fn I I' := by
      intro I1 x1
      obtain ⟨I2, e2, x2⟩ := k9s_183 (S := S) (d := d) (J := J) (p := A + x.1.length) o2 (k9_Cd_c (funext fun j => x1 49 0 j rfl) C4) (by omega) ((k9_em_x x1).trans he)
      refine ⟨I2, k9o_eq k9e_187_36 (k9o_T (by rw [n_toInt (by omega)]; omega) ?_), k9_fx_tr x1 x2⟩
      rw [n_cl (by omega), x1 47 0 _ rfl, r2]
      refine k9o_eq k9e_187_43 (k9o_T (by rw [n_toInt (by omega)]; omega) ?_)
      rw [n_cl (by omega), x1 48 0 _ rfl, r3]
      refine k9o_eq k9e_187_47 ?_
      rw [show A + (x.1.length + x.2.length) = A + x.1.length + x.2.length by omega]
      refine k9o_call e2 ?_
      simp only [k9_ps_s]
      refine k9o_eq k9e_187_49 (k9o_ret ?_)
      rw [p_cl_i]
    rw [p_vl]
    by_cases q : x.1 = []
    · rw [if_neg (fun z => z.1 q)]
      obtain ⟨I2, e2, x2⟩ := body I (k9_fx_rf _ _)
      exact ⟨I2, k9o_of (st _ (k9o_eq k9e_187_22 (k9o_T (by rw [q]; exact Int.le_refl _) e2))), x2⟩
    · have o1 := o1.resolve_left q
      have hq : 0 < x.1.length := List.length_pos_iff.mpr q
      obtain ⟨I1, e1, x1⟩ := k9s_183 (S := S) (d := d) (J := J) (p := A) o1 C2 (by omega) he
      have go : ∀ Q, k9_ok (k9_R S (d + 3) 187 34 [some (k9_r 12 0), some (k9_i a), some (k9_i (nI pre.length))] [k9_i (p_vx e x.1)] I1 J) Q → k9_ok (k9_R S (d + 3) 187 10 [some (k9_r 12 0), some (k9_i a), some (k9_i (nI pre.length))] [] I J) Q := by
        intro Q g
        refine st Q (k9o_eq k9e_187_22 (k9o_F (by rw [n_toInt (by omega), n_toInt (by omega)]; omega) (k9o_eq k9e_187_23 (k9o_T (by rw [n_toInt (by omega)]; omega) ?_))))
        rw [n_cl (by omega), r1]
        refine k9o_eq k9e_187_28 (k9o_T (by rw [n_toInt (by omega)]; omega) ?_)
        rw [n_cl (by omega), r2]
        refine k9o_eq k9e_187_32 (k9o_call e1 ?_)
        simp only [k9_ps_s]
        exact g
      by_cases q0 : (p_vx e x.1).toInt = 0
      · rw [if_pos ⟨q, q0⟩]
        obtain ⟨I2, e2, x2⟩ := ih (pre ++ [x]) I1 (by rw [List.append_assoc]; exact hls) ⟨(x1 12 0 9 rfl).trans h9, h60, by rw [← hls, p_rt_2, p_rt_c, List.append_assoc, List.length_append, List.length_append, List.length_append, ← hA]; exact h200, k9_Cd_c (funext fun j => x1 49 0 j rfl) (by rw [← hls, p_rt_2, p_rt_c, List.append_assoc, List.map_append, List.map_append]; exact hC), fun i hi => ⟨(x1 46 0 i rfl).trans (hR i hi).1, (x1 47 0 i rfl).trans (hR i hi).2.1, (x1 48 0 i rfl).trans (hR i hi).2.2⟩⟩ ((k9_em_x x1).trans he)
        rw [List.length_append, List.length_singleton] at e2
        refine ⟨I2, k9o_of (go _ (k9o_eq k9e_187_34 (k9o_T q0 (k9o_eq k9e_187_35 (k9o_eq k9e_187_52 ?_))))), k9_fx_tr x1 x2⟩
        rw [nI_1]
        exact k9o_to e2 rfl
      · rw [if_neg (fun z => q0 z.2)]
        obtain ⟨I2, e2, x2⟩ := body I1 x1
        exact ⟨I2, k9o_of (go _ (k9o_eq k9e_187_34 (k9o_F q0 e2))), x2⟩
/-- the reference's law has the values of the lines -/
theorem k9_ML_l (hok : ∀ x, x ∈ ls → p_okl x) (h8 : I 12 0 8 = 1) (hL : k9_Ll I ls) : k9_ML I (fun e => p_vl e ls) := by
  intro S d J I' a g8 g9 g46 g47 g48 g49 _
  obtain ⟨h9, h60, h200, hC, hR⟩ := hL
  obtain ⟨I2, e2, x2⟩ := k9s_187l (S := S) (d := d) (J := J) (a := a) hok ls [] I' rfl ⟨g9.trans h9, h60, h200, k9_Cd_c g49 hC, fun i hi => by rw [g46, g47, g48]; exact hR i hi⟩ rfl
  exact ⟨I2, k9o_of (k9o_eq k9e_187_0 (k9o_F (by rw [g8, h8]; decide) (k9o_eq k9e_187_8 (k9o_to e2 rfl)))), x2⟩
end KV10
