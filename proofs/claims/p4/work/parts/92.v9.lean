/-! THE LAW: its value, the class -/
section KV9
variable {S : k9_S} {d : Nat} {I I' : k9_I} {J J' : k9_J} {t z p c i : Nat} {x y a : Int32} {e g : Nat → Int32} {ts : List Nat} {ls : List k9_ln}
def k9_Sk (I : k9_I) (t : Nat) (g : Nat → Int32) : Prop := I 6 0 5 = nI t ∧ ∀ j, j < t → I 29 0 j = g j
def k9_ev (I : k9_I) (i : Nat) (a : Int32) : Nat → Int32 := fun k => if k < 4 then I 4 i (k + 1) else if k = 4 then a else I 4 i 5
theorem k9_ev_x (h : k9_fx k9_Fl I I') : k9_ev I' i a = k9_ev I i a := by
  funext k
  unfold k9_ev
  rw [h 4 i (k + 1) rfl, h 4 i 5 rfl]
theorem k9s_51 (h : I 6 0 5 = nI t) (ht : t < 64) : k9_R S d 51 0 [some (k9_r 6 0), some (k9_i x)] [] I J = some (none, k9_u (k9_u I 29 0 t x) 6 0 5 (nI (t + 1)), J) := by
  refine k9o_of (k9o_eq k9e_51_0 (k9o_F (by rw [h, n_toInt (by omega)]; omega) (k9o_eq k9e_51_3 (k9o_F (by rw [h, n_toInt (by omega)]; omega) (k9o_eq k9e_51_7 (k9o_T (by rw [h, n_toInt (by omega)]; omega) ?_))))))
  rw [h, n_cl (by omega)]
  refine k9o_eq k9e_51_13 ?_
  rw [show (k9_u I 29 0 t x) 6 0 5 = I 6 0 5 from rfl, h, nI_1]
  exact k9o_eq k9e_51_19 (k9o_ret rfl)
theorem k9s_52 (h : I 6 0 5 = nI t) (h1 : 1 ≤ t) (h2 : t ≤ 64) : k9_R S d 52 0 [some (k9_r 6 0)] [] I J = some (some (k9_i (I 29 0 (t - 1))), k9_u I 6 0 5 (nI (t - 1)), J) := by
  refine k9o_of (k9o_eq k9e_52_0 (k9o_F (by rw [h, n_toInt (by omega)]; omega) (k9o_eq k9e_52_4 (k9o_T (by rw [h, n_toInt (by omega)]; omega) (k9o_eq k9e_52_10 ?_)))))
  rw [h, n_s1 h1, show (k9_u I 6 0 5 (nI (t - 1))) 6 0 5 = nI (t - 1) by simp [k9_ur]]
  refine k9o_T (by rw [n_toInt (by omega)]; omega) ?_
  rw [n_cl (by omega)]
  exact k9o_eq k9e_52_21 (k9o_ret rfl)
theorem k9s_50 (hc : p_bi c) : k9_R S d 50 0 [some (k9_i (nI (c - 10000))), some (k9_i y), some (k9_i x)] [] I J = some (some (k9_i (p_bo c x y)), I, J) := by
  refine k9o_of (k9o_eq k9e_50_0 ?_)
  rw [n_toInt (n := c - 10000) (by simp only [p_bi] at hc; omega)]
  rcases hc with rfl | rfl | rfl | rfl | rfl | rfl | rfl | rfl | rfl | rfl
  all_goals repeat (first | ((with_reducible refine k9q_T ?_ ?_); · omega) | ((with_reducible refine k9q_F ?_ ?_); · omega) | ((with_reducible refine k9q_Tb ?_ ?_); · omega) | ((with_reducible refine k9q_Fb ?_ ?_); · omega))
  · refine k9o_eq k9e_50_2 ?_
    by_cases h1 : x.toInt = 0
    · refine k9o_T h1 (k9o_eq k9e_50_4 ?_)
      by_cases h2 : y.toInt = 0
      · exact k9o_T h2 (k9o_eq k9e_50_8 (k9o_eq k9e_50_9 (k9o_ret (by rw [show p_bo 10124 x y = if x.toInt = 0 ∧ y.toInt = 0 then 0 else 1 from rfl, if_pos ⟨h1, h2⟩]))))
      · exact k9o_F h2 (k9o_eq k9e_50_6 (k9o_eq k9e_50_9 (k9o_ret (by rw [show p_bo 10124 x y = if x.toInt = 0 ∧ y.toInt = 0 then 0 else 1 from rfl, if_neg (fun z => h2 z.2)]))))
    · exact k9o_F h1 (k9o_eq k9e_50_6 (k9o_eq k9e_50_9 (k9o_ret (by rw [show p_bo 10124 x y = if x.toInt = 0 ∧ y.toInt = 0 then 0 else 1 from rfl, if_neg (fun z => h1 z.1)]))))
  · refine k9o_eq k9e_50_10 ?_
    by_cases h1 : x.toInt = 0
    · exact k9o_T h1 (k9o_eq k9e_50_16 (k9o_eq k9e_50_17 (k9o_ret (by rw [show p_bo 10038 x y = if x.toInt = 0 ∨ y.toInt = 0 then 0 else 1 from rfl, if_pos (Or.inl h1)]))))
    · refine k9o_F h1 (k9o_eq k9e_50_12 ?_)
      by_cases h2 : y.toInt = 0
      · exact k9o_T h2 (k9o_eq k9e_50_16 (k9o_eq k9e_50_17 (k9o_ret (by rw [show p_bo 10038 x y = if x.toInt = 0 ∨ y.toInt = 0 then 0 else 1 from rfl, if_pos (Or.inr h2)]))))
      · exact k9o_F h2 (k9o_eq k9e_50_14 (k9o_eq k9e_50_17 (k9o_ret (by rw [show p_bo 10038 x y = if x.toInt = 0 ∨ y.toInt = 0 then 0 else 1 from rfl, if_neg (fun z => z.elim h1 h2)]))))
  · refine k9o_eq k9e_50_18 ?_
    by_cases h1 : x.toInt < y.toInt
    · exact k9o_F (by omega) (k9o_eq k9e_50_21 (k9o_eq k9e_50_24 (k9o_ret (by rw [show p_bo 10060 x y = if x.toInt < y.toInt then 1 else 0 from rfl, if_pos h1]))))
    · exact k9o_T (by omega) (k9o_eq k9e_50_23 (k9o_eq k9e_50_24 (k9o_ret (by rw [show p_bo 10060 x y = if x.toInt < y.toInt then 1 else 0 from rfl, if_neg h1]))))
  · refine k9o_eq k9e_50_25 ?_
    by_cases h1 : x.toInt = y.toInt
    · exact k9o_T h1 (k9o_eq k9e_50_28 (k9o_eq k9e_50_31 (k9o_ret (by rw [show p_bo 10061 x y = if x.toInt = y.toInt then 1 else 0 from rfl, if_pos h1]))))
    · exact k9o_F h1 (k9o_eq k9e_50_30 (k9o_eq k9e_50_31 (k9o_ret (by rw [show p_bo 10061 x y = if x.toInt = y.toInt then 1 else 0 from rfl, if_neg h1]))))
  · refine k9o_eq k9e_50_32 ?_
    by_cases h1 : y.toInt < x.toInt
    · exact k9o_F (by omega) (k9o_eq k9e_50_35 (k9o_eq k9e_50_38 (k9o_ret (by rw [show p_bo 10062 x y = if y.toInt < x.toInt then 1 else 0 from rfl, if_pos h1]))))
    · exact k9o_T (by omega) (k9o_eq k9e_50_37 (k9o_eq k9e_50_38 (k9o_ret (by rw [show p_bo 10062 x y = if y.toInt < x.toInt then 1 else 0 from rfl, if_neg h1]))))
  · exact k9o_eq k9e_50_39 (k9o_ret rfl)
  · exact k9o_eq k9e_50_43 (k9o_ret rfl)
  · exact k9o_eq k9e_50_47 (k9o_ret rfl)
  · refine k9o_eq k9e_50_51 ?_
    by_cases h1 : y.toInt = 0
    · exact k9o_T h1 (k9o_eq k9e_50_53 (k9o_eq k9e_50_58 (k9o_ret (by rw [show p_bo 10047 x y = if y.toInt = 0 then 0 else x / y from rfl, if_pos h1]))))
    · exact k9o_F h1 (k9o_eq k9e_50_55 (k9o_T h1 (k9o_eq k9e_50_58 (k9o_ret (by rw [show p_bo 10047 x y = if y.toInt = 0 then 0 else x / y from rfl, if_neg h1])))))
  · refine k9o_eq k9e_50_59 ?_
    by_cases h1 : y.toInt = 0
    · exact k9o_T h1 (k9o_eq k9e_50_61 (k9o_eq k9e_50_66 (k9o_ret (by rw [show p_bo 10037 x y = if y.toInt = 0 then 0 else x - x / y * y from rfl, if_pos h1]))))
    · exact k9o_F h1 (k9o_eq k9e_50_63 (k9o_T h1 (k9o_eq k9e_50_66 (k9o_ret (by rw [show p_bo 10037 x y = if y.toInt = 0 then 0 else x - x / y * y from rfl, if_neg h1])))))
/-- a name's worth -/
theorem k9s_49n (hc : c = 10098 ∨ c = 10102 ∨ c = 10115 ∨ c = 10116 ∨ c = 10108 ∨ c = 10110) : k9_R S d 49 0 [some (k9_r 6 0), some (k9_i (nI (c - 10000))), some (k9_r 4 i), some (k9_i a)] [] I J = some (some (k9_i (k9_ev I i a (p_tkm c))), I, J) := by
  refine k9o_of (k9o_eq k9e_49_0 ?_)
  rw [n_toInt (n := c - 10000) (by omega)]
  rcases hc with rfl | rfl | rfl | rfl | rfl | rfl
  all_goals repeat (first | ((with_reducible refine k9q_T ?_ ?_); · omega) | ((with_reducible refine k9q_F ?_ ?_); · omega) | ((with_reducible refine k9q_Tb ?_ ?_); · omega) | ((with_reducible refine k9q_Fb ?_ ?_); · omega))
  · exact k9o_eq k9e_49_2 (k9o_ret rfl)
  · exact k9o_eq k9e_49_5 (k9o_ret rfl)
  · exact k9o_eq k9e_49_8 (k9o_ret rfl)
  · exact k9o_eq k9e_49_11 (k9o_ret rfl)
  · exact k9o_eq k9e_49_14 (k9o_ret rfl)
  · exact k9o_eq k9e_49_16 (k9o_ret rfl)
/-- one token -/
theorem k9s_48t (hp : I 28 0 p = nI c) (hz : I 6 0 3 = nI z) (hpz : p < z) (h121 : z ≤ 121) (he : k9_ev I i a = e) (hc : (p_pu c ∧ t < 64) ∨ (p_uy c ∧ 1 ≤ t) ∨ (p_bi c ∧ 2 ≤ t)) (h64 : t ≤ 64) (hS : k9_Sk I t g) : ∃ I', k9_Sk I' (p_stp e c (t, g)).1 (p_stp e c (t, g)).2 ∧ k9_fx k9_Fl I I' ∧ ∀ Q, k9_ok (k9_R S (d + 3) 48 13 [some (k9_r 6 0), some (k9_r 4 i), some (k9_i a), some (k9_i (nI 0)), some (k9_i (nI (p + 1))), none] [] I' J) Q → k9_ok (k9_R S (d + 3) 48 13 [some (k9_r 6 0), some (k9_r 4 i), some (k9_i a), some (k9_i (nI 0)), some (k9_i (nI p)), none] [] I J) Q := by
  have hcn : c ≠ 10059 ∧ c ≠ 10063 := p_et_n (hc.elim (fun h => Or.inl h.1) (fun h => h.elim (fun h => Or.inr (Or.inl h.1)) (fun h => Or.inr (Or.inr h.1))))
  have hcb : c < 20000 := by simp only [p_pu, p_uy, p_bi] at hc; omega
  obtain ⟨s5, s29⟩ := hS
  have st : ∀ Q, k9_ok (k9_R S (d + 3) 48 52 [some (k9_r 6 0), some (k9_r 4 i), some (k9_i a), some (k9_i (nI 0)), some (k9_i (nI p)), some (k9_i (nI c))] [] I J) Q → k9_ok (k9_R S (d + 3) 48 13 [some (k9_r 6 0), some (k9_r 4 i), some (k9_i a), some (k9_i (nI 0)), some (k9_i (nI p)), none] [] I J) Q := by
    intro Q g
    refine k9o_eq k9e_48_13 (k9o_F (by rw [hz, n_toInt (by omega), n_toInt (by omega)]; omega) (k9o_eq k9e_48_17 (k9o_F (by rw [n_toInt (by omega)]; omega) (k9o_eq k9e_48_20 (k9o_T (by rw [n_toInt (by omega)]; omega) ?_)))))
    rw [n_cl (by omega), hp]
    exact k9o_eq k9e_48_24 (k9o_T (by decide) (k9o_eq k9e_48_35 (k9o_F (by rw [n_toInt (by omega)]; omega) (k9o_eq k9e_48_41 (k9o_F (by rw [n_toInt (by omega)]; omega) g)))))
  have fin : ∀ (I1 : k9_I) (u : Nat) (v : Int32) (Q : k9_A → Prop), I1 6 0 5 = nI u → u < 64 → k9_ok (k9_R S (d + 3) 48 13 [some (k9_r 6 0), some (k9_r 4 i), some (k9_i a), some (k9_i (nI 0)), some (k9_i (nI (p + 1))), none] [] (k9_u (k9_u I1 29 0 u v) 6 0 5 (nI (u + 1))) J) Q → k9_ok (k9_R S (d + 3) 48 65 [some (k9_r 6 0), some (k9_r 4 i), some (k9_i a), some (k9_i (nI 0)), some (k9_i (nI p)), some (k9_i (nI c))] [k9_i v, k9_r 6 0] I1 J) Q := by
    intro I1 u v Q h1 h2 g
    refine k9o_eq k9e_48_65 (k9o_call (k9s_51 h1 h2) ?_)
    simp only [k9_ps_n]
    refine k9o_eq k9e_48_66 ?_
    rw [nI_1]
    exact g
  have sub : nI c - 10000 = nI (c - 10000) ∨ c < 10000 := by
    by_cases h : c < 10000
    · exact Or.inr h
    · exact Or.inl (by rw [show (10000 : Int32) = nI 10000 from rfl, n_sub (by omega)])
  rcases hc with ⟨hc, ht⟩ | ⟨hc, ht⟩ | ⟨hc, ht⟩
  · refine ⟨k9_u (k9_u I 29 0 t (p_pvl e c)) 6 0 5 (nI (t + 1)), ?_, k9_fx_u (k9_fx_u (k9_fx_rf _ _) rfl) rfl, fun Q g => st Q ?_⟩
    · rw [p_stp, if_pos hc]
      refine ⟨by simp [k9_ur], fun j hj => ?_⟩
      show (k9_u (k9_u I 29 0 t (p_pvl e c)) 6 0 5 (nI (t + 1))) 29 0 j = p_ud _ t (p_pvl e c) j
      by_cases hjt : j = t
      · rw [hjt, p_ud_e]
        simp [k9_ur]
      · rw [p_ud_n hjt]
        simp [k9_ur, hjt]
        have hj' : j < t + 1 := hj
        exact s29 j (by omega)
    · by_cases c1 : c < 10000
      · rw [show p_pvl e c = nI c from if_pos c1] at g
        exact k9o_eq k9e_48_52 (k9o_F (by rw [n_toInt (by omega)]; omega) (k9o_eq k9e_48_56 (fin I t _ Q s5 ht g)))
      · rw [show p_pvl e c = e (p_tkm c) from if_neg c1, ← he] at g
        refine k9o_eq k9e_48_52 (k9o_T (by rw [n_toInt (by omega)]; omega) (k9o_eq k9e_48_58 ?_))
        rw [sub.resolve_right c1]
        refine k9o_call (k9s_49n (by simp only [p_pu] at hc; omega)) ?_
        simp only [k9_ps_s]
        exact fin I t _ Q s5 ht g
  · have c1 : ¬ c < 10000 := by simp only [p_uy] at hc; omega
    have e52 := k9s_52 (S := S) (d := d + 1) (J := J) s5 ht h64
    have ex : I 29 0 (t - 1) = g (t - 1) := s29 (t - 1) (by omega)
    rw [ex] at e52
    obtain ⟨I1, hI1⟩ : ∃ I1, I1 = k9_u I 6 0 5 (nI (t - 1)) := ⟨_, rfl⟩
    have u5 : I1 6 0 5 = nI (t - 1) := by rw [hI1]; simp [k9_ur]
    have u29 : ∀ j, I1 29 0 j = I 29 0 j := fun j => by rw [hI1]; rfl
    have u1 : k9_fx k9_Fl I I1 := by rw [hI1]; exact k9_fx_u (k9_fx_rf _ _) rfl
    rw [← hI1] at e52
    have res : ∀ v : Int32, k9_Sk (k9_u (k9_u I1 29 0 (t - 1) v) 6 0 5 (nI (t - 1 + 1))) t (p_ud g (t - 1) v) := by
      intro v
      refine ⟨by simp [k9_ur]; congr 1; omega, fun j hj => ?_⟩
      by_cases hjt : j = t - 1
      · rw [hjt, p_ud_e]
        simp [k9_ur]
      · rw [p_ud_n hjt]
        simp [k9_ur, hjt]
        rw [u29]
        exact s29 j hj
    have go : ∀ (v : Int32) (Q : k9_A → Prop), (k9_R S (d + 2) 49 0 [some (k9_r 6 0), some (k9_i (nI (c - 10000))), some (k9_r 4 i), some (k9_i a)] [] I J = some (some (k9_i v), I1, J)) → k9_ok (k9_R S (d + 3) 48 13 [some (k9_r 6 0), some (k9_r 4 i), some (k9_i a), some (k9_i (nI 0)), some (k9_i (nI (p + 1))), none] [] (k9_u (k9_u I1 29 0 (t - 1) v) 6 0 5 (nI (t - 1 + 1))) J) Q → k9_ok (k9_R S (d + 3) 48 13 [some (k9_r 6 0), some (k9_r 4 i), some (k9_i a), some (k9_i (nI 0)), some (k9_i (nI p)), none] [] I J) Q := by
      intro v Q e49 g
      refine st Q (k9o_eq k9e_48_52 (k9o_T (by rw [n_toInt (by omega)]; omega) (k9o_eq k9e_48_58 ?_)))
      rw [sub.resolve_right c1]
      refine k9o_call e49 ?_
      simp only [k9_ps_s]
      exact fin I1 (t - 1) v Q u5 (by omega) g
    rcases hc with rfl | rfl
    · have e49 : k9_R S (d + 2) 49 0 [some (k9_r 6 0), some (k9_i (nI (10033 - 10000))), some (k9_r 4 i), some (k9_i a)] [] I J = some (some (k9_i (if (g (t - 1)).toInt = 0 then 1 else 0)), I1, J) := by
        refine k9o_of (k9o_eq k9e_49_0 (k9o_T (by decide) (k9o_eq k9e_49_19 (k9o_call e52 ?_))))
        simp only [k9_ps_s]
        refine k9o_eq k9e_49_21 ?_
        by_cases h0 : (g (t - 1)).toInt = 0
        · exact k9o_T h0 (k9o_eq k9e_49_22 (k9o_eq k9e_49_25 (k9o_ret (by rw [if_pos h0]))))
        · exact k9o_F h0 (k9o_eq k9e_49_24 (k9o_eq k9e_49_25 (k9o_ret (by rw [if_neg h0]))))
      exact ⟨_, res _, k9_fx_u (k9_fx_u u1 rfl) rfl, fun Q g => go _ Q e49 g⟩
    · have e49 : k9_R S (d + 2) 49 0 [some (k9_r 6 0), some (k9_i (nI (10126 - 10000))), some (k9_r 4 i), some (k9_i a)] [] I J = some (some (k9_i (-(g (t - 1)))), I1, J) := by
        refine k9o_of (k9o_eq k9e_49_0 (k9o_F (by decide) (k9o_F (by decide) (k9o_F (by decide) (k9o_F (by decide) (k9o_F (by decide) (k9o_F (by decide) (k9o_F (by decide) (k9o_T (by decide) (k9o_eq k9e_49_26 (k9o_call e52 ?_)))))))))))
        simp only [k9_ps_s]
        exact k9o_eq k9e_49_28 (k9o_ret rfl)
      exact ⟨_, res _, k9_fx_u (k9_fx_u u1 rfl) rfl, fun Q g => go _ Q e49 g⟩
  · have c1 : ¬ c < 10000 := by simp only [p_bi] at hc; omega
    obtain ⟨n1, n2, n3⟩ := p_bi_n hc
    have e52 := k9s_52 (S := S) (d := d + 1) (J := J) s5 (by omega) h64
    rw [s29 (t - 1) (by omega)] at e52
    obtain ⟨I1, hI1⟩ : ∃ I1, I1 = k9_u I 6 0 5 (nI (t - 1)) := ⟨_, rfl⟩
    have u5 : I1 6 0 5 = nI (t - 1) := by rw [hI1]; simp [k9_ur]
    have u29 : ∀ j, I1 29 0 j = I 29 0 j := fun j => by rw [hI1]; rfl
    rw [← hI1] at e52
    have f52 := k9s_52 (S := S) (d := d + 1) (J := J) u5 (by omega) (by omega)
    rw [show t - 1 - 1 = t - 2 by omega, u29, s29 (t - 2) (by omega)] at f52
    obtain ⟨I2, hI2⟩ : ∃ I2, I2 = k9_u I1 6 0 5 (nI (t - 2)) := ⟨_, rfl⟩
    have w5 : I2 6 0 5 = nI (t - 2) := by rw [hI2]; simp [k9_ur]
    have w29 : ∀ j, I2 29 0 j = I 29 0 j := fun j => by rw [hI2]; exact u29 j
    have w1 : k9_fx k9_Fl I I2 := by rw [hI2, hI1]; exact k9_fx_u (k9_fx_u (k9_fx_rf _ _) rfl) rfl
    rw [← hI2] at f52
    refine ⟨k9_u (k9_u I2 29 0 (t - 2) (p_bo c (g (t - 2)) (g (t - 1)))) 6 0 5 (nI (t - 2 + 1)), ?_, k9_fx_u (k9_fx_u w1 rfl) rfl, fun Q hQ => st Q ?_⟩
    · rw [p_stp, if_neg n1, if_neg n2, if_neg n3]
      refine ⟨by simp [k9_ur]; congr 1; omega, fun j hj => ?_⟩
      have hj' : j < t - 1 := hj
      show (k9_u (k9_u I2 29 0 (t - 2) (p_bo c (g (t - 2)) (g (t - 1)))) 6 0 5 (nI (t - 2 + 1))) 29 0 j = p_ud g (t - 2) (p_bo c (g (t - 2)) (g (t - 1))) j
      by_cases hjt : j = t - 2
      · rw [hjt, p_ud_e]
        simp [k9_ur]
      · rw [p_ud_n hjt]
        simp [k9_ur, hjt]
        rw [w29]
        exact s29 j (by omega)
    · refine k9o_eq k9e_48_52 (k9o_T (by rw [n_toInt (by omega)]; omega) (k9o_eq k9e_48_58 ?_))
      rw [sub.resolve_right c1]
      have e49 : k9_ok (k9_R S (d + 2) 49 0 [some (k9_r 6 0), some (k9_i (nI (c - 10000))), some (k9_r 4 i), some (k9_i a)] [] I J) (fun q => q = (some (k9_i (p_bo c (g (t - 2)) (g (t - 1)))), I2, J)) := by
        refine k9o_eq k9e_49_0 ?_
        rw [n_toInt (n := c - 10000) (by simp only [p_bi] at hc; omega)]
        have hc' : c = 10124 ∨ c = 10038 ∨ c = 10060 ∨ c = 10061 ∨ c = 10062 ∨ c = 10043 ∨ c = 10045 ∨ c = 10042 ∨ c = 10047 ∨ c = 10037 := hc
        repeat (first | ((with_reducible refine k9q_T ?_ ?_); · omega) | ((with_reducible refine k9q_F ?_ ?_); · omega) | ((with_reducible refine k9q_Tb ?_ ?_); · omega) | ((with_reducible refine k9q_Fb ?_ ?_); · omega))
        refine k9o_eq k9e_49_30 (k9o_call e52 ?_)
        simp only [k9_ps_s]
        refine k9o_eq k9e_49_33 (k9o_call f52 ?_)
        simp only [k9_ps_s]
        refine k9o_eq k9e_49_35 (k9o_call (k9s_50 hc) ?_)
        simp only [k9_ps_s]
        exact k9o_eq k9e_49_36 (k9o_ret rfl)
      refine k9o_call (k9o_of e49) ?_
      simp only [k9_ps_s]
      exact fin I2 (t - 2) _ Q w5 (by omega) hQ
/-- tokens -/
theorem k9s_48s (h121 : z ≤ 121) : ∀ (ts : List Nat) (p t : Nat) (g : Nat → Int32) (I : k9_I), k9_Cd (I 28 0) p ts → I 6 0 3 = nI z → p + ts.length ≤ z → p_hv 64 ts t → t ≤ 64 → k9_ev I i a = e → k9_Sk I t g → ∃ I', k9_Sk I' (p_sts e ts (t, g)).1 (p_sts e ts (t, g)).2 ∧ k9_fx k9_Fl I I' ∧ ∀ Q, k9_ok (k9_R S (d + 3) 48 13 [some (k9_r 6 0), some (k9_r 4 i), some (k9_i a), some (k9_i (nI 0)), some (k9_i (nI (p + ts.length))), none] [] I' J) Q → k9_ok (k9_R S (d + 3) 48 13 [some (k9_r 6 0), some (k9_r 4 i), some (k9_i a), some (k9_i (nI 0)), some (k9_i (nI p)), none] [] I J) Q := by
  intro ts
  induction ts with
  | nil =>
    intro p t g I _ _ _ _ _ _ hS
    exact ⟨I, hS, k9_fx_rf _ _, fun Q h => h⟩
  | cons c r ih =>
    intro p t g I hC hz hp hH h64 he hS
    obtain ⟨c1, c2⟩ := k9_Cd_h hC
    rw [List.length_cons] at hp
    obtain ⟨I1, s1, x1, k1⟩ := k9s_48t (S := S) (d := d) (J := J) c1 hz (by omega) h121 he (hH.elim (fun h => Or.inl ⟨h.1, h.2.1⟩) (fun h => h.elim (fun h => Or.inr (Or.inl ⟨h.1, h.2.1⟩)) (fun h => Or.inr (Or.inr ⟨h.1, h.2.1⟩)))) h64 hS
    have hn : p_hv 64 r (p_stp e c (t, g)).1 ∧ (p_stp e c (t, g)).1 ≤ 64 := by
      rcases hH with ⟨h1, h2, h3⟩ | ⟨h1, h2, h3⟩ | ⟨h1, h2, h3⟩
      · rw [p_stp, if_pos h1]
        exact ⟨h3, h2⟩
      · have n1 : ¬ p_pu c := by simp only [p_uy] at h1; simp only [p_pu]; omega
        rw [p_stp, if_neg n1]
        rcases h1 with rfl | rfl
        · rw [if_pos rfl]
          exact ⟨h3, h64⟩
        · rw [if_neg (by decide), if_pos rfl]
          exact ⟨h3, h64⟩
      · obtain ⟨n1, n2, n3⟩ := p_bi_n h1
        rw [p_stp, if_neg n1, if_neg n2, if_neg n3]
        exact ⟨h3, by show t - 1 ≤ 64; omega⟩
    obtain ⟨I2, s2, x2, k2⟩ := ih (p + 1) _ _ I1 (k9_Cd_c (funext fun j => x1 28 0 j rfl) c2) ((x1 6 0 3 rfl).trans hz) (by omega) hn.1 hn.2 ((k9_ev_x x1).trans he) s1
    rw [show p + 1 + r.length = p + (r.length + 1) by omega] at k2
    exact ⟨I2, s2, k9_fx_tr x1 x2, fun Q h => k1 Q (k2 Q h)⟩
/-- one at a place, looked at -/
theorem k9s_48c {x3 : Int32} {Q : k9_A → Prop} (hp : I 28 0 p = nI c) (hz : I 6 0 3 = nI z) (hpz : p < z) (h121 : z ≤ 121) (g : k9_ok (k9_R S d 48 24 [some (k9_r 6 0), some (k9_r 4 i), some (k9_i a), some (k9_i x3), some (k9_i (nI p)), none] [k9_i (nI c)] I J) Q) : k9_ok (k9_R S d 48 13 [some (k9_r 6 0), some (k9_r 4 i), some (k9_i a), some (k9_i x3), some (k9_i (nI p)), none] [] I J) Q := by
  refine k9o_eq k9e_48_13 (k9o_F (by rw [hz, n_toInt (by omega), n_toInt (by omega)]; omega) (k9o_eq k9e_48_17 (k9o_F (by rw [n_toInt (by omega)]; omega) (k9o_eq k9e_48_20 (k9o_T (by rw [n_toInt (by omega)]; omega) ?_)))))
  rw [n_cl (by omega), hp]
  exact g
/-- a line is passed over -/
theorem k9s_48p {Q : k9_A → Prop} (h121 : z ≤ 121) : ∀ (ts : List Nat) (p : Nat), (∀ c, c ∈ ts → c ≠ 10059 ∧ c < 20000) → k9_Cd (I 28 0) p (ts ++ [10059]) → I 6 0 3 = nI z → p + ts.length < z → k9_ok (k9_R S d 48 13 [some (k9_r 6 0), some (k9_r 4 i), some (k9_i a), some (k9_i (nI 0)), some (k9_i (nI (p + ts.length + 1))), none] [] I J) Q → k9_ok (k9_R S d 48 13 [some (k9_r 6 0), some (k9_r 4 i), some (k9_i a), some (k9_i (nI 1)), some (k9_i (nI p)), none] [] I J) Q := by
  intro ts
  induction ts with
  | nil =>
    intro p _ hC hz hp g
    obtain ⟨c1, -⟩ := k9_Cd_h hC
    refine k9s_48c c1 hz hp h121 (k9o_eq k9e_48_24 (k9o_F (by decide) (k9o_eq k9e_48_27 (k9o_T (by decide) (k9o_eq k9e_48_32 (k9o_eq k9e_48_33 (k9o_eq k9e_48_66 ?_)))))))
    rw [nI_1]
    exact g
  | cons c r ih =>
    intro p hc hC hz hp g
    obtain ⟨c1, c2⟩ := k9_Cd_h (r := r ++ [10059]) hC
    rw [List.length_cons] at hp g
    obtain ⟨d1, d2⟩ := hc c List.mem_cons_self
    refine k9s_48c c1 hz (by omega) h121 (k9o_eq k9e_48_24 (k9o_F (by decide) (k9o_eq k9e_48_27 (k9o_F (by rw [n_toInt (by omega)]; omega) (k9o_eq k9e_48_30 (k9o_eq k9e_48_33 (k9o_eq k9e_48_66 ?_)))))))
    rw [nI_1]
    refine ih (p + 1) (fun c h => hc c (List.mem_cons_of_mem _ h)) c2 hz (by omega) ?_
    rw [show p + 1 + r.length + 1 = p + (r.length + 1) + 1 by omega]
    exact g
theorem p_xp_m {ts : List Nat} (h : p_xp ts) : ∀ c, c ∈ ts → c ≠ 10059 ∧ c < 20000 := fun c hc => by
  have := p_hv_m (h.2.1 0 64 (by omega)) c hc
  simp only [p_pu, p_uy, p_bi] at this
  omega
/-- the lines -/
theorem k9s_48l (h121 : z ≤ 121) : ∀ (ls : List k9_ln) (p : Nat) (I : k9_I), (∀ x, x ∈ ls → p_okl x) → k9_Cd (I 28 0) p (ls.map p_ctk).flatten → I 6 0 3 = nI z → p + (ls.map p_ctk).flatten.length = z → k9_ev I i a = e → I 6 0 5 = nI 0 → ∃ I', k9_R S (d + 3) 48 13 [some (k9_r 6 0), some (k9_r 4 i), some (k9_i a), some (k9_i (nI 0)), some (k9_i (nI p)), none] [] I J = some (some (k9_i (p_vl e ls)), I', J) ∧ k9_fx k9_Fl I I' := by
  intro ls
  induction ls with
  | nil =>
    intro p I _ hC hz hp he h5
    have hp' : p = z := by simpa using hp
    exact ⟨I, k9o_of (k9o_eq k9e_48_13 (k9o_T (by rw [hz, hp']; omega) (k9o_eq k9e_48_68 (k9o_ret rfl)))), k9_fx_rf _ _⟩
  | cons x r ih =>
    intro p I hok hC hz hp he h5
    obtain ⟨o1, o2⟩ := hok x List.mem_cons_self
    rw [List.map_cons, List.flatten_cons] at hC hp
    rw [List.length_append] at hp
    obtain ⟨C1, C2⟩ := k9_Cd_a hC
    -- a line's own tokens, and its end
    have body : ∀ (p : Nat) (I : k9_I), k9_Cd (I 28 0) p (x.2 ++ [10059]) → I 6 0 3 = nI z → p + x.2.length < z → k9_ev I i a = e → I 6 0 5 = nI 0 → ∃ I', k9_R S (d + 3) 48 13 [some (k9_r 6 0), some (k9_r 4 i), some (k9_i a), some (k9_i (nI 0)), some (k9_i (nI p)), none] [] I J = some (some (k9_i (p_vx e x.2)), I', J) ∧ k9_fx k9_Fl I I' := by
      intro p I hC hz hp he h5
      obtain ⟨D1, D2⟩ := k9_Cd_a hC
      obtain ⟨D3, -⟩ := k9_Cd_h D2
      obtain ⟨I1, s1, x1, k1⟩ := k9s_48s (S := S) (d := d) (J := J) h121 x.2 p 0 (fun j => I 29 0 j) I D1 hz (by omega) (o2.2.1 0 64 (by omega)) (by omega) he ⟨h5, fun j hj => by omega⟩
      obtain ⟨g', f1, f2, f3⟩ := o2.1 e 0 (fun j => I 29 0 j)
      rw [f1] at s1
      have e52 := k9s_52 (S := S) (d := d + 2) (J := J) s1.1 (by omega) (by omega)
      rw [show I1 29 0 (0 + 1 - 1) = p_vx e x.2 from (s1.2 0 (by omega)).trans f2] at e52
      refine ⟨k9_u I1 6 0 5 (nI (0 + 1 - 1)), k9o_of (k1 _ (k9s_48c ((x1 28 0 _ rfl).trans D3) ((x1 6 0 3 rfl).trans hz) (by omega) h121 (k9o_eq k9e_48_24 (k9o_T (by decide) (k9o_eq k9e_48_35 (k9o_T (by decide) (k9o_eq k9e_48_38 (k9o_call e52 ?_)))))))), k9_fx_u x1 rfl⟩
      simp only [k9_ps_s]
      exact k9o_eq k9e_48_40 (k9o_ret rfl)
    rw [p_vl]
    by_cases q : x.1 = []
    · rw [if_neg (fun z => z.1 q)]
      have ec : p_ctk x = x.2 ++ [10059] := if_pos q
      rw [ec] at C1 hp
      rw [List.length_append, List.length_singleton] at hp
      exact body p I C1 hz (by omega) he h5
    · have ec : p_ctk x = x.1 ++ 10063 :: (x.2 ++ [10059]) := if_neg q
      rw [ec] at C1 C2 hp
      rw [List.length_append, List.length_cons, List.length_append, List.length_singleton] at hp C2
      obtain ⟨D1, D2⟩ := k9_Cd_a C1
      obtain ⟨D3, D4⟩ := k9_Cd_h D2
      have o1 := o1.resolve_left q
      obtain ⟨I1, s1, x1, k1⟩ := k9s_48s (S := S) (d := d) (J := J) h121 x.1 p 0 (fun j => I 29 0 j) I D1 hz (by omega) (o1.2.1 0 64 (by omega)) (by omega) he ⟨h5, fun j hj => by omega⟩
      obtain ⟨g', f1, f2, f3⟩ := o1.1 e 0 (fun j => I 29 0 j)
      rw [f1] at s1
      have e52 := k9s_52 (S := S) (d := d + 2) (J := J) s1.1 (by omega) (by omega)
      rw [show I1 29 0 (0 + 1 - 1) = p_vx e x.1 from (s1.2 0 (by omega)).trans f2] at e52
      obtain ⟨I2, hI2⟩ : ∃ I2, I2 = k9_u I1 6 0 5 (nI (0 + 1 - 1)) := ⟨_, rfl⟩
      rw [← hI2] at e52
      have x2 : k9_fx k9_Fl I I2 := by rw [hI2]; exact k9_fx_u x1 rfl
      have s5 : I2 6 0 5 = nI 0 := by rw [hI2]; simp [k9_ur]
      have go : ∀ Q, k9_ok (k9_R S (d + 3) 48 46 [some (k9_r 6 0), some (k9_r 4 i), some (k9_i a), some (k9_i (nI 0)), some (k9_i (nI (p + x.1.length))), some (k9_i (nI 10063))] [k9_i (p_vx e x.1)] I2 J) Q → k9_ok (k9_R S (d + 3) 48 13 [some (k9_r 6 0), some (k9_r 4 i), some (k9_i a), some (k9_i (nI 0)), some (k9_i (nI p)), none] [] I J) Q := by
        intro Q g
        refine k1 _ (k9s_48c ((x1 28 0 _ rfl).trans D3) ((x1 6 0 3 rfl).trans hz) (by omega) h121 (k9o_eq k9e_48_24 (k9o_T (by decide) (k9o_eq k9e_48_35 (k9o_F (by decide) (k9o_eq k9e_48_41 (k9o_T (by decide) (k9o_eq k9e_48_44 (k9o_call e52 ?_)))))))))
        simp only [k9_ps_s]
        exact g
      by_cases q0 : (p_vx e x.1).toInt = 0
      · rw [if_pos ⟨q, q0⟩]
        obtain ⟨I3, e3, x3⟩ := ih (p + (x.1.length + (x.2.length + 1 + 1))) I2 (fun y hy => hok y (List.mem_cons_of_mem _ hy)) (k9_Cd_c (funext fun j => x2 28 0 j rfl) C2) ((x2 6 0 3 rfl).trans hz) (by omega) ((k9_ev_x x2).trans he) s5
        refine ⟨I3, k9o_of (go _ (k9o_eq k9e_48_46 (k9o_T q0 (k9o_eq k9e_48_47 (k9o_eq k9e_48_50 (k9o_eq k9e_48_66 ?_)))))), k9_fx_tr x2 x3⟩
        rw [nI_1]
        refine k9s_48p h121 x.2 (p + x.1.length + 1) (p_xp_m o2) (k9_Cd_c (funext fun j => x2 28 0 j rfl) D4) ((x2 6 0 3 rfl).trans hz) (by omega) ?_
        rw [show p + x.1.length + 1 + x.2.length + 1 = p + (x.1.length + (x.2.length + 1 + 1)) by omega]
        exact k9o_to e3 rfl
      · rw [if_neg (fun z => q0 z.2)]
        obtain ⟨I3, e3, x3⟩ := body (p + x.1.length + 1) I2 (k9_Cd_c (funext fun j => x2 28 0 j rfl) D4) ((x2 6 0 3 rfl).trans hz) (by omega) ((k9_ev_x x2).trans he) s5
        refine ⟨I3, k9o_of (go _ (k9o_eq k9e_48_46 (k9o_F q0 (k9o_eq k9e_48_49 (k9o_eq k9e_48_50 (k9o_eq k9e_48_66 ?_)))))), k9_fx_tr x2 x3⟩
        rw [nI_1]
        exact k9o_to e3 rfl
theorem p_vl_i : ∀ (ls : List k9_ln), (∀ x, x ∈ ls → p_okl x) → 10108 ∉ (ls.map p_ctk).flatten → ∀ e e' : Nat → Int32, (∀ k, k ≠ 4 → e k = e' k) → p_vl e ls = p_vl e' ls := by
  intro ls
  induction ls with
  | nil => intro _ _ e e' _; rfl
  | cons x r ih =>
    intro hok hn e e' h
    rw [List.map_cons, List.flatten_cons] at hn
    obtain ⟨o1, o2⟩ := hok x List.mem_cons_self
    have h1 := ih (fun y hy => hok y (List.mem_cons_of_mem _ hy)) (fun z => hn (List.mem_append_right _ z)) e e' h
    have h2 : p_vx e x.2 = p_vx e' x.2 := o2.2.2 (fun z => hn (List.mem_append_left _ (by
      unfold p_ctk
      split
      · exact List.mem_append_left _ z
      · exact List.mem_append_right _ (List.mem_cons_of_mem _ (List.mem_append_left _ z))))) e e' h
    rw [p_vl, p_vl, h1, h2]
    by_cases q : x.1 = []
    · rw [if_neg (fun z => z.1 q), if_neg (fun z => z.1 q)]
    · have h3 : p_vx e x.1 = p_vx e' x.1 := (o1.resolve_left q).2.2 (fun z => hn (List.mem_append_left _ (by
        unfold p_ctk
        rw [if_neg q]
        exact List.mem_append_left _ z))) e e' h
      rw [h3]
/-- the class's law has the values of the lines -/
theorem k9_CL_l (hok : ∀ x, x ∈ ls → p_okl x) (h1 : I 6 0 1 = 1) (h3 : I 6 0 3 = nI (ls.map p_ctk).flatten.length) (h121 : (ls.map p_ctk).flatten.length ≤ 121) (hC : k9_Cd (I 28 0) 0 (ls.map p_ctk).flatten) (h0 : I 6 0 0 = 0 ∨ I 6 0 0 = 1) (hl : I 6 0 0 = 0 → 10108 ∉ (ls.map p_ctk).flatten) : k9_CL I (fun e => p_vl e ls) := by
  refine ⟨fun S d J I' i a g0 g1 g3 g28 => ?_, h0, fun z e e' h => p_vl_i ls hok (hl z) e e' h⟩
  obtain ⟨I2, hI2⟩ : ∃ I2, I2 = k9_u I' 6 0 5 0 := ⟨_, rfl⟩
  have x2 : k9_fx k9_Fl I' I2 := by rw [hI2]; exact k9_fx_u (k9_fx_rf _ _) rfl
  obtain ⟨I3, e3, x3⟩ := k9s_48l (S := S) (d := d) (J := J) h121 ls 0 I2 hok (k9_Cd_c (funext fun j => (x2 28 0 j rfl).trans (congrFun g28 j)) hC) ((x2 6 0 3 rfl).trans (g3.trans h3)) (by omega) (k9_ev_x x2) (by rw [hI2]; simp [k9_ur]; rfl)
  refine ⟨I3, k9o_of (k9o_eq k9e_48_0 (k9o_F (by rw [g1, h1]; decide) (k9o_eq k9e_48_6 ?_))), k9_fx_tr x2 x3⟩
  rw [← hI2]
  exact k9o_to e3 rfl
end KV9
