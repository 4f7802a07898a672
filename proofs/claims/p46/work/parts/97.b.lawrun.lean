/-! THE LAW: its loop -/
section KLAW
variable {S : k9_S} {d i : Nat} {I : k9_I} {J : k9_J} {Q : k9_A → Prop}
theorem k9_in_t {a n : Nat} (h : a < n) (h2 : n ≤ 100000) : k9_in (nI a) n = true := by
  unfold k9_in
  rw [n_toInt (by omega)]
  exact decide_eq_true (by omega)
theorem n_p5 (a : Nat) : nI a + 5 = nI (a + 5) := nI_add a 5
theorem n_p6 (a : Nat) : nI a + 6 = nI (a + 6) := nI_add a 6
theorem k9_P_d {d d' y z : Nat} {A B : k9_L} {R : k9_I → k9_J → Prop} (e : d = d') (h : k9_P S d y z A B I J R) : k9_P S d' y z A B I J R := e ▸ h
theorem k9_PJ_d {d d' y z : Nat} {A B : k9_L} {R : k9_I → k9_J → Prop} (e : d = d') (h : k9_PJ S d y z A B I J R) : k9_PJ S d' y z A B I J R := e ▸ h
theorem k9_it0 (hS : S.2 ≤ 100000) (h6 : i + 6 ≤ S.2) (hI : k9_Inv I J) (g : ∀ I' J', k9_Inv I' J' → k9_ok (k9_R S (d + 101) 247 10 [some (k9_r 90 0), some (k9_r 1 0), some (k9_r 12 0), some (k9_i (nI (i + 6)))] [] I' J') Q) : k9_ok (k9_R S (d + 101) 247 22 [some (k9_r 90 0), some (k9_r 1 0), some (k9_r 12 0), some (k9_i (nI i))] [] I J) Q := by
  obtain ⟨v, I1, J1, I2, J2, e1, e2, hI2⟩ := k9_P_d (show d + 90 + 10 = d + 100 by omega) (t_piece (S := S) (d := d + 90) (x1 := S.1 (i + 1)) (x2 := S.1 (i + 2)) hI)
  refine k9o_eq k9e_247_22 ?_
  rw [nI_1]
  refine k9o_T (k9_in_t (by omega) hS) ?_
  rw [n_cl (by omega)]
  refine k9o_eq k9e_247_28 ?_
  rw [n_p2]
  refine k9o_T (k9_in_t (by omega) hS) ?_
  rw [n_cl (by omega)]
  refine k9o_eq k9e_247_33 (k9o_call e1 ?_)
  simp only [k9_ps_s]
  refine k9o_eq k9e_247_34 ?_
  rw [nI_1]
  refine k9o_T (k9_in_t (by omega) hS) ?_
  rw [n_cl (by omega)]
  refine k9o_eq k9e_247_41 ?_
  rw [n_p2]
  refine k9o_T (k9_in_t (by omega) hS) ?_
  rw [n_cl (by omega)]
  refine k9o_eq k9e_247_46 (k9o_call e2 ?_)
  simp only [k9_ps_s]
  refine k9o_eq k9e_247_47 ?_
  refine k9o_eq k9e_247_1051 ?_
  rw [n_p6]
  exact g I2 J2 hI2
theorem k9_it1 (hS : S.2 ≤ 100000) (h6 : i + 6 ≤ S.2) (hI : k9_Inv I J) (g : ∀ I' J', k9_Inv I' J' → k9_ok (k9_R S (d + 101) 247 10 [some (k9_r 90 0), some (k9_r 1 0), some (k9_r 12 0), some (k9_i (nI (i + 6)))] [] I' J') Q) : k9_ok (k9_R S (d + 101) 247 49 [some (k9_r 90 0), some (k9_r 1 0), some (k9_r 12 0), some (k9_i (nI i))] [] I J) Q := by
  obtain ⟨v, I1, J1, I2, J2, e1, e2, hI2⟩ := k9_P_d (show d + 90 + 10 = d + 100 by omega) (t_pieces (S := S) (d := d + 90) (x1 := S.1 (i + 1)) (x2 := S.1 (i + 2)) (x3 := S.1 (i + 3)) hI)
  refine k9o_eq k9e_247_49 ?_
  rw [nI_1]
  refine k9o_T (k9_in_t (by omega) hS) ?_
  rw [n_cl (by omega)]
  refine k9o_eq k9e_247_55 ?_
  rw [n_p2]
  refine k9o_T (k9_in_t (by omega) hS) ?_
  rw [n_cl (by omega)]
  refine k9o_eq k9e_247_60 ?_
  rw [n_p3]
  refine k9o_T (k9_in_t (by omega) hS) ?_
  rw [n_cl (by omega)]
  refine k9o_eq k9e_247_65 (k9o_call e1 ?_)
  simp only [k9_ps_s]
  refine k9o_eq k9e_247_66 ?_
  rw [nI_1]
  refine k9o_T (k9_in_t (by omega) hS) ?_
  rw [n_cl (by omega)]
  refine k9o_eq k9e_247_73 ?_
  rw [n_p2]
  refine k9o_T (k9_in_t (by omega) hS) ?_
  rw [n_cl (by omega)]
  refine k9o_eq k9e_247_78 ?_
  rw [n_p3]
  refine k9o_T (k9_in_t (by omega) hS) ?_
  rw [n_cl (by omega)]
  refine k9o_eq k9e_247_83 (k9o_call e2 ?_)
  simp only [k9_ps_s]
  refine k9o_eq k9e_247_84 ?_
  refine k9o_eq k9e_247_1051 ?_
  rw [n_p6]
  exact g I2 J2 hI2
theorem k9_it2 (hS : S.2 ≤ 100000) (h6 : i + 6 ≤ S.2) (hI : k9_Inv I J) (g : ∀ I' J', k9_Inv I' J' → k9_ok (k9_R S (d + 101) 247 10 [some (k9_r 90 0), some (k9_r 1 0), some (k9_r 12 0), some (k9_i (nI (i + 6)))] [] I' J') Q) : k9_ok (k9_R S (d + 101) 247 86 [some (k9_r 90 0), some (k9_r 1 0), some (k9_r 12 0), some (k9_i (nI i))] [] I J) Q := by
  obtain ⟨v, I1, J1, I2, J2, e1, e2, hI2⟩ := k9_P_d (show d + 90 + 10 = d + 100 by omega) (t_mend (S := S) (d := d + 90) (x1 := S.1 (i + 1)) (x2 := S.1 (i + 2)) (x3 := S.1 (i + 3)) hI)
  refine k9o_eq k9e_247_86 ?_
  rw [nI_1]
  refine k9o_T (k9_in_t (by omega) hS) ?_
  rw [n_cl (by omega)]
  refine k9o_eq k9e_247_92 ?_
  rw [n_p2]
  refine k9o_T (k9_in_t (by omega) hS) ?_
  rw [n_cl (by omega)]
  refine k9o_eq k9e_247_97 ?_
  rw [n_p3]
  refine k9o_T (k9_in_t (by omega) hS) ?_
  rw [n_cl (by omega)]
  refine k9o_eq k9e_247_102 (k9o_call e1 ?_)
  simp only [k9_ps_s]
  refine k9o_eq k9e_247_103 ?_
  rw [nI_1]
  refine k9o_T (k9_in_t (by omega) hS) ?_
  rw [n_cl (by omega)]
  refine k9o_eq k9e_247_110 ?_
  rw [n_p2]
  refine k9o_T (k9_in_t (by omega) hS) ?_
  rw [n_cl (by omega)]
  refine k9o_eq k9e_247_115 ?_
  rw [n_p3]
  refine k9o_T (k9_in_t (by omega) hS) ?_
  rw [n_cl (by omega)]
  refine k9o_eq k9e_247_120 (k9o_call e2 ?_)
  simp only [k9_ps_s]
  refine k9o_eq k9e_247_121 ?_
  refine k9o_eq k9e_247_1051 ?_
  rw [n_p6]
  exact g I2 J2 hI2
theorem k9_it3 (hS : S.2 ≤ 100000) (h6 : i + 6 ≤ S.2) (hI : k9_Inv I J) (g : ∀ I' J', k9_Inv I' J' → k9_ok (k9_R S (d + 101) 247 10 [some (k9_r 90 0), some (k9_r 1 0), some (k9_r 12 0), some (k9_i (nI (i + 6)))] [] I' J') Q) : k9_ok (k9_R S (d + 101) 247 123 [some (k9_r 90 0), some (k9_r 1 0), some (k9_r 12 0), some (k9_i (nI i))] [] I J) Q := by
  obtain ⟨v, I1, J1, I2, J2, e1, e2, hI2⟩ := k9_P_d (show d + 90 + 10 = d + 100 by omega) (t_of (S := S) (d := d + 90) (x1 := S.1 (i + 1)) (x2 := S.1 (i + 2)) hI)
  refine k9o_eq k9e_247_123 ?_
  rw [nI_1]
  refine k9o_T (k9_in_t (by omega) hS) ?_
  rw [n_cl (by omega)]
  refine k9o_eq k9e_247_129 ?_
  rw [n_p2]
  refine k9o_T (k9_in_t (by omega) hS) ?_
  rw [n_cl (by omega)]
  refine k9o_eq k9e_247_134 (k9o_call e1 ?_)
  simp only [k9_ps_s]
  refine k9o_eq k9e_247_135 ?_
  rw [nI_1]
  refine k9o_T (k9_in_t (by omega) hS) ?_
  rw [n_cl (by omega)]
  refine k9o_eq k9e_247_142 ?_
  rw [n_p2]
  refine k9o_T (k9_in_t (by omega) hS) ?_
  rw [n_cl (by omega)]
  refine k9o_eq k9e_247_147 (k9o_call e2 ?_)
  simp only [k9_ps_s]
  refine k9o_eq k9e_247_148 ?_
  refine k9o_eq k9e_247_1051 ?_
  rw [n_p6]
  exact g I2 J2 hI2
theorem k9_it4 (hS : S.2 ≤ 100000) (h6 : i + 6 ≤ S.2) (hI : k9_Inv I J) (g : ∀ I' J', k9_Inv I' J' → k9_ok (k9_R S (d + 101) 247 10 [some (k9_r 90 0), some (k9_r 1 0), some (k9_r 12 0), some (k9_i (nI (i + 6)))] [] I' J') Q) : k9_ok (k9_R S (d + 101) 247 150 [some (k9_r 90 0), some (k9_r 1 0), some (k9_r 12 0), some (k9_i (nI i))] [] I J) Q := by
  obtain ⟨v, I1, J1, I2, J2, e1, e2, hI2⟩ := k9_P_d (show d + 90 + 10 = d + 100 by omega) (t_feed (S := S) (d := d + 90) (x1 := S.1 (i + 1)) hI)
  refine k9o_eq k9e_247_150 ?_
  rw [nI_1]
  refine k9o_T (k9_in_t (by omega) hS) ?_
  rw [n_cl (by omega)]
  refine k9o_eq k9e_247_156 (k9o_call e1 ?_)
  simp only [k9_ps_s]
  refine k9o_eq k9e_247_157 ?_
  rw [nI_1]
  refine k9o_T (k9_in_t (by omega) hS) ?_
  rw [n_cl (by omega)]
  refine k9o_eq k9e_247_164 (k9o_call e2 ?_)
  simp only [k9_ps_s]
  refine k9o_eq k9e_247_165 ?_
  refine k9o_eq k9e_247_1051 ?_
  rw [n_p6]
  exact g I2 J2 hI2
theorem k9_it5 (hS : S.2 ≤ 100000) (h6 : i + 6 ≤ S.2) (hI : k9_Inv I J) (g : ∀ I' J', k9_Inv I' J' → k9_ok (k9_R S (d + 101) 247 10 [some (k9_r 90 0), some (k9_r 1 0), some (k9_r 12 0), some (k9_i (nI (i + 6)))] [] I' J') Q) : k9_ok (k9_R S (d + 101) 247 167 [some (k9_r 90 0), some (k9_r 1 0), some (k9_r 12 0), some (k9_i (nI i))] [] I J) Q := by
  obtain ⟨v, I1, J1, I2, J2, e1, e2, hI2⟩ := k9_P_d (show d + 0 + 100 = d + 100 by omega) (t_law (S := S) (d := d + 0)  hI)
  refine k9o_eq k9e_247_167 (k9o_call e1 ?_)
  simp only [k9_ps_s]
  refine k9o_eq k9e_247_169 (k9o_call e2 ?_)
  simp only [k9_ps_s]
  refine k9o_eq k9e_247_172 ?_
  refine k9o_eq k9e_247_1051 ?_
  rw [n_p6]
  exact g I2 J2 hI2
theorem k9_it6 (hS : S.2 ≤ 100000) (h6 : i + 6 ≤ S.2) (hI : k9_Inv I J) (g : ∀ I' J', k9_Inv I' J' → k9_ok (k9_R S (d + 101) 247 10 [some (k9_r 90 0), some (k9_r 1 0), some (k9_r 12 0), some (k9_i (nI (i + 6)))] [] I' J') Q) : k9_ok (k9_R S (d + 101) 247 174 [some (k9_r 90 0), some (k9_r 1 0), some (k9_r 12 0), some (k9_i (nI i))] [] I J) Q := by
  obtain ⟨v, I1, J1, I2, J2, e1, e2, hI2⟩ := k9_P_d (show d + 80 + 20 = d + 100 by omega) (t_showing (S := S) (d := d + 80) (x1 := S.1 (i + 1)) (x2 := S.1 (i + 2)) hI)
  refine k9o_eq k9e_247_174 ?_
  rw [nI_1]
  refine k9o_T (k9_in_t (by omega) hS) ?_
  rw [n_cl (by omega)]
  refine k9o_eq k9e_247_180 ?_
  rw [n_p2]
  refine k9o_T (k9_in_t (by omega) hS) ?_
  rw [n_cl (by omega)]
  refine k9o_eq k9e_247_185 (k9o_call e1 ?_)
  simp only [k9_ps_s]
  refine k9o_eq k9e_247_186 ?_
  rw [nI_1]
  refine k9o_T (k9_in_t (by omega) hS) ?_
  rw [n_cl (by omega)]
  refine k9o_eq k9e_247_193 ?_
  rw [n_p2]
  refine k9o_T (k9_in_t (by omega) hS) ?_
  rw [n_cl (by omega)]
  refine k9o_eq k9e_247_198 (k9o_call e2 ?_)
  simp only [k9_ps_s]
  refine k9o_eq k9e_247_199 ?_
  refine k9o_eq k9e_247_1051 ?_
  rw [n_p6]
  exact g I2 J2 hI2
theorem k9_it7 (hS : S.2 ≤ 100000) (h6 : i + 6 ≤ S.2) (hI : k9_Inv I J) (g : ∀ I' J', k9_Inv I' J' → k9_ok (k9_R S (d + 101) 247 10 [some (k9_r 90 0), some (k9_r 1 0), some (k9_r 12 0), some (k9_i (nI (i + 6)))] [] I' J') Q) : k9_ok (k9_R S (d + 101) 247 201 [some (k9_r 90 0), some (k9_r 1 0), some (k9_r 12 0), some (k9_i (nI i))] [] I J) Q := by
  obtain ⟨v, I1, J1, I2, J2, e1, e2, hI2⟩ := k9_P_d (show d + 80 + 20 = d + 100 by omega) (t_seconds (S := S) (d := d + 80) (x1 := S.1 (i + 1)) hI)
  refine k9o_eq k9e_247_201 ?_
  rw [nI_1]
  refine k9o_T (k9_in_t (by omega) hS) ?_
  rw [n_cl (by omega)]
  refine k9o_eq k9e_247_207 (k9o_call e1 ?_)
  simp only [k9_ps_s]
  refine k9o_eq k9e_247_208 ?_
  rw [nI_1]
  refine k9o_T (k9_in_t (by omega) hS) ?_
  rw [n_cl (by omega)]
  refine k9o_eq k9e_247_215 (k9o_call e2 ?_)
  simp only [k9_ps_s]
  refine k9o_eq k9e_247_216 ?_
  refine k9o_eq k9e_247_1051 ?_
  rw [n_p6]
  exact g I2 J2 hI2
theorem k9_it8 (hS : S.2 ≤ 100000) (h6 : i + 6 ≤ S.2) (hI : k9_Inv I J) (g : ∀ I' J', k9_Inv I' J' → k9_ok (k9_R S (d + 101) 247 10 [some (k9_r 90 0), some (k9_r 1 0), some (k9_r 12 0), some (k9_i (nI (i + 6)))] [] I' J') Q) : k9_ok (k9_R S (d + 101) 247 218 [some (k9_r 90 0), some (k9_r 1 0), some (k9_r 12 0), some (k9_i (nI i))] [] I J) Q := by
  obtain ⟨v, I1, J1, I2, J2, e1, e2, hI2⟩ := k9_P_d (show d + 80 + 20 = d + 100 by omega) (t_standing (S := S) (d := d + 80) (x1 := S.1 (i + 1)) hI)
  refine k9o_eq k9e_247_218 ?_
  rw [nI_1]
  refine k9o_T (k9_in_t (by omega) hS) ?_
  rw [n_cl (by omega)]
  refine k9o_eq k9e_247_224 (k9o_call e1 ?_)
  simp only [k9_ps_s]
  refine k9o_eq k9e_247_225 ?_
  rw [nI_1]
  refine k9o_T (k9_in_t (by omega) hS) ?_
  rw [n_cl (by omega)]
  refine k9o_eq k9e_247_232 (k9o_call e2 ?_)
  simp only [k9_ps_s]
  refine k9o_eq k9e_247_233 ?_
  refine k9o_eq k9e_247_1051 ?_
  rw [n_p6]
  exact g I2 J2 hI2
theorem k9_it9 (hS : S.2 ≤ 100000) (h6 : i + 6 ≤ S.2) (hI : k9_Inv I J) (g : ∀ I' J', k9_Inv I' J' → k9_ok (k9_R S (d + 101) 247 10 [some (k9_r 90 0), some (k9_r 1 0), some (k9_r 12 0), some (k9_i (nI (i + 6)))] [] I' J') Q) : k9_ok (k9_R S (d + 101) 247 235 [some (k9_r 90 0), some (k9_r 1 0), some (k9_r 12 0), some (k9_i (nI i))] [] I J) Q := by
  obtain ⟨v, I1, J1, I2, J2, e1, e2, hI2⟩ := k9_P_d (show d + 80 + 20 = d + 100 by omega) (t_off (S := S) (d := d + 80) (x1 := S.1 (i + 1)) hI)
  refine k9o_eq k9e_247_235 ?_
  rw [nI_1]
  refine k9o_T (k9_in_t (by omega) hS) ?_
  rw [n_cl (by omega)]
  refine k9o_eq k9e_247_241 (k9o_call e1 ?_)
  simp only [k9_ps_s]
  refine k9o_eq k9e_247_242 ?_
  rw [nI_1]
  refine k9o_T (k9_in_t (by omega) hS) ?_
  rw [n_cl (by omega)]
  refine k9o_eq k9e_247_249 (k9o_call e2 ?_)
  simp only [k9_ps_s]
  refine k9o_eq k9e_247_250 ?_
  refine k9o_eq k9e_247_1051 ?_
  rw [n_p6]
  exact g I2 J2 hI2
theorem k9_it10 (hS : S.2 ≤ 100000) (h6 : i + 6 ≤ S.2) (hI : k9_Inv I J) (g : ∀ I' J', k9_Inv I' J' → k9_ok (k9_R S (d + 101) 247 10 [some (k9_r 90 0), some (k9_r 1 0), some (k9_r 12 0), some (k9_i (nI (i + 6)))] [] I' J') Q) : k9_ok (k9_R S (d + 101) 247 252 [some (k9_r 90 0), some (k9_r 1 0), some (k9_r 12 0), some (k9_i (nI i))] [] I J) Q := by
  obtain ⟨v, I1, J1, I2, J2, e1, e2, hI2⟩ := k9_P_d (show d + 80 + 20 = d + 100 by omega) (t_remains (S := S) (d := d + 80) (x1 := S.1 (i + 1)) (x2 := S.1 (i + 2)) hI)
  refine k9o_eq k9e_247_252 ?_
  rw [nI_1]
  refine k9o_T (k9_in_t (by omega) hS) ?_
  rw [n_cl (by omega)]
  refine k9o_eq k9e_247_258 ?_
  rw [n_p2]
  refine k9o_T (k9_in_t (by omega) hS) ?_
  rw [n_cl (by omega)]
  refine k9o_eq k9e_247_263 (k9o_call e1 ?_)
  simp only [k9_ps_s]
  refine k9o_eq k9e_247_264 ?_
  rw [nI_1]
  refine k9o_T (k9_in_t (by omega) hS) ?_
  rw [n_cl (by omega)]
  refine k9o_eq k9e_247_271 ?_
  rw [n_p2]
  refine k9o_T (k9_in_t (by omega) hS) ?_
  rw [n_cl (by omega)]
  refine k9o_eq k9e_247_276 (k9o_call e2 ?_)
  simp only [k9_ps_s]
  refine k9o_eq k9e_247_277 ?_
  refine k9o_eq k9e_247_1051 ?_
  rw [n_p6]
  exact g I2 J2 hI2
theorem k9_it11 (hS : S.2 ≤ 100000) (h6 : i + 6 ≤ S.2) (hI : k9_Inv I J) (g : ∀ I' J', k9_Inv I' J' → k9_ok (k9_R S (d + 101) 247 10 [some (k9_r 90 0), some (k9_r 1 0), some (k9_r 12 0), some (k9_i (nI (i + 6)))] [] I' J') Q) : k9_ok (k9_R S (d + 101) 247 279 [some (k9_r 90 0), some (k9_r 1 0), some (k9_r 12 0), some (k9_i (nI i))] [] I J) Q := by
  obtain ⟨v, I1, J1, I2, J2, e1, e2, hI2⟩ := k9_P_d (show d + 80 + 20 = d + 100 by omega) (t_best (S := S) (d := d + 80) (x1 := S.1 (i + 1)) hI)
  refine k9o_eq k9e_247_279 ?_
  rw [nI_1]
  refine k9o_T (k9_in_t (by omega) hS) ?_
  rw [n_cl (by omega)]
  refine k9o_eq k9e_247_285 (k9o_call e1 ?_)
  simp only [k9_ps_s]
  refine k9o_eq k9e_247_286 ?_
  rw [nI_1]
  refine k9o_T (k9_in_t (by omega) hS) ?_
  rw [n_cl (by omega)]
  refine k9o_eq k9e_247_293 (k9o_call e2 ?_)
  simp only [k9_ps_s]
  refine k9o_eq k9e_247_294 ?_
  refine k9o_eq k9e_247_1051 ?_
  rw [n_p6]
  exact g I2 J2 hI2
theorem k9_it12 (hS : S.2 ≤ 100000) (h6 : i + 6 ≤ S.2) (hI : k9_Inv I J) (g : ∀ I' J', k9_Inv I' J' → k9_ok (k9_R S (d + 101) 247 10 [some (k9_r 90 0), some (k9_r 1 0), some (k9_r 12 0), some (k9_i (nI (i + 6)))] [] I' J') Q) : k9_ok (k9_R S (d + 101) 247 296 [some (k9_r 90 0), some (k9_r 1 0), some (k9_r 12 0), some (k9_i (nI i))] [] I J) Q := by
  obtain ⟨v, I1, J1, I2, J2, e1, e2, hI2⟩ := k9_P_d (show d + 80 + 20 = d + 100 by omega) (t_dead (S := S) (d := d + 80) (x1 := S.1 (i + 1)) (x2 := S.1 (i + 2)) hI)
  refine k9o_eq k9e_247_296 ?_
  rw [nI_1]
  refine k9o_T (k9_in_t (by omega) hS) ?_
  rw [n_cl (by omega)]
  refine k9o_eq k9e_247_302 ?_
  rw [n_p2]
  refine k9o_T (k9_in_t (by omega) hS) ?_
  rw [n_cl (by omega)]
  refine k9o_eq k9e_247_307 (k9o_call e1 ?_)
  simp only [k9_ps_s]
  refine k9o_eq k9e_247_308 ?_
  rw [nI_1]
  refine k9o_T (k9_in_t (by omega) hS) ?_
  rw [n_cl (by omega)]
  refine k9o_eq k9e_247_315 ?_
  rw [n_p2]
  refine k9o_T (k9_in_t (by omega) hS) ?_
  rw [n_cl (by omega)]
  refine k9o_eq k9e_247_320 (k9o_call e2 ?_)
  simp only [k9_ps_s]
  refine k9o_eq k9e_247_321 ?_
  refine k9o_eq k9e_247_1051 ?_
  rw [n_p6]
  exact g I2 J2 hI2
theorem k9_it13 (hS : S.2 ≤ 100000) (h6 : i + 6 ≤ S.2) (hI : k9_Inv I J) (g : ∀ I' J', k9_Inv I' J' → k9_ok (k9_R S (d + 101) 247 10 [some (k9_r 90 0), some (k9_r 1 0), some (k9_r 12 0), some (k9_i (nI (i + 6)))] [] I' J') Q) : k9_ok (k9_R S (d + 101) 247 323 [some (k9_r 90 0), some (k9_r 1 0), some (k9_r 12 0), some (k9_i (nI i))] [] I J) Q := by
  obtain ⟨v, I1, J1, I2, J2, e1, e2, hI2⟩ := k9_P_d (show d + 80 + 20 = d + 100 by omega) (t_patience (S := S) (d := d + 80)  hI)
  refine k9o_eq k9e_247_323 (k9o_call e1 ?_)
  simp only [k9_ps_s]
  refine k9o_eq k9e_247_325 (k9o_call e2 ?_)
  simp only [k9_ps_s]
  refine k9o_eq k9e_247_328 ?_
  refine k9o_eq k9e_247_1051 ?_
  rw [n_p6]
  exact g I2 J2 hI2
theorem k9_it14 (hS : S.2 ≤ 100000) (h6 : i + 6 ≤ S.2) (hI : k9_Inv I J) (g : ∀ I' J', k9_Inv I' J' → k9_ok (k9_R S (d + 101) 247 10 [some (k9_r 90 0), some (k9_r 1 0), some (k9_r 12 0), some (k9_i (nI (i + 6)))] [] I' J') Q) : k9_ok (k9_R S (d + 101) 247 330 [some (k9_r 90 0), some (k9_r 1 0), some (k9_r 12 0), some (k9_i (nI i))] [] I J) Q := by
  obtain ⟨v, I1, J1, I2, J2, e1, e2, hI2⟩ := k9_P_d (show d + 90 + 10 = d + 100 by omega) (t_tea (S := S) (d := d + 90) (x1 := S.1 (i + 1)) (x2 := S.1 (i + 2)) hI)
  refine k9o_eq k9e_247_330 ?_
  rw [nI_1]
  refine k9o_T (k9_in_t (by omega) hS) ?_
  rw [n_cl (by omega)]
  refine k9o_eq k9e_247_336 ?_
  rw [n_p2]
  refine k9o_T (k9_in_t (by omega) hS) ?_
  rw [n_cl (by omega)]
  refine k9o_eq k9e_247_341 (k9o_call e1 ?_)
  simp only [k9_ps_s]
  refine k9o_eq k9e_247_342 ?_
  rw [nI_1]
  refine k9o_T (k9_in_t (by omega) hS) ?_
  rw [n_cl (by omega)]
  refine k9o_eq k9e_247_349 ?_
  rw [n_p2]
  refine k9o_T (k9_in_t (by omega) hS) ?_
  rw [n_cl (by omega)]
  refine k9o_eq k9e_247_354 (k9o_call e2 ?_)
  simp only [k9_ps_s]
  refine k9o_eq k9e_247_355 ?_
  refine k9o_eq k9e_247_1051 ?_
  rw [n_p6]
  exact g I2 J2 hI2
theorem k9_it15 (hS : S.2 ≤ 100000) (h6 : i + 6 ≤ S.2) (hI : k9_Inv I J) (g : ∀ I' J', k9_Inv I' J' → k9_ok (k9_R S (d + 101) 247 10 [some (k9_r 90 0), some (k9_r 1 0), some (k9_r 12 0), some (k9_i (nI (i + 6)))] [] I' J') Q) : k9_ok (k9_R S (d + 101) 247 357 [some (k9_r 90 0), some (k9_r 1 0), some (k9_r 12 0), some (k9_i (nI i))] [] I J) Q := by
  obtain ⟨v, I1, J1, I2, J2, e1, e2, hI2⟩ := k9_P_d (show d + 80 + 20 = d + 100 by omega) (t_order (S := S) (d := d + 80) (x1 := S.1 (i + 1)) hI)
  refine k9o_eq k9e_247_357 ?_
  rw [nI_1]
  refine k9o_T (k9_in_t (by omega) hS) ?_
  rw [n_cl (by omega)]
  refine k9o_eq k9e_247_363 (k9o_call e1 ?_)
  simp only [k9_ps_s]
  refine k9o_eq k9e_247_364 ?_
  rw [nI_1]
  refine k9o_T (k9_in_t (by omega) hS) ?_
  rw [n_cl (by omega)]
  refine k9o_eq k9e_247_371 (k9o_call e2 ?_)
  simp only [k9_ps_s]
  refine k9o_eq k9e_247_372 ?_
  refine k9o_eq k9e_247_1051 ?_
  rw [n_p6]
  exact g I2 J2 hI2
theorem k9_it16 (hS : S.2 ≤ 100000) (h6 : i + 6 ≤ S.2) (hI : k9_Inv I J) (g : ∀ I' J', k9_Inv I' J' → k9_ok (k9_R S (d + 101) 247 10 [some (k9_r 90 0), some (k9_r 1 0), some (k9_r 12 0), some (k9_i (nI (i + 6)))] [] I' J') Q) : k9_ok (k9_R S (d + 101) 247 374 [some (k9_r 90 0), some (k9_r 1 0), some (k9_r 12 0), some (k9_i (nI i))] [] I J) Q := by
  have hp : ∃ (v v' : Int32) (I1 : k9_I) (J1 : k9_J) (I2 : k9_I) (J2 : k9_J), k9_R S (d + 100) 115 0 [some (k9_r 1 0), some (k9_i (S.1 (i + 1))), none, none] [] I J = some (some (k9_i v), I1, J1) ∧ k9_R S (d + 100) 211 0 [some (k9_r 12 0), some (k9_i (S.1 (i + 1))), none, none, none, none, none, none] [] I1 J1 = some (some (k9_i v'), I2, J2) ∧ k9_Inv I2 J2 := by
    have ed : d + 80 + 20 = d + 100 := by omega
    rcases t_told (S := S) (d := d + 80) (x1 := S.1 (i + 1)) hI with h | ⟨-, v, v', I1, J1, I2, J2, e1, e2, h⟩
    · rw [ed] at h
      obtain ⟨v, I1, J1, I2, J2, e1, e2, h⟩ := h
      exact ⟨v, v, I1, J1, I2, J2, e1, e2, h⟩
    · rw [ed] at e1 e2
      exact ⟨v, v', I1, J1, I2, J2, e1, e2, h⟩
  obtain ⟨v, v', I1, J1, I2, J2, e1, e2, hI2⟩ := hp
  refine k9o_eq k9e_247_374 ?_
  rw [nI_1]
  refine k9o_T (k9_in_t (by omega) hS) ?_
  rw [n_cl (by omega)]
  refine k9o_eq k9e_247_380 (k9o_call e1 ?_)
  simp only [k9_ps_s]
  refine k9o_eq k9e_247_381 ?_
  rw [nI_1]
  refine k9o_T (k9_in_t (by omega) hS) ?_
  rw [n_cl (by omega)]
  refine k9o_eq k9e_247_388 (k9o_call e2 ?_)
  simp only [k9_ps_s]
  refine k9o_eq k9e_247_389 ?_
  refine k9o_eq k9e_247_1051 ?_
  rw [n_p6]
  exact g I2 J2 hI2
theorem k9_it17 (hS : S.2 ≤ 100000) (h6 : i + 6 ≤ S.2) (hI : k9_Inv I J) (g : ∀ I' J', k9_Inv I' J' → k9_ok (k9_R S (d + 101) 247 10 [some (k9_r 90 0), some (k9_r 1 0), some (k9_r 12 0), some (k9_i (nI (i + 6)))] [] I' J') Q) : k9_ok (k9_R S (d + 101) 247 391 [some (k9_r 90 0), some (k9_r 1 0), some (k9_r 12 0), some (k9_i (nI i))] [] I J) Q := by
  obtain ⟨v, I1, J1, I2, J2, e1, e2, hI2⟩ := k9_P_d (show d + 80 + 20 = d + 100 by omega) (t_where (S := S) (d := d + 80) (x1 := S.1 (i + 1)) hI)
  refine k9o_eq k9e_247_391 ?_
  rw [nI_1]
  refine k9o_T (k9_in_t (by omega) hS) ?_
  rw [n_cl (by omega)]
  refine k9o_eq k9e_247_397 (k9o_call e1 ?_)
  simp only [k9_ps_s]
  refine k9o_eq k9e_247_398 ?_
  rw [nI_1]
  refine k9o_T (k9_in_t (by omega) hS) ?_
  rw [n_cl (by omega)]
  refine k9o_eq k9e_247_405 (k9o_call e2 ?_)
  simp only [k9_ps_s]
  refine k9o_eq k9e_247_406 ?_
  refine k9o_eq k9e_247_1051 ?_
  rw [n_p6]
  exact g I2 J2 hI2
theorem k9_it18 (hS : S.2 ≤ 100000) (h6 : i + 6 ≤ S.2) (hI : k9_Inv I J) (g : ∀ I' J', k9_Inv I' J' → k9_ok (k9_R S (d + 101) 247 10 [some (k9_r 90 0), some (k9_r 1 0), some (k9_r 12 0), some (k9_i (nI (i + 6)))] [] I' J') Q) : k9_ok (k9_R S (d + 101) 247 408 [some (k9_r 90 0), some (k9_r 1 0), some (k9_r 12 0), some (k9_i (nI i))] [] I J) Q := by
  obtain ⟨v, I1, J1, I2, J2, e1, e2, hI2⟩ := k9_P_d (show d + 80 + 20 = d + 100 by omega) (t_measure (S := S) (d := d + 80) (x1 := S.1 (i + 1)) hI)
  refine k9o_eq k9e_247_408 ?_
  rw [nI_1]
  refine k9o_T (k9_in_t (by omega) hS) ?_
  rw [n_cl (by omega)]
  refine k9o_eq k9e_247_414 (k9o_call e1 ?_)
  simp only [k9_ps_s]
  refine k9o_eq k9e_247_415 ?_
  rw [nI_1]
  refine k9o_T (k9_in_t (by omega) hS) ?_
  rw [n_cl (by omega)]
  refine k9o_eq k9e_247_422 (k9o_call e2 ?_)
  simp only [k9_ps_s]
  refine k9o_eq k9e_247_423 ?_
  refine k9o_eq k9e_247_1051 ?_
  rw [n_p6]
  exact g I2 J2 hI2
theorem k9_it19 (hS : S.2 ≤ 100000) (h6 : i + 6 ≤ S.2) (hI : k9_Inv I J) (g : ∀ I' J', k9_Inv I' J' → k9_ok (k9_R S (d + 101) 247 10 [some (k9_r 90 0), some (k9_r 1 0), some (k9_r 12 0), some (k9_i (nI (i + 6)))] [] I' J') Q) : k9_ok (k9_R S (d + 101) 247 425 [some (k9_r 90 0), some (k9_r 1 0), some (k9_r 12 0), some (k9_i (nI i))] [] I J) Q := by
  obtain ⟨v, I1, J1, I2, J2, e1, e2, hI2⟩ := k9_P_d (show d + 80 + 20 = d + 100 by omega) (t_pleases (S := S) (d := d + 80) (x1 := S.1 (i + 1)) hI)
  refine k9o_eq k9e_247_425 ?_
  rw [nI_1]
  refine k9o_T (k9_in_t (by omega) hS) ?_
  rw [n_cl (by omega)]
  refine k9o_eq k9e_247_431 (k9o_call e1 ?_)
  simp only [k9_ps_s]
  refine k9o_eq k9e_247_432 ?_
  rw [nI_1]
  refine k9o_T (k9_in_t (by omega) hS) ?_
  rw [n_cl (by omega)]
  refine k9o_eq k9e_247_439 (k9o_call e2 ?_)
  simp only [k9_ps_s]
  refine k9o_eq k9e_247_440 ?_
  refine k9o_eq k9e_247_1051 ?_
  rw [n_p6]
  exact g I2 J2 hI2
theorem k9_it20 (hS : S.2 ≤ 100000) (h6 : i + 6 ≤ S.2) (hI : k9_Inv I J) (g : ∀ I' J', k9_Inv I' J' → k9_ok (k9_R S (d + 101) 247 10 [some (k9_r 90 0), some (k9_r 1 0), some (k9_r 12 0), some (k9_i (nI (i + 6)))] [] I' J') Q) : k9_ok (k9_R S (d + 101) 247 442 [some (k9_r 90 0), some (k9_r 1 0), some (k9_r 12 0), some (k9_i (nI i))] [] I J) Q := by
  obtain ⟨v, I1, J1, I2, J2, e1, e2, hI2⟩ := k9_P_d (show d + 80 + 20 = d + 100 by omega) (t_trust (S := S) (d := d + 80) (x1 := S.1 (i + 1)) (x2 := S.1 (i + 2)) hI)
  refine k9o_eq k9e_247_442 ?_
  rw [nI_1]
  refine k9o_T (k9_in_t (by omega) hS) ?_
  rw [n_cl (by omega)]
  refine k9o_eq k9e_247_448 ?_
  rw [n_p2]
  refine k9o_T (k9_in_t (by omega) hS) ?_
  rw [n_cl (by omega)]
  refine k9o_eq k9e_247_453 (k9o_call e1 ?_)
  simp only [k9_ps_s]
  refine k9o_eq k9e_247_454 ?_
  rw [nI_1]
  refine k9o_T (k9_in_t (by omega) hS) ?_
  rw [n_cl (by omega)]
  refine k9o_eq k9e_247_461 ?_
  rw [n_p2]
  refine k9o_T (k9_in_t (by omega) hS) ?_
  rw [n_cl (by omega)]
  refine k9o_eq k9e_247_466 (k9o_call e2 ?_)
  simp only [k9_ps_s]
  refine k9o_eq k9e_247_467 ?_
  refine k9o_eq k9e_247_1051 ?_
  rw [n_p6]
  exact g I2 J2 hI2
theorem k9_it21 (hS : S.2 ≤ 100000) (h6 : i + 6 ≤ S.2) (hI : k9_Inv I J) (g : ∀ I' J', k9_Inv I' J' → k9_ok (k9_R S (d + 101) 247 10 [some (k9_r 90 0), some (k9_r 1 0), some (k9_r 12 0), some (k9_i (nI (i + 6)))] [] I' J') Q) : k9_ok (k9_R S (d + 101) 247 469 [some (k9_r 90 0), some (k9_r 1 0), some (k9_r 12 0), some (k9_i (nI i))] [] I J) Q := by
  obtain ⟨v, I1, J1, I2, J2, e1, e2, hI2⟩ := k9_P_d (show d + 80 + 20 = d + 100 by omega) (t_judge (S := S) (d := d + 80) (x1 := S.1 (i + 1)) (x2 := S.1 (i + 2)) hI)
  refine k9o_eq k9e_247_469 ?_
  rw [nI_1]
  refine k9o_T (k9_in_t (by omega) hS) ?_
  rw [n_cl (by omega)]
  refine k9o_eq k9e_247_475 ?_
  rw [n_p2]
  refine k9o_T (k9_in_t (by omega) hS) ?_
  rw [n_cl (by omega)]
  refine k9o_eq k9e_247_480 (k9o_call e1 ?_)
  simp only [k9_ps_s]
  refine k9o_eq k9e_247_481 ?_
  rw [nI_1]
  refine k9o_T (k9_in_t (by omega) hS) ?_
  rw [n_cl (by omega)]
  refine k9o_eq k9e_247_488 ?_
  rw [n_p2]
  refine k9o_T (k9_in_t (by omega) hS) ?_
  rw [n_cl (by omega)]
  refine k9o_eq k9e_247_493 (k9o_call e2 ?_)
  simp only [k9_ps_s]
  refine k9o_eq k9e_247_494 ?_
  refine k9o_eq k9e_247_1051 ?_
  rw [n_p6]
  exact g I2 J2 hI2
theorem k9_it22 (hS : S.2 ≤ 100000) (h6 : i + 6 ≤ S.2) (hI : k9_Inv I J) (g : ∀ I' J', k9_Inv I' J' → k9_ok (k9_R S (d + 101) 247 10 [some (k9_r 90 0), some (k9_r 1 0), some (k9_r 12 0), some (k9_i (nI (i + 6)))] [] I' J') Q) : k9_ok (k9_R S (d + 101) 247 496 [some (k9_r 90 0), some (k9_r 1 0), some (k9_r 12 0), some (k9_i (nI i))] [] I J) Q := by
  obtain ⟨v, I1, J1, I2, J2, e1, e2, hI2⟩ := k9_P_d (show d + 80 + 20 = d + 100 by omega) (t_which (S := S) (d := d + 80) (x1 := S.1 (i + 1)) (x2 := S.1 (i + 2)) hI)
  refine k9o_eq k9e_247_496 ?_
  rw [nI_1]
  refine k9o_T (k9_in_t (by omega) hS) ?_
  rw [n_cl (by omega)]
  refine k9o_eq k9e_247_502 ?_
  rw [n_p2]
  refine k9o_T (k9_in_t (by omega) hS) ?_
  rw [n_cl (by omega)]
  refine k9o_eq k9e_247_507 (k9o_call e1 ?_)
  simp only [k9_ps_s]
  refine k9o_eq k9e_247_508 ?_
  rw [nI_1]
  refine k9o_T (k9_in_t (by omega) hS) ?_
  rw [n_cl (by omega)]
  refine k9o_eq k9e_247_515 ?_
  rw [n_p2]
  refine k9o_T (k9_in_t (by omega) hS) ?_
  rw [n_cl (by omega)]
  refine k9o_eq k9e_247_520 (k9o_call e2 ?_)
  simp only [k9_ps_s]
  refine k9o_eq k9e_247_521 ?_
  refine k9o_eq k9e_247_1051 ?_
  rw [n_p6]
  exact g I2 J2 hI2
theorem k9_it23 (hS : S.2 ≤ 100000) (h6 : i + 6 ≤ S.2) (hI : k9_Inv I J) (g : ∀ I' J', k9_Inv I' J' → k9_ok (k9_R S (d + 101) 247 10 [some (k9_r 90 0), some (k9_r 1 0), some (k9_r 12 0), some (k9_i (nI (i + 6)))] [] I' J') Q) : k9_ok (k9_R S (d + 101) 247 523 [some (k9_r 90 0), some (k9_r 1 0), some (k9_r 12 0), some (k9_i (nI i))] [] I J) Q := by
  obtain ⟨v, I1, J1, I2, J2, e1, e2, hI2⟩ := k9_P_d (show d + 80 + 20 = d + 100 by omega) (t_since (S := S) (d := d + 80) (x1 := S.1 (i + 1)) hI)
  refine k9o_eq k9e_247_523 ?_
  rw [nI_1]
  refine k9o_T (k9_in_t (by omega) hS) ?_
  rw [n_cl (by omega)]
  refine k9o_eq k9e_247_529 (k9o_call e1 ?_)
  simp only [k9_ps_s]
  refine k9o_eq k9e_247_530 ?_
  rw [nI_1]
  refine k9o_T (k9_in_t (by omega) hS) ?_
  rw [n_cl (by omega)]
  refine k9o_eq k9e_247_537 (k9o_call e2 ?_)
  simp only [k9_ps_s]
  refine k9o_eq k9e_247_538 ?_
  refine k9o_eq k9e_247_1051 ?_
  rw [n_p6]
  exact g I2 J2 hI2
theorem k9_it24 (hS : S.2 ≤ 100000) (h6 : i + 6 ≤ S.2) (hI : k9_Inv I J) (g : ∀ I' J', k9_Inv I' J' → k9_ok (k9_R S (d + 101) 247 10 [some (k9_r 90 0), some (k9_r 1 0), some (k9_r 12 0), some (k9_i (nI (i + 6)))] [] I' J') Q) : k9_ok (k9_R S (d + 101) 247 540 [some (k9_r 90 0), some (k9_r 1 0), some (k9_r 12 0), some (k9_i (nI i))] [] I J) Q := by
  obtain ⟨v, I1, J1, I2, J2, e1, e2, hI2⟩ := k9_P_d (show d + 80 + 20 = d + 100 by omega) (t_stuck (S := S) (d := d + 80) (x1 := S.1 (i + 1)) (x2 := S.1 (i + 2)) hI)
  refine k9o_eq k9e_247_540 ?_
  rw [nI_1]
  refine k9o_T (k9_in_t (by omega) hS) ?_
  rw [n_cl (by omega)]
  refine k9o_eq k9e_247_546 ?_
  rw [n_p2]
  refine k9o_T (k9_in_t (by omega) hS) ?_
  rw [n_cl (by omega)]
  refine k9o_eq k9e_247_551 (k9o_call e1 ?_)
  simp only [k9_ps_s]
  refine k9o_eq k9e_247_552 ?_
  rw [nI_1]
  refine k9o_T (k9_in_t (by omega) hS) ?_
  rw [n_cl (by omega)]
  refine k9o_eq k9e_247_559 ?_
  rw [n_p2]
  refine k9o_T (k9_in_t (by omega) hS) ?_
  rw [n_cl (by omega)]
  refine k9o_eq k9e_247_564 (k9o_call e2 ?_)
  simp only [k9_ps_s]
  refine k9o_eq k9e_247_565 ?_
  refine k9o_eq k9e_247_1051 ?_
  rw [n_p6]
  exact g I2 J2 hI2
theorem k9_it25 (hS : S.2 ≤ 100000) (h6 : i + 6 ≤ S.2) (hI : k9_Inv I J) (g : ∀ I' J', k9_Inv I' J' → k9_ok (k9_R S (d + 101) 247 10 [some (k9_r 90 0), some (k9_r 1 0), some (k9_r 12 0), some (k9_i (nI (i + 6)))] [] I' J') Q) : k9_ok (k9_R S (d + 101) 247 567 [some (k9_r 90 0), some (k9_r 1 0), some (k9_r 12 0), some (k9_i (nI i))] [] I J) Q := by
  obtain ⟨v, I1, J1, I2, J2, e1, e2, hI2⟩ := k9_P_d (show d + 80 + 20 = d + 100 by omega) (t_speed (S := S) (d := d + 80) (x1 := S.1 (i + 1)) (x2 := S.1 (i + 2)) (x3 := S.1 (i + 3)) hI)
  refine k9o_eq k9e_247_567 ?_
  rw [nI_1]
  refine k9o_T (k9_in_t (by omega) hS) ?_
  rw [n_cl (by omega)]
  refine k9o_eq k9e_247_573 ?_
  rw [n_p2]
  refine k9o_T (k9_in_t (by omega) hS) ?_
  rw [n_cl (by omega)]
  refine k9o_eq k9e_247_578 ?_
  rw [n_p3]
  refine k9o_T (k9_in_t (by omega) hS) ?_
  rw [n_cl (by omega)]
  refine k9o_eq k9e_247_583 (k9o_call e1 ?_)
  simp only [k9_ps_s]
  refine k9o_eq k9e_247_584 ?_
  rw [nI_1]
  refine k9o_T (k9_in_t (by omega) hS) ?_
  rw [n_cl (by omega)]
  refine k9o_eq k9e_247_591 ?_
  rw [n_p2]
  refine k9o_T (k9_in_t (by omega) hS) ?_
  rw [n_cl (by omega)]
  refine k9o_eq k9e_247_596 ?_
  rw [n_p3]
  refine k9o_T (k9_in_t (by omega) hS) ?_
  rw [n_cl (by omega)]
  refine k9o_eq k9e_247_601 (k9o_call e2 ?_)
  simp only [k9_ps_s]
  refine k9o_eq k9e_247_602 ?_
  refine k9o_eq k9e_247_1051 ?_
  rw [n_p6]
  exact g I2 J2 hI2
theorem k9_it26 (hS : S.2 ≤ 100000) (h6 : i + 6 ≤ S.2) (hI : k9_Inv I J) (g : ∀ I' J', k9_Inv I' J' → k9_ok (k9_R S (d + 101) 247 10 [some (k9_r 90 0), some (k9_r 1 0), some (k9_r 12 0), some (k9_i (nI (i + 6)))] [] I' J') Q) : k9_ok (k9_R S (d + 101) 247 604 [some (k9_r 90 0), some (k9_r 1 0), some (k9_r 12 0), some (k9_i (nI i))] [] I J) Q := by
  obtain ⟨v, I1, J1, I2, J2, e1, e2, hI2⟩ := k9_P_d (show d + 80 + 20 = d + 100 by omega) (t_drawn (S := S) (d := d + 80) (x1 := S.1 (i + 1)) (x2 := S.1 (i + 2)) (x3 := S.1 (i + 3)) (x4 := S.1 (i + 4)) hI)
  refine k9o_eq k9e_247_604 ?_
  rw [nI_1]
  refine k9o_T (k9_in_t (by omega) hS) ?_
  rw [n_cl (by omega)]
  refine k9o_eq k9e_247_610 ?_
  rw [n_p2]
  refine k9o_T (k9_in_t (by omega) hS) ?_
  rw [n_cl (by omega)]
  refine k9o_eq k9e_247_615 ?_
  rw [n_p3]
  refine k9o_T (k9_in_t (by omega) hS) ?_
  rw [n_cl (by omega)]
  refine k9o_eq k9e_247_620 ?_
  rw [n_p4]
  refine k9o_T (k9_in_t (by omega) hS) ?_
  rw [n_cl (by omega)]
  refine k9o_eq k9e_247_625 (k9o_call e1 ?_)
  simp only [k9_ps_s]
  refine k9o_eq k9e_247_626 ?_
  rw [nI_1]
  refine k9o_T (k9_in_t (by omega) hS) ?_
  rw [n_cl (by omega)]
  refine k9o_eq k9e_247_633 ?_
  rw [n_p2]
  refine k9o_T (k9_in_t (by omega) hS) ?_
  rw [n_cl (by omega)]
  refine k9o_eq k9e_247_638 ?_
  rw [n_p3]
  refine k9o_T (k9_in_t (by omega) hS) ?_
  rw [n_cl (by omega)]
  refine k9o_eq k9e_247_643 ?_
  rw [n_p4]
  refine k9o_T (k9_in_t (by omega) hS) ?_
  rw [n_cl (by omega)]
  refine k9o_eq k9e_247_648 (k9o_call e2 ?_)
  simp only [k9_ps_s]
  refine k9o_eq k9e_247_649 ?_
  refine k9o_eq k9e_247_1051 ?_
  rw [n_p6]
  exact g I2 J2 hI2
theorem k9_it27 (hS : S.2 ≤ 100000) (h6 : i + 6 ≤ S.2) (hI : k9_Inv I J) (g : ∀ I' J', k9_Inv I' J' → k9_ok (k9_R S (d + 101) 247 10 [some (k9_r 90 0), some (k9_r 1 0), some (k9_r 12 0), some (k9_i (nI (i + 6)))] [] I' J') Q) : k9_ok (k9_R S (d + 101) 247 651 [some (k9_r 90 0), some (k9_r 1 0), some (k9_r 12 0), some (k9_i (nI i))] [] I J) Q := by
  obtain ⟨v, I1, J1, I2, J2, e1, e2, hI2⟩ := k9_P_d (show d + 80 + 20 = d + 100 by omega) (t_begin (S := S) (d := d + 80)  hI)
  refine k9o_eq k9e_247_651 (k9o_call e1 ?_)
  simp only [k9_ps_s]
  refine k9o_eq k9e_247_653 (k9o_call e2 ?_)
  simp only [k9_ps_s]
  refine k9o_eq k9e_247_656 ?_
  refine k9o_eq k9e_247_1051 ?_
  rw [n_p6]
  exact g I2 J2 hI2
theorem k9_it28 (hS : S.2 ≤ 100000) (h6 : i + 6 ≤ S.2) (hI : k9_Inv I J) (g : ∀ I' J', k9_Inv I' J' → k9_ok (k9_R S (d + 101) 247 10 [some (k9_r 90 0), some (k9_r 1 0), some (k9_r 12 0), some (k9_i (nI (i + 6)))] [] I' J') Q) : k9_ok (k9_R S (d + 101) 247 658 [some (k9_r 90 0), some (k9_r 1 0), some (k9_r 12 0), some (k9_i (nI i))] [] I J) Q := by
  obtain ⟨v, I1, J1, I2, J2, e1, e2, hI2⟩ := k9_P_d (show d + 80 + 20 = d + 100 by omega) (t_pass (S := S) (d := d + 80) (x1 := S.1 (i + 1)) hI)
  refine k9o_eq k9e_247_658 ?_
  rw [nI_1]
  refine k9o_T (k9_in_t (by omega) hS) ?_
  rw [n_cl (by omega)]
  refine k9o_eq k9e_247_664 (k9o_call e1 ?_)
  simp only [k9_ps_s]
  refine k9o_eq k9e_247_665 ?_
  rw [nI_1]
  refine k9o_T (k9_in_t (by omega) hS) ?_
  rw [n_cl (by omega)]
  refine k9o_eq k9e_247_672 (k9o_call e2 ?_)
  simp only [k9_ps_s]
  refine k9o_eq k9e_247_673 ?_
  refine k9o_eq k9e_247_1051 ?_
  rw [n_p6]
  exact g I2 J2 hI2
theorem k9_it29 (hS : S.2 ≤ 100000) (h6 : i + 6 ≤ S.2) (hI : k9_Inv I J) (g : ∀ I' J', k9_Inv I' J' → k9_ok (k9_R S (d + 101) 247 10 [some (k9_r 90 0), some (k9_r 1 0), some (k9_r 12 0), some (k9_i (nI (i + 6)))] [] I' J') Q) : k9_ok (k9_R S (d + 101) 247 675 [some (k9_r 90 0), some (k9_r 1 0), some (k9_r 12 0), some (k9_i (nI i))] [] I J) Q := by
  obtain ⟨v, I1, J1, I2, J2, e1, e2, hI2⟩ := k9_P_d (show d + 80 + 20 = d + 100 by omega) (t_cancel (S := S) (d := d + 80)  hI)
  refine k9o_eq k9e_247_675 (k9o_call e1 ?_)
  simp only [k9_ps_s]
  refine k9o_eq k9e_247_677 (k9o_call e2 ?_)
  simp only [k9_ps_s]
  refine k9o_eq k9e_247_680 ?_
  refine k9o_eq k9e_247_1051 ?_
  rw [n_p6]
  exact g I2 J2 hI2
theorem k9_it30 (hS : S.2 ≤ 100000) (h6 : i + 6 ≤ S.2) (hI : k9_Inv I J) (g : ∀ I' J', k9_Inv I' J' → k9_ok (k9_R S (d + 101) 247 10 [some (k9_r 90 0), some (k9_r 1 0), some (k9_r 12 0), some (k9_i (nI (i + 6)))] [] I' J') Q) : k9_ok (k9_R S (d + 101) 247 682 [some (k9_r 90 0), some (k9_r 1 0), some (k9_r 12 0), some (k9_i (nI i))] [] I J) Q := by
  obtain ⟨v, I1, J1, I2, J2, e1, e2, hI2⟩ := k9_P_d (show d + 80 + 20 = d + 100 by omega) (t_led (S := S) (d := d + 80) (x1 := S.1 (i + 1)) hI)
  refine k9o_eq k9e_247_682 ?_
  rw [nI_1]
  refine k9o_T (k9_in_t (by omega) hS) ?_
  rw [n_cl (by omega)]
  refine k9o_eq k9e_247_688 (k9o_call e1 ?_)
  simp only [k9_ps_s]
  refine k9o_eq k9e_247_689 ?_
  rw [nI_1]
  refine k9o_T (k9_in_t (by omega) hS) ?_
  rw [n_cl (by omega)]
  refine k9o_eq k9e_247_696 (k9o_call e2 ?_)
  simp only [k9_ps_s]
  refine k9o_eq k9e_247_697 ?_
  refine k9o_eq k9e_247_1051 ?_
  rw [n_p6]
  exact g I2 J2 hI2
theorem k9_it31 (hS : S.2 ≤ 100000) (h6 : i + 6 ≤ S.2) (hI : k9_Inv I J) (g : ∀ I' J', k9_Inv I' J' → k9_ok (k9_R S (d + 101) 247 10 [some (k9_r 90 0), some (k9_r 1 0), some (k9_r 12 0), some (k9_i (nI (i + 6)))] [] I' J') Q) : k9_ok (k9_R S (d + 101) 247 699 [some (k9_r 90 0), some (k9_r 1 0), some (k9_r 12 0), some (k9_i (nI i))] [] I J) Q := by
  obtain ⟨v, I1, J1, I2, J2, e1, e2, hI2⟩ := k9_P_d (show d + 80 + 20 = d + 100 by omega) (t_image (S := S) (d := d + 80)  hI)
  refine k9o_eq k9e_247_699 (k9o_call e1 ?_)
  simp only [k9_ps_s]
  refine k9o_eq k9e_247_701 (k9o_call e2 ?_)
  simp only [k9_ps_s]
  refine k9o_eq k9e_247_704 ?_
  refine k9o_eq k9e_247_1051 ?_
  rw [n_p6]
  exact g I2 J2 hI2
theorem k9_it32 (hS : S.2 ≤ 100000) (h6 : i + 6 ≤ S.2) (hI : k9_Inv I J) (g : ∀ I' J', k9_Inv I' J' → k9_ok (k9_R S (d + 101) 247 10 [some (k9_r 90 0), some (k9_r 1 0), some (k9_r 12 0), some (k9_i (nI (i + 6)))] [] I' J') Q) : k9_ok (k9_R S (d + 101) 247 706 [some (k9_r 90 0), some (k9_r 1 0), some (k9_r 12 0), some (k9_i (nI i))] [] I J) Q := by
  obtain ⟨v, I1, J1, I2, J2, e1, e2, hI2⟩ := k9_P_d (show d + 80 + 20 = d + 100 by omega) (t_back (S := S) (d := d + 80)  hI)
  refine k9o_eq k9e_247_706 (k9o_call e1 ?_)
  simp only [k9_ps_s]
  refine k9o_eq k9e_247_708 (k9o_call e2 ?_)
  simp only [k9_ps_s]
  refine k9o_eq k9e_247_711 ?_
  refine k9o_eq k9e_247_1051 ?_
  rw [n_p6]
  exact g I2 J2 hI2
theorem k9_it33 (hS : S.2 ≤ 100000) (h6 : i + 6 ≤ S.2) (hI : k9_Inv I J) (g : ∀ I' J', k9_Inv I' J' → k9_ok (k9_R S (d + 101) 247 10 [some (k9_r 90 0), some (k9_r 1 0), some (k9_r 12 0), some (k9_i (nI (i + 6)))] [] I' J') Q) : k9_ok (k9_R S (d + 101) 247 713 [some (k9_r 90 0), some (k9_r 1 0), some (k9_r 12 0), some (k9_i (nI i))] [] I J) Q := by
  obtain ⟨v, I1, J1, I2, J2, e1, e2, hI2⟩ := k9_P_d (show d + 90 + 10 = d + 100 by omega) (t_undo (S := S) (d := d + 90)  hI)
  refine k9o_eq k9e_247_713 (k9o_call e1 ?_)
  simp only [k9_ps_s]
  refine k9o_eq k9e_247_715 (k9o_call e2 ?_)
  simp only [k9_ps_s]
  refine k9o_eq k9e_247_718 ?_
  refine k9o_eq k9e_247_1051 ?_
  rw [n_p6]
  exact g I2 J2 hI2
theorem k9_it34 (hS : S.2 ≤ 100000) (h6 : i + 6 ≤ S.2) (hI : k9_Inv I J) (g : ∀ I' J', k9_Inv I' J' → k9_ok (k9_R S (d + 101) 247 10 [some (k9_r 90 0), some (k9_r 1 0), some (k9_r 12 0), some (k9_i (nI (i + 6)))] [] I' J') Q) : k9_ok (k9_R S (d + 101) 247 720 [some (k9_r 90 0), some (k9_r 1 0), some (k9_r 12 0), some (k9_i (nI i))] [] I J) Q := by
  obtain ⟨v, I1, J1, I2, J2, e1, e2, hI2⟩ := k9_P_d (show d + 90 + 10 = d + 100 by omega) (t_redo (S := S) (d := d + 90)  hI)
  refine k9o_eq k9e_247_720 (k9o_call e1 ?_)
  simp only [k9_ps_s]
  refine k9o_eq k9e_247_722 (k9o_call e2 ?_)
  simp only [k9_ps_s]
  refine k9o_eq k9e_247_725 ?_
  refine k9o_eq k9e_247_1051 ?_
  rw [n_p6]
  exact g I2 J2 hI2
theorem k9_it35 (hS : S.2 ≤ 100000) (h6 : i + 6 ≤ S.2) (hI : k9_Inv I J) (g : ∀ I' J', k9_Inv I' J' → k9_ok (k9_R S (d + 101) 247 10 [some (k9_r 90 0), some (k9_r 1 0), some (k9_r 12 0), some (k9_i (nI (i + 6)))] [] I' J') Q) : k9_ok (k9_R S (d + 101) 247 727 [some (k9_r 90 0), some (k9_r 1 0), some (k9_r 12 0), some (k9_i (nI i))] [] I J) Q := by
  obtain ⟨v, I1, J1, I2, J2, e1, e2, hI2⟩ := k9_P_d (show d + 90 + 10 = d + 100 by omega) (t_body (S := S) (d := d + 90) (x1 := S.1 (i + 1)) hI)
  refine k9o_eq k9e_247_727 ?_
  rw [nI_1]
  refine k9o_T (k9_in_t (by omega) hS) ?_
  rw [n_cl (by omega)]
  refine k9o_eq k9e_247_733 (k9o_call e1 ?_)
  simp only [k9_ps_s]
  refine k9o_eq k9e_247_734 ?_
  rw [nI_1]
  refine k9o_T (k9_in_t (by omega) hS) ?_
  rw [n_cl (by omega)]
  refine k9o_eq k9e_247_741 (k9o_call e2 ?_)
  simp only [k9_ps_s]
  refine k9o_eq k9e_247_742 ?_
  refine k9o_eq k9e_247_1051 ?_
  rw [n_p6]
  exact g I2 J2 hI2
theorem k9_it36 (hS : S.2 ≤ 100000) (h6 : i + 6 ≤ S.2) (hI : k9_Inv I J) (g : ∀ I' J', k9_Inv I' J' → k9_ok (k9_R S (d + 101) 247 10 [some (k9_r 90 0), some (k9_r 1 0), some (k9_r 12 0), some (k9_i (nI (i + 6)))] [] I' J') Q) : k9_ok (k9_R S (d + 101) 247 744 [some (k9_r 90 0), some (k9_r 1 0), some (k9_r 12 0), some (k9_i (nI i))] [] I J) Q := by
  obtain ⟨v, I1, J1, I2, J2, e1, e2, hI2⟩ := k9_P_d (show d + 40 + 60 = d + 100 by omega) (t_act (S := S) (d := d + 40) (x1 := S.1 (i + 1)) (x2 := S.1 (i + 2)) (x3 := S.1 (i + 3)) hI)
  refine k9o_eq k9e_247_744 ?_
  rw [nI_1]
  refine k9o_T (k9_in_t (by omega) hS) ?_
  rw [n_cl (by omega)]
  refine k9o_eq k9e_247_750 ?_
  rw [n_p2]
  refine k9o_T (k9_in_t (by omega) hS) ?_
  rw [n_cl (by omega)]
  refine k9o_eq k9e_247_755 ?_
  rw [n_p3]
  refine k9o_T (k9_in_t (by omega) hS) ?_
  rw [n_cl (by omega)]
  refine k9o_eq k9e_247_760 (k9o_call e1 ?_)
  simp only [k9_ps_s]
  refine k9o_eq k9e_247_761 ?_
  rw [nI_1]
  refine k9o_T (k9_in_t (by omega) hS) ?_
  rw [n_cl (by omega)]
  refine k9o_eq k9e_247_768 ?_
  rw [n_p2]
  refine k9o_T (k9_in_t (by omega) hS) ?_
  rw [n_cl (by omega)]
  refine k9o_eq k9e_247_773 ?_
  rw [n_p3]
  refine k9o_T (k9_in_t (by omega) hS) ?_
  rw [n_cl (by omega)]
  refine k9o_eq k9e_247_778 (k9o_call e2 ?_)
  simp only [k9_ps_s]
  refine k9o_eq k9e_247_779 ?_
  refine k9o_eq k9e_247_1051 ?_
  rw [n_p6]
  exact g I2 J2 hI2
theorem k9_it37 (hS : S.2 ≤ 100000) (h6 : i + 6 ≤ S.2) (hI : k9_Inv I J) (g : ∀ I' J', k9_Inv I' J' → k9_ok (k9_R S (d + 101) 247 10 [some (k9_r 90 0), some (k9_r 1 0), some (k9_r 12 0), some (k9_i (nI (i + 6)))] [] I' J') Q) : k9_ok (k9_R S (d + 101) 247 781 [some (k9_r 90 0), some (k9_r 1 0), some (k9_r 12 0), some (k9_i (nI i))] [] I J) Q := by
  obtain ⟨v, I1, J1, I2, J2, e1, e2, hI2⟩ := k9_P_d (show d + 90 + 10 = d + 100 by omega) (t_trace (S := S) (d := d + 90) (x1 := S.1 (i + 1)) hI)
  refine k9o_eq k9e_247_781 ?_
  rw [nI_1]
  refine k9o_T (k9_in_t (by omega) hS) ?_
  rw [n_cl (by omega)]
  refine k9o_eq k9e_247_787 (k9o_call e1 ?_)
  simp only [k9_ps_s]
  refine k9o_eq k9e_247_788 ?_
  rw [nI_1]
  refine k9o_T (k9_in_t (by omega) hS) ?_
  rw [n_cl (by omega)]
  refine k9o_eq k9e_247_795 (k9o_call e2 ?_)
  simp only [k9_ps_s]
  refine k9o_eq k9e_247_796 ?_
  refine k9o_eq k9e_247_1051 ?_
  rw [n_p6]
  exact g I2 J2 hI2
theorem k9_it38 (hS : S.2 ≤ 100000) (h6 : i + 6 ≤ S.2) (hI : k9_Inv I J) (g : ∀ I' J', k9_Inv I' J' → k9_ok (k9_R S (d + 101) 247 10 [some (k9_r 90 0), some (k9_r 1 0), some (k9_r 12 0), some (k9_i (nI (i + 6)))] [] I' J') Q) : k9_ok (k9_R S (d + 101) 247 798 [some (k9_r 90 0), some (k9_r 1 0), some (k9_r 12 0), some (k9_i (nI i))] [] I J) Q := by
  obtain ⟨v, I1, J1, I2, J2, e1, e2, hI2⟩ := k9_P_d (show d + 90 + 10 = d + 100 by omega) (t_keep (S := S) (d := d + 90) (x1 := S.1 (i + 1)) (x2 := S.1 (i + 2)) hI)
  refine k9o_eq k9e_247_798 ?_
  rw [nI_1]
  refine k9o_T (k9_in_t (by omega) hS) ?_
  rw [n_cl (by omega)]
  refine k9o_eq k9e_247_804 ?_
  rw [n_p2]
  refine k9o_T (k9_in_t (by omega) hS) ?_
  rw [n_cl (by omega)]
  refine k9o_eq k9e_247_809 (k9o_call e1 ?_)
  simp only [k9_ps_s]
  refine k9o_eq k9e_247_810 ?_
  rw [nI_1]
  refine k9o_T (k9_in_t (by omega) hS) ?_
  rw [n_cl (by omega)]
  refine k9o_eq k9e_247_817 ?_
  rw [n_p2]
  refine k9o_T (k9_in_t (by omega) hS) ?_
  rw [n_cl (by omega)]
  refine k9o_eq k9e_247_822 (k9o_call e2 ?_)
  simp only [k9_ps_s]
  refine k9o_eq k9e_247_823 ?_
  refine k9o_eq k9e_247_1051 ?_
  rw [n_p6]
  exact g I2 J2 hI2
theorem k9_it39 (hS : S.2 ≤ 100000) (h6 : i + 6 ≤ S.2) (hI : k9_Inv I J) (g : ∀ I' J', k9_Inv I' J' → k9_ok (k9_R S (d + 101) 247 10 [some (k9_r 90 0), some (k9_r 1 0), some (k9_r 12 0), some (k9_i (nI (i + 6)))] [] I' J') Q) : k9_ok (k9_R S (d + 101) 247 825 [some (k9_r 90 0), some (k9_r 1 0), some (k9_r 12 0), some (k9_i (nI i))] [] I J) Q := by
  obtain ⟨v, I1, J1, I2, J2, e1, e2, hI2⟩ := k9_P_d (show d + 90 + 10 = d + 100 by omega) (t_row (S := S) (d := d + 90) (x1 := S.1 (i + 1)) (x2 := S.1 (i + 2)) (x3 := S.1 (i + 3)) hI)
  refine k9o_eq k9e_247_825 ?_
  rw [nI_1]
  refine k9o_T (k9_in_t (by omega) hS) ?_
  rw [n_cl (by omega)]
  refine k9o_eq k9e_247_831 ?_
  rw [n_p2]
  refine k9o_T (k9_in_t (by omega) hS) ?_
  rw [n_cl (by omega)]
  refine k9o_eq k9e_247_836 ?_
  rw [n_p3]
  refine k9o_T (k9_in_t (by omega) hS) ?_
  rw [n_cl (by omega)]
  refine k9o_eq k9e_247_841 (k9o_call e1 ?_)
  simp only [k9_ps_s]
  refine k9o_eq k9e_247_842 ?_
  rw [nI_1]
  refine k9o_T (k9_in_t (by omega) hS) ?_
  rw [n_cl (by omega)]
  refine k9o_eq k9e_247_849 ?_
  rw [n_p2]
  refine k9o_T (k9_in_t (by omega) hS) ?_
  rw [n_cl (by omega)]
  refine k9o_eq k9e_247_854 ?_
  rw [n_p3]
  refine k9o_T (k9_in_t (by omega) hS) ?_
  rw [n_cl (by omega)]
  refine k9o_eq k9e_247_859 (k9o_call e2 ?_)
  simp only [k9_ps_s]
  refine k9o_eq k9e_247_860 ?_
  refine k9o_eq k9e_247_1051 ?_
  rw [n_p6]
  exact g I2 J2 hI2
theorem k9_it40 (hS : S.2 ≤ 100000) (h6 : i + 6 ≤ S.2) (hI : k9_Inv I J) (g : ∀ I' J', k9_Inv I' J' → k9_ok (k9_R S (d + 101) 247 10 [some (k9_r 90 0), some (k9_r 1 0), some (k9_r 12 0), some (k9_i (nI (i + 6)))] [] I' J') Q) : k9_ok (k9_R S (d + 101) 247 862 [some (k9_r 90 0), some (k9_r 1 0), some (k9_r 12 0), some (k9_i (nI i))] [] I J) Q := by
  obtain ⟨v, I1, J1, I2, J2, e1, e2, hI2⟩ := k9_P_d (show d + 90 + 10 = d + 100 by omega) (t_put (S := S) (d := d + 90) (x1 := S.1 (i + 1)) (x2 := S.1 (i + 2)) (v := (Int32.toInt64 (S.1 (i + 3)) <<< (Int32.toInt64 32 &&& 63)) ||| (Int32.toInt64 (S.1 (i + 4)) &&& 4294967295)) hI)
  refine k9o_eq k9e_247_862 ?_
  rw [nI_1]
  refine k9o_T (k9_in_t (by omega) hS) ?_
  rw [n_cl (by omega)]
  refine k9o_eq k9e_247_868 ?_
  rw [n_p2]
  refine k9o_T (k9_in_t (by omega) hS) ?_
  rw [n_cl (by omega)]
  refine k9o_eq k9e_247_873 ?_
  rw [n_p3]
  refine k9o_T (k9_in_t (by omega) hS) ?_
  rw [n_cl (by omega)]
  refine k9o_eq k9e_247_878 ?_
  rw [n_p4]
  refine k9o_T (k9_in_t (by omega) hS) ?_
  rw [n_cl (by omega)]
  refine k9o_eq k9e_247_886 (k9o_call e1 ?_)
  simp only [k9_ps_s]
  refine k9o_eq k9e_247_891 ?_
  rw [nI_1]
  refine k9o_T (k9_in_t (by omega) hS) ?_
  rw [n_cl (by omega)]
  refine k9o_eq k9e_247_898 ?_
  rw [n_p2]
  refine k9o_T (k9_in_t (by omega) hS) ?_
  rw [n_cl (by omega)]
  refine k9o_eq k9e_247_903 ?_
  rw [n_p3]
  refine k9o_T (k9_in_t (by omega) hS) ?_
  rw [n_cl (by omega)]
  refine k9o_eq k9e_247_908 ?_
  rw [n_p4]
  refine k9o_T (k9_in_t (by omega) hS) ?_
  rw [n_cl (by omega)]
  refine k9o_eq k9e_247_916 (k9o_call e2 ?_)
  simp only [k9_ps_s]
  refine k9o_eq k9e_247_921 ?_
  refine k9o_eq k9e_247_1051 ?_
  rw [n_p6]
  exact g I2 J2 hI2
theorem k9_it41 (hS : S.2 ≤ 100000) (h6 : i + 6 ≤ S.2) (hI : k9_Inv I J) (g : ∀ I' J', k9_Inv I' J' → k9_ok (k9_R S (d + 101) 247 10 [some (k9_r 90 0), some (k9_r 1 0), some (k9_r 12 0), some (k9_i (nI (i + 6)))] [] I' J') Q) : k9_ok (k9_R S (d + 101) 247 923 [some (k9_r 90 0), some (k9_r 1 0), some (k9_r 12 0), some (k9_i (nI i))] [] I J) Q := by
  obtain ⟨v, I1, J1, I2, J2, e1, e2, hI2⟩ := k9_PJ_d (show d + 90 + 10 = d + 100 by omega) (t_element (S := S) (d := d + 90) (x1 := S.1 (i + 1)) (x2 := S.1 (i + 2)) hI)
  refine k9o_eq k9e_247_923 ?_
  rw [nI_1]
  refine k9o_T (k9_in_t (by omega) hS) ?_
  rw [n_cl (by omega)]
  refine k9o_eq k9e_247_929 ?_
  rw [n_p2]
  refine k9o_T (k9_in_t (by omega) hS) ?_
  rw [n_cl (by omega)]
  refine k9o_eq k9e_247_934 (k9o_call e1 ?_)
  simp only [k9_ps_s]
  refine k9o_eq k9e_247_935 ?_
  rw [nI_1]
  refine k9o_T (k9_in_t (by omega) hS) ?_
  rw [n_cl (by omega)]
  refine k9o_eq k9e_247_942 ?_
  rw [n_p2]
  refine k9o_T (k9_in_t (by omega) hS) ?_
  rw [n_cl (by omega)]
  refine k9o_eq k9e_247_947 (k9o_call e2 ?_)
  simp only [k9_ps_s]
  refine k9o_eq k9e_247_948 ?_
  refine k9o_eq k9e_247_1051 ?_
  rw [n_p6]
  exact g I2 J2 hI2
theorem k9_it42 (hS : S.2 ≤ 100000) (h6 : i + 6 ≤ S.2) (hI : k9_Inv I J) (g : ∀ I' J', k9_Inv I' J' → k9_ok (k9_R S (d + 101) 247 10 [some (k9_r 90 0), some (k9_r 1 0), some (k9_r 12 0), some (k9_i (nI (i + 6)))] [] I' J') Q) : k9_ok (k9_R S (d + 101) 247 950 [some (k9_r 90 0), some (k9_r 1 0), some (k9_r 12 0), some (k9_i (nI i))] [] I J) Q := by
  obtain ⟨v, I1, J1, I2, J2, e1, e2, hI2⟩ := k9_P_d (show d + 90 + 10 = d + 100 by omega) (t_shift (S := S) (d := d + 90) (x1 := S.1 (i + 1)) (x2 := S.1 (i + 2)) (x3 := S.1 (i + 3)) (x4 := S.1 (i + 4)) (x5 := S.1 (i + 5)) hI)
  refine k9o_eq k9e_247_950 ?_
  rw [nI_1]
  refine k9o_T (k9_in_t (by omega) hS) ?_
  rw [n_cl (by omega)]
  refine k9o_eq k9e_247_956 ?_
  rw [n_p2]
  refine k9o_T (k9_in_t (by omega) hS) ?_
  rw [n_cl (by omega)]
  refine k9o_eq k9e_247_961 ?_
  rw [n_p3]
  refine k9o_T (k9_in_t (by omega) hS) ?_
  rw [n_cl (by omega)]
  refine k9o_eq k9e_247_966 ?_
  rw [n_p4]
  refine k9o_T (k9_in_t (by omega) hS) ?_
  rw [n_cl (by omega)]
  refine k9o_eq k9e_247_971 ?_
  rw [n_p5]
  refine k9o_T (k9_in_t (by omega) hS) ?_
  rw [n_cl (by omega)]
  refine k9o_eq k9e_247_976 (k9o_call e1 ?_)
  simp only [k9_ps_s]
  refine k9o_eq k9e_247_977 ?_
  rw [nI_1]
  refine k9o_T (k9_in_t (by omega) hS) ?_
  rw [n_cl (by omega)]
  refine k9o_eq k9e_247_984 ?_
  rw [n_p2]
  refine k9o_T (k9_in_t (by omega) hS) ?_
  rw [n_cl (by omega)]
  refine k9o_eq k9e_247_989 ?_
  rw [n_p3]
  refine k9o_T (k9_in_t (by omega) hS) ?_
  rw [n_cl (by omega)]
  refine k9o_eq k9e_247_994 ?_
  rw [n_p4]
  refine k9o_T (k9_in_t (by omega) hS) ?_
  rw [n_cl (by omega)]
  refine k9o_eq k9e_247_999 ?_
  rw [n_p5]
  refine k9o_T (k9_in_t (by omega) hS) ?_
  rw [n_cl (by omega)]
  refine k9o_eq k9e_247_1004 (k9o_call e2 ?_)
  simp only [k9_ps_s]
  refine k9o_eq k9e_247_1005 ?_
  refine k9o_eq k9e_247_1051 ?_
  rw [n_p6]
  exact g I2 J2 hI2
theorem k9_it43 (hS : S.2 ≤ 100000) (h6 : i + 6 ≤ S.2) (hI : k9_Inv I J) (g : ∀ I' J', k9_Inv I' J' → k9_ok (k9_R S (d + 101) 247 10 [some (k9_r 90 0), some (k9_r 1 0), some (k9_r 12 0), some (k9_i (nI (i + 6)))] [] I' J') Q) : k9_ok (k9_R S (d + 101) 247 1007 [some (k9_r 90 0), some (k9_r 1 0), some (k9_r 12 0), some (k9_i (nI i))] [] I J) Q := by
  obtain ⟨v, I1, J1, I2, J2, e1, e2, hI2⟩ := k9_P_d (show d + 90 + 10 = d + 100 by omega) (t_taken (S := S) (d := d + 90) (x1 := S.1 (i + 1)) (x2 := S.1 (i + 2)) hI)
  refine k9o_eq k9e_247_1007 ?_
  rw [nI_1]
  refine k9o_T (k9_in_t (by omega) hS) ?_
  rw [n_cl (by omega)]
  refine k9o_eq k9e_247_1013 ?_
  rw [n_p2]
  refine k9o_T (k9_in_t (by omega) hS) ?_
  rw [n_cl (by omega)]
  refine k9o_eq k9e_247_1018 (k9o_call e1 ?_)
  simp only [k9_ps_s]
  refine k9o_eq k9e_247_1019 ?_
  rw [nI_1]
  refine k9o_T (k9_in_t (by omega) hS) ?_
  rw [n_cl (by omega)]
  refine k9o_eq k9e_247_1026 ?_
  rw [n_p2]
  refine k9o_T (k9_in_t (by omega) hS) ?_
  rw [n_cl (by omega)]
  refine k9o_eq k9e_247_1031 (k9o_call e2 ?_)
  simp only [k9_ps_s]
  refine k9o_eq k9e_247_1032 ?_
  refine k9o_eq k9e_247_1051 ?_
  rw [n_p6]
  exact g I2 J2 hI2
theorem k9_it44 (hS : S.2 ≤ 100000) (h6 : i + 6 ≤ S.2) (hI : k9_Inv I J) (g : ∀ I' J', k9_Inv I' J' → k9_ok (k9_R S (d + 101) 247 10 [some (k9_r 90 0), some (k9_r 1 0), some (k9_r 12 0), some (k9_i (nI (i + 6)))] [] I' J') Q) : k9_ok (k9_R S (d + 101) 247 1034 [some (k9_r 90 0), some (k9_r 1 0), some (k9_r 12 0), some (k9_i (nI i))] [] I J) Q := by
  obtain ⟨v, I1, J1, I2, J2, e1, e2, hI2⟩ := k9_P_d (show d + 90 + 10 = d + 100 by omega) (t_count (S := S) (d := d + 90) (x1 := S.1 (i + 1)) hI)
  refine k9o_eq k9e_247_1034 ?_
  rw [nI_1]
  refine k9o_T (k9_in_t (by omega) hS) ?_
  rw [n_cl (by omega)]
  refine k9o_eq k9e_247_1040 (k9o_call e1 ?_)
  simp only [k9_ps_s]
  refine k9o_eq k9e_247_1041 ?_
  rw [nI_1]
  refine k9o_T (k9_in_t (by omega) hS) ?_
  rw [n_cl (by omega)]
  refine k9o_eq k9e_247_1047 (k9o_call e2 ?_)
  simp only [k9_ps_s]
  refine k9o_eq k9e_247_1048 (k9o_T rfl ?_)
  refine k9o_eq k9e_247_1051 ?_
  rw [n_p6]
  exact g I2 J2 hI2
theorem k9_ofN (hS : S.2 ≤ 100000) : (Int32.ofNat S.2 - 6).toInt = (S.2 : Int) - 6 := pk_sub_toInt (a := S.2) (b := 6) (by omega) (by omega)
set_option maxRecDepth 100000 in
theorem k9_it (hS : S.2 ≤ 100000) (h6 : i + 6 ≤ S.2) (hI : k9_Inv I J) (g : ∀ I' J', k9_Inv I' J' → k9_ok (k9_R S (d + 101) 247 10 [some (k9_r 90 0), some (k9_r 1 0), some (k9_r 12 0), some (k9_i (nI (i + 6)))] [] I' J') Q) : k9_ok (k9_R S (d + 101) 247 10 [some (k9_r 90 0), some (k9_r 1 0), some (k9_r 12 0), some (k9_i (nI i))] [] I J) Q := by
  refine k9o_eq k9e_247_10 (k9o_F (by rw [k9_ofN hS, n_toInt (by omega)]; omega) (k9o_eq k9e_247_16 (k9o_T (k9_in_t (by omega) hS) ?_)))
  rw [n_cl (by omega)]
  refine k9o_eq k9e_247_19 ?_
  refine k9o_if (fun _ => k9_it0 hS h6 hI g) (fun _ => ?_)
  refine k9o_if (fun _ => k9_it1 hS h6 hI g) (fun _ => ?_)
  refine k9o_if (fun _ => k9_it2 hS h6 hI g) (fun _ => ?_)
  refine k9o_if (fun _ => k9_it3 hS h6 hI g) (fun _ => ?_)
  refine k9o_if (fun _ => k9_it4 hS h6 hI g) (fun _ => ?_)
  refine k9o_if (fun _ => k9_it5 hS h6 hI g) (fun _ => ?_)
  refine k9o_if (fun _ => k9_it6 hS h6 hI g) (fun _ => ?_)
  refine k9o_if (fun _ => k9_it7 hS h6 hI g) (fun _ => ?_)
  refine k9o_if (fun _ => k9_it8 hS h6 hI g) (fun _ => ?_)
  refine k9o_if (fun _ => k9_it9 hS h6 hI g) (fun _ => ?_)
  refine k9o_if (fun _ => k9_it10 hS h6 hI g) (fun _ => ?_)
  refine k9o_if (fun _ => k9_it11 hS h6 hI g) (fun _ => ?_)
  refine k9o_if (fun _ => k9_it12 hS h6 hI g) (fun _ => ?_)
  refine k9o_if (fun _ => k9_it13 hS h6 hI g) (fun _ => ?_)
  refine k9o_if (fun _ => k9_it14 hS h6 hI g) (fun _ => ?_)
  refine k9o_if (fun _ => k9_it15 hS h6 hI g) (fun _ => ?_)
  refine k9o_if (fun _ => k9_it16 hS h6 hI g) (fun _ => ?_)
  refine k9o_if (fun _ => k9_it17 hS h6 hI g) (fun _ => ?_)
  refine k9o_if (fun _ => k9_it18 hS h6 hI g) (fun _ => ?_)
  refine k9o_if (fun _ => k9_it19 hS h6 hI g) (fun _ => ?_)
  refine k9o_if (fun _ => k9_it20 hS h6 hI g) (fun _ => ?_)
  refine k9o_if (fun _ => k9_it21 hS h6 hI g) (fun _ => ?_)
  refine k9o_if (fun _ => k9_it22 hS h6 hI g) (fun _ => ?_)
  refine k9o_if (fun _ => k9_it23 hS h6 hI g) (fun _ => ?_)
  refine k9o_if (fun _ => k9_it24 hS h6 hI g) (fun _ => ?_)
  refine k9o_if (fun _ => k9_it25 hS h6 hI g) (fun _ => ?_)
  refine k9o_if (fun _ => k9_it26 hS h6 hI g) (fun _ => ?_)
  refine k9o_if (fun _ => k9_it27 hS h6 hI g) (fun _ => ?_)
  refine k9o_if (fun _ => k9_it28 hS h6 hI g) (fun _ => ?_)
  refine k9o_if (fun _ => k9_it29 hS h6 hI g) (fun _ => ?_)
  refine k9o_if (fun _ => k9_it30 hS h6 hI g) (fun _ => ?_)
  refine k9o_if (fun _ => k9_it31 hS h6 hI g) (fun _ => ?_)
  refine k9o_if (fun _ => k9_it32 hS h6 hI g) (fun _ => ?_)
  refine k9o_if (fun _ => k9_it33 hS h6 hI g) (fun _ => ?_)
  refine k9o_if (fun _ => k9_it34 hS h6 hI g) (fun _ => ?_)
  refine k9o_if (fun _ => k9_it35 hS h6 hI g) (fun _ => ?_)
  refine k9o_if (fun _ => k9_it36 hS h6 hI g) (fun _ => ?_)
  refine k9o_if (fun _ => k9_it37 hS h6 hI g) (fun _ => ?_)
  refine k9o_if (fun _ => k9_it38 hS h6 hI g) (fun _ => ?_)
  refine k9o_if (fun _ => k9_it39 hS h6 hI g) (fun _ => ?_)
  refine k9o_if (fun _ => k9_it40 hS h6 hI g) (fun _ => ?_)
  refine k9o_if (fun _ => k9_it41 hS h6 hI g) (fun _ => ?_)
  refine k9o_if (fun _ => k9_it42 hS h6 hI g) (fun _ => ?_)
  refine k9o_if (fun _ => k9_it43 hS h6 hI g) (fun _ => ?_)
  refine k9o_if (fun _ => k9_it44 hS h6 hI g) (fun _ => ?_)
  refine k9o_eq k9e_247_1051 ?_
  rw [n_p6]
  exact g I J hI
theorem k9_out (hS : S.2 ≤ 100000) (hi : i ≤ 100010) (h6 : S.2 < i + 6) : k9_ok (k9_R S (d + 101) 247 10 [some (k9_r 90 0), some (k9_r 1 0), some (k9_r 12 0), some (k9_i (nI i))] [] I J) (fun q => ∃ I' J', q = (some (k9_i 1), I', J')) :=
  k9o_eq k9e_247_10 (k9o_T (by rw [k9_ofN hS, n_toInt (by omega)]; omega) (k9o_eq k9e_247_1053 (k9o_ret ⟨_, _, rfl⟩)))
theorem k9_law_run (S : k9_S) (hS : S.2 ≤ 3072) : ∃ I' J', k9_R S 1600 k9_law 8 [some (k9_r 90 0), some (k9_r 1 0), some (k9_r 12 0), none] [] k9_I0 k9_J0 = some (some (k9_i 1), I', J') := by
  have loop : ∀ (k i : Nat) (I : k9_I) (J : k9_J), S.2 < i + 6 * k + 6 → i ≤ S.2 + 6 → k9_Inv I J → k9_ok (k9_R S (1499 + 101) 247 10 [some (k9_r 90 0), some (k9_r 1 0), some (k9_r 12 0), some (k9_i (nI i))] [] I J) (fun q => ∃ I' J', q = (some (k9_i 1), I', J')) := by
    intro k
    induction k with
    | zero => exact fun i I J h1 h2 _ => k9_out (by omega) (by omega) (by omega)
    | succ k ih =>
      intro i I J h1 h2 hI
      by_cases h6 : i + 6 ≤ S.2
      · exact k9_it (by omega) h6 hI (fun I' J' hI' => ih (i + 6) I' J' (by omega) (by omega) hI')
      · exact k9_out (by omega) (by omega) (by omega)
  have key := loop S.2 0 k9_I0 k9_J0 (by omega) (by omega) k9_Inv_n
  obtain ⟨q, e, I', J', rfl⟩ := key
  refine ⟨I', J', ?_⟩
  show k9_R S (1499 + 101) 247 8 [some (k9_r 90 0), some (k9_r 1 0), some (k9_r 12 0), none] [] k9_I0 k9_J0 = _
  rw [k9e_247_8]
  exact e
end KLAW
