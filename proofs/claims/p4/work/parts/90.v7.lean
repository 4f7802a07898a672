/-! THE LAW'S TEXT: lines, the reference -/
section KV7
variable {S : k9_S} {d : Nat} {I I' : k9_I} {J J' : k9_J} {n a c f lv op v : Nat} {l : Nat → Nat} {ts : List Nat} {ls : List k9_ln}
def p_rt (ls : List k9_ln) : List Nat := (ls.map fun x => x.1 ++ x.2).flatten
theorem p_rt_a (ls : List k9_ln) (x : k9_ln) : p_rt (ls ++ [x]) = p_rt ls ++ (x.1 ++ x.2) := by
  unfold p_rt
  rw [List.map_append, List.flatten_append]
  simp
def k9_Lm (I : k9_I) (ls : List k9_ln) : Prop := I 12 0 17 = nI ls.length ∧ ∀ i, i < ls.length → I 50 0 i = nI (p_rt (ls.take i)).length ∧ I 51 0 i = nI ((p_rt (ls.take i)).length + (ls.getD i ([], [])).1.length) ∧ I 52 0 i = nI (p_rt (ls.take (i + 1))).length
theorem k9_Lm_a {x : k9_ln} (hL : k9_Lm I ls) (h17 : I' 12 0 17 = nI (ls.length + 1)) (h50 : I' 50 0 ls.length = nI (p_rt ls).length) (h51 : I' 51 0 ls.length = nI ((p_rt ls).length + x.1.length)) (h52 : I' 52 0 ls.length = nI (p_rt (ls ++ [x])).length) (hf : ∀ i, i < ls.length → I' 50 0 i = I 50 0 i ∧ I' 51 0 i = I 51 0 i ∧ I' 52 0 i = I 52 0 i) : k9_Lm I' (ls ++ [x]) := by
  refine ⟨by rw [List.length_append]; exact h17, fun i hi => ?_⟩
  rw [List.length_append, List.length_singleton] at hi
  by_cases e : i = ls.length
  · subst e
    rw [List.take_left, List.take_of_length_le (by simp), show (ls ++ [x]).getD ls.length ([], []) = x by simp [List.getD_eq_getElem?_getD]]
    exact ⟨h50, h51, h52⟩
  · obtain ⟨f1, f2, f3⟩ := hf i (by omega)
    obtain ⟨g1, g2, g3⟩ := hL.2 i (by omega)
    rw [List.take_append_of_le_length (by omega), List.take_append_of_le_length (by omega), show (ls ++ [x]).getD i ([], []) = ls.getD i ([], []) by simp [List.getD_eq_getElem?_getD, List.getElem?_append_left (show i < ls.length by omega)]]
    exact ⟨f1.trans g1, f2.trans g2, f3.trans g3⟩
def k9_Ftl (k _ p : Nat) : Bool := Nat.beq k 50 || Nat.beq k 51 || Nat.beq k 52 || Nat.beq k 53 || (Nat.beq k 12 && (Nat.beq p 14 || Nat.beq p 15 || Nat.beq p 16 || Nat.beq p 17))
theorem k9_Ftl_m (h : k9_fx k9_Ftm I I') : k9_fx k9_Ftl I I' := k9_fx_w h (fun k i p e => by
  unfold k9_Ftl at e
  unfold k9_Ftm
  cases h1 : Nat.beq k 53 <;> cases h2 : Nat.beq k 12 <;> cases h3 : Nat.beq p 14 <;> cases h4 : Nat.beq p 15 <;> cases h5 : Nat.beq p 16 <;> simp_all)
theorem k9_Tm_k {k p : Nat} {z : Int32} (hk : k = 50 ∨ k = 51 ∨ k = 52) (h : k9_Tm I n l a op ts) : k9_Tm (k9_u I k 0 p z) n l a op ts := by
  obtain ⟨h1, h2, h3, h4, h5, h6, h7, h8⟩ := h
  rcases hk with rfl | rfl | rfl
  all_goals exact ⟨h1, h2, by simp [k9_ur, h3], fun p hp => by simp [k9_ur, h4 p hp], by simp [k9_ur, h5], by simp [k9_ur, h6], fun i hi => by
    have := h7 i hi
    simpa [k9_ur] using this, by simp [k9_ur, h8]⟩
theorem k9_Tm_17 {z : Int32} (h : k9_Tm I n l a op ts) : k9_Tm (k9_u I 12 0 17 z) n l a op ts := by
  obtain ⟨h1, h2, h3, h4, h5, h6, h7, h8⟩ := h
  exact ⟨h1, h2, by simp [k9_ur, h3], fun p hp => by simp [k9_ur, h4 p hp], by simp [k9_ur, h5], by simp [k9_ur, h6], fun i hi => by
    have := h7 i hi
    simpa [k9_ur] using this, by simp [k9_ur, h8]⟩
def k9_sm (I I' : k9_I) (z : Nat) : Prop := ∀ i, i < z → I' 50 0 i = I 50 0 i ∧ I' 51 0 i = I 51 0 i ∧ I' 52 0 i = I 52 0 i
theorem k9_sm_x {I'' : k9_I} {z : Nat} (h : k9_sm I I' z) (x : k9_fx k9_Ftm I' I'') : k9_sm I I'' z := fun i hi => ⟨(x 50 0 i rfl).trans (h i hi).1, (x 51 0 i rfl).trans (h i hi).2.1, (x 52 0 i rfl).trans (h i hi).2.2⟩
theorem k9_sm_u {z k : Nat} {y : Int32} (h : k9_sm I I' z) : k9_sm I (k9_u I' k 0 z y) z := fun i hi => by
  obtain ⟨h1, h2, h3⟩ := h i hi
  refine ⟨?_, ?_, ?_⟩
  all_goals rw [k9_ur, if_neg (by omega)]
  · exact h1
  · exact h2
  · exact h3
theorem k9_sm_12 {z p : Nat} {y : Int32} (h : k9_sm I I' z) : k9_sm I (k9_u I' 12 0 p y) z := fun i hi => by
  obtain ⟨h1, h2, h3⟩ := h i hi
  refine ⟨?_, ?_, ?_⟩
  all_goals rw [k9_ur, if_neg (by omega)]
  · exact h1
  · exact h2
  · exact h3
theorem k9s_179e (hT : k9_Tm I n l a 0 ts) (ha : a ≤ n) (ht : ts.length ≤ a) : ∃ I', k9_R S (d + 45) 179 0 [some (k9_r 12 0)] [] I J = some (some (k9_i (nI (p_b (p_e0 n l a).1))), I', J) ∧ k9_Tm I' n l (p_e0 n l a).2.1 0 (ts ++ (p_e0 n l a).2.2) ∧ k9_fx k9_Ftm I I' := k9_M1_a S n l 42 d I J 5 0 a ts hT ha ht (by omega) (by omega) (by omega)
/-- a line, the reference -/
theorem k9s_180 (hT : k9_Tm I n l a 0 (p_rt ls)) (hL : k9_Lm I ls) (h60 : ls.length ≤ 60) (ha : a ≤ n) (ht : (p_rt ls).length ≤ a) : ∃ I' ts', k9_R S (d + 46) 180 0 [some (k9_r 12 0)] [] I J = some (some (k9_i (nI (p_b (p_lin n l a).1))), I', J) ∧ k9_Tm I' n l (p_lin n l a).2.1 0 ts' ∧ k9_fx k9_Ftl I I' ∧ ((p_lin n l a).1 = true → ts' = p_rt (ls ++ [(p_lin n l a).2.2]) ∧ k9_Lm I' (ls ++ [(p_lin n l a).2.2])) := by
  have hn := hT.1
  have h17 := hL.1
  have h16 := hT.2.2.2.2.2.1
  obtain ⟨I0, hI0⟩ : ∃ I0, I0 = k9_u I 50 0 ls.length (nI (p_rt ls).length) := ⟨_, rfl⟩
  have T0 : k9_Tm I0 n l a 0 (p_rt ls) := by rw [hI0]; exact k9_Tm_k (Or.inl rfl) hT
  have x0 : k9_fx k9_Ftl I I0 := by rw [hI0]; exact k9_fx_u (k9_fx_rf _ _) rfl
  have s0 : k9_sm I I0 ls.length := by rw [hI0]; exact k9_sm_u (fun i hi => ⟨rfl, rfl, rfl⟩)
  have b0 : I0 50 0 ls.length = nI (p_rt ls).length := by rw [hI0]; simp [k9_ur]
  have c0 : I0 12 0 17 = nI ls.length := by rw [hI0]; exact h17
  obtain ⟨I1, e1, T1, x1⟩ := k9s_179e (S := S) (d := d) (J := J) T0 ha ht
  obtain ⟨h1, h2, h3, h4⟩ := p_e0_k n l a ha
  have b1 : I1 50 0 ls.length = nI (p_rt ls).length := (x1 50 0 _ rfl).trans b0
  have c1 : I1 12 0 17 = nI ls.length := (x1 12 0 17 rfl).trans c0
  have go : ∀ {Q : k9_A → Prop}, k9_ok (k9_R S (d + 46) 180 9 [some (k9_r 12 0)] [k9_i (nI (p_b (p_e0 n l a).1))] I1 J) Q → k9_ok (k9_R S (d + 46) 180 0 [some (k9_r 12 0)] [] I J) Q := by
    intro Q g
    refine k9o_eq k9e_180_0 (k9o_T (by rw [h17, n_toInt (by omega)]; omega) ?_)
    rw [h17, n_cl (by omega), h16, ← hI0]
    refine k9o_eq k9e_180_7 (k9o_call e1 ?_)
    simp only [k9_ps_s]
    exact g
  unfold p_lin
  by_cases r1 : (p_e0 n l a).1 = true
  · rw [if_pos r1]
    rw [p_b_T r1] at go
    have h5 := h4 r1
    obtain ⟨I2, hI2⟩ : ∃ I2, I2 = k9_u I1 51 0 ls.length (nI (p_rt ls).length) := ⟨_, rfl⟩
    have T2 : k9_Tm I2 n l (p_e0 n l a).2.1 0 (p_rt ls ++ (p_e0 n l a).2.2) := by rw [hI2]; exact k9_Tm_k (Or.inr (Or.inl rfl)) T1
    have x2 : k9_fx k9_Ftl I I2 := by rw [hI2]; exact k9_fx_u (k9_fx_tr x0 (k9_Ftl_m x1)) rfl
    have s2 : k9_sm I I2 ls.length := by rw [hI2]; exact k9_sm_u (k9_sm_x s0 x1)
    have b2 : I2 50 0 ls.length = nI (p_rt ls).length := by rw [hI2]; exact b1
    have a2 : I2 51 0 ls.length = nI (p_rt ls).length := by rw [hI2]; simp [k9_ur]
    have c2 : I2 12 0 17 = nI ls.length := by rw [hI2]; exact c1
    have e63 := k9s_170 (S := S) (d := d + 44) (J := J) (c := 63) T2 (by omega) (by omega)
    have go2 : ∀ {Q : k9_A → Prop}, k9_ok (k9_R S (d + 46) 180 25 [some (k9_r 12 0)] [k9_i (nI (if p_lt n l (p_e0 n l a).2.1 = 63 then 1 else 0))] (if p_lt n l (p_e0 n l a).2.1 = 63 then k9_u I2 12 0 14 (nI ((p_e0 n l a).2.1 + 1)) else I2) J) Q → k9_ok (k9_R S (d + 46) 180 0 [some (k9_r 12 0)] [] I J) Q := by
      intro Q g
      refine go (k9o_eq k9e_180_9 (k9o_F (by decide) (k9o_eq k9e_180_12 (k9o_T (by rw [c1, n_toInt (by omega)]; omega) ?_))))
      rw [c1, n_cl (by omega), b1]
      refine k9o_eq k9e_180_21 (k9o_T (by rw [n_toInt (by omega)]; omega) ?_)
      rw [n_cl (by omega), ← hI2]
      refine k9o_eq k9e_180_22 (k9o_call e63 ?_)
      simp only [k9_ps_s]
      exact g
    have fin : ∀ (q b : List Nat) (p : Nat) (I3 : k9_I) (Q : k9_A → Prop), k9_Tm I3 n l p 0 (p_rt ls ++ (q ++ b)) → k9_fx k9_Ftl I I3 → k9_sm I I3 ls.length → I3 50 0 ls.length = nI (p_rt ls).length → I3 51 0 ls.length = nI ((p_rt ls).length + q.length) → I3 12 0 17 = nI ls.length → (∀ I4, k9_Tm I4 n l p 0 (p_rt (ls ++ [(q, b)])) → k9_fx k9_Ftl I I4 → k9_Lm I4 (ls ++ [(q, b)]) → Q (some (k9_i (nI 1)), I4, J)) → k9_ok (k9_R S (d + 46) 180 38 [some (k9_r 12 0)] [] I3 J) Q := by
      intro q b p I3 Q T3 x3 s3 b3 a3 c3 g
      obtain ⟨I4, hI4⟩ : ∃ I4, I4 = k9_u (k9_u I3 12 0 17 (nI (ls.length + 1))) 52 0 ls.length (nI (p_rt ls ++ (q ++ b)).length) := ⟨_, rfl⟩
      have hQ := g I4 (by rw [hI4, p_rt_a]; exact k9_Tm_k (Or.inr (Or.inr rfl)) (k9_Tm_17 T3)) (by rw [hI4]; exact k9_fx_u (k9_fx_u x3 rfl) rfl) (k9_Lm_a hL (by rw [hI4]; simp [k9_ur]) (by rw [hI4]; exact b3) (by rw [hI4]; exact a3) (by rw [hI4, p_rt_a]; simp [k9_ur]) (by
        have := k9_sm_u (k := 52) (y := nI (p_rt ls ++ (q ++ b)).length) (k9_sm_12 (p := 17) (y := nI (ls.length + 1)) s3)
        rw [← hI4] at this
        exact this))
      refine k9o_eq k9e_180_38 (k9o_T (by rw [c3, n_toInt (by omega)]; omega) ?_)
      rw [c3, n_cl (by omega), nI_1, show (k9_u I3 12 0 17 (nI (ls.length + 1))) 12 0 16 = I3 12 0 16 from rfl, T3.2.2.2.2.2.1, ← hI4]
      exact k9o_eq k9e_180_50 (k9o_ret hQ)
    by_cases r2 : p_lt n l (p_e0 n l a).2.1 = 63
    · rw [if_pos r2]
      rw [if_pos r2, if_pos r2] at go2
      have hlt := p_lt_n (n := n) (l := l) (a := (p_e0 n l a).2.1) (by omega)
      obtain ⟨I3, hI3⟩ : ∃ I3, I3 = k9_u (k9_u I2 12 0 14 (nI ((p_e0 n l a).2.1 + 1))) 51 0 ls.length (nI (p_rt ls ++ (p_e0 n l a).2.2).length) := ⟨_, rfl⟩
      have T3 : k9_Tm I3 n l ((p_e0 n l a).2.1 + 1) 0 (p_rt ls ++ (p_e0 n l a).2.2) := by rw [hI3]; exact k9_Tm_k (Or.inr (Or.inl rfl)) (k9_Tm_p T2 _)
      have x3 : k9_fx k9_Ftl I I3 := by rw [hI3]; exact k9_fx_u (k9_fx_u x2 rfl) rfl
      have s3 : k9_sm I I3 ls.length := by rw [hI3]; exact k9_sm_u (k9_sm_12 s2)
      have b3 : I3 50 0 ls.length = nI (p_rt ls).length := by rw [hI3]; exact b2
      have a3 : I3 51 0 ls.length = nI ((p_rt ls).length + (p_e0 n l a).2.2.length) := by rw [hI3]; simp [k9_ur]
      have c3 : I3 12 0 17 = nI ls.length := by rw [hI3]; exact c2
      obtain ⟨I4, e4, T4, x4⟩ := k9s_179e (S := S) (d := d) (J := J) T3 hlt (by rw [List.length_append]; omega)
      obtain ⟨g1, g2, g3, g4⟩ := p_e0_k n l ((p_e0 n l a).2.1 + 1) hlt
      have go3 : ∀ {Q : k9_A → Prop}, k9_ok (k9_R S (d + 46) 180 35 [some (k9_r 12 0)] [k9_i (nI (p_b (p_e0 n l ((p_e0 n l a).2.1 + 1)).1))] I4 J) Q → k9_ok (k9_R S (d + 46) 180 0 [some (k9_r 12 0)] [] I J) Q := by
        intro Q g
        refine go2 (k9o_eq k9e_180_25 (k9o_F (by decide) (k9o_eq k9e_180_26 (k9o_T (by rw [show (k9_u I2 12 0 14 (nI ((p_e0 n l a).2.1 + 1))) 12 0 17 = I2 12 0 17 from rfl, c2, n_toInt (by omega)]; omega) ?_))))
        rw [show (k9_u I2 12 0 14 (nI ((p_e0 n l a).2.1 + 1))) 12 0 17 = I2 12 0 17 from rfl, c2, n_cl (by omega), show (k9_u I2 12 0 14 (nI ((p_e0 n l a).2.1 + 1))) 12 0 16 = I2 12 0 16 from rfl, T2.2.2.2.2.2.1, ← hI3]
        refine k9o_eq k9e_180_33 (k9o_call e4 ?_)
        simp only [k9_ps_s]
        exact g
      by_cases r3 : (p_e0 n l ((p_e0 n l a).2.1 + 1)).1 = true
      · rw [p_b_T r3] at go3 ⊢
        have F := fin (p_e0 n l a).2.2 (p_e0 n l ((p_e0 n l a).2.1 + 1)).2.2 (p_e0 n l ((p_e0 n l a).2.1 + 1)).2.1 I4 (fun q => ∃ I5, q = (some (k9_i (nI 1)), I5, J) ∧ k9_Tm I5 n l (p_e0 n l ((p_e0 n l a).2.1 + 1)).2.1 0 (p_rt (ls ++ [((p_e0 n l a).2.2, (p_e0 n l ((p_e0 n l a).2.1 + 1)).2.2)])) ∧ k9_fx k9_Ftl I I5 ∧ k9_Lm I5 (ls ++ [((p_e0 n l a).2.2, (p_e0 n l ((p_e0 n l a).2.1 + 1)).2.2)])) (by rw [← List.append_assoc]; exact T4) (k9_fx_tr x3 (k9_Ftl_m x4)) (k9_sm_x s3 x4) ((x4 50 0 _ rfl).trans b3) ((x4 51 0 _ rfl).trans a3) ((x4 12 0 17 rfl).trans c3) (fun I5 T5 x5 L5 => ⟨I5, rfl, T5, x5, L5⟩)
        obtain ⟨q, eq, I5, rfl, T5, x5, L5⟩ := go3 (k9o_eq k9e_180_35 (k9o_F (by decide) F))
        exact ⟨I5, _, eq, T5, x5, fun _ => ⟨rfl, L5⟩⟩
      · rw [p_b_F r3] at go3 ⊢
        exact ⟨I4, _, k9o_of (go3 (k9o_eq k9e_180_35 (k9o_T (by decide) (k9o_eq k9e_180_36 (k9o_ret rfl))))), T4, k9_fx_tr x3 (k9_Ftl_m x4), fun z => absurd z r3⟩
    · rw [if_neg r2]
      rw [if_neg r2, if_neg r2] at go2
      have F := fin [] (p_e0 n l a).2.2 (p_e0 n l a).2.1 I2 (fun q => ∃ I5, q = (some (k9_i (nI 1)), I5, J) ∧ k9_Tm I5 n l (p_e0 n l a).2.1 0 (p_rt (ls ++ [([], (p_e0 n l a).2.2)])) ∧ k9_fx k9_Ftl I I5 ∧ k9_Lm I5 (ls ++ [([], (p_e0 n l a).2.2)])) T2 x2 s2 b2 a2 c2 (fun I5 T5 x5 L5 => ⟨I5, rfl, T5, x5, L5⟩)
      obtain ⟨q, eq, I5, rfl, T5, x5, L5⟩ := go2 (k9o_eq k9e_180_25 (k9o_T (by decide) F))
      exact ⟨I5, _, eq, T5, x5, fun _ => ⟨rfl, L5⟩⟩
  · rw [if_neg r1]
    rw [p_b_F r1] at go
    exact ⟨I1, _, k9o_of (go (k9o_eq k9e_180_9 (k9o_T (by decide) (k9o_eq k9e_180_10 (k9o_ret rfl))))), T1, k9_fx_tr x0 (k9_Ftl_m x1), fun z => by cases z⟩
/-- the text, the reference: up to the answer -/
theorem k9s_181l (hT : k9_Tm I n l 0 0 []) (hL : k9_Lm I []) : ∃ I' ts' x1, (∀ Q, k9_ok (k9_R S (d + 47) 181 35 [some (k9_r 12 0), some (k9_i x1), none, none] [k9_i (nI (p_b (p_tx n l).1))] I' J) Q → k9_ok ((k9_R S (d + 46) 180 0 [some (k9_r 12 0)] [] I J).bind fun q => k9_R S (d + 47) 181 14 [some (k9_r 12 0), none, none, none] (k9_ps q.1 []) q.2.1 q.2.2) Q) ∧ k9_Tm I' n l (p_tx n l).2.1 0 ts' ∧ k9_fx k9_Ftl I I' ∧ ((p_tx n l).1 = true → ts' = p_rt (p_tx n l).2.2 ∧ k9_Lm I' (p_tx n l).2.2 ∧ (p_tx n l).2.2.length ≤ 60 ∧ ts'.length ≤ 120) := by
  have hn := hT.1
  have bad : ∀ (I1 : k9_I) (Q : k9_A → Prop), k9_ok (k9_R S (d + 47) 181 35 [some (k9_r 12 0), some (k9_i (nI 0)), none, none] [k9_i (nI 0)] I1 J) Q → k9_ok (k9_R S (d + 47) 181 15 [some (k9_r 12 0), some (k9_i (nI 0)), none, none] [] I1 J) Q := fun I1 Q g => k9o_eq k9e_181_15 (k9o_T (by decide) (k9o_eq k9e_181_25 (k9o_T (by decide) (k9o_eq k9e_181_34 g))))
  have key : ∀ k b ls I1, n ≤ b + k → k9_Tm I1 n l b 0 (p_rt ls) → k9_Lm I1 ls → b ≤ n → (p_rt ls).length ≤ b → 2 * ls.length ≤ b + 1 → ∃ I' ts' x1, (∀ Q, k9_ok (k9_R S (d + 47) 181 35 [some (k9_r 12 0), some (k9_i x1), none, none] [k9_i (nI (p_b (p_tl n l k b).1))] I' J) Q → k9_ok (k9_R S (d + 47) 181 15 [some (k9_r 12 0), some (k9_i (nI 1)), none, none] [] I1 J) Q) ∧ k9_Tm I' n l (p_tl n l k b).2.1 0 ts' ∧ k9_fx k9_Ftl I1 I' ∧ ((p_tl n l k b).1 = true → ts' = p_rt (ls ++ (p_tl n l k b).2.2) ∧ k9_Lm I' (ls ++ (p_tl n l k b).2.2) ∧ (ls ++ (p_tl n l k b).2.2).length ≤ 60 ∧ ts'.length ≤ 120) := by
    intro k
    have done : ∀ b ls I1, b = n → k9_Tm I1 n l b 0 (p_rt ls) → k9_Lm I1 ls → (p_rt ls).length ≤ b → 2 * ls.length ≤ b + 1 → ∃ I' ts' x1, (∀ Q, k9_ok (k9_R S (d + 47) 181 35 [some (k9_r 12 0), some (k9_i x1), none, none] [k9_i (nI (p_b true))] I' J) Q → k9_ok (k9_R S (d + 47) 181 15 [some (k9_r 12 0), some (k9_i (nI 1)), none, none] [] I1 J) Q) ∧ k9_Tm I' n l b 0 ts' ∧ k9_fx k9_Ftl I1 I' ∧ (true = true → ts' = p_rt (ls ++ []) ∧ k9_Lm I' (ls ++ []) ∧ (ls ++ ([] : List k9_ln)).length ≤ 60 ∧ ts'.length ≤ 120) := by
      intro b ls I1 hb T1 L1 ht h2
      have e59 := k9s_170 (S := S) (d := d + 45) (J := J) (c := 59) T1 (by omega) (by omega)
      have el : p_lt n l b = 999 := if_neg (by omega)
      rw [if_neg (by rw [el]; decide), if_neg (by rw [el]; decide)] at e59
      refine ⟨I1, _, nI 1, fun Q g => ?_, T1, k9_fx_rf _ _, fun _ => ⟨by rw [List.append_nil], by rw [List.append_nil]; exact L1, by rw [List.append_nil]; omega, by omega⟩⟩
      refine k9o_eq k9e_181_15 (k9o_F (by decide) (k9o_eq k9e_181_17 (k9o_call e59 ?_)))
      simp only [k9_ps_s]
      exact k9o_eq k9e_181_20 (k9o_T (by decide) (k9o_eq k9e_181_25 (k9o_F (by decide) (k9o_eq k9e_181_27 (k9o_T (by rw [T1.2.2.1, T1.2.2.2.2.1, hb]) (k9o_eq k9e_181_32 g))))))
    induction k with
    | zero =>
      intro b ls I1 hk T1 L1 hb ht h2
      exact done b ls I1 (by omega) T1 L1 ht h2
    | succ k ih =>
      intro b ls I1 hk T1 L1 hb ht h2
      rw [p_tl]
      by_cases c1 : b < n
      · rw [if_pos c1]
        have e59 := k9s_170 (S := S) (d := d + 45) (J := J) (c := 59) T1 (by omega) (by omega)
        by_cases c2 : p_lt n l b = 59
        · rw [if_pos c2]
          rw [if_pos c2, if_pos c2] at e59
          obtain ⟨g1, g2, g3⟩ := p_lin_k n l (b + 1) c1
          have L1' : k9_Lm (k9_u I1 12 0 14 (nI (b + 1))) ls := L1
          obtain ⟨I2, ts2, e2, T2, x2, h3⟩ := k9s_180 (S := S) (d := d) (J := J) (k9_Tm_p T1 (b + 1)) L1' (by omega) c1 (by omega)
          have x2' : k9_fx k9_Ftl I1 I2 := k9_fx_tr (k9_fx_u (k9_fx_rf _ _) rfl) x2
          have st : ∀ {Q : k9_A → Prop}, k9_ok (k9_R S (d + 47) 181 15 [some (k9_r 12 0), some (k9_i (nI (p_b (p_lin n l (b + 1)).1))), none, none] [] I2 J) Q → k9_ok (k9_R S (d + 47) 181 15 [some (k9_r 12 0), some (k9_i (nI 1)), none, none] [] I1 J) Q := by
            intro Q g
            refine k9o_eq k9e_181_15 (k9o_F (by decide) (k9o_eq k9e_181_17 (k9o_call e59 ?_)))
            simp only [k9_ps_s]
            refine k9o_eq k9e_181_20 (k9o_F (by decide) (k9o_eq k9e_181_21 (k9o_call e2 ?_)))
            simp only [k9_ps_s]
            exact k9o_eq k9e_181_23 g
          by_cases r : (p_lin n l (b + 1)).1 = true
          · rw [if_pos r]
            rw [p_b_T r] at st
            obtain ⟨g4, g5, g6⟩ := g3 r
            obtain ⟨t1, t2⟩ := h3 r
            rw [t1] at T2
            obtain ⟨I3, ts3, x1, e3, T3, x3, h4⟩ := ih (p_lin n l (b + 1)).2.1 (ls ++ [(p_lin n l (b + 1)).2.2]) I2 (by omega) T2 t2 g2 (by rw [p_rt_a, List.length_append, List.length_append]; omega) (by rw [List.length_append, List.length_singleton]; omega)
            rw [List.append_assoc, List.singleton_append] at h4
            exact ⟨I3, ts3, x1, fun Q g => st (e3 Q g), T3, k9_fx_tr x2' x3, h4⟩
          · rw [if_neg r]
            rw [p_b_F r] at st
            exact ⟨I2, ts2, nI 0, fun Q g => st (bad I2 Q g), T2, x2', fun z => by cases z⟩
        · rw [if_neg c2]
          rw [if_neg c2, if_neg c2] at e59
          refine ⟨I1, _, nI 1, fun Q g => ?_, T1, k9_fx_rf _ _, fun z => by cases z⟩
          refine k9o_eq k9e_181_15 (k9o_F (by decide) (k9o_eq k9e_181_17 (k9o_call e59 ?_)))
          simp only [k9_ps_s]
          exact k9o_eq k9e_181_20 (k9o_T (by decide) (k9o_eq k9e_181_25 (k9o_F (by decide) (k9o_eq k9e_181_27 (k9o_F (by rw [T1.2.2.1, T1.2.2.2.2.1, n_toInt (by omega), n_toInt (by omega)]; omega) (k9o_eq k9e_181_34 g))))))
      · rw [if_neg c1]
        exact done b ls I1 (by omega) T1 L1 ht h2
  obtain ⟨g1, g2, g3⟩ := p_lin_k n l 0 (Nat.zero_le _)
  obtain ⟨I1, ts1, e1, T1, x1, h1⟩ := k9s_180 (S := S) (d := d) (J := J) (ls := []) hT hL (by simp) (Nat.zero_le _) (by simp [p_rt])
  have st : ∀ {Q : k9_A → Prop}, k9_ok (k9_R S (d + 47) 181 15 [some (k9_r 12 0), some (k9_i (nI (p_b (p_lin n l 0).1))), none, none] [] I1 J) Q → k9_ok ((k9_R S (d + 46) 180 0 [some (k9_r 12 0)] [] I J).bind fun q => k9_R S (d + 47) 181 14 [some (k9_r 12 0), none, none, none] (k9_ps q.1 []) q.2.1 q.2.2) Q := by
    intro Q g
    refine k9o_call e1 ?_
    simp only [k9_ps_s]
    exact k9o_eq k9e_181_14 g
  unfold p_tx
  by_cases r : (p_lin n l 0).1 = true
  · rw [if_pos r]
    rw [p_b_T r] at st
    obtain ⟨g4, g5, g6⟩ := g3 r
    obtain ⟨t1, t2⟩ := h1 r
    rw [t1] at T1
    obtain ⟨I3, ts3, y1, e3, T3, x3, h4⟩ := key 119 (p_lin n l 0).2.1 _ I1 (by omega) T1 t2 g2 (by rw [p_rt_a, List.length_append, List.length_append]; simp [p_rt]; omega) (by simp; omega)
    exact ⟨I3, ts3, y1, fun Q g => st (e3 Q g), T3, k9_fx_tr x1 x3, h4⟩
  · rw [if_neg r]
    rw [p_b_F r] at st
    exact ⟨I1, ts1, nI 0, fun Q g => st (bad I1 Q g), T1, x1, fun z => by cases z⟩
end KV7
