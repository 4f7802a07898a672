/-! THE LAW: it is taken -/
section KV11
variable {S : k9_S} {d : Nat} {I I' : k9_I} {J J' : k9_J} {t z p c i n a m L : Nat} {l : Nat → Nat} {ts : List Nat} {ls : List k9_ln} {x1 x2 : Int32}
theorem p_tl_l (n : Nat) (l : Nat → Nat) (k : Nat) : ∀ a, a ≤ n → (p_tl n l k a).1 = true → ((p_tl n l k a).2.2.map p_ctk).flatten.length + a ≤ (p_tl n l k a).2.1 ∧ (p_tl n l k a).2.1 ≤ n := by
  induction k with
  | zero =>
    intro a h _
    exact ⟨by simp [p_tl], h⟩
  | succ k ih =>
    intro a h
    rw [p_tl]
    by_cases c1 : a < n
    · rw [if_pos c1]
      by_cases c2 : p_lt n l a = 59
      · rw [if_pos c2]
        by_cases r : (p_lin n l (a + 1)).1 = true
        · rw [if_pos r]
          intro z
          obtain ⟨g1, g2, g3⟩ := p_lin_k n l (a + 1) c1
          obtain ⟨g4, g5, g6⟩ := g3 r
          obtain ⟨h1, h2⟩ := ih (p_lin n l (a + 1)).2.1 g2 z
          refine ⟨?_, h2⟩
          show (((p_lin n l (a + 1)).2.2 :: (p_tl n l k (p_lin n l (a + 1)).2.1).2.2).map p_ctk).flatten.length + a ≤ (p_tl n l k (p_lin n l (a + 1)).2.1).2.1
          rw [List.map_cons, List.flatten_cons, List.length_append]
          omega
        · rw [if_neg r]
          intro z
          cases z
      · rw [if_neg c2]
        intro z
        cases z
    · rw [if_neg c1]
      intro _
      exact ⟨by simp, h⟩
theorem p_tx_l {n : Nat} {l : Nat → Nat} (h : (p_tx n l).1 = true) : ((p_tx n l).2.2.map p_ctk).flatten.length ≤ n + 1 := by
  unfold p_tx at h ⊢
  by_cases r : (p_lin n l 0).1 = true
  · rw [if_pos r] at h ⊢
    obtain ⟨g1, g2, g3⟩ := p_lin_k n l 0 (Nat.zero_le _)
    obtain ⟨g4, g5, g6⟩ := g3 r
    obtain ⟨h1, h2⟩ := p_tl_l n l 119 (p_lin n l 0).2.1 g2 h
    show (((p_lin n l 0).2.2 :: (p_tl n l 119 (p_lin n l 0).2.1).2.2).map p_ctk).flatten.length ≤ n + 1
    rw [List.map_cons, List.flatten_cons, List.length_append]
    omega
  · rw [if_neg r] at h
    cases h
theorem p_ctk_m {x : k9_ln} (h : p_okl x) : ∀ c, c ∈ p_ctk x → c < 20000 := by
  intro c hc
  unfold p_ctk at hc
  by_cases q : x.1 = []
  · rw [if_pos q] at hc
    rcases List.mem_append.mp hc with hc | hc
    · exact (p_xp_m h.2 c hc).2
    · rw [List.mem_singleton.mp hc]
      decide
  · rw [if_neg q] at hc
    rcases List.mem_append.mp hc with hc | hc
    · exact (p_xp_m (h.1.resolve_left q) c hc).2
    · rcases List.mem_cons.mp hc with rfl | hc
      · decide
      · rcases List.mem_append.mp hc with hc | hc
        · exact (p_xp_m h.2 c hc).2
        · rw [List.mem_singleton.mp hc]
          decide
def k9_Ft6 (k _ p : Nat) : Bool := Nat.beq k 28 || (Nat.beq k 6 && (Nat.beq p 0 || Nat.beq p 1 || Nat.beq p 3))
theorem k9s_35 (h1 : I 5 0 1 = nI m) (hm : m ≤ 121) (hi : i < m) : k9_R S d 35 0 [some (k9_r 5 0), some (k9_i (nI i))] [] I J = some (some (k9_i (I 27 0 i)), I, J) := by
  refine k9o_of (k9o_eq k9e_35_0 (k9o_F (by rw [n_toInt (by omega)]; omega) (k9o_eq k9e_35_2 (k9o_F (by rw [h1, n_toInt (by omega), n_toInt (by omega)]; omega) (k9o_eq k9e_35_6 (k9o_F (by rw [n_toInt (by omega)]; omega) (k9o_eq k9e_35_9 (k9o_T (by rw [n_toInt (by omega)]; omega) ?_))))))))
  rw [n_cl (by omega)]
  exact k9o_eq k9e_35_13 (k9o_eq k9e_35_15 (k9o_ret rfl))
theorem k9s_47 (h1 : I 5 0 1 = nI ts.length) (hm : ts.length ≤ 121) (hc : ∀ i, i < ts.length → I 27 0 i = nI (ts.getD i 0)) (hb : ∀ c, c ∈ ts → c < 20000) : ∃ I', k9_R S (d + 1) 47 0 [some (k9_r 6 0), some (k9_r 5 0), none] [] I J = some (none, I', J) ∧ k9_fx k9_Ft6 I I' ∧ I' 6 0 1 = 1 ∧ I' 6 0 3 = nI ts.length ∧ k9_Cd (I' 28 0) 0 ts ∧ (I' 6 0 0 = 0 ∨ I' 6 0 0 = 1) ∧ (I' 6 0 0 = 0 → 10108 ∉ ts) := by
  have key : ∀ k j I1, j + k = ts.length → k9_fx k9_Ft6 I I1 → I1 6 0 1 = 1 → I1 6 0 3 = nI ts.length → (∀ i, i < j → I1 28 0 i = nI (ts.getD i 0)) → ((I1 6 0 0 = 0 ∧ ∀ i, i < j → ts.getD i 0 ≠ 10108) ∨ I1 6 0 0 = 1) → ∃ I', k9_R S (d + 1) 47 14 [some (k9_r 6 0), some (k9_r 5 0), some (k9_i (nI j))] [] I1 J = some (none, I', J) ∧ k9_fx k9_Ft6 I I' ∧ I' 6 0 1 = 1 ∧ I' 6 0 3 = nI ts.length ∧ k9_Cd (I' 28 0) 0 ts ∧ (I' 6 0 0 = 0 ∨ I' 6 0 0 = 1) ∧ (I' 6 0 0 = 0 → 10108 ∉ ts) := by
    intro k
    induction k with
    | zero =>
      intro j I1 hj hx a1 a3 a28 a0
      obtain rfl : j = ts.length := by omega
      refine ⟨I1, k9o_of (k9o_eq k9e_47_14 (k9o_T (by rw [a3]; omega) (k9o_eq k9e_47_41 (k9o_ret rfl)))), hx, a1, a3, fun i hi => by rw [Nat.zero_add]; exact a28 i hi, ?_, fun z hm => ?_⟩
      · rcases a0 with a0 | a0
        · exact Or.inl a0.1
        · exact Or.inr a0
      · rcases a0 with a0 | a0
        · obtain ⟨i, hi, ei⟩ := List.getElem_of_mem hm
          exact a0.2 i hi (by rw [List.getD_eq_getElem?_getD, List.getElem?_eq_getElem hi]; exact ei)
        · rw [a0] at z
          exact absurd z (by decide)
    | succ k ih =>
      intro j I1 hj hx a1 a3 a28 a0
      have hjl : j < ts.length := by omega
      have e35 := k9s_35 (S := S) (d := d) (J := J) ((hx 5 0 1 rfl).trans h1) hm hjl
      rw [hx 27 0 j rfl, hc j hjl] at e35
      have hcb : ts.getD j 0 < 20000 := hb _ (by rw [List.getD_eq_getElem?_getD, List.getElem?_eq_getElem hjl]; exact List.getElem_mem hjl)
      obtain ⟨cj, hcj⟩ : ∃ cj, cj = ts.getD j 0 := ⟨_, rfl⟩
      rw [← hcj] at e35 hcb
      obtain ⟨I2, hI2⟩ : ∃ I2, I2 = k9_u I1 28 0 j (nI cj) := ⟨_, rfl⟩
      have x2 : k9_fx k9_Ft6 I I2 := by rw [hI2]; exact k9_fx_u hx rfl
      have b28 : ∀ i, i < j + 1 → I2 28 0 i = nI (ts.getD i 0) := by
        intro i hi
        rw [hI2]
        by_cases e : i = j
        · rw [e, ← hcj]
          simp [k9_ur]
        · have := a28 i (by omega)
          simpa [k9_ur, e] using this
      have b0 : I2 6 0 0 = I1 6 0 0 := by rw [hI2]; rfl
      have st : ∀ Q, k9_ok (k9_R S (d + 1) 47 25 [some (k9_r 6 0), some (k9_r 5 0), some (k9_i (nI j))] [] I2 J) Q → k9_ok (k9_R S (d + 1) 47 14 [some (k9_r 6 0), some (k9_r 5 0), some (k9_i (nI j))] [] I1 J) Q := by
        intro Q g
        refine k9o_eq k9e_47_14 (k9o_F (by rw [a3, n_toInt (by omega), n_toInt (by omega)]; omega) (k9o_eq k9e_47_18 (k9o_call e35 ?_)))
        simp only [k9_ps_s]
        refine k9o_eq k9e_47_24 (k9o_T (by rw [n_toInt (by omega)]; omega) ?_)
        rw [n_cl (by omega), ← hI2]
        exact g
      have nx : ∀ (v : Int32), (v = 0 ∧ (∀ i, i < j + 1 → ts.getD i 0 ≠ 10108)) ∨ v = 1 → ∃ I', k9_ok (k9_R S (d + 1) 47 38 [some (k9_r 6 0), some (k9_r 5 0), some (k9_i (nI j))] [k9_i v, k9_r 6 0] I2 J) (fun q => q = (none, I', J)) ∧ k9_fx k9_Ft6 I I' ∧ I' 6 0 1 = 1 ∧ I' 6 0 3 = nI ts.length ∧ k9_Cd (I' 28 0) 0 ts ∧ (I' 6 0 0 = 0 ∨ I' 6 0 0 = 1) ∧ (I' 6 0 0 = 0 → 10108 ∉ ts) := by
        intro v hv
        obtain ⟨I3, e3, r3⟩ := ih (j + 1) (k9_u I2 6 0 0 v) (by omega) (k9_fx_u x2 rfl) (by rw [hI2]; simp [k9_ur, a1]) (by rw [hI2]; simp [k9_ur, a3]) (fun i hi => by
          have := b28 i hi
          simpa [k9_ur] using this) (by
          rcases hv with ⟨rfl, hv⟩ | rfl
          · exact Or.inl ⟨by simp [k9_ur], hv⟩
          · exact Or.inr (by simp [k9_ur]))
        refine ⟨I3, k9o_eq k9e_47_38 (k9o_T ?_ (k9o_eq k9e_47_39 ?_)), r3⟩
        · rcases hv with ⟨rfl, -⟩ | rfl <;> decide
        · rw [nI_1]
          exact k9o_to e3 rfl
      rcases a0 with ⟨a0, an⟩ | a0
      · by_cases e : cj = 10108
        · obtain ⟨I3, e3, r3⟩ := nx 1 (Or.inr rfl)
          refine ⟨I3, k9o_of (st _ (k9o_eq k9e_47_25 (k9o_T (by rw [b0, a0]; decide) (k9o_eq k9e_47_29 (k9o_T (by rw [n_toInt (by omega)]; omega) ?_))))), r3⟩
          rw [n_cl (by omega), b28 j (by omega), ← hcj, e]
          exact k9o_eq k9e_47_33 (k9o_T (by decide) (k9o_eq k9e_47_35 e3))
        · obtain ⟨I3, e3, r3⟩ := nx 0 (Or.inl ⟨rfl, fun i hi => by
            by_cases ei : i = j
            · rw [ei, ← hcj]
              exact e
            · exact an i (by omega)⟩)
          refine ⟨I3, k9o_of (st _ (k9o_eq k9e_47_25 (k9o_T (by rw [b0, a0]; decide) (k9o_eq k9e_47_29 (k9o_T (by rw [n_toInt (by omega)]; omega) ?_))))), r3⟩
          rw [n_cl (by omega), b28 j (by omega), ← hcj]
          exact k9o_eq k9e_47_33 (k9o_F (by rw [n_toInt (by omega)]; omega) (k9o_eq k9e_47_37 e3))
      · obtain ⟨I3, e3, r3⟩ := nx 1 (Or.inr rfl)
        exact ⟨I3, k9o_of (st _ (k9o_eq k9e_47_25 (k9o_F (by rw [b0, a0]; decide) (k9o_eq k9e_47_35 e3)))), r3⟩
  rw [k9e_47_0]
  rw [show (k9_u (k9_u I 6 0 1 1) 6 0 0 0) 5 0 1 = I 5 0 1 from rfl, h1, show (if (121 : Int32) < nI ts.length then (121 : Int32) else nI ts.length) = nI (min ts.length 121) from n_min (a := ts.length) (b := 121) (by omega) (by omega), show min ts.length 121 = ts.length by omega]
  exact key ts.length 0 _ (by omega) (k9_fx_u (k9_fx_u (k9_fx_u (k9_fx_rf _ _) rfl) rfl) rfl) (by simp [k9_ur]) (by simp [k9_ur]) (fun i hi => by omega) (Or.inl ⟨by simp [k9_ur], fun i hi => by omega⟩)
/-- the reference takes its law -/
def k9_Ftk (k _ _ : Nat) : Bool := Nat.beq k 46 || Nat.beq k 47 || Nat.beq k 48 || Nat.beq k 49
theorem k9s_181c (h9 : I 12 0 9 = nI L) (hL : L ≤ 60) (h16 : I 12 0 16 = nI m) (hm : m ≤ 200) : ∃ I', k9_R S d 181 55 [some (k9_r 12 0), some (k9_i x1), some (k9_i x2), some (k9_i (nI 0))] [] I J = some (some (k9_i 1), I', J) ∧ k9_fx k9_Ftk I I' ∧ (∀ i, i < L → I' 46 0 i = I 50 0 i ∧ I' 47 0 i = I 51 0 i ∧ I' 48 0 i = I 52 0 i) ∧ ∀ i, i < m → I' 49 0 i = I 53 0 i := by
  have k2 : ∀ k j I1, j + k = m → k9_fx k9_Ftk I I1 → (∀ i, i < L → I1 46 0 i = I 50 0 i ∧ I1 47 0 i = I 51 0 i ∧ I1 48 0 i = I 52 0 i) → (∀ i, i < j → I1 49 0 i = I 53 0 i) → ∃ I', k9_R S d 181 87 [some (k9_r 12 0), some (k9_i x1), some (k9_i x2), some (k9_i (nI j))] [] I1 J = some (some (k9_i 1), I', J) ∧ k9_fx k9_Ftk I I' ∧ (∀ i, i < L → I' 46 0 i = I 50 0 i ∧ I' 47 0 i = I 51 0 i ∧ I' 48 0 i = I 52 0 i) ∧ ∀ i, i < m → I' 49 0 i = I 53 0 i := by
    intro k
    induction k with
    | zero =>
      intro j I1 hj hx h1 h2
      obtain rfl : j = m := by omega
      exact ⟨I1, k9o_of (k9o_eq k9e_181_87 (k9o_T (by rw [hx 12 0 16 rfl, h16]; omega) (k9o_eq k9e_181_101 (k9o_ret rfl)))), hx, h1, h2⟩
    | succ k ih =>
      intro j I1 hj hx h1 h2
      obtain ⟨I3, e3, r3⟩ := ih (j + 1) (k9_u I1 49 0 j (I 53 0 j)) (by omega) (k9_fx_u hx rfl) (fun i hi => by
        have := h1 i hi
        simpa [k9_ur] using this) (fun i hi => by
        by_cases e : i = j
        · rw [e]
          simp [k9_ur]
        · have := h2 i (by omega)
          simpa [k9_ur, e] using this)
      refine ⟨I3, k9o_of (k9o_eq k9e_181_87 (k9o_F (by rw [hx 12 0 16 rfl, h16, n_toInt (by omega), n_toInt (by omega)]; omega) (k9o_eq k9e_181_91 (k9o_T (by rw [n_toInt (by omega)]; omega) ?_)))), r3⟩
      rw [n_cl (by omega), hx 53 0 j rfl]
      refine k9o_eq k9e_181_98 (k9o_T (by rw [n_toInt (by omega)]; omega) ?_)
      rw [n_cl (by omega)]
      refine k9o_eq k9e_181_99 ?_
      rw [nI_1]
      exact k9o_to e3 rfl
  have k1 : ∀ k j I1, j + k = L → k9_fx k9_Ftk I I1 → (∀ i, i < j → I1 46 0 i = I 50 0 i ∧ I1 47 0 i = I 51 0 i ∧ I1 48 0 i = I 52 0 i) → ∃ I', k9_R S d 181 55 [some (k9_r 12 0), some (k9_i x1), some (k9_i x2), some (k9_i (nI j))] [] I1 J = some (some (k9_i 1), I', J) ∧ k9_fx k9_Ftk I I' ∧ (∀ i, i < L → I' 46 0 i = I 50 0 i ∧ I' 47 0 i = I 51 0 i ∧ I' 48 0 i = I 52 0 i) ∧ ∀ i, i < m → I' 49 0 i = I 53 0 i := by
    intro k
    induction k with
    | zero =>
      intro j I1 hj hx h1
      obtain rfl : j = L := by omega
      obtain ⟨I3, e3, r3⟩ := k2 m 0 I1 (by omega) hx h1 (fun i hi => by omega)
      exact ⟨I3, k9o_of (k9o_eq k9e_181_55 (k9o_T (by rw [hx 12 0 9 rfl, h9]; omega) (k9o_eq k9e_181_85 (k9o_to e3 rfl)))), r3⟩
    | succ k ih =>
      intro j I1 hj hx h1
      obtain ⟨I3, e3, r3⟩ := ih (j + 1) (k9_u (k9_u (k9_u I1 46 0 j (I 50 0 j)) 47 0 j (I 51 0 j)) 48 0 j (I 52 0 j)) (by omega) (k9_fx_u (k9_fx_u (k9_fx_u hx rfl) rfl) rfl) (fun i hi => by
        by_cases e : i = j
        · rw [e]
          simp [k9_ur]
        · have := h1 i (by omega)
          simpa [k9_ur, e] using this)
      refine ⟨I3, k9o_of (k9o_eq k9e_181_55 (k9o_F (by rw [hx 12 0 9 rfl, h9, n_toInt (by omega), n_toInt (by omega)]; omega) (k9o_eq k9e_181_59 (k9o_T (by rw [n_toInt (by omega)]; omega) ?_)))), r3⟩
      rw [n_cl (by omega), hx 50 0 j rfl]
      refine k9o_eq k9e_181_66 (k9o_T (by rw [n_toInt (by omega)]; omega) ?_)
      rw [n_cl (by omega)]
      refine k9o_eq k9e_181_67 (k9o_T (by rw [n_toInt (by omega)]; omega) ?_)
      rw [n_cl (by omega), show (k9_u I1 46 0 j (I 50 0 j)) 51 0 j = I1 51 0 j from rfl, hx 51 0 j rfl]
      refine k9o_eq k9e_181_74 (k9o_T (by rw [n_toInt (by omega)]; omega) ?_)
      rw [n_cl (by omega)]
      refine k9o_eq k9e_181_75 (k9o_T (by rw [n_toInt (by omega)]; omega) ?_)
      rw [n_cl (by omega), show (k9_u (k9_u I1 46 0 j (I 50 0 j)) 47 0 j (I 51 0 j)) 52 0 j = I1 52 0 j from rfl, hx 52 0 j rfl]
      refine k9o_eq k9e_181_82 (k9o_T (by rw [n_toInt (by omega)]; omega) ?_)
      rw [n_cl (by omega)]
      refine k9o_eq k9e_181_83 ?_
      rw [nI_1]
      exact k9o_to e3 rfl
  exact k1 L 0 I (by omega) (k9_fx_rf _ _) (fun i hi => by omega)
theorem k9_Xl (l : List Nat) {c : Nat} (h : c = 0 ∨ c ∈ l) : k9_Xs l c = true := by
  unfold k9_Xs
  rcases h with rfl | h
  · rfl
  · rw [Bool.or_eq_true, List.any_eq_true]
    exact Or.inr ⟨c, h, Nat.beq_refl c⟩
theorem k9_Ftc_X (k i p : Nat) (h : k9_Ftc k i p = true) : k9_Xs [] (v_cl k i p) = true := by
  simp only [k9_Ftc, Bool.or_eq_true, Bool.and_eq_true, Nat.beq_eq] at h
  rcases h with rfl | ⟨rfl, rfl | rfl⟩
  all_goals rfl
theorem k9_Ftl_X (k i p : Nat) (h : k9_Ftl k i p = true) : k9_Xs [] (v_cl k i p) = true := by
  simp only [k9_Ftl, Bool.or_eq_true, Bool.and_eq_true, Nat.beq_eq] at h
  rcases h with (((rfl | rfl) | rfl) | rfl) | ⟨rfl, ((rfl | rfl) | rfl) | rfl⟩
  all_goals rfl
theorem k9_Ft6_X (k i p : Nat) (h : k9_Ft6 k i p = true) : k9_Xs [3] (v_cl k i p) = true := by
  simp only [k9_Ft6, Bool.or_eq_true, Bool.and_eq_true, Nat.beq_eq] at h
  rcases h with rfl | ⟨rfl, (rfl | rfl) | rfl⟩
  all_goals rfl
theorem k9_Ftk_X (k i p : Nat) (h : k9_Ftk k i p = true) : k9_Xs [3] (v_cl k i p) = true := by
  simp only [k9_Ftk, Bool.or_eq_true, Nat.beq_eq] at h
  rcases h with ((rfl | rfl) | rfl) | rfl
  all_goals rfl
theorem k9_Xs_w {A B : List Nat} {I I' : k9_I} (h : k9_fp (k9_Xs A) I I') (w : ∀ c, c ∈ A → c ∈ B) : k9_fp (k9_Xs B) I I' := k9_fp_w h (fun c e => by
  cases f : k9_Xs A c with
  | false => rfl
  | true =>
    unfold k9_Xs at e f
    rw [Bool.or_eq_true, List.any_eq_true] at f
    rw [Bool.or_eq_false_iff, List.any_eq_false] at e
    rcases f with f | ⟨b, hb, f⟩
    · rw [e.1] at f
      exact f.symm
    · exact absurd f (e.2 b (w b hb)))
theorem t_law (hI : k9_Inv I J) : k9_P S (d + 100) 104 181 [some (k9_r 1 0), none] [some (k9_r 12 0), none, none, none] I J k9_Inv := by
  obtain ⟨w, V, b, v1, v2, v3, v4, v5, v6, v7, v8, v9⟩ := hI
  obtain ⟨n, hn, n5, n12, hlet⟩ := v2
  obtain ⟨l, hl⟩ : ∃ l : Nat → Nat, l = fun p => (I 26 0 p).toNatClampNeg := ⟨_, rfl⟩
  have hl' : ∀ p, p < n → l p ≤ 255 ∧ I 26 0 p = nI (l p) ∧ I 45 0 p = nI (l p) := fun p hp => by
    obtain ⟨x, h1, h2, h3⟩ := hlet p hp
    have : l p = x := by rw [hl]; show (I 26 0 p).toNatClampNeg = x; rw [h2, n_cl (by omega)]
    rw [this]
    exact ⟨h1, h2, h3⟩
  refine k9P_of ?_
  obtain ⟨I1, ts1, e1, T1, x1, h1⟩ := k9s_36 (S := S) (d := d + 9) (J := J) hn (fun p hp => (hl' p hp).1) n5 (fun p hp => (hl' p hp).2.1)
  have f1 : k9_fp (k9_Xs []) I I1 := k9_fp_x x1 k9_Ftc_X
  have ref : ∀ I2 : k9_I, I2 12 0 6 = nI n → (∀ p, p < n → I2 45 0 p = nI (l p)) → ∃ I' ts' y1, (∀ Q, k9_ok (k9_R S (d + 100) 181 35 [some (k9_r 12 0), some (k9_i y1), none, none] [k9_i (nI (p_b (p_tx n l).1))] I' J) Q → k9_ok (k9_R S (d + 100) 181 0 [some (k9_r 12 0), none, none, none] [] I2 J) Q) ∧ k9_Tm I' n l (p_tx n l).2.1 0 ts' ∧ k9_fx k9_Ftl I2 I' ∧ ((p_tx n l).1 = true → ts' = p_rt (p_tx n l).2.2 ∧ k9_Lm I' (p_tx n l).2.2 ∧ (p_tx n l).2.2.length ≤ 60 ∧ ts'.length ≤ 120) := by
    intro I2 h6 h45
    obtain ⟨I0, hI0⟩ : ∃ I0, I0 = k9_u (k9_u (k9_u (k9_u I2 12 0 14 0) 12 0 15 0) 12 0 16 0) 12 0 17 0 := ⟨_, rfl⟩
    have T0 : k9_Tm I0 n l 0 0 [] := by
      rw [hI0]
      exact ⟨hn, fun p hp => (hl' p hp).1, by simp [k9_ur, h6], fun p hp => by simp [k9_ur, h45 p hp], by simp [k9_ur]; rfl, by simp [k9_ur]; rfl, fun i hi => by simp at hi, by simp [k9_ur]; rfl⟩
    have x0 : k9_fx k9_Ftl I2 I0 := by
      rw [hI0]
      exact k9_fx_u (k9_fx_u (k9_fx_u (k9_fx_u (k9_fx_rf _ _) rfl) rfl) rfl) rfl
    have L0 : k9_Lm I0 [] := ⟨by rw [hI0]; simp [k9_ur]; rfl, fun i hi => by simp at hi⟩
    obtain ⟨I', ts', y1, k1, T', x', h'⟩ := k9s_181l (S := S) (d := d + 53) (J := J) T0 L0
    refine ⟨I', ts', y1, fun Q g => k9o_eq k9e_181_0 ?_, T', k9_fx_tr x0 x', h'⟩
    rw [← hI0]
    exact k1 Q g
  by_cases r : (p_tx n l).1 = true
  · -- a text
    have hts := h1 r
    have hok := p_tx_x r
    have hlen := p_tx_l r
    obtain ⟨ls, hls⟩ : ∃ ls, ls = (p_tx n l).2.2 := ⟨_, rfl⟩
    rw [← hls] at hts hok hlen
    rw [show p_fr (p_tx n l).1 (p_tx n l).2.1 = -1 from if_pos r] at e1
    obtain ⟨t1, t2, t3, t4, t5, t6, t7⟩ := T1
    obtain ⟨I2, e2, x2, b1, b3, b28, b0, bl⟩ := k9s_47 (S := S) (d := d + 98) (J := J) t6 (by rw [hts]; omega) t7 (fun c hc => by
      rw [hts] at hc
      obtain ⟨y, hy, hcy⟩ := List.mem_flatten.mp hc
      obtain ⟨x, hx, rfl⟩ := List.mem_map.mp hy
      exact p_ctk_m (hok x hx) c hcy)
    rw [hts] at b3 b28 bl
    have e147 : k9_R S (d + 99) 147 0 [some (k9_r 1 0)] [] I2 J = some (none, k9_u (k9_u I2 1 0 12 0) 1 0 13 0, J) := by
      refine k9o_of ?_
      simp (disch := omega) only [k9e_147_0, Nat.reduceEqDiff, Int.reduceEq, Int.reduceLT, Int.reduceLE, k9_ps_s, k9_ps_n, k9_ur, false_and, and_false, true_and, and_true, true_or, or_true, false_or, or_false, eq_self, ↓reduceIte, not_true_eq_false, not_false_eq_true, n_toInt, n_cl, nI_1, nI_add, n_a0, n_p2, n_p3, n_p4, n_x2, n_x3, n_x4, n_x60, n_x100, n_pm1, k9L_m2, k9L_m1, k9L_0, k9L_1, k9L_2, k9L_3, k9L_4, k9L_5, k9L_6, k9L_7, k9L_8, k9L_9, k9L_10, k9L_20, k9L_23, k9L_24, k9L_30, k9L_40, k9L_50, k9L_60, k9L_99, k9L_100, k9L_120, k9L_255, k9L_999, k9L_1000, k9_bs, k9_ba]
      repeat (first | ((with_reducible refine k9q_T ?_ ?_); · omega) | ((with_reducible refine k9q_F ?_ ?_); · omega) | ((with_reducible refine k9q_Tb ?_ ?_); · omega) | ((with_reducible refine k9q_Fb ?_ ?_); · omega) | simp (disch := omega) only [k9e_147_0, Nat.reduceEqDiff, Int.reduceEq, Int.reduceLT, Int.reduceLE, k9_ps_s, k9_ps_n, k9_ur, false_and, and_false, true_and, and_true, true_or, or_true, false_or, or_false, eq_self, ↓reduceIte, not_true_eq_false, not_false_eq_true, n_toInt, n_cl, nI_1, nI_add, n_a0, n_p2, n_p3, n_p4, n_x2, n_x3, n_x4, n_x60, n_x100, n_pm1, k9L_m2, k9L_m1, k9L_0, k9L_1, k9L_2, k9L_3, k9L_4, k9L_5, k9L_6, k9L_7, k9L_8, k9L_9, k9L_10, k9L_20, k9L_23, k9L_24, k9L_30, k9L_40, k9L_50, k9L_60, k9L_99, k9L_100, k9L_120, k9L_255, k9L_999, k9L_1000, k9_bs, k9_ba])
      exact k9o_ret rfl
    obtain ⟨Ic, hIc⟩ : ∃ Ic, Ic = k9_u (k9_u (k9_u I2 1 0 12 0) 1 0 13 0) 5 0 0 0 := ⟨_, rfl⟩
    have fc : k9_fp (k9_Xs [2, 3, 8, 9]) I Ic := by
      rw [hIc]
      exact k9_fp_u (k9_fp_u (k9_fp_u (k9_fp_tr (k9_Xs_w f1 (fun c h => by cases h)) (k9_Xs_w (k9_fp_x x2 k9_Ft6_X) (fun c h => by rw [List.mem_singleton.mp h]; decide))) rfl) rfl) rfl
    have CL : k9_CL Ic (fun e => p_vl e ls) := by
      rw [hIc]
      exact k9_CL_l hok b1 b3 (by omega) b28 b0 bl
    have cls : k9_R S (d + 100) 104 0 [some (k9_r 1 0), none] [] I J = some (some (k9_i 1), Ic, J) := by
      refine k9o_of (k9o_eq k9e_104_0 (k9o_call e1 ?_))
      simp only [k9_ps_s]
      refine k9o_eq k9e_104_3 (k9o_F (by decide) (k9o_eq k9e_104_6 (k9o_call e2 ?_)))
      simp only [k9_ps_n]
      refine k9o_eq k9e_104_11 (k9o_call e147 ?_)
      simp only [k9_ps_n]
      refine k9o_eq k9e_104_13 ?_
      rw [← hIc]
      exact k9o_F (by decide) (k9o_eq k9e_104_19 (k9o_eq k9e_104_24 (k9o_ret rfl)))
    refine k9o_to cls ⟨_, _, _, rfl, ?_⟩
    have c12 : ∀ p, Ic 12 0 p = I 12 0 p := fun p => by
      rw [hIc]
      show I2 12 0 p = I 12 0 p
      rw [x2 12 0 p rfl, x1 12 0 p rfl]
    have c45 : ∀ p, Ic 45 0 p = I 45 0 p := fun p => by
      rw [hIc]
      show I2 45 0 p = I 45 0 p
      rw [x2 45 0 p rfl, x1 45 0 p rfl]
    obtain ⟨I3, ts3, y1, k3, T3, x3, h3⟩ := ref Ic ((c12 6).trans n12) (fun p hp => (c45 p).trans (hl' p hp).2.2)
    obtain ⟨q1, q2, q3, q4⟩ := h3 r
    rw [← hls] at q1 q2 q3
    rw [p_b_T r] at k3
    obtain ⟨I4, hI4⟩ : ∃ I4, I4 = k9_u (k9_u (k9_u I3 12 0 6 0) 12 0 8 1) 12 0 9 (nI ls.length) := ⟨_, rfl⟩
    obtain ⟨I5, e5, x5, r5, s5⟩ := k9s_181c (S := S) (d := d + 100) (I := I4) (J := J) (L := ls.length) (m := ts3.length) (x1 := y1) (x2 := nI 1) (by rw [hI4]; simp [k9_ur]) q3 (by rw [hI4]; exact T3.2.2.2.2.2.1) (by omega)
    have f5 : k9_fp (k9_Xs [2, 3, 8, 9]) I I5 := by
      refine k9_fp_tr fc (k9_fp_tr (I' := I4) ?_ (k9_Xs_w (k9_fp_x x5 k9_Ftk_X) (fun c h => by rw [List.mem_singleton.mp h]; decide)))
      rw [hI4]
      exact k9_fp_u (k9_fp_u (k9_fp_u (k9_Xs_w (k9_fp_x x3 k9_Ftl_X) (fun c h => by cases h)) rfl) rfl) rfl
    have g43 : ∀ k i p, (k9_Ftl k i p || (Nat.beq k 12)) = false → I4 k i p = Ic k i p := fun k i p h => by
      rw [Bool.or_eq_false_iff] at h
      rw [hI4, k9_ur, if_neg (by rintro ⟨rfl, -⟩; exact absurd h.2 (by decide)), k9_ur, if_neg (by rintro ⟨rfl, -⟩; exact absurd h.2 (by decide)), k9_ur, if_neg (by rintro ⟨rfl, -⟩; exact absurd h.2 (by decide))]
      exact x3 k i p h.1
    have hfin : k9_Inv I5 J := by
      refine ⟨w, (fun e => p_vl e ls), b, k9_vW_c (k9_fp_c f5 rfl) v1, ⟨0, by omega, ?_, ?_, fun p hp => by omega⟩, ⟨?_, ?_⟩, k9_vC_c (k9_fp_c f5 rfl) v4, k9_vB_c (k9_fp_c f5 rfl) v5, k9_vS_c (k9_fp_c f5 rfl) v6, k9_vD_c (k9_fp_c f5 rfl) v7, Or.inl ?_, Or.inl ?_⟩
      · rw [x5 5 0 0 rfl, g43 5 0 0 rfl, hIc]
        simp [k9_ur]
        rfl
      · rw [x5 12 0 6 rfl, hI4]
        simp [k9_ur]
        rfl
      · exact k9_CL_fx CL ((x5 6 0 0 rfl).trans (g43 6 0 0 rfl)) ((x5 6 0 1 rfl).trans (g43 6 0 1 rfl)) ((x5 6 0 3 rfl).trans (g43 6 0 3 rfl)) (funext fun p => (x5 28 0 p rfl).trans (g43 28 0 p rfl))
      · refine k9_ML_l hok ?_ ⟨?_, q3, by rw [← q1]; omega, fun j hj => ?_, fun i hi => ?_⟩
        · rw [x5 12 0 8 rfl, hI4]
          simp [k9_ur]
        · rw [x5 12 0 9 rfl, hI4]
          simp [k9_ur]
        · rw [List.length_map, ← q1] at hj
          rw [Nat.zero_add, s5 j hj, hI4]
          show I3 53 0 j = _
          rw [T3.2.2.2.2.2.2.1 j hj, q1]
          congr 1
          have hj' : j < (p_rt ls).length := by rw [← q1]; exact hj
          simp [List.getD_eq_getElem?_getD, List.getElem?_eq_getElem hj']
        · obtain ⟨u1, u2, u3⟩ := r5 i hi
          obtain ⟨w1, w2, w3⟩ := q2.2 i hi
          rw [u1, u2, u3, hI4]
          exact ⟨w1, w2, w3⟩
      · rw [x5 1 0 12 rfl, g43 1 0 12 rfl, hIc]
        simp [k9_ur]
      · rw [x5 1 0 13 rfl, g43 1 0 13 rfl, hIc]
        simp [k9_ur]
    refine k3 _ (k9o_eq k9e_181_35 (k9o_F (by decide) (k9o_eq k9e_181_46 ?_)))
    rw [show (k9_u (k9_u I3 12 0 6 0) 12 0 8 1) 12 0 17 = I3 12 0 17 from rfl, q2.1, ← hI4]
    exact k9o_to e5 ⟨_, _, rfl, hfin⟩
  · -- a fault
    rw [show p_fr (p_tx n l).1 (p_tx n l).2.1 = nI (p_tx n l).2.1 from if_neg r] at e1
    obtain ⟨pl, hpl⟩ : ∃ pl, pl = (p_tx n l).2.1 := ⟨_, rfl⟩
    rw [← hpl] at e1
    have plb : pl ≤ 120 := by
      have : (p_tx n l).2.1 ≤ n := by
        unfold p_tx
        obtain ⟨g1, g2, g3⟩ := p_lin_k n l 0 (Nat.zero_le _)
        have tlb : ∀ k a, a ≤ n → (p_tl n l k a).2.1 ≤ n := by
          intro k
          induction k with
          | zero => exact fun a h => h
          | succ k ih =>
            intro a h
            rw [p_tl]
            by_cases c1 : a < n
            · rw [if_pos c1]
              by_cases c2 : p_lt n l a = 59
              · rw [if_pos c2]
                obtain ⟨g1, g2, g3⟩ := p_lin_k n l (a + 1) c1
                by_cases r : (p_lin n l (a + 1)).1 = true
                · rw [if_pos r]
                  exact ih _ g2
                · rw [if_neg r]
                  exact g2
              · rw [if_neg c2]
                exact h
            · rw [if_neg c1]
              exact h
        by_cases r : (p_lin n l 0).1 = true
        · rw [if_pos r]
          exact tlb 119 _ g2
        · rw [if_neg r]
          exact g2
      omega
    obtain ⟨Ic, hIc⟩ : ∃ Ic, Ic = k9_u I1 5 0 0 0 := ⟨_, rfl⟩
    have cls : k9_R S (d + 100) 104 0 [some (k9_r 1 0), none] [] I J = some (some (k9_i ((-100) - nI pl)), Ic, J) := by
      refine k9o_of (k9o_eq k9e_104_0 (k9o_call e1 ?_))
      simp only [k9_ps_s]
      refine k9o_eq k9e_104_3 (k9o_T (by rw [n_toInt (by omega)]; omega) (k9o_eq k9e_104_13 ?_))
      rw [← hIc]
      exact k9o_T (by rw [n_toInt (by omega)]; omega) (k9o_eq k9e_104_21 (k9o_eq k9e_104_24 (k9o_ret rfl)))
    refine k9o_to cls ⟨_, _, _, rfl, ?_⟩
    have c12 : ∀ p, Ic 12 0 p = I 12 0 p := fun p => by
      rw [hIc]
      show I1 12 0 p = I 12 0 p
      rw [x1 12 0 p rfl]
    have c45 : ∀ p, Ic 45 0 p = I 45 0 p := fun p => by
      rw [hIc]
      show I1 45 0 p = I 45 0 p
      rw [x1 45 0 p rfl]
    obtain ⟨I3, ts3, y1, k3, T3, x3, h3⟩ := ref Ic ((c12 6).trans n12) (fun p hp => (c45 p).trans (hl' p hp).2.2)
    rw [p_b_F r] at k3
    have f5 : k9_fp (k9_Xs [2]) I (k9_u I3 12 0 6 0) := by
      refine k9_fp_tr (I' := Ic) ?_ (k9_fp_u (k9_Xs_w (k9_fp_x x3 k9_Ftl_X) (fun c h => by cases h)) rfl)
      rw [hIc]
      exact k9_fp_u (k9_Xs_w f1 (fun c h => by cases h)) rfl
    have hfin : k9_Inv (k9_u I3 12 0 6 0) J := by
      refine ⟨w, V, b, k9_vW_c (k9_fp_c f5 rfl) v1, ⟨0, by omega, ?_, ?_, fun p hp => by omega⟩, k9_vL_c (k9_fp_c f5 rfl) v3, k9_vC_c (k9_fp_c f5 rfl) v4, k9_vB_c (k9_fp_c f5 rfl) v5, k9_vS_c (k9_fp_c f5 rfl) v6, k9_vD_c (k9_fp_c f5 rfl) v7, k9_vR_c (k9_fp_c f5 rfl) v8, k9_vO_c (k9_fp_c f5 rfl) v9⟩
      · show I3 5 0 0 = nI 0
        rw [x3 5 0 0 rfl, hIc]
        simp [k9_ur]
        rfl
      · simp [k9_ur]
        rfl
    refine k3 _ (k9o_eq k9e_181_35 (k9o_T (by decide) (k9o_eq k9e_181_41 (k9o_ret ?_))))
    rw [show (k9_u I3 12 0 6 0) 12 0 14 = I3 12 0 14 from rfl, T3.2.2.2.2.1, ← hpl]
    exact ⟨_, _, rfl, hfin⟩
end KV11

/-! THE MEMORY AT THE START -/
section KV12
theorem lg_cmp_z (x : Int64) : (lg_cmp x x).toInt = 0 := by
  have h1 := @lg_pos x x
  have h2 := @lg_neg x x
  omega
def p_w0 : Nat → Nat → Nat := fun q _ => if q = 4 then 1 else 0
theorem k9_CL_n : k9_CL k9_I0 (fun e => e 1) := by
  refine ⟨fun S d J I' i a g0 g1 g3 g28 => ?_, Or.inl rfl, fun _ e e' h => h 1 (by decide)⟩
  refine ⟨I', k9o_of (k9o_eq k9e_48_0 (k9o_T (by rw [g1]; rfl) (k9o_eq k9e_48_3 (k9o_ret rfl)))), k9_fx_rf _ _⟩
theorem k9_ML_n : k9_ML k9_I0 (fun e => e 1) := by
  intro S d J I' a g8 _ _ _ _ _ hc
  obtain ⟨c, hc1, hc2⟩ := hc 1 (by omega)
  refine ⟨I', k9o_of (k9o_eq k9e_187_0 (k9o_T (by rw [g8]; rfl) (k9o_eq k9e_187_3 (k9o_ret ?_)))), k9_fx_rf _ _⟩
  show (some (k9_i (I' 65 0 1)), I', J) = (some (k9_i (nI (p_cl (I' 65 0 1)))), I', J)
  rw [hc2, p_cl_n (by omega)]
theorem k9_Inv_n : k9_Inv k9_I0 k9_J0 := by
  refine ⟨p_w0, (fun e => e 1), 0, ⟨⟨rfl, rfl, rfl, rfl, fun p hp => absurd hp (Nat.not_lt_zero _)⟩, ⟨rfl, rfl, rfl, rfl, fun p hp => absurd hp (Nat.not_lt_zero _)⟩, ⟨by decide, by decide, by decide, by decide, fun p hp => absurd hp (Nat.not_lt_zero _)⟩, fun p hp => absurd hp (Nat.not_lt_zero _)⟩, ⟨0, by omega, rfl, rfl, fun p hp => absurd hp (Nat.not_lt_zero _)⟩, ⟨k9_CL_n, k9_ML_n⟩, ⟨0, 0, by omega, rfl, rfl, rfl, rfl, fun k hk => absurd hk (Nat.not_lt_zero _)⟩, ⟨by omega, rfl, rfl, fun k hk => absurd hk (Nat.not_lt_zero _), 0, by omega, rfl, rfl, fun k hk => absurd hk (Nat.not_lt_zero _)⟩, ⟨fun s hs => Or.inl ⟨rfl, ?_⟩, fun s hs p hp => rfl⟩, ⟨Or.inr ⟨rfl, rfl⟩, fun k hk => rfl, Or.inl ⟨rfl, rfl⟩⟩, Or.inl rfl, Or.inl rfl⟩
  obtain rfl | rfl | rfl | rfl | rfl | rfl : s = 0 ∨ s = 1 ∨ s = 2 ∨ s = 3 ∨ s = 4 ∨ s = 5 := by omega
  all_goals rfl
end KV12
