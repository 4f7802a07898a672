/-! THE REFERENCE: what it reads off its run -/
section KU3
variable {S : k9_S} {d : Nat} {I I' : k9_I} {J J' : k9_J} {w w0 : Nat → Nat → Nat} {V : (Nat → Int32) → Int32} {h c : Nat → Nat} {L A : Nat}
def k9_Mr (I : k9_I) (L : Nat) (h c : Nat → Nat) : Prop := I 12 0 39 = nI L ∧ ∀ t, t < 1000 → I 64 0 t = nI (c t) ∧ I 66 0 t = nI (p_ct L (min t L)) ∧ I 67 0 t = nI (h t)
theorem k9_Mr_fx {F : Nat → Nat → Nat → Bool} (hx : k9_fx F I I') (e39 : F 12 0 39 = false) (e : ∀ t, F 64 0 t = false ∧ F 66 0 t = false ∧ F 67 0 t = false) (hR : k9_Mr I L h c) : k9_Mr I' L h c :=
  ⟨(hx _ _ _ e39).trans hR.1, fun t ht => ⟨(hx _ _ _ (e t).1).trans (hR.2 t ht).1, (hx _ _ _ (e t).2.1).trans (hR.2 t ht).2.1, (hx _ _ _ (e t).2.2).trans (hR.2 t ht).2.2⟩⟩
/-- all pieces as they came -/
theorem k9s_189 : ∃ I', k9_R S d 189 0 [some (k9_r 12 0), none] [] I J = some (none, I', J) ∧ (∀ i, i < 6 → I' 63 0 i = nI i) ∧ k9_fx (fun k _ _ => Nat.beq k 63) I I' := by
  have key : ∀ n i I1, i + n = 6 → (∀ k, k < i → I1 63 0 k = nI k) → k9_fx (fun k _ _ => Nat.beq k 63) I I1 → ∃ I', k9_R S d 189 2 [some (k9_r 12 0), some (k9_i (nI i))] [] I1 J = some (none, I', J) ∧ (∀ i, i < 6 → I' 63 0 i = nI i) ∧ k9_fx (fun k _ _ => Nat.beq k 63) I I' := by
    intro n
    induction n with
    | zero =>
      intro i I1 hi h hx
      obtain rfl : i = 6 := by omega
      refine ⟨I1, k9o_of (k9o_eq k9e_189_2 (k9o_T (by decide) (k9o_eq k9e_189_12 (k9o_ret rfl)))), h, hx⟩
    | succ n ih =>
      intro i I1 hi h hx
      obtain ⟨I', e, r⟩ := ih (i + 1) (k9_u I1 63 0 i (nI i)) (by omega) (fun k hk => by
        by_cases e : k = i
        · simp [k9_ur, e]
        · simpa [k9_ur, e] using h k (by omega)) (k9_fx_u hx rfl)
      refine ⟨I', k9o_of (k9o_eq k9e_189_2 ?_), r⟩
      simp (disch := omega) only [k9e_189_0, k9e_189_5, k9e_189_10, k9e_189_12, Nat.reduceEqDiff, Int.reduceEq, Int.reduceLT, Int.reduceLE, k9_ps_s, k9_ps_n, k9_ur, false_and, and_false, true_and, and_true, true_or, or_true, false_or, or_false, eq_self, ↓reduceIte, not_true_eq_false, not_false_eq_true, n_toInt, n_cl, nI_1, nI_add, n_a0, n_p2, n_p3, n_p4, n_x2, n_x3, n_x4, n_x60, n_x100, n_pm1, k9L_m2, k9L_m1, k9L_0, k9L_1, k9L_2, k9L_3, k9L_4, k9L_5, k9L_6, k9L_7, k9L_8, k9L_9, k9L_10, k9L_20, k9L_23, k9L_24, k9L_30, k9L_40, k9L_50, k9L_60, k9L_99, k9L_100, k9L_120, k9L_255, k9L_999, k9L_1000, k9_bs, k9_ba]
      repeat (first | ((with_reducible refine k9q_T ?_ ?_); · omega) | ((with_reducible refine k9q_F ?_ ?_); · omega) | ((with_reducible refine k9q_Tb ?_ ?_); · omega) | ((with_reducible refine k9q_Fb ?_ ?_); · omega) | simp (disch := omega) only [k9e_189_0, k9e_189_5, k9e_189_10, k9e_189_12, Nat.reduceEqDiff, Int.reduceEq, Int.reduceLT, Int.reduceLE, k9_ps_s, k9_ps_n, k9_ur, false_and, and_false, true_and, and_true, true_or, or_true, false_or, or_false, eq_self, ↓reduceIte, not_true_eq_false, not_false_eq_true, n_toInt, n_cl, nI_1, nI_add, n_a0, n_p2, n_p3, n_p4, n_x2, n_x3, n_x4, n_x60, n_x100, n_pm1, k9L_m2, k9L_m1, k9L_0, k9L_1, k9L_2, k9L_3, k9L_4, k9L_5, k9L_6, k9L_7, k9L_8, k9L_9, k9L_10, k9L_20, k9L_23, k9L_24, k9L_30, k9L_40, k9L_50, k9L_60, k9L_99, k9L_100, k9L_120, k9L_255, k9L_999, k9L_1000, k9_bs, k9_ba])
      exact k9o_to e rfl
  rw [k9e_189_0]
  exact key 6 0 I (by omega) (fun k hk => by omega) (k9_fx_rf _ _)
theorem p_cm_id (w : Nat → Nat → Nat) : p_cm w (fun i => i) = w := by
  funext q p
  unfold p_cm
  split <;> rfl
def k9_Fq (k i p : Nat) : Bool := k9_Fr k i p || Nat.beq k 63
theorem k9_Fq_of {I1 I2 : k9_I} (h : k9_fx k9_Fr I1 I2) : k9_fx k9_Fq I1 I2 := k9_fx_w h (fun k i p e => by
  unfold k9_Fq at e
  exact (Bool.or_eq_false_iff.mp e).1)
theorem k9_Fq_63 {I1 I2 : k9_I} (h : k9_fx (fun k _ _ => Nat.beq k 63) I1 I2) : k9_fx k9_Fq I1 I2 := k9_fx_w h (fun k i p e => by
  unfold k9_Fq at e
  exact (Bool.or_eq_false_iff.mp e).2)
theorem k9_ML_x {F : Nat → Nat → Nat → Bool} (h : k9_fx F I I') (e : F 12 0 8 = false ∧ F 12 0 9 = false ∧ (∀ p, F 46 0 p = false) ∧ (∀ p, F 47 0 p = false) ∧ (∀ p, F 48 0 p = false) ∧ ∀ p, F 49 0 p = false) (hV : k9_ML I V) : k9_ML I' V :=
  fun S d J I1 a e8 e9 e46 e47 e48 e49 => hV S d J I1 a (e8.trans (h _ _ _ e.1)) (e9.trans (h _ _ _ e.2.1)) (e46.trans (funext fun p => h _ _ _ (e.2.2.1 p))) (e47.trans (funext fun p => h _ _ _ (e.2.2.2.1 p))) (e48.trans (funext fun p => h _ _ _ (e.2.2.2.2.1 p))) (e49.trans (funext fun p => h _ _ _ (e.2.2.2.2.2 p)))
theorem k9s_190 (hM : k9_Wm I w) (hf : k9_wf w) (hV : k9_ML I V) : ∃ I', k9_R S (d + 5) 190 0 [some (k9_r 12 0)] [] I J = some (none, I', J) ∧ k9_Mr I' (p_len w) (p_sh w (p_tt w) V) (p_co w) ∧ k9_fx k9_Fq I I' := by
  have h6 := hf.1
  obtain ⟨I1, e1, h1, x1⟩ := k9s_189 (S := S) (d := d + 4) (I := I) (J := J)
  have hM1 : k9_Wm I1 w := k9_Wm_t hM (x1 12 0 0 rfl) (funext fun p => x1 44 0 p rfl) (funext fun p => x1 40 0 p rfl) (funext fun p => x1 41 0 p rfl) (funext fun p => x1 42 0 p rfl) (funext fun p => x1 43 0 p rfl)
  obtain ⟨I2, e2, h2, -, x2⟩ := k9s_188 (S := S) (d := d) (I := I1) (J := J) (w := w) (V := V) (o := fun i => i) (x := -1) hM1 hf (fun i hi => ⟨h1 i (by omega), hi⟩) (k9_ML_x x1 ⟨rfl, rfl, fun _ => rfl, fun _ => rfl, fun _ => rfl, fun _ => rfl⟩ hV) (p_cm_id w).symm (fun k hk => rfl)
  refine ⟨I2, k9o_of ?_, h2, k9_fx_tr (k9_Fq_63 x1) (k9_Fq_of x2)⟩
  simp (disch := omega) only [k9e_190_0, k9e_190_2, k9e_190_5, Nat.reduceEqDiff, Int.reduceEq, Int.reduceLT, Int.reduceLE, k9_ps_s, k9_ps_n, k9_ur, false_and, and_false, true_and, and_true, true_or, or_true, false_or, or_false, eq_self, ↓reduceIte, not_true_eq_false, not_false_eq_true, n_toInt, n_cl, nI_1, nI_add, n_a0, n_p2, n_p3, n_p4, n_x2, n_x3, n_x4, n_x60, n_x100, n_pm1, k9L_m2, k9L_m1, k9L_0, k9L_1, k9L_2, k9L_3, k9L_4, k9L_5, k9L_6, k9L_7, k9L_8, k9L_9, k9L_10, k9L_20, k9L_23, k9L_24, k9L_30, k9L_40, k9L_50, k9L_60, k9L_99, k9L_100, k9L_120, k9L_255, k9L_999, k9L_1000, k9_bs, k9_ba]
  repeat (first | ((with_reducible refine k9q_T ?_ ?_); · omega) | ((with_reducible refine k9q_F ?_ ?_); · omega) | ((with_reducible refine k9q_Tb ?_ ?_); · omega) | ((with_reducible refine k9q_Fb ?_ ?_); · omega) | (refine k9o_call (e1) ?_; simp (disch := omega) only [k9e_190_0, k9e_190_2, k9e_190_5, Nat.reduceEqDiff, Int.reduceEq, Int.reduceLT, Int.reduceLE, k9_ps_s, k9_ps_n, k9_ur, false_and, and_false, true_and, and_true, true_or, or_true, false_or, or_false, eq_self, ↓reduceIte, not_true_eq_false, not_false_eq_true, n_toInt, n_cl, nI_1, nI_add, n_a0, n_p2, n_p3, n_p4, n_x2, n_x3, n_x4, n_x60, n_x100, n_pm1, k9L_m2, k9L_m1, k9L_0, k9L_1, k9L_2, k9L_3, k9L_4, k9L_5, k9L_6, k9L_7, k9L_8, k9L_9, k9L_10, k9L_20, k9L_23, k9L_24, k9L_30, k9L_40, k9L_50, k9L_60, k9L_99, k9L_100, k9L_120, k9L_255, k9L_999, k9L_1000, k9_bs, k9_ba]) | (refine k9o_call (e2) ?_; simp (disch := omega) only [k9e_190_0, k9e_190_2, k9e_190_5, Nat.reduceEqDiff, Int.reduceEq, Int.reduceLT, Int.reduceLE, k9_ps_s, k9_ps_n, k9_ur, false_and, and_false, true_and, and_true, true_or, or_true, false_or, or_false, eq_self, ↓reduceIte, not_true_eq_false, not_false_eq_true, n_toInt, n_cl, nI_1, nI_add, n_a0, n_p2, n_p3, n_p4, n_x2, n_x3, n_x4, n_x60, n_x100, n_pm1, k9L_m2, k9L_m1, k9L_0, k9L_1, k9L_2, k9L_3, k9L_4, k9L_5, k9L_6, k9L_7, k9L_8, k9L_9, k9L_10, k9L_20, k9L_23, k9L_24, k9L_30, k9L_40, k9L_50, k9L_60, k9L_99, k9L_100, k9L_120, k9L_255, k9L_999, k9L_1000, k9_bs, k9_ba]) | simp (disch := omega) only [k9e_190_0, k9e_190_2, k9e_190_5, Nat.reduceEqDiff, Int.reduceEq, Int.reduceLT, Int.reduceLE, k9_ps_s, k9_ps_n, k9_ur, false_and, and_false, true_and, and_true, true_or, or_true, false_or, or_false, eq_self, ↓reduceIte, not_true_eq_false, not_false_eq_true, n_toInt, n_cl, nI_1, nI_add, n_a0, n_p2, n_p3, n_p4, n_x2, n_x3, n_x4, n_x60, n_x100, n_pm1, k9L_m2, k9L_m1, k9L_0, k9L_1, k9L_2, k9L_3, k9L_4, k9L_5, k9L_6, k9L_7, k9L_8, k9L_9, k9L_10, k9L_20, k9L_23, k9L_24, k9L_30, k9L_40, k9L_50, k9L_60, k9L_99, k9L_100, k9L_120, k9L_255, k9L_999, k9L_1000, k9_bs, k9_ba])
  exact k9o_ret rfl
theorem k9s_193 {x : Nat} (hR : k9_Mr I L h c) (hL : L ≤ 954) (hx : x ≤ 1000) (hh : ∀ t, h t ≤ 100) : k9_R S d 193 0 [some (k9_r 12 0), some (k9_i (nI x)), none, none] [] I J = some (some (k9_i (nI (p_mn h x (L + 1)))), I, J) := by
  have key : ∀ k t, t + k = L + 1 → k9_R S d 193 4 [some (k9_r 12 0), some (k9_i (nI x)), some (k9_i (nI (p_mn h x t))), some (k9_i (nI t))] [] I J = some (some (k9_i (nI (p_mn h x (L + 1)))), I, J) := by
    intro k
    induction k with
    | zero =>
      intro t ht
      obtain rfl : t = L + 1 := by omega
      refine k9o_of (k9o_eq k9e_193_4 ?_)
      simp (disch := omega) only [k9e_193_0, k9e_193_8, k9e_193_12, k9e_193_14, k9e_193_15, k9e_193_17, Nat.reduceEqDiff, Int.reduceEq, Int.reduceLT, Int.reduceLE, k9_ps_s, k9_ps_n, k9_ur, false_and, and_false, true_and, and_true, true_or, or_true, false_or, or_false, eq_self, ↓reduceIte, not_true_eq_false, not_false_eq_true, n_toInt, n_cl, nI_1, nI_add, n_a0, n_p2, n_p3, n_p4, n_x2, n_x3, n_x4, n_x60, n_x100, n_pm1, k9L_m2, k9L_m1, k9L_0, k9L_1, k9L_2, k9L_3, k9L_4, k9L_5, k9L_6, k9L_7, k9L_8, k9L_9, k9L_10, k9L_20, k9L_23, k9L_24, k9L_30, k9L_40, k9L_50, k9L_60, k9L_99, k9L_100, k9L_120, k9L_255, k9L_999, k9L_1000, k9_bs, k9_ba, hR.1]
      repeat (first | ((with_reducible refine k9q_T ?_ ?_); · omega) | ((with_reducible refine k9q_F ?_ ?_); · omega) | ((with_reducible refine k9q_Tb ?_ ?_); · omega) | ((with_reducible refine k9q_Fb ?_ ?_); · omega) | simp (disch := omega) only [k9e_193_0, k9e_193_8, k9e_193_12, k9e_193_14, k9e_193_15, k9e_193_17, Nat.reduceEqDiff, Int.reduceEq, Int.reduceLT, Int.reduceLE, k9_ps_s, k9_ps_n, k9_ur, false_and, and_false, true_and, and_true, true_or, or_true, false_or, or_false, eq_self, ↓reduceIte, not_true_eq_false, not_false_eq_true, n_toInt, n_cl, nI_1, nI_add, n_a0, n_p2, n_p3, n_p4, n_x2, n_x3, n_x4, n_x60, n_x100, n_pm1, k9L_m2, k9L_m1, k9L_0, k9L_1, k9L_2, k9L_3, k9L_4, k9L_5, k9L_6, k9L_7, k9L_8, k9L_9, k9L_10, k9L_20, k9L_23, k9L_24, k9L_30, k9L_40, k9L_50, k9L_60, k9L_99, k9L_100, k9L_120, k9L_255, k9L_999, k9L_1000, k9_bs, k9_ba, hR.1])
      exact k9o_ret rfl
    | succ k ih =>
      intro t ht
      have e := ih (t + 1) (by omega)
      rw [p_mn] at e
      have a := (hR.2 t (by omega)).2.2
      have b := hh t
      refine k9o_of (k9o_eq k9e_193_4 ?_)
      by_cases hc : h t = x
      · rw [if_pos hc] at e
        simp (disch := omega) only [k9e_193_0, k9e_193_8, k9e_193_12, k9e_193_14, k9e_193_15, k9e_193_17, Nat.reduceEqDiff, Int.reduceEq, Int.reduceLT, Int.reduceLE, k9_ps_s, k9_ps_n, k9_ur, false_and, and_false, true_and, and_true, true_or, or_true, false_or, or_false, eq_self, ↓reduceIte, not_true_eq_false, not_false_eq_true, n_toInt, n_cl, nI_1, nI_add, n_a0, n_p2, n_p3, n_p4, n_x2, n_x3, n_x4, n_x60, n_x100, n_pm1, k9L_m2, k9L_m1, k9L_0, k9L_1, k9L_2, k9L_3, k9L_4, k9L_5, k9L_6, k9L_7, k9L_8, k9L_9, k9L_10, k9L_20, k9L_23, k9L_24, k9L_30, k9L_40, k9L_50, k9L_60, k9L_99, k9L_100, k9L_120, k9L_255, k9L_999, k9L_1000, k9_bs, k9_ba, hR.1, a]
        repeat (first | ((with_reducible refine k9q_T ?_ ?_); · omega) | ((with_reducible refine k9q_F ?_ ?_); · omega) | ((with_reducible refine k9q_Tb ?_ ?_); · omega) | ((with_reducible refine k9q_Fb ?_ ?_); · omega) | simp (disch := omega) only [k9e_193_0, k9e_193_8, k9e_193_12, k9e_193_14, k9e_193_15, k9e_193_17, Nat.reduceEqDiff, Int.reduceEq, Int.reduceLT, Int.reduceLE, k9_ps_s, k9_ps_n, k9_ur, false_and, and_false, true_and, and_true, true_or, or_true, false_or, or_false, eq_self, ↓reduceIte, not_true_eq_false, not_false_eq_true, n_toInt, n_cl, nI_1, nI_add, n_a0, n_p2, n_p3, n_p4, n_x2, n_x3, n_x4, n_x60, n_x100, n_pm1, k9L_m2, k9L_m1, k9L_0, k9L_1, k9L_2, k9L_3, k9L_4, k9L_5, k9L_6, k9L_7, k9L_8, k9L_9, k9L_10, k9L_20, k9L_23, k9L_24, k9L_30, k9L_40, k9L_50, k9L_60, k9L_99, k9L_100, k9L_120, k9L_255, k9L_999, k9L_1000, k9_bs, k9_ba, hR.1, a])
        exact k9o_to e rfl
      · rw [if_neg hc, Nat.add_zero] at e
        simp (disch := omega) only [k9e_193_0, k9e_193_8, k9e_193_12, k9e_193_14, k9e_193_15, k9e_193_17, Nat.reduceEqDiff, Int.reduceEq, Int.reduceLT, Int.reduceLE, k9_ps_s, k9_ps_n, k9_ur, false_and, and_false, true_and, and_true, true_or, or_true, false_or, or_false, eq_self, ↓reduceIte, not_true_eq_false, not_false_eq_true, n_toInt, n_cl, nI_1, nI_add, n_a0, n_p2, n_p3, n_p4, n_x2, n_x3, n_x4, n_x60, n_x100, n_pm1, k9L_m2, k9L_m1, k9L_0, k9L_1, k9L_2, k9L_3, k9L_4, k9L_5, k9L_6, k9L_7, k9L_8, k9L_9, k9L_10, k9L_20, k9L_23, k9L_24, k9L_30, k9L_40, k9L_50, k9L_60, k9L_99, k9L_100, k9L_120, k9L_255, k9L_999, k9L_1000, k9_bs, k9_ba, hR.1, a]
        repeat (first | ((with_reducible refine k9q_T ?_ ?_); · omega) | ((with_reducible refine k9q_F ?_ ?_); · omega) | ((with_reducible refine k9q_Tb ?_ ?_); · omega) | ((with_reducible refine k9q_Fb ?_ ?_); · omega) | simp (disch := omega) only [k9e_193_0, k9e_193_8, k9e_193_12, k9e_193_14, k9e_193_15, k9e_193_17, Nat.reduceEqDiff, Int.reduceEq, Int.reduceLT, Int.reduceLE, k9_ps_s, k9_ps_n, k9_ur, false_and, and_false, true_and, and_true, true_or, or_true, false_or, or_false, eq_self, ↓reduceIte, not_true_eq_false, not_false_eq_true, n_toInt, n_cl, nI_1, nI_add, n_a0, n_p2, n_p3, n_p4, n_x2, n_x3, n_x4, n_x60, n_x100, n_pm1, k9L_m2, k9L_m1, k9L_0, k9L_1, k9L_2, k9L_3, k9L_4, k9L_5, k9L_6, k9L_7, k9L_8, k9L_9, k9L_10, k9L_20, k9L_23, k9L_24, k9L_30, k9L_40, k9L_50, k9L_60, k9L_99, k9L_100, k9L_120, k9L_255, k9L_999, k9L_1000, k9_bs, k9_ba, hR.1, a])
        exact k9o_to e rfl
  rw [k9e_193_0]
  exact key (L + 1) 0 (by omega)
def k9_F44 (k _ p : Nat) : Bool := Nat.beq k 12 && (Nat.beq p 44 || Nat.beq p 45 || Nat.beq p 46 || Nat.beq p 47 || Nat.beq p 48)
/-- what looks gives -/
def k9_Lk (I : k9_I) (L : Nat) (h : Nat → Nat) (N : Nat) : Prop := I 12 0 44 = nI (p_of h (fun t => p_ct L (min t L)) N).1 ∧ I 12 0 45 = nI (p_of h (fun t => p_ct L (min t L)) N).2.1 ∧ I 12 0 46 = nI (p_of h (fun t => p_ct L (min t L)) N).2.2 ∧ I 12 0 47 = nI (p_sd h N).1 ∧ (0 < N → I 12 0 48 = nI (p_sd h N).2.1)
theorem k9s_191 (hR : k9_Mr I L h c) (hL : L ≤ 954) (hh : ∀ t, h t ≤ 100) : ∃ I', k9_R S d 191 0 [some (k9_r 12 0), none, none, none] [] I J = some (none, I', J) ∧ k9_Lk I' L h (L + 1) ∧ k9_fx k9_F44 I I' := by
  have key : ∀ k t I1, t + k = L + 1 → k9_Lk I1 L h t → k9_fx k9_F44 I I1 → k9_ok (k9_R S d 191 16 [some (k9_r 12 0), some (k9_i (nI (p_sd h t).2.2)), some (k9_i (nI t)), none] [] I1 J) (fun q => ∃ I', q = (none, I', J) ∧ k9_Lk I' L h (L + 1) ∧ k9_fx k9_F44 I I') := by
    intro k
    induction k with
    | zero =>
      intro t I1 ht hK hx
      obtain rfl : t = L + 1 := by omega
      have hR1 : k9_Mr I1 L h c := k9_Mr_fx hx rfl (fun _ => ⟨rfl, rfl, rfl⟩) hR
      refine k9o_eq k9e_191_16 ?_
      simp (disch := omega) only [k9e_191_78, Nat.reduceEqDiff, Int.reduceEq, Int.reduceLT, Int.reduceLE, k9_ps_s, k9_ps_n, k9_ur, false_and, and_false, true_and, and_true, true_or, or_true, false_or, or_false, eq_self, ↓reduceIte, not_true_eq_false, not_false_eq_true, n_toInt, n_cl, nI_1, nI_add, n_a0, n_p2, n_p3, n_p4, n_x2, n_x3, n_x4, n_x60, n_x100, n_pm1, k9L_m2, k9L_m1, k9L_0, k9L_1, k9L_2, k9L_3, k9L_4, k9L_5, k9L_6, k9L_7, k9L_8, k9L_9, k9L_10, k9L_20, k9L_23, k9L_24, k9L_30, k9L_40, k9L_50, k9L_60, k9L_99, k9L_100, k9L_120, k9L_255, k9L_999, k9L_1000, k9_bs, k9_ba, hR1.1]
      repeat (first | ((with_reducible refine k9q_T ?_ ?_); · omega) | ((with_reducible refine k9q_F ?_ ?_); · omega) | ((with_reducible refine k9q_Tb ?_ ?_); · omega) | ((with_reducible refine k9q_Fb ?_ ?_); · omega) | simp (disch := omega) only [k9e_191_78, Nat.reduceEqDiff, Int.reduceEq, Int.reduceLT, Int.reduceLE, k9_ps_s, k9_ps_n, k9_ur, false_and, and_false, true_and, and_true, true_or, or_true, false_or, or_false, eq_self, ↓reduceIte, not_true_eq_false, not_false_eq_true, n_toInt, n_cl, nI_1, nI_add, n_a0, n_p2, n_p3, n_p4, n_x2, n_x3, n_x4, n_x60, n_x100, n_pm1, k9L_m2, k9L_m1, k9L_0, k9L_1, k9L_2, k9L_3, k9L_4, k9L_5, k9L_6, k9L_7, k9L_8, k9L_9, k9L_10, k9L_20, k9L_23, k9L_24, k9L_30, k9L_40, k9L_50, k9L_60, k9L_99, k9L_100, k9L_120, k9L_255, k9L_999, k9L_1000, k9_bs, k9_ba, hR1.1])
      exact k9o_ret ⟨I1, rfl, hK, hx⟩
    | succ k ih =>
      intro t I1 ht hK hx
      have hR1 : k9_Mr I1 L h c := k9_Mr_fx hx rfl (fun _ => ⟨rfl, rfl, rfl⟩) hR
      have hb := p_sd_b h t
      have hb2 := p_sd_b h (t + 1)
      have hct : p_ct L (min t L) ≤ 100 := p_ct_b (Nat.min_le_right _ _)
      have ho := p_of_b hh (fun t => p_ct_b (Nat.min_le_right t L)) t
      obtain ⟨-, a66, a67⟩ := hR1.2 t (by omega)
      have a67' := (hR1.2 (p_sd h t).2.2 (by omega)).2.2
      have b := hh t
      have b' := hh (p_sd h t).2.2
      obtain ⟨f44, f45, f46, f47, f48⟩ := hK
      have hds : p_ds (h t) (p_ct L (min t L)) ≤ 100 := by
        unfold p_ds
        omega
      -- behind the sum: is it a new stand, is it the longest
      have two : ∀ I2 x3, I2 12 0 44 = nI (p_of h (fun t => p_ct L (min t L)) (t + 1)).1 → I2 12 0 45 = nI (p_of h (fun t => p_ct L (min t L)) (t + 1)).2.1 → I2 12 0 46 = nI (p_of h (fun t => p_ct L (min t L)) (t + 1)).2.2 → I2 12 0 47 = nI (p_sd h t).1 → (0 < t → I2 12 0 48 = nI (p_sd h t).2.1) → k9_fx k9_F44 I I2 → k9_ok (k9_R S d 191 47 [some (k9_r 12 0), some (k9_i (nI (p_sd h t).2.2)), some (k9_i (nI t)), some (k9_i x3)] [] I2 J) (fun q => ∃ I', q = (none, I', J) ∧ k9_Lk I' L h (L + 1) ∧ k9_fx k9_F44 I I') := by
        intro I2 x3 g44 g45 g46 g47 g48 y2
        have hR2 : k9_Mr I2 L h c := k9_Mr_fx y2 rfl (fun _ => ⟨rfl, rfl, rfl⟩) hR
        have c67 := (hR2.2 t (by omega)).2.2
        have c67' := (hR2.2 (p_sd h t).2.2 (by omega)).2.2
        have three : ∀ g : Nat, g = p_sg h t (p_sd h t).2.2 → g ≤ t → k9_ok (k9_R S d 191 58 [some (k9_r 12 0), some (k9_i (nI g)), some (k9_i (nI t)), some (k9_i x3)] [] I2 J) (fun q => ∃ I', q = (none, I', J) ∧ k9_Lk I' L h (L + 1) ∧ k9_fx k9_F44 I I') := by
          intro g hg hgt
          have e1 : (p_sd h (t + 1)).2.2 = g := by rw [p_sd]; exact hg.symm
          refine k9o_eq k9e_191_58 ?_
          by_cases hc : (p_sd h t).1 < t - g + 1
          · have e2 : (p_sd h (t + 1)).1 = t - g + 1 := by rw [p_sd, ← hg]; simp only [if_pos hc]
            have e3 : (p_sd h (t + 1)).2.1 = g := by rw [p_sd, ← hg]; simp only [if_pos hc]
            simp (disch := omega) only [k9e_191_58, k9e_191_66, k9e_191_76, Nat.reduceEqDiff, Int.reduceEq, Int.reduceLT, Int.reduceLE, k9_ps_s, k9_ps_n, k9_ur, false_and, and_false, true_and, and_true, true_or, or_true, false_or, or_false, eq_self, ↓reduceIte, not_true_eq_false, not_false_eq_true, n_toInt, n_cl, nI_1, nI_add, n_a0, n_p2, n_p3, n_p4, n_x2, n_x3, n_x4, n_x60, n_x100, n_pm1, k9L_m2, k9L_m1, k9L_0, k9L_1, k9L_2, k9L_3, k9L_4, k9L_5, k9L_6, k9L_7, k9L_8, k9L_9, k9L_10, k9L_20, k9L_23, k9L_24, k9L_30, k9L_40, k9L_50, k9L_60, k9L_99, k9L_100, k9L_120, k9L_255, k9L_999, k9L_1000, k9_bs, k9_ba, n_sub, g47]
            repeat (first | ((with_reducible refine k9q_T ?_ ?_); · omega) | ((with_reducible refine k9q_F ?_ ?_); · omega) | ((with_reducible refine k9q_Tb ?_ ?_); · omega) | ((with_reducible refine k9q_Fb ?_ ?_); · omega) | simp (disch := omega) only [k9e_191_58, k9e_191_66, k9e_191_76, Nat.reduceEqDiff, Int.reduceEq, Int.reduceLT, Int.reduceLE, k9_ps_s, k9_ps_n, k9_ur, false_and, and_false, true_and, and_true, true_or, or_true, false_or, or_false, eq_self, ↓reduceIte, not_true_eq_false, not_false_eq_true, n_toInt, n_cl, nI_1, nI_add, n_a0, n_p2, n_p3, n_p4, n_x2, n_x3, n_x4, n_x60, n_x100, n_pm1, k9L_m2, k9L_m1, k9L_0, k9L_1, k9L_2, k9L_3, k9L_4, k9L_5, k9L_6, k9L_7, k9L_8, k9L_9, k9L_10, k9L_20, k9L_23, k9L_24, k9L_30, k9L_40, k9L_50, k9L_60, k9L_99, k9L_100, k9L_120, k9L_255, k9L_999, k9L_1000, k9_bs, k9_ba, n_sub, g47])
            rw [← e1]
            refine ih (t + 1) _ (by omega) ⟨?_, ?_, ?_, ?_, fun _ => ?_⟩ (k9_fx_u (k9_fx_u y2 rfl) rfl)
            · simp only [k9_ur, Nat.reduceEqDiff, false_and, and_false, ↓reduceIte]; exact g44
            · simp only [k9_ur, Nat.reduceEqDiff, false_and, and_false, ↓reduceIte]; exact g45
            · simp only [k9_ur, Nat.reduceEqDiff, false_and, and_false, ↓reduceIte]; exact g46
            · simp only [k9_ur, Nat.reduceEqDiff, true_and, and_true, and_false, ↓reduceIte]; rw [e2, e1]
            · simp only [k9_ur, Nat.reduceEqDiff, true_and, and_true, and_false, ↓reduceIte]; rw [e3, e1]
          · have e2 : (p_sd h (t + 1)).1 = (p_sd h t).1 := by rw [p_sd, ← hg]; simp only [if_neg hc]
            have e3 : (p_sd h (t + 1)).2.1 = (p_sd h t).2.1 := by rw [p_sd, ← hg]; simp only [if_neg hc]
            have ht0 : 0 < t := by
              apply Nat.pos_of_ne_zero
              intro z
              omega
            simp (disch := omega) only [k9e_191_58, k9e_191_66, k9e_191_76, Nat.reduceEqDiff, Int.reduceEq, Int.reduceLT, Int.reduceLE, k9_ps_s, k9_ps_n, k9_ur, false_and, and_false, true_and, and_true, true_or, or_true, false_or, or_false, eq_self, ↓reduceIte, not_true_eq_false, not_false_eq_true, n_toInt, n_cl, nI_1, nI_add, n_a0, n_p2, n_p3, n_p4, n_x2, n_x3, n_x4, n_x60, n_x100, n_pm1, k9L_m2, k9L_m1, k9L_0, k9L_1, k9L_2, k9L_3, k9L_4, k9L_5, k9L_6, k9L_7, k9L_8, k9L_9, k9L_10, k9L_20, k9L_23, k9L_24, k9L_30, k9L_40, k9L_50, k9L_60, k9L_99, k9L_100, k9L_120, k9L_255, k9L_999, k9L_1000, k9_bs, k9_ba, n_sub, g47]
            repeat (first | ((with_reducible refine k9q_T ?_ ?_); · omega) | ((with_reducible refine k9q_F ?_ ?_); · omega) | ((with_reducible refine k9q_Tb ?_ ?_); · omega) | ((with_reducible refine k9q_Fb ?_ ?_); · omega) | simp (disch := omega) only [k9e_191_58, k9e_191_66, k9e_191_76, Nat.reduceEqDiff, Int.reduceEq, Int.reduceLT, Int.reduceLE, k9_ps_s, k9_ps_n, k9_ur, false_and, and_false, true_and, and_true, true_or, or_true, false_or, or_false, eq_self, ↓reduceIte, not_true_eq_false, not_false_eq_true, n_toInt, n_cl, nI_1, nI_add, n_a0, n_p2, n_p3, n_p4, n_x2, n_x3, n_x4, n_x60, n_x100, n_pm1, k9L_m2, k9L_m1, k9L_0, k9L_1, k9L_2, k9L_3, k9L_4, k9L_5, k9L_6, k9L_7, k9L_8, k9L_9, k9L_10, k9L_20, k9L_23, k9L_24, k9L_30, k9L_40, k9L_50, k9L_60, k9L_99, k9L_100, k9L_120, k9L_255, k9L_999, k9L_1000, k9_bs, k9_ba, n_sub, g47])
            rw [← e1]
            exact ih (t + 1) _ (by omega) ⟨g44, g45, g46, by rw [e2]; exact g47, fun _ => by rw [e3]; exact g48 ht0⟩ y2
        refine k9o_eq k9e_191_47 (k9o_T (by rw [n_toInt (by omega)]; omega) (k9o_eq k9e_191_51 (k9o_T (by rw [n_toInt (by omega)]; omega) (k9o_eq k9e_191_55 ?_))))
        rw [n_cl (by omega), n_cl (by omega), c67, c67']
        by_cases hs : h t = h (p_sd h t).2.2
        · refine k9o_T (by rw [hs]) ?_
          refine three _ ?_ hb.2.2.1
          rw [p_sg, if_neg]
          rintro ⟨z1, z2⟩
          exact z2 (hs.trans (hb.2.2.2 z1).2.2)
        · refine k9o_F (by rw [n_toInt (by omega), n_toInt (by omega)]; omega) (k9o_eq k9e_191_56 ?_)
          refine three t ?_ (Nat.le_refl _)
          rw [p_sg, if_pos]
          have ht0 : 0 < t := by
            apply Nat.pos_of_ne_zero
            intro z
            subst z
            exact hs rfl
          exact ⟨ht0, fun z => hs (z.trans (hb.2.2.2 ht0).2.2.symm)⟩
      refine k9o_eq k9e_191_16 ?_
      by_cases hc : (p_of h (fun t => p_ct L (min t L)) t).1 < p_ds (h t) (p_ct L (min t L))
      · have e1 : (p_of h (fun t => p_ct L (min t L)) (t + 1)).1 = p_ds (h t) (p_ct L (min t L)) := by rw [p_of]; simp only [if_pos hc]
        have e3 : (p_of h (fun t => p_ct L (min t L)) (t + 1)).2.2 = t := by rw [p_of]; simp only [if_pos hc]
        simp (disch := omega) only [k9e_191_20, k9e_191_24, k9e_191_28, k9e_191_41, Nat.reduceEqDiff, Int.reduceEq, Int.reduceLT, Int.reduceLE, k9_ps_s, k9_ps_n, k9_ur, false_and, and_false, true_and, and_true, true_or, or_true, false_or, or_false, eq_self, ↓reduceIte, not_true_eq_false, not_false_eq_true, n_toInt, n_cl, nI_1, nI_add, n_a0, n_p2, n_p3, n_p4, n_x2, n_x3, n_x4, n_x60, n_x100, n_pm1, k9L_m2, k9L_m1, k9L_0, k9L_1, k9L_2, k9L_3, k9L_4, k9L_5, k9L_6, k9L_7, k9L_8, k9L_9, k9L_10, k9L_20, k9L_23, k9L_24, k9L_30, k9L_40, k9L_50, k9L_60, k9L_99, k9L_100, k9L_120, k9L_255, k9L_999, k9L_1000, k9_bs, k9_ba, hR1.1, a66, a67, n_abs, f44, f45]
        repeat (first | ((with_reducible refine k9q_T ?_ ?_); · omega) | ((with_reducible refine k9q_F ?_ ?_); · omega) | ((with_reducible refine k9q_Tb ?_ ?_); · omega) | ((with_reducible refine k9q_Fb ?_ ?_); · omega) | simp (disch := omega) only [k9e_191_20, k9e_191_24, k9e_191_28, k9e_191_41, Nat.reduceEqDiff, Int.reduceEq, Int.reduceLT, Int.reduceLE, k9_ps_s, k9_ps_n, k9_ur, false_and, and_false, true_and, and_true, true_or, or_true, false_or, or_false, eq_self, ↓reduceIte, not_true_eq_false, not_false_eq_true, n_toInt, n_cl, nI_1, nI_add, n_a0, n_p2, n_p3, n_p4, n_x2, n_x3, n_x4, n_x60, n_x100, n_pm1, k9L_m2, k9L_m1, k9L_0, k9L_1, k9L_2, k9L_3, k9L_4, k9L_5, k9L_6, k9L_7, k9L_8, k9L_9, k9L_10, k9L_20, k9L_23, k9L_24, k9L_30, k9L_40, k9L_50, k9L_60, k9L_99, k9L_100, k9L_120, k9L_255, k9L_999, k9L_1000, k9_bs, k9_ba, hR1.1, a66, a67, n_abs, f44, f45])
        refine two _ _ ?_ ?_ ?_ ?_ ?_ (k9_fx_u (k9_fx_u (k9_fx_u hx rfl) rfl) rfl)
        · simp only [k9_ur, Nat.reduceEqDiff, and_true, and_false, ↓reduceIte]; rw [e1]
        · simp only [k9_ur, Nat.reduceEqDiff, and_true, and_false, ↓reduceIte]; rfl
        · simp only [k9_ur, Nat.reduceEqDiff, and_true, and_false, ↓reduceIte]; rw [e3]
        · simp only [k9_ur, Nat.reduceEqDiff, and_true, and_false, ↓reduceIte]; exact f47
        · simp only [k9_ur, Nat.reduceEqDiff, and_true, and_false, ↓reduceIte]; exact f48
      · have e1 : (p_of h (fun t => p_ct L (min t L)) (t + 1)).1 = (p_of h (fun t => p_ct L (min t L)) t).1 := by rw [p_of]; simp only [if_neg hc]
        have e3 : (p_of h (fun t => p_ct L (min t L)) (t + 1)).2.2 = (p_of h (fun t => p_ct L (min t L)) t).2.2 := by rw [p_of]; simp only [if_neg hc]
        simp (disch := omega) only [k9e_191_20, k9e_191_24, k9e_191_28, k9e_191_41, Nat.reduceEqDiff, Int.reduceEq, Int.reduceLT, Int.reduceLE, k9_ps_s, k9_ps_n, k9_ur, false_and, and_false, true_and, and_true, true_or, or_true, false_or, or_false, eq_self, ↓reduceIte, not_true_eq_false, not_false_eq_true, n_toInt, n_cl, nI_1, nI_add, n_a0, n_p2, n_p3, n_p4, n_x2, n_x3, n_x4, n_x60, n_x100, n_pm1, k9L_m2, k9L_m1, k9L_0, k9L_1, k9L_2, k9L_3, k9L_4, k9L_5, k9L_6, k9L_7, k9L_8, k9L_9, k9L_10, k9L_20, k9L_23, k9L_24, k9L_30, k9L_40, k9L_50, k9L_60, k9L_99, k9L_100, k9L_120, k9L_255, k9L_999, k9L_1000, k9_bs, k9_ba, hR1.1, a66, a67, n_abs, f44, f45]
        repeat (first | ((with_reducible refine k9q_T ?_ ?_); · omega) | ((with_reducible refine k9q_F ?_ ?_); · omega) | ((with_reducible refine k9q_Tb ?_ ?_); · omega) | ((with_reducible refine k9q_Fb ?_ ?_); · omega) | simp (disch := omega) only [k9e_191_20, k9e_191_24, k9e_191_28, k9e_191_41, Nat.reduceEqDiff, Int.reduceEq, Int.reduceLT, Int.reduceLE, k9_ps_s, k9_ps_n, k9_ur, false_and, and_false, true_and, and_true, true_or, or_true, false_or, or_false, eq_self, ↓reduceIte, not_true_eq_false, not_false_eq_true, n_toInt, n_cl, nI_1, nI_add, n_a0, n_p2, n_p3, n_p4, n_x2, n_x3, n_x4, n_x60, n_x100, n_pm1, k9L_m2, k9L_m1, k9L_0, k9L_1, k9L_2, k9L_3, k9L_4, k9L_5, k9L_6, k9L_7, k9L_8, k9L_9, k9L_10, k9L_20, k9L_23, k9L_24, k9L_30, k9L_40, k9L_50, k9L_60, k9L_99, k9L_100, k9L_120, k9L_255, k9L_999, k9L_1000, k9_bs, k9_ba, hR1.1, a66, a67, n_abs, f44, f45])
        refine two _ _ ?_ ?_ ?_ ?_ ?_ (k9_fx_u hx rfl)
        · simp only [k9_ur, Nat.reduceEqDiff, and_true, and_false, ↓reduceIte]; rw [e1]; exact f44
        · simp only [k9_ur, Nat.reduceEqDiff, and_true, and_false, ↓reduceIte]; rfl
        · simp only [k9_ur, Nat.reduceEqDiff, and_true, and_false, ↓reduceIte]; rw [e3]; exact f46
        · simp only [k9_ur, Nat.reduceEqDiff, and_true, and_false, ↓reduceIte]; exact f47
        · simp only [k9_ur, Nat.reduceEqDiff, and_true, and_false, ↓reduceIte]; exact f48
  obtain ⟨q, e, I', rfl, r⟩ := key (L + 1) 0 (k9_u (k9_u (k9_u (k9_u I 12 0 44 0) 12 0 45 0) 12 0 46 0) 12 0 47 0) (by omega) ⟨by simp [k9_ur]; rfl, by simp [k9_ur]; rfl, by simp [k9_ur]; rfl, by simp [k9_ur]; rfl, fun z => by omega⟩ (k9_fx_u (k9_fx_u (k9_fx_u (k9_fx_u (k9_fx_rf _ _) rfl) rfl) rfl) rfl)
  refine ⟨I', ?_, r⟩
  rw [k9e_191_0]
  exact e
end KU3
