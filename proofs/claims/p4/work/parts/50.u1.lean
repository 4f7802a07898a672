/-! THE REFERENCE: runs -/
section KU1
variable {S : k9_S} {d : Nat} {I I' : k9_I} {J J' : k9_J} {w w0 : Nat → Nat → Nat} {V : (Nat → Int32) → Int32} {o : Nat → Nat}
theorem n_mx {b v s t f : Nat} (hb : b ≤ 99) (hv : v ≤ 18) (hs : s ≤ 60) (ht : t ≤ 1000) (hf : f ≤ 1000) : (if (0 : Int32) < (if nI v * (nI t - nI f - nI s) < nI b then nI v * (nI t - nI f - nI s) else nI b) then (if nI v * (nI t - nI f - nI s) < nI b then nI v * (nI t - nI f - nI s) else nI b) else 0) = nI (min b (v * (t - f - s))) := by
  by_cases h : f + s ≤ t
  · rw [n_sub (by omega), n_sub (by omega), n_mul]
    have hm : v * (t - f - s) ≤ 18 * 1000 := Nat.mul_le_mul hv (by omega)
    rw [n_min (a := b) (b := v * (t - f - s)) (by omega) (by omega)]
    by_cases h0 : min b (v * (t - f - s)) = 0
    · rw [h0]
      rfl
    · have hmb : min b (v * (t - f - s)) ≤ b := Nat.min_le_left _ _
      rw [if_pos]
      exact nI_lt (a := 0) (by omega) (by omega)
  · have hz : nI t - nI f - nI s = -nI (f + s - t) := by
      rw [Int32.sub_sub, nI_add, ← n_sub (by omega), Int32.neg_sub]
    rw [hz, Int32.mul_neg, n_mul]
    have hm : v * (f + s - t) ≤ 18 * 1060 := Nat.mul_le_mul hv (by omega)
    have hT := sb_negT (w := v * (f + s - t)) (by omega)
    rw [show t - f - s = 0 by omega, Nat.mul_zero, Nat.min_zero]
    by_cases h1 : -nI (v * (f + s - t)) < nI b
    · rw [if_pos h1, if_neg]
      · rfl
      · rw [Int32.lt_iff_toInt_lt, hT, k9L_0]
        omega
    · rw [if_neg h1]
      have hb0 : b = 0 := by
        rw [Int32.lt_iff_toInt_lt, hT, n_toInt (by omega)] at h1
        omega
      rw [hb0]
      rfl
def p_cs (w : Nat → Nat → Nat) (t : Nat) : Nat → Nat
  | 0 => 0
  | i + 1 => p_cs w t i + if p_st w (i + 1) ≤ t then w 0 i else min (w 0 i) (w 1 i * (t - p_st w i - w 2 i))
def p_fs (w : Nat → Nat → Nat) (t : Nat) : Nat → Nat
  | 0 => 0
  | i + 1 => p_fs w t i + if p_st w (i + 1) ≤ t then w 3 i else 0
def p_ns (w : Nat → Nat → Nat) (t : Nat) : Nat → Nat
  | 0 => 0
  | i + 1 => p_ns w t i + if p_st w (i + 1) ≤ t then 1 else 0
theorem p_cs_eq (w : Nat → Nat → Nat) (t : Nat) : ∀ i, i ≤ w 7 0 → (i ≤ p_dn w t → p_cs w t i = p_sm (w 0) i ∧ p_fs w t i = p_sm (w 3) i ∧ p_ns w t i = i) ∧ (p_dn w t < i → p_cs w t i = p_co w t ∧ p_fs w t i = p_sm (w 3) (p_dn w t) ∧ p_ns w t i = p_dn w t)
  | 0, _ => ⟨fun _ => ⟨rfl, rfl, rfl⟩, fun h => by omega⟩
  | i + 1, hi => by
    obtain ⟨g1, g2, g3⟩ := p_dn_sp w t
    obtain ⟨h1, h2⟩ := p_cs_eq w t i (by omega)
    rw [p_cs, p_fs, p_ns]
    constructor
    · intro h
      have := p_st_mono (w := w) (show i + 1 ≤ p_dn w t from h)
      rw [if_pos (by omega), if_pos (by omega), if_pos (by omega)]
      obtain ⟨a, b, c⟩ := h1 (by omega)
      rw [a, b, c]
      exact ⟨rfl, rfl, rfl⟩
    · intro h
      by_cases e : i = p_dn w t
      · have g3 := g3 (by omega)
        obtain ⟨a, b, c⟩ := h1 (by omega)
        rw [if_neg (by rw [e]; omega), if_neg (by rw [e]; omega), if_neg (by rw [e]; omega), a, b, c, p_co, p_pt, if_pos (by omega), ← e]
        exact ⟨rfl, rfl, rfl⟩
      · have g3 := g3 (by omega)
        have m1 := p_st_mono (w := w) (show p_dn w t + 1 ≤ i by omega)
        have m2 := p_st_mono (w := w) (show i ≤ i + 1 by omega)
        obtain ⟨a, b, c⟩ := h2 (by omega)
        rw [if_neg (by omega), if_neg (by omega), if_neg (by omega), a, b, c, show t - p_st w i - w 2 i = 0 by omega, Nat.mul_zero, Nat.min_zero]
        exact ⟨rfl, rfl, rfl⟩
theorem p_cs_n (w : Nat → Nat → Nat) (t : Nat) : p_cs w t (w 7 0) = p_co w t ∧ p_fs w t (w 7 0) = p_sm (w 3) (p_dn w t) ∧ p_ns w t (w 7 0) = p_dn w t := by
  obtain ⟨g1, g2, g3⟩ := p_dn_sp w t
  obtain ⟨h1, h2⟩ := p_cs_eq w t (w 7 0) (Nat.le_refl _)
  by_cases e : p_dn w t < w 7 0
  · exact h2 e
  · have e : p_dn w t = w 7 0 := by omega
    obtain ⟨a, b, c⟩ := h1 (by omega)
    rw [a, b, c, p_co, p_pt, e, if_neg (by omega)]
    exact ⟨rfl, rfl, rfl⟩
theorem p_cs_b (hf : k9_wf w) (t : Nat) : ∀ i, i ≤ w 7 0 → p_cs w t i ≤ 99 * i ∧ p_fs w t i ≤ 9 * i ∧ p_ns w t i ≤ i
  | 0, _ => ⟨Nat.le_refl _, Nat.le_refl _, Nat.le_refl _⟩
  | i + 1, hi => by
    obtain ⟨h1, h2, h3⟩ := p_cs_b hf t i (by omega)
    obtain ⟨b1, b2, b3, b4, b5, b6⟩ := hf.2.2.2.2 i (by omega)
    have hm : min (w 0 i) (w 1 i * (t - p_st w i - w 2 i)) ≤ w 0 i := Nat.min_le_left _ _
    rw [p_cs, p_fs, p_ns]
    refine ⟨?_, ?_, ?_⟩
    all_goals split <;> omega
/-- the line of pieces -/
def k9_Ln (I : k9_I) (w0 : Nat → Nat → Nat) (o : Nat → Nat) : Prop := ∀ i, i < w0 7 0 → I 63 0 i = nI (o i) ∧ o i < w0 7 0
theorem k9s_188a {Q : k9_A → Prop} {x : Int32} (hM : k9_Wm I w0) (hf : k9_wf w0) (g : k9_ok (k9_R S d 188 26 [some (k9_r 12 0), some (k9_i x), some (k9_i (nI (p_sm (w0 0) (w0 7 0)))), some (k9_i (nI (p_sm (w0 3) (w0 7 0)))), some (k9_i (nI (w0 7 0))), none, none, none, none, none, none, none] [] I J) Q) : k9_ok (k9_R S d 188 6 [some (k9_r 12 0), some (k9_i x), some (k9_i 0), some (k9_i 0), some (k9_i 0), none, none, none, none, none, none, none] [] I J) Q := by
  have h6 := hf.1
  have key : ∀ k p, p + k = w0 7 0 → k9_ok (k9_R S d 188 6 [some (k9_r 12 0), some (k9_i x), some (k9_i (nI (p_sm (w0 0) p))), some (k9_i (nI (p_sm (w0 3) p))), some (k9_i (nI p)), none, none, none, none, none, none, none] [] I J) Q := by
    intro k
    induction k with
    | zero =>
      intro p hp
      obtain rfl : p = w0 7 0 := by omega
      refine k9o_eq k9e_188_6 (k9o_T (by rw [hM.1]; omega) ?_)
      exact g
    | succ k ih =>
      intro p hp
      have hp1 : p < w0 7 0 := by omega
      obtain ⟨a0, a1, a2, a3⟩ := hM.2.2.2.2 p hp1
      refine k9o_eq k9e_188_6 (k9o_F (by rw [hM.1, n_toInt (by omega), n_toInt (by omega)]; omega) ?_)
      simp (disch := omega) only [k9e_188_10, k9e_188_15, k9e_188_22, Nat.reduceEqDiff, Int.reduceEq, Int.reduceLT, Int.reduceLE, k9_ps_s, k9_ps_n, k9_ur, false_and, and_false, true_and, and_true, true_or, or_true, false_or, or_false, eq_self, ↓reduceIte, not_true_eq_false, not_false_eq_true, n_toInt, n_cl, nI_1, nI_add, n_a0, n_p2, n_p3, n_p4, n_x2, n_x3, n_x4, n_x60, n_x100, n_pm1, k9L_m2, k9L_m1, k9L_0, k9L_1, k9L_2, k9L_3, k9L_4, k9L_5, k9L_6, k9L_7, k9L_8, k9L_9, k9L_10, k9L_20, k9L_23, k9L_24, k9L_30, k9L_40, k9L_50, k9L_60, k9L_99, k9L_100, k9L_120, k9L_255, k9L_999, k9L_1000, k9_bs, k9_ba, a0, a3]
      repeat (first | ((with_reducible refine k9q_T ?_ ?_); · omega) | ((with_reducible refine k9q_F ?_ ?_); · omega) | ((with_reducible refine k9q_Tb ?_ ?_); · omega) | ((with_reducible refine k9q_Fb ?_ ?_); · omega) | simp (disch := omega) only [k9e_188_10, k9e_188_15, k9e_188_22, Nat.reduceEqDiff, Int.reduceEq, Int.reduceLT, Int.reduceLE, k9_ps_s, k9_ps_n, k9_ur, false_and, and_false, true_and, and_true, true_or, or_true, false_or, or_false, eq_self, ↓reduceIte, not_true_eq_false, not_false_eq_true, n_toInt, n_cl, nI_1, nI_add, n_a0, n_p2, n_p3, n_p4, n_x2, n_x3, n_x4, n_x60, n_x100, n_pm1, k9L_m2, k9L_m1, k9L_0, k9L_1, k9L_2, k9L_3, k9L_4, k9L_5, k9L_6, k9L_7, k9L_8, k9L_9, k9L_10, k9L_20, k9L_23, k9L_24, k9L_30, k9L_40, k9L_50, k9L_60, k9L_99, k9L_100, k9L_120, k9L_255, k9L_999, k9L_1000, k9_bs, k9_ba, a0, a3])
      exact ih (p + 1) (by omega)
  exact key (w0 7 0) 0 (by omega)
theorem p_st_cm (w0 : Nat → Nat → Nat) (o : Nat → Nat) (i : Nat) : p_st (p_cm w0 o) (i + 1) = p_st (p_cm w0 o) i + p_tk w0 (o i) := rfl
/-- all pieces in one second -/
theorem k9s_188b {Q : k9_A → Prop} {x a b : Int32} {l t : Nat} (hM : k9_Wm I w0) (hf : k9_wf w0) (hL : k9_Ln I w0 o) (ht : t < 1000)
    (g : k9_ok (k9_R S (d + 1) 188 110 [some (k9_r 12 0), some (k9_i x), some (k9_i a), some (k9_i b), some (k9_i (nI l)), some (k9_i (nI t)), some (k9_i (nI (p_co (p_cm w0 o) t))), some (k9_i (nI (p_sm (p_cm w0 o 3) (p_dn (p_cm w0 o) t)))), some (k9_i (nI (p_dn (p_cm w0 o) t))), some (k9_i (nI (p_len (p_cm w0 o)))), some (k9_i (nI (w0 7 0))), none] [] I J) Q) :
    k9_ok (k9_R S (d + 1) 188 47 [some (k9_r 12 0), some (k9_i x), some (k9_i a), some (k9_i b), some (k9_i (nI l)), some (k9_i (nI t)), some (k9_i 0), some (k9_i 0), some (k9_i 0), some (k9_i 0), some (k9_i 0), none] [] I J) Q := by
  have h6 := hf.1
  have hwf : k9_wf (p_cm w0 o) := k9_wf_cm hf (fun k hk => (hL k hk).2)
  obtain ⟨e1, e2, e3⟩ := p_cs_n (p_cm w0 o) t
  have key : ∀ k i, i + k = w0 7 0 → k9_ok (k9_R S (d + 1) 188 47 [some (k9_r 12 0), some (k9_i x), some (k9_i a), some (k9_i b), some (k9_i (nI l)), some (k9_i (nI t)), some (k9_i (nI (p_cs (p_cm w0 o) t i))), some (k9_i (nI (p_fs (p_cm w0 o) t i))), some (k9_i (nI (p_ns (p_cm w0 o) t i))), some (k9_i (nI (p_st (p_cm w0 o) i))), some (k9_i (nI i)), none] [] I J) Q := by
    intro k
    induction k with
    | zero =>
      intro i hi
      obtain rfl : i = w0 7 0 := by omega
      refine k9o_eq k9e_188_47 (k9o_T (by rw [hM.1]; omega) ?_)
      have e1' : p_cs (p_cm w0 o) t (w0 7 0) = _ := e1
      have e2' : p_fs (p_cm w0 o) t (w0 7 0) = _ := e2
      have e3' : p_ns (p_cm w0 o) t (w0 7 0) = _ := e3
      rw [e1', e2', e3']
      exact g
    | succ k ih =>
      intro i hi
      have hi1 : i < w0 7 0 := by omega
      obtain ⟨l1, l2⟩ := hL i hi1
      obtain ⟨a0, a1, a2, a3⟩ := hM.2.2.2.2 (o i) l2
      obtain ⟨b1, b2, b3, b4, b5, b6⟩ := hf.2.2.2.2 (o i) l2
      obtain ⟨c1, c2, c3⟩ := p_cs_b hwf t i (by show i ≤ w0 7 0; omega)
      have s1 : p_st (p_cm w0 o) i ≤ 954 := p_st_b hwf (by show i ≤ w0 7 0; omega)
      have s2 : p_st (p_cm w0 o) (i + 1) ≤ 954 := p_st_b hwf (by show i + 1 ≤ w0 7 0; omega)
      have s3 := p_st_cm w0 o i
      have e := ih (i + 1) (by omega)
      rw [p_cs, p_fs, p_ns] at e
      refine k9o_eq k9e_188_47 (k9o_F (by rw [hM.1, n_toInt (by omega), n_toInt (by omega)]; omega) ?_)
      by_cases c : p_st (p_cm w0 o) (i + 1) ≤ t
      · rw [if_pos c, if_pos c, if_pos c] at e
        simp (disch := omega) only [k9e_188_51, k9e_188_55, k9e_188_60, k9e_188_63, k9e_188_68, k9e_188_75, k9e_188_79, k9e_188_85, k9e_188_89, k9e_188_96, k9e_188_102, k9e_188_106, Nat.reduceEqDiff, Int.reduceEq, Int.reduceLT, Int.reduceLE, k9_ps_s, k9_ps_n, k9_ur, false_and, and_false, true_and, and_true, true_or, or_true, false_or, or_false, eq_self, ↓reduceIte, not_true_eq_false, not_false_eq_true, n_toInt, n_cl, nI_1, nI_add, n_a0, n_p2, n_p3, n_p4, n_x2, n_x3, n_x4, n_x60, n_x100, n_pm1, k9L_m2, k9L_m1, k9L_0, k9L_1, k9L_2, k9L_3, k9L_4, k9L_5, k9L_6, k9L_7, k9L_8, k9L_9, k9L_10, k9L_20, k9L_23, k9L_24, k9L_30, k9L_40, k9L_50, k9L_60, k9L_99, k9L_100, k9L_120, k9L_255, k9L_999, k9L_1000, k9_bs, k9_ba, l1, a0, a1, a2, a3]
        repeat (first | ((with_reducible refine k9q_T ?_ ?_); · omega) | ((with_reducible refine k9q_F ?_ ?_); · omega) | ((with_reducible refine k9q_Tb ?_ ?_); · omega) | ((with_reducible refine k9q_Fb ?_ ?_); · omega) | (refine k9o_call (k9s_184 hM hf l2) ?_; simp (disch := omega) only [k9e_188_51, k9e_188_55, k9e_188_60, k9e_188_63, k9e_188_68, k9e_188_75, k9e_188_79, k9e_188_85, k9e_188_89, k9e_188_96, k9e_188_102, k9e_188_106, Nat.reduceEqDiff, Int.reduceEq, Int.reduceLT, Int.reduceLE, k9_ps_s, k9_ps_n, k9_ur, false_and, and_false, true_and, and_true, true_or, or_true, false_or, or_false, eq_self, ↓reduceIte, not_true_eq_false, not_false_eq_true, n_toInt, n_cl, nI_1, nI_add, n_a0, n_p2, n_p3, n_p4, n_x2, n_x3, n_x4, n_x60, n_x100, n_pm1, k9L_m2, k9L_m1, k9L_0, k9L_1, k9L_2, k9L_3, k9L_4, k9L_5, k9L_6, k9L_7, k9L_8, k9L_9, k9L_10, k9L_20, k9L_23, k9L_24, k9L_30, k9L_40, k9L_50, k9L_60, k9L_99, k9L_100, k9L_120, k9L_255, k9L_999, k9L_1000, k9_bs, k9_ba, l1, a0, a1, a2, a3]) | simp (disch := omega) only [k9e_188_51, k9e_188_55, k9e_188_60, k9e_188_63, k9e_188_68, k9e_188_75, k9e_188_79, k9e_188_85, k9e_188_89, k9e_188_96, k9e_188_102, k9e_188_106, Nat.reduceEqDiff, Int.reduceEq, Int.reduceLT, Int.reduceLE, k9_ps_s, k9_ps_n, k9_ur, false_and, and_false, true_and, and_true, true_or, or_true, false_or, or_false, eq_self, ↓reduceIte, not_true_eq_false, not_false_eq_true, n_toInt, n_cl, nI_1, nI_add, n_a0, n_p2, n_p3, n_p4, n_x2, n_x3, n_x4, n_x60, n_x100, n_pm1, k9L_m2, k9L_m1, k9L_0, k9L_1, k9L_2, k9L_3, k9L_4, k9L_5, k9L_6, k9L_7, k9L_8, k9L_9, k9L_10, k9L_20, k9L_23, k9L_24, k9L_30, k9L_40, k9L_50, k9L_60, k9L_99, k9L_100, k9L_120, k9L_255, k9L_999, k9L_1000, k9_bs, k9_ba, l1, a0, a1, a2, a3])
        exact e
      · rw [if_neg c, if_neg c, if_neg c] at e
        have mx := n_mx (b := w0 0 (o i)) (v := w0 1 (o i)) (s := w0 2 (o i)) (t := t) (f := p_st (p_cm w0 o) i) b2 b4 b5 (by omega) (by omega)
        simp (disch := omega) only [k9e_188_51, k9e_188_55, k9e_188_60, k9e_188_63, k9e_188_68, k9e_188_75, k9e_188_79, k9e_188_85, k9e_188_89, k9e_188_96, k9e_188_102, k9e_188_106, Nat.reduceEqDiff, Int.reduceEq, Int.reduceLT, Int.reduceLE, k9_ps_s, k9_ps_n, k9_ur, false_and, and_false, true_and, and_true, true_or, or_true, false_or, or_false, eq_self, ↓reduceIte, not_true_eq_false, not_false_eq_true, n_toInt, n_cl, nI_1, nI_add, n_a0, n_p2, n_p3, n_p4, n_x2, n_x3, n_x4, n_x60, n_x100, n_pm1, k9L_m2, k9L_m1, k9L_0, k9L_1, k9L_2, k9L_3, k9L_4, k9L_5, k9L_6, k9L_7, k9L_8, k9L_9, k9L_10, k9L_20, k9L_23, k9L_24, k9L_30, k9L_40, k9L_50, k9L_60, k9L_99, k9L_100, k9L_120, k9L_255, k9L_999, k9L_1000, k9_bs, k9_ba, l1, a0, a1, a2, a3, mx]
        repeat (first | ((with_reducible refine k9q_T ?_ ?_); · omega) | ((with_reducible refine k9q_F ?_ ?_); · omega) | ((with_reducible refine k9q_Tb ?_ ?_); · omega) | ((with_reducible refine k9q_Fb ?_ ?_); · omega) | (refine k9o_call (k9s_184 hM hf l2) ?_; simp (disch := omega) only [k9e_188_51, k9e_188_55, k9e_188_60, k9e_188_63, k9e_188_68, k9e_188_75, k9e_188_79, k9e_188_85, k9e_188_89, k9e_188_96, k9e_188_102, k9e_188_106, Nat.reduceEqDiff, Int.reduceEq, Int.reduceLT, Int.reduceLE, k9_ps_s, k9_ps_n, k9_ur, false_and, and_false, true_and, and_true, true_or, or_true, false_or, or_false, eq_self, ↓reduceIte, not_true_eq_false, not_false_eq_true, n_toInt, n_cl, nI_1, nI_add, n_a0, n_p2, n_p3, n_p4, n_x2, n_x3, n_x4, n_x60, n_x100, n_pm1, k9L_m2, k9L_m1, k9L_0, k9L_1, k9L_2, k9L_3, k9L_4, k9L_5, k9L_6, k9L_7, k9L_8, k9L_9, k9L_10, k9L_20, k9L_23, k9L_24, k9L_30, k9L_40, k9L_50, k9L_60, k9L_99, k9L_100, k9L_120, k9L_255, k9L_999, k9L_1000, k9_bs, k9_ba, l1, a0, a1, a2, a3, mx]) | simp (disch := omega) only [k9e_188_51, k9e_188_55, k9e_188_60, k9e_188_63, k9e_188_68, k9e_188_75, k9e_188_79, k9e_188_85, k9e_188_89, k9e_188_96, k9e_188_102, k9e_188_106, Nat.reduceEqDiff, Int.reduceEq, Int.reduceLT, Int.reduceLE, k9_ps_s, k9_ps_n, k9_ur, false_and, and_false, true_and, and_true, true_or, or_true, false_or, or_false, eq_self, ↓reduceIte, not_true_eq_false, not_false_eq_true, n_toInt, n_cl, nI_1, nI_add, n_a0, n_p2, n_p3, n_p4, n_x2, n_x3, n_x4, n_x60, n_x100, n_pm1, k9L_m2, k9L_m1, k9L_0, k9L_1, k9L_2, k9L_3, k9L_4, k9L_5, k9L_6, k9L_7, k9L_8, k9L_9, k9L_10, k9L_20, k9L_23, k9L_24, k9L_30, k9L_40, k9L_50, k9L_60, k9L_99, k9L_100, k9L_120, k9L_255, k9L_999, k9L_1000, k9_bs, k9_ba, l1, a0, a1, a2, a3, mx])
        exact e
  exact key (w0 7 0) 0 (by omega)
theorem k9s_186 {a b : Nat} (ha : a ≤ 10000) (hb : b ≤ 10000) : k9_R S d 186 0 [some (k9_i (nI a)), some (k9_i (nI b))] [] I J = some (some (k9_i (nI (p_ct b a))), I, J) := by
  refine k9o_of ?_
  unfold p_ct
  by_cases h : b = 0
  · subst h
    simp (disch := omega) only [k9e_186_0, k9e_186_2, k9e_186_4, k9e_186_9, Nat.reduceEqDiff, Int.reduceEq, Int.reduceLT, Int.reduceLE, k9_ps_s, k9_ps_n, k9_ur, false_and, and_false, true_and, and_true, true_or, or_true, false_or, or_false, eq_self, ↓reduceIte, not_true_eq_false, not_false_eq_true, n_toInt, n_cl, nI_1, nI_add, n_a0, n_p2, n_p3, n_p4, n_x2, n_x3, n_x4, n_x60, n_x100, n_pm1, k9L_m2, k9L_m1, k9L_0, k9L_1, k9L_2, k9L_3, k9L_4, k9L_5, k9L_6, k9L_7, k9L_8, k9L_9, k9L_10, k9L_20, k9L_23, k9L_24, k9L_30, k9L_40, k9L_50, k9L_60, k9L_99, k9L_100, k9L_120, k9L_255, k9L_999, k9L_1000, k9_bs, k9_ba]
    repeat (first | ((with_reducible refine k9q_T ?_ ?_); · omega) | ((with_reducible refine k9q_F ?_ ?_); · omega) | ((with_reducible refine k9q_Tb ?_ ?_); · omega) | ((with_reducible refine k9q_Fb ?_ ?_); · omega) | simp (disch := omega) only [k9e_186_0, k9e_186_2, k9e_186_4, k9e_186_9, Nat.reduceEqDiff, Int.reduceEq, Int.reduceLT, Int.reduceLE, k9_ps_s, k9_ps_n, k9_ur, false_and, and_false, true_and, and_true, true_or, or_true, false_or, or_false, eq_self, ↓reduceIte, not_true_eq_false, not_false_eq_true, n_toInt, n_cl, nI_1, nI_add, n_a0, n_p2, n_p3, n_p4, n_x2, n_x3, n_x4, n_x60, n_x100, n_pm1, k9L_m2, k9L_m1, k9L_0, k9L_1, k9L_2, k9L_3, k9L_4, k9L_5, k9L_6, k9L_7, k9L_8, k9L_9, k9L_10, k9L_20, k9L_23, k9L_24, k9L_30, k9L_40, k9L_50, k9L_60, k9L_99, k9L_100, k9L_120, k9L_255, k9L_999, k9L_1000, k9_bs, k9_ba])
    exact k9o_ret rfl
  · rw [if_neg h, Nat.mul_comm a 100]
    simp (disch := omega) only [k9e_186_0, k9e_186_2, k9e_186_4, k9e_186_9, Nat.reduceEqDiff, Int.reduceEq, Int.reduceLT, Int.reduceLE, k9_ps_s, k9_ps_n, k9_ur, false_and, and_false, true_and, and_true, true_or, or_true, false_or, or_false, eq_self, ↓reduceIte, not_true_eq_false, not_false_eq_true, n_toInt, n_cl, nI_1, nI_add, n_a0, n_p2, n_p3, n_p4, n_x2, n_x3, n_x4, n_x60, n_x100, n_pm1, k9L_m2, k9L_m1, k9L_0, k9L_1, k9L_2, k9L_3, k9L_4, k9L_5, k9L_6, k9L_7, k9L_8, k9L_9, k9L_10, k9L_20, k9L_23, k9L_24, k9L_30, k9L_40, k9L_50, k9L_60, k9L_99, k9L_100, k9L_120, k9L_255, k9L_999, k9L_1000, k9_bs, k9_ba]
    repeat (first | ((with_reducible refine k9q_T ?_ ?_); · omega) | ((with_reducible refine k9q_F ?_ ?_); · omega) | ((with_reducible refine k9q_Tb ?_ ?_); · omega) | ((with_reducible refine k9q_Fb ?_ ?_); · omega) | simp (disch := omega) only [k9e_186_0, k9e_186_2, k9e_186_4, k9e_186_9, Nat.reduceEqDiff, Int.reduceEq, Int.reduceLT, Int.reduceLE, k9_ps_s, k9_ps_n, k9_ur, false_and, and_false, true_and, and_true, true_or, or_true, false_or, or_false, eq_self, ↓reduceIte, not_true_eq_false, not_false_eq_true, n_toInt, n_cl, nI_1, nI_add, n_a0, n_p2, n_p3, n_p4, n_x2, n_x3, n_x4, n_x60, n_x100, n_pm1, k9L_m2, k9L_m1, k9L_0, k9L_1, k9L_2, k9L_3, k9L_4, k9L_5, k9L_6, k9L_7, k9L_8, k9L_9, k9L_10, k9L_20, k9L_23, k9L_24, k9L_30, k9L_40, k9L_50, k9L_60, k9L_99, k9L_100, k9L_120, k9L_255, k9L_999, k9L_1000, k9_bs, k9_ba])
    rw [n_div (by omega) (by omega) (by omega)]
    exact k9o_ret rfl
end KU1
