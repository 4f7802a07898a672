/-! SEEN: stuck, speed -/
section KT23
variable {S : k9_S} {d : Nat} {I I' : k9_I} {J J' : k9_J} {w : Nat → Nat → Nat} {V : (Nat → Int32) → Int32} {b : Nat} {x1 x2 x3 : Int32} {h c : Nat → Nat} {L A f M : Nat}
/-- of the reference: its scratch, and one number of a piece -/
def k9_F3 (kk p0 k i p : Nat) : Bool := k9_Fq k i p || (Nat.beq k kk && Nat.beq i 0 && Nat.beq p p0)
theorem k9_F3_q {kk p0 : Nat} {I1 I2 : k9_I} (h : k9_fx k9_Fq I1 I2) : k9_fx (k9_F3 kk p0) I1 I2 := k9_fx_w h (fun k i p e => by
  unfold k9_F3 at e
  exact (Bool.or_eq_false_iff.mp e).1)
theorem k9_F3_t (kk p0 : Nat) : k9_F3 kk p0 kk 0 p0 = true := by
  unfold k9_F3
  rw [k9_beq_self p0, k9_beq_self kk]
  simp [k9_beq_self]
theorem k9_F3_o {kk p0 k i p : Nat} (h : k9_Fq k i p = false) (hk : ¬ (k = kk ∧ i = 0 ∧ p = p0)) : k9_F3 kk p0 k i p = false := by
  unfold k9_F3
  rw [h, Bool.false_or]
  cases hb : (Nat.beq k kk && Nat.beq i 0 && Nat.beq p p0) with
  | false => rfl
  | true =>
    simp only [Bool.and_eq_true] at hb
    exact absurd ⟨k9_beq_of hb.1.1, k9_beq_of hb.1.2, k9_beq_of hb.2⟩ hk
theorem k9_F3_e {kk p0 : Nat} (h : k9_fx (k9_F3 kk p0) I I') : k9_fp (k9_Xs []) I (k9_u I' kk 0 p0 (I kk 0 p0)) := by
  intro k i p e
  rw [k9_ur]
  by_cases c : k = kk ∧ i = 0 ∧ p = p0
  · obtain ⟨rfl, rfl, rfl⟩ := c
    rw [if_pos ⟨rfl, rfl, rfl⟩]
  · rw [if_neg c]
    refine h k i p (k9_F3_o ?_ c)
    cases hq : k9_Fq k i p with
    | true =>
      have hx := k9_Fq_X (X := k9_Xs []) rfl k i p hq
      rw [hx] at e
      cases e
    | false => rfl
theorem k9_Wm_3 {I1 : k9_I} {q p m : Nat} (hM : k9_Wm I w) (hx : k9_fx (k9_F3 (40 + q) p) I I1) (hq : q = 1 ∨ q = 2) : k9_Wm (k9_u I1 (40 + q) 0 p (nI m)) (p_up w q p m) := by
  obtain ⟨a0, a1, a2, a3, a4⟩ := hM
  have r : ∀ k p', (k = 12 ∧ p' = 0) ∨ k = 44 ∨ ((k = 40 ∨ k = 41 ∨ k = 42 ∨ k = 43) ∧ (k ≠ 40 + q ∨ p' ≠ p)) → I1 k 0 p' = I k 0 p' := by
    intro k p' hk
    refine hx k 0 p' (k9_F3_o ?_ (by omega))
    rcases hk with ⟨rfl, rfl⟩ | rfl | ⟨rfl | rfl | rfl | rfl, -⟩ <;> rfl
  refine ⟨?_, ?_, ?_, ?_, fun p' hp' => ?_⟩
  · rw [k9_ur, if_neg (by omega), r 12 0 (by omega), a0, p_up, if_neg (by omega)]
  · rw [k9_ur, if_neg (by omega), r 44 0 (by omega), a1, p_up, if_neg (by omega)]
  · rw [k9_ur, if_neg (by omega), r 44 1 (by omega), a2, p_up, if_neg (by omega)]
  · rw [k9_ur, if_neg (by omega), r 44 2 (by omega), a3, p_up, if_neg (by omega)]
  · have hp2 : p' < w 7 0 := by
      have e : p_up w q p m 7 0 = w 7 0 := by rw [p_up, if_neg (by omega)]
      omega
    obtain ⟨b0, b1, b2, b3⟩ := a4 p' hp2
    refine ⟨?_, ?_, ?_, ?_⟩
    · rw [k9_ur, if_neg (by omega), r 40 p' (by omega), b0, p_up, if_neg (by omega)]
    · by_cases c : 1 = q ∧ p' = p
      · rw [k9_ur, if_pos (by omega), p_up, if_pos (by omega)]
      · rw [k9_ur, if_neg (by omega), r 41 p' (by omega), b1, p_up, if_neg (by omega)]
    · by_cases c : 2 = q ∧ p' = p
      · rw [k9_ur, if_pos (by omega), p_up, if_pos (by omega)]
      · rw [k9_ur, if_neg (by omega), r 42 p' (by omega), b2, p_up, if_neg (by omega)]
    · rw [k9_ur, if_neg (by omega), r 43 p' (by omega), b3, p_up, if_neg (by omega)]
theorem k9_Fq_4x {k : Nat} (hk : k = 41 ∨ k = 42) (i p : Nat) : k9_Fq k i p = false := by
  rcases hk with rfl | rfl <;> rfl
theorem k9_run3 {I1 : k9_I} {q p m : Nat} (v : k9_Iv I J w V b) (hx : k9_fx (k9_F3 (40 + q) p) I I1) (hq : q = 1 ∨ q = 2) (hp : p < w 7 0) (h1 : p_lo q ≤ m) (h2 : m ≤ p_hi q) : ∃ I2, k9_R S (d + 5) 190 0 [some (k9_r 12 0)] [] (k9_u I1 (40 + q) 0 p (nI m)) J = some (none, I2, J) ∧ k9_Mr I2 (p_len (p_up w q p m)) (p_sh (p_up w q p m) (p_tt (p_up w q p m)) V) (p_co (p_up w q p m)) ∧ k9_fx (k9_F3 (40 + q) p) I I2 := by
  have hM := k9_Wm_3 (m := m) v.1.2.1 hx hq
  have hwf : k9_wf (p_up w q p m) := k9_wf_up v.1.2.2.1 (Or.inl ⟨by omega, hp⟩) h1 h2
  have hx1 : k9_fx (k9_F3 (40 + q) p) I (k9_u I1 (40 + q) 0 p (nI m)) := k9_fx_u hx (k9_F3_t _ _)
  have o : ∀ k p', (k = 12 ∧ (p' = 8 ∨ p' = 9)) ∨ k = 46 ∨ k = 47 ∨ k = 48 ∨ k = 49 → k9_F3 (40 + q) p k 0 p' = false := by
    intro k p' hk
    refine k9_F3_o ?_ (by omega)
    rcases hk with ⟨rfl, rfl | rfl⟩ | rfl | rfl | rfl | rfl <;> rfl
  have hV : k9_ML (k9_u I1 (40 + q) 0 p (nI m)) V := k9_ML_x hx1 ⟨o _ _ (by omega), o _ _ (by omega), fun _ => o _ _ (by omega), fun _ => o _ _ (by omega), fun _ => o _ _ (by omega), fun _ => o _ _ (by omega)⟩ v.2.2.1.2
  obtain ⟨I2, e2, m2, x2⟩ := k9s_190 (S := S) (d := d) (J := J) hM hwf hV
  exact ⟨I2, e2, m2, k9_fx_tr hx1 (k9_F3_q x2)⟩
def p_lv (g : Nat → Int32) : Nat → Nat → Int32
  | 0, _ => -2
  | k + 1, v => if g v = -2 then nI v else p_lv g k (v + 1)
/-- by which number of a piece the row is shown -/
def p_gv (w : Nat → Nat → Nat) (V : (Nat → Int32) → Int32) (r : Nat → Int32) (t z q p v : Nat) : Int32 := p_fu (p_sh (p_up w q p v) (p_tt (p_up w q p v)) V) r t z 0
theorem p_lo_hi (q : Nat) : p_lo q ≤ p_hi q := by
  have := p_lo_b q
  have := p_hi_b q
  omega
theorem k9s_152 {s z t q p : Nat} (v : k9_Iv I J w V b) (hz : k9_byr I s z) (ht : t ≤ 999) (hq : q = 1 ∨ q = 2) (hp : p < w 7 0) : ∃ I', k9_R S (d + 8) 152 0 [some (k9_r 1 0), some (k9_i (nI p)), some (k9_i (nI q)), some (k9_r 11 s), some (k9_i (nI t)), none, none] [] I J = some (some (k9_i (p_lv (p_gv w V (fun i => (J 37 s i).toInt32) t z q p) (p_hi q + 1 - p_lo q) (p_lo q))), I', J) ∧ k9_fx k9_Ft I I' := by
  have hf := v.1.2.2.1
  have h6 := hf.1
  have hb := p_hi_b q
  have hl := p_lo_hi q
  obtain ⟨I1, e1, w1, x1'⟩ := k9s_15 (S := S) (d := d + 5) (I := I) (J := J) (i0 := 1) (i1 := 0) (by decide) v.1.1 hf
  have key : ∀ k u I2, u + k = p_hi q + 1 → p_lo q ≤ u → (∃ a, k9_Wk I2 1 (p_up w q p a)) → k9_fx k9_Ft I I2 → ∃ I3, k9_R S (d + 8) 152 13 [some (k9_r 1 0), some (k9_i (nI p)), some (k9_i (nI q)), some (k9_r 11 s), some (k9_i (nI t)), some (k9_i (nI (p_hi q))), some (k9_i (nI u))] [] I2 J = some (some (k9_i (p_lv (p_gv w V (fun i => (J 37 s i).toInt32) t z q p) k u)), I3, J) ∧ k9_fx k9_Ft I I3 := by
    intro k
    induction k with
    | zero =>
      intro u I2 hu hlu ha hx
      refine ⟨I2, k9o_of (k9o_eq k9e_152_13 (k9o_T (by rw [n_toInt (by omega), n_toInt (by omega)]; omega) (k9o_eq k9e_152_32 (k9o_ret rfl)))), hx⟩
    | succ k ih =>
      intro u I2 hu hlu ha hx
      obtain ⟨a, ha⟩ := ha
      have hc : I2 3 1 0 = nI (p_up w q p a 7 0) := ha.1
      have hh : p_has (p_up w q p a) p q := by
        unfold p_has
        rw [p_up_7 (Or.inl ⟨by omega, hp⟩)]
        exact Or.inl ⟨by omega, hp⟩
      have hfa : ∃ a', a' ≤ p_hi q ∧ p_lo q ≤ a' := ⟨p_hi q, Nat.le_refl _, hl⟩
      -- the count alone is asked for by set
      have e6 : k9_R S (d + 7) 6 0 [some (k9_r 3 1), some (k9_i (nI p)), some (k9_i (nI q)), some (k9_i (nI u))] [] I2 J = some (none, k9_u I2 (p_sk q) 1 (p_sp q p) (nI u), J) := by
        have hc' : I2 3 1 0 = nI (w 7 0) := hc.trans (by rw [p_up_7 (Or.inl ⟨by omega, hp⟩)])
        exact k9s_6 (w := w) (d := d + 5) hc' hf (Or.inl ⟨by omega, hp⟩)
      have hW2 := k9_Wk_up (v := u) ha hh
      rw [p_up_up] at hW2
      have hwf : k9_wf (p_up w q p u) := k9_wf_up hf (Or.inl ⟨by omega, hp⟩) hlu (by omega)
      have hx2 : k9_fx k9_Ft I (k9_u I2 (p_sk q) 1 (p_sp q p) (nI u)) := by
        refine k9_fx_u hx ?_
        rcases hq with rfl | rfl <;> rfl
      obtain ⟨I3, e3, x3⟩ := k9s_151 (S := S) (d := d + 1) (J := J) (t := t) hW2 hwf (k9_CL_t hx2 v.2.2.1.1) (k9_by_x hx2 hz) ht
      have hg : p_fu (p_sh (p_up w q p u) (p_tt (p_up w q p u)) V) (fun i => (J 37 s i).toInt32) t z 0 = p_gv w V (fun i => (J 37 s i).toInt32) t z q p u := rfl
      rw [hg] at e3
      have hx3 := k9_fx_tr hx2 (k9_Ft_b x3)
      rw [p_lv]
      by_cases c : p_gv w V (fun i => (J 37 s i).toInt32) t z q p u = -2
      · rw [if_pos c] at e3 ⊢
        refine ⟨I3, k9o_of ?_, hx3⟩
        refine k9o_eq k9e_152_13 (k9o_F (by rw [n_toInt (by omega), n_toInt (by omega)]; omega) (k9o_eq k9e_152_16 (k9o_call e6 ?_)))
        simp only [k9_ps_n]
        refine k9o_eq k9e_152_23 (k9o_call e3 ?_)
        simp only [k9_ps_s]
        exact k9o_eq k9e_152_27 (k9o_F (by decide) (k9o_eq k9e_152_28 (k9o_ret rfl)))
      · rw [if_neg c] at e3 ⊢
        obtain ⟨I4, o4, x4⟩ := ih (u + 1) I3 (by omega) (by omega) ⟨u, k9_Wk_fx x3 (fun _ => ⟨rfl, rfl, rfl, rfl, rfl⟩) hW2⟩ hx3
        refine ⟨I4, k9o_of ?_, x4⟩
        refine k9o_eq k9e_152_13 (k9o_F (by rw [n_toInt (by omega), n_toInt (by omega)]; omega) (k9o_eq k9e_152_16 (k9o_call e6 ?_)))
        simp only [k9_ps_n]
        refine k9o_eq k9e_152_23 (k9o_call e3 ?_)
        simp only [k9_ps_s]
        refine k9o_eq k9e_152_27 (k9o_T (by decide) (k9o_eq k9e_152_30 ?_))
        rw [nI_1]
        exact k9o_to o4 rfl
  obtain ⟨I2, o2, x2⟩ := key (p_hi q + 1 - p_lo q) (p_lo q) I1 (by omega) (Nat.le_refl _) ⟨w q p, by rw [p_up_id]; exact w1⟩ (k9_Ft_w x1')
  refine ⟨I2, k9o_of ?_, x2⟩
  refine k9o_eq k9e_152_0 (k9o_call e1 ?_)
  simp only [k9_ps_n]
  refine k9o_eq k9e_152_7 (k9o_call (k9s_2 (by omega)) ?_)
  simp only [k9_ps_s]
  refine k9o_eq k9e_152_9 (k9o_call (k9s_1 (by omega)) ?_)
  simp only [k9_ps_s]
  exact k9o_eq k9e_152_12 (k9o_to o2 rfl)
theorem t_speed (hI : k9_Inv I J) : k9_P S (d + 20) 124 221 [some (k9_r 1 0), some (k9_i x1), some (k9_i x2), some (k9_i x3), none] [some (k9_r 12 0), some (k9_i x1), some (k9_i x2), some (k9_i x3), none, none, none, none] I J k9_Inv := by
  have hI' := hI
  obtain ⟨w, V, b, v⟩ := hI
  have v : k9_Iv I J w V b := v
  have hf := v.1.2.2.1
  have h6 := hf.1
  have hb := v.2.2.2.2.1.1
  have v6 := v.2.2.2.2.2.1
  have hW := v.1.1
  have hM := v.1.2.1
  refine k9P_of ?_
  by_cases h1 : 0 ≤ x1.toInt ∧ x1.toInt ≤ 5
  · by_cases h2 : 0 ≤ x2.toInt ∧ x2.toInt ≤ 999
    · by_cases h3 : 0 ≤ x3.toInt ∧ x3.toInt < w 7 0
      · obtain ⟨s, rfl, hs, -⟩ := n_of (x := x1) (by omega)
        obtain ⟨t, rfl, ht, -⟩ := n_of (x := x2) (by omega)
        obtain ⟨p, rfl, hp, -⟩ := n_of (x := x3) (by omega)
        have hs6 : s < 6 := by omega
        have hp7 : p < w 7 0 := by omega
        have hhas : p_has w p 1 := Or.inl ⟨by omega, hp7⟩
        rcases k9_byrs hb (v6.1 s hs6) with ⟨z, hz⟩ | ⟨r, hr⟩
        · obtain ⟨I1, e1, x1'⟩ := k9s_152 (S := S) (d := d + 11) (s := s) (z := z) (t := t) (q := 1) (p := p) v hz (by omega) (Or.inl rfl) hp7
          have i1 : k9_Iv I1 J w V b := k9_Iv_0 (k9_fp_x x1' (k9_Ft_X rfl)) v
          have by1 := k9_by_x x1' hz
          have hM1 := i1.1.2.1
          obtain ⟨g, hg⟩ : ∃ g, g = p_gv w V (fun i => (J 37 s i).toInt32) t z 1 p := ⟨_, rfl⟩
          rw [← hg] at e1
          simp (disch := omega) only [k9e_124_0, k9e_124_3, k9e_124_3b, k9e_124_8, k9e_124_9, k9e_124_15, k9e_124_16, k9e_124_16b, k9e_124_18, k9e_124_20, k9e_124_21, k9e_124_27, k9e_124_28, k9e_124_30, k9e_144_0, k9e_144_2, k9e_144_5, k9e_144_9, k9e_144_10, k9e_144_11, k9e_144_11b, k9e_145_0, k9e_145_2, k9e_145_5, k9e_145_7, k9e_145_8, Nat.reduceEqDiff, Int.reduceEq, Int.reduceLT, Int.reduceLE, k9_ps_s, k9_ps_n, k9_ur, false_and, and_false, true_and, and_true, true_or, or_true, false_or, or_false, eq_self, ↓reduceIte, not_true_eq_false, not_false_eq_true, n_toInt, n_cl, nI_1, nI_add, n_a0, n_p2, n_p3, n_p4, n_x2, n_x3, n_x4, n_x60, n_x100, n_pm1, k9L_m2, k9L_m1, k9L_0, k9L_1, k9L_2, k9L_3, k9L_4, k9L_5, k9L_6, k9L_7, k9L_8, k9L_9, k9L_10, k9L_20, k9L_23, k9L_24, k9L_30, k9L_40, k9L_50, k9L_60, k9L_99, k9L_100, k9L_120, k9L_255, k9L_999, k9L_1000, k9_bs, k9_ba]
          repeat (first | ((with_reducible refine k9q_T ?_ ?_); · omega) | ((with_reducible refine k9q_F ?_ ?_); · omega) | ((with_reducible refine k9q_Tb ?_ ?_); · omega) | ((with_reducible refine k9q_Fb ?_ ?_); · omega) | (refine k9o_call (k9s_4 (q := 1) hW.1 hf hhas) ?_; simp (disch := omega) only [k9e_124_0, k9e_124_3, k9e_124_3b, k9e_124_8, k9e_124_9, k9e_124_15, k9e_124_16, k9e_124_16b, k9e_124_18, k9e_124_20, k9e_124_21, k9e_124_27, k9e_124_28, k9e_124_30, k9e_144_0, k9e_144_2, k9e_144_5, k9e_144_9, k9e_144_10, k9e_144_11, k9e_144_11b, k9e_145_0, k9e_145_2, k9e_145_5, k9e_145_7, k9e_145_8, Nat.reduceEqDiff, Int.reduceEq, Int.reduceLT, Int.reduceLE, k9_ps_s, k9_ps_n, k9_ur, false_and, and_false, true_and, and_true, true_or, or_true, false_or, or_false, eq_self, ↓reduceIte, not_true_eq_false, not_false_eq_true, n_toInt, n_cl, nI_1, nI_add, n_a0, n_p2, n_p3, n_p4, n_x2, n_x3, n_x4, n_x60, n_x100, n_pm1, k9L_m2, k9L_m1, k9L_0, k9L_1, k9L_2, k9L_3, k9L_4, k9L_5, k9L_6, k9L_7, k9L_8, k9L_9, k9L_10, k9L_20, k9L_23, k9L_24, k9L_30, k9L_40, k9L_50, k9L_60, k9L_99, k9L_100, k9L_120, k9L_255, k9L_999, k9L_1000, k9_bs, k9_ba]) | (refine k9o_call (k9s_91 hz) ?_; simp (disch := omega) only [k9e_124_0, k9e_124_3, k9e_124_3b, k9e_124_8, k9e_124_9, k9e_124_15, k9e_124_16, k9e_124_16b, k9e_124_18, k9e_124_20, k9e_124_21, k9e_124_27, k9e_124_28, k9e_124_30, k9e_144_0, k9e_144_2, k9e_144_5, k9e_144_9, k9e_144_10, k9e_144_11, k9e_144_11b, k9e_145_0, k9e_145_2, k9e_145_5, k9e_145_7, k9e_145_8, Nat.reduceEqDiff, Int.reduceEq, Int.reduceLT, Int.reduceLE, k9_ps_s, k9_ps_n, k9_ur, false_and, and_false, true_and, and_true, true_or, or_true, false_or, or_false, eq_self, ↓reduceIte, not_true_eq_false, not_false_eq_true, n_toInt, n_cl, nI_1, nI_add, n_a0, n_p2, n_p3, n_p4, n_x2, n_x3, n_x4, n_x60, n_x100, n_pm1, k9L_m2, k9L_m1, k9L_0, k9L_1, k9L_2, k9L_3, k9L_4, k9L_5, k9L_6, k9L_7, k9L_8, k9L_9, k9L_10, k9L_20, k9L_23, k9L_24, k9L_30, k9L_40, k9L_50, k9L_60, k9L_99, k9L_100, k9L_120, k9L_255, k9L_999, k9L_1000, k9_bs, k9_ba]) | (refine k9o_call (e1) ?_; simp (disch := omega) only [k9e_124_0, k9e_124_3, k9e_124_3b, k9e_124_8, k9e_124_9, k9e_124_15, k9e_124_16, k9e_124_16b, k9e_124_18, k9e_124_20, k9e_124_21, k9e_124_27, k9e_124_28, k9e_124_30, k9e_144_0, k9e_144_2, k9e_144_5, k9e_144_9, k9e_144_10, k9e_144_11, k9e_144_11b, k9e_145_0, k9e_145_2, k9e_145_5, k9e_145_7, k9e_145_8, Nat.reduceEqDiff, Int.reduceEq, Int.reduceLT, Int.reduceLE, k9_ps_s, k9_ps_n, k9_ur, false_and, and_false, true_and, and_true, true_or, or_true, false_or, or_false, eq_self, ↓reduceIte, not_true_eq_false, not_false_eq_true, n_toInt, n_cl, nI_1, nI_add, n_a0, n_p2, n_p3, n_p4, n_x2, n_x3, n_x4, n_x60, n_x100, n_pm1, k9L_m2, k9L_m1, k9L_0, k9L_1, k9L_2, k9L_3, k9L_4, k9L_5, k9L_6, k9L_7, k9L_8, k9L_9, k9L_10, k9L_20, k9L_23, k9L_24, k9L_30, k9L_40, k9L_50, k9L_60, k9L_99, k9L_100, k9L_120, k9L_255, k9L_999, k9L_1000, k9_bs, k9_ba]) | simp (disch := omega) only [k9e_124_0, k9e_124_3, k9e_124_3b, k9e_124_8, k9e_124_9, k9e_124_15, k9e_124_16, k9e_124_16b, k9e_124_18, k9e_124_20, k9e_124_21, k9e_124_27, k9e_124_28, k9e_124_30, k9e_144_0, k9e_144_2, k9e_144_5, k9e_144_9, k9e_144_10, k9e_144_11, k9e_144_11b, k9e_145_0, k9e_145_2, k9e_145_5, k9e_145_7, k9e_145_8, Nat.reduceEqDiff, Int.reduceEq, Int.reduceLT, Int.reduceLE, k9_ps_s, k9_ps_n, k9_ur, false_and, and_false, true_and, and_true, true_or, or_true, false_or, or_false, eq_self, ↓reduceIte, not_true_eq_false, not_false_eq_true, n_toInt, n_cl, nI_1, nI_add, n_a0, n_p2, n_p3, n_p4, n_x2, n_x3, n_x4, n_x60, n_x100, n_pm1, k9L_m2, k9L_m1, k9L_0, k9L_1, k9L_2, k9L_3, k9L_4, k9L_5, k9L_6, k9L_7, k9L_8, k9L_9, k9L_10, k9L_20, k9L_23, k9L_24, k9L_30, k9L_40, k9L_50, k9L_60, k9L_99, k9L_100, k9L_120, k9L_255, k9L_999, k9L_1000, k9_bs, k9_ba])
          refine k9o_ret ⟨_, _, _, rfl, ?_⟩
          have had : I1 41 0 p = nI (w 1 p) := (hM1.2.2.2.2 p hp7).2.1
          have km : ∀ m I3, m ≤ 9 → k9_fx (k9_F3 41 p) I1 I3 → k9_ok (k9_R S (d + 20) 221 29 [some (k9_r 12 0), some (k9_i (nI s)), some (k9_i (nI t)), some (k9_i (nI p)), some (k9_i 0), some (k9_i (I1 41 0 p)), some (k9_i (p_lv g (9 - m) (m + 1))), some (k9_i (nI m))] [] I3 J) (fun q => ∃ I4 J4, q = (some (k9_i (p_lv g 9 1)), I4, J4) ∧ k9_Inv I4 J4) := by
            intro m
            induction m with
            | zero =>
              intro I3 hm hx
              refine k9o_eq k9e_221_29 (k9o_T (by rw [n_toInt (by omega)]; omega) (k9o_eq k9e_221_48 (k9o_T (by rw [n_toInt (by omega)]; omega) (k9o_eq k9e_221_53 ?_))))
              rw [n_cl (by omega)]
              exact k9o_ret ⟨_, _, rfl, k9_Iv_e (k9_Iv_0 (k9_F3_e hx) i1)⟩
            | succ m ih =>
              intro I3 hm hx
              obtain ⟨I4, e4, m4, x4⟩ := k9_run3 (S := S) (d := d + 14) (q := 1) (p := p) (m := m + 1) i1 hx (Or.inl rfl) hp7 (by simp [p_lo]) (by simp [p_hi]; omega)
              have e216 := k9s_216 (S := S) (d := d + 18) (J := J) (s := s) (t := t) (z := z) m4 hs6 hz.2.2.2.2.2 ((x4 61 0 s (k9_F3_o rfl (by omega))).trans by1.2.2.2.2.1) (by omega) (fun p hp => v6.2 s hs6 p hp)
              have e216 : k9_R S (d + 19) 216 0 [some (k9_r 12 0), some (k9_i (nI s)), some (k9_i (nI t)), none] [] I4 J = some (some (k9_i (g (m + 1))), I4, J) := by rw [hg]; exact e216
              have o4 := ih I4 (by omega) x4
              refine k9o_eq k9e_221_29 (k9o_F (by rw [n_toInt (by omega)]; omega) (k9o_eq k9e_221_31 (k9o_T (by rw [n_toInt (by omega)]; omega) (k9o_eq k9e_221_36 ?_))))
              rw [n_cl (by omega)]
              refine k9o_call e4 ?_
              simp only [k9_ps_n]
              refine k9o_eq k9e_221_38 (k9o_call e216 ?_)
              simp only [k9_ps_s]
              refine k9o_eq k9e_221_42 ?_
              rw [show 9 - m = (9 - (m + 1)) + 1 by omega, p_lv] at o4
              by_cases c : g (m + 1) = -2
              · rw [if_pos c] at o4
                refine k9o_T (by rw [c]; decide) (k9o_eq k9e_221_44 (k9o_eq k9e_221_46 ?_))
                rw [n_m1 (by omega), Nat.add_sub_cancel]
                exact o4
              · rw [if_neg c] at o4
                refine k9o_F (fun y => c (n_ext (by rw [y]; decide))) (k9o_eq k9e_221_46 ?_)
                rw [n_m1 (by omega), Nat.add_sub_cancel]
                exact o4
          have o := km 9 I1 (by omega) (k9_fx_rf _ _)
          simp (disch := omega) only [k9e_221_0, k9e_221_2, k9e_221_3, k9e_221_5, k9e_221_6, k9e_221_9, k9e_221_10, k9e_221_12, k9e_221_15, k9e_221_18, k9e_221_20, k9e_221_24, k9e_154_0, k9e_154_7, k9e_155_0, k9e_155_4, k9e_156_0, k9e_156_4, Nat.reduceEqDiff, Int.reduceEq, Int.reduceLT, Int.reduceLE, k9_ps_s, k9_ps_n, k9_ur, false_and, and_false, true_and, and_true, true_or, or_true, false_or, or_false, eq_self, ↓reduceIte, not_true_eq_false, not_false_eq_true, n_toInt, n_cl, nI_1, nI_add, n_a0, n_p2, n_p3, n_p4, n_x2, n_x3, n_x4, n_x60, n_x100, n_pm1, k9L_m2, k9L_m1, k9L_0, k9L_1, k9L_2, k9L_3, k9L_4, k9L_5, k9L_6, k9L_7, k9L_8, k9L_9, k9L_10, k9L_20, k9L_23, k9L_24, k9L_30, k9L_40, k9L_50, k9L_60, k9L_99, k9L_100, k9L_120, k9L_255, k9L_999, k9L_1000, k9_bs, k9_ba, hM1.1]
          repeat (first | ((with_reducible refine k9q_T ?_ ?_); · omega) | ((with_reducible refine k9q_F ?_ ?_); · omega) | ((with_reducible refine k9q_Tb ?_ ?_); · omega) | ((with_reducible refine k9q_Fb ?_ ?_); · omega) | (refine k9o_call (k9s_153 (by first | omega | (simp (disch := omega) only [n_toInt, n_pm1, k9L_m2, k9L_m1, k9L_0, k9L_1, k9L_2, k9L_3, k9L_4, k9L_5, k9L_6, k9L_7, k9L_8, k9L_9, k9L_10, k9L_20, k9L_23, k9L_24, k9L_30, k9L_40, k9L_50, k9L_60, k9L_99, k9L_100, k9L_120, k9L_255, k9L_999, k9L_1000]; omega))) ?_; simp (disch := omega) only [k9e_221_0, k9e_221_2, k9e_221_3, k9e_221_5, k9e_221_6, k9e_221_9, k9e_221_10, k9e_221_12, k9e_221_15, k9e_221_18, k9e_221_20, k9e_221_24, k9e_154_0, k9e_154_7, k9e_155_0, k9e_155_4, k9e_156_0, k9e_156_4, Nat.reduceEqDiff, Int.reduceEq, Int.reduceLT, Int.reduceLE, k9_ps_s, k9_ps_n, k9_ur, false_and, and_false, true_and, and_true, true_or, or_true, false_or, or_false, eq_self, ↓reduceIte, not_true_eq_false, not_false_eq_true, n_toInt, n_cl, nI_1, nI_add, n_a0, n_p2, n_p3, n_p4, n_x2, n_x3, n_x4, n_x60, n_x100, n_pm1, k9L_m2, k9L_m1, k9L_0, k9L_1, k9L_2, k9L_3, k9L_4, k9L_5, k9L_6, k9L_7, k9L_8, k9L_9, k9L_10, k9L_20, k9L_23, k9L_24, k9L_30, k9L_40, k9L_50, k9L_60, k9L_99, k9L_100, k9L_120, k9L_255, k9L_999, k9L_1000, k9_bs, k9_ba, hM1.1]) | (refine k9o_call (k9s_153x (by first | omega | (simp (disch := omega) only [n_toInt, n_pm1, k9L_m2, k9L_m1, k9L_0, k9L_1, k9L_2, k9L_3, k9L_4, k9L_5, k9L_6, k9L_7, k9L_8, k9L_9, k9L_10, k9L_20, k9L_23, k9L_24, k9L_30, k9L_40, k9L_50, k9L_60, k9L_99, k9L_100, k9L_120, k9L_255, k9L_999, k9L_1000]; omega))) ?_; simp (disch := omega) only [k9e_221_0, k9e_221_2, k9e_221_3, k9e_221_5, k9e_221_6, k9e_221_9, k9e_221_10, k9e_221_12, k9e_221_15, k9e_221_18, k9e_221_20, k9e_221_24, k9e_154_0, k9e_154_7, k9e_155_0, k9e_155_4, k9e_156_0, k9e_156_4, Nat.reduceEqDiff, Int.reduceEq, Int.reduceLT, Int.reduceLE, k9_ps_s, k9_ps_n, k9_ur, false_and, and_false, true_and, and_true, true_or, or_true, false_or, or_false, eq_self, ↓reduceIte, not_true_eq_false, not_false_eq_true, n_toInt, n_cl, nI_1, nI_add, n_a0, n_p2, n_p3, n_p4, n_x2, n_x3, n_x4, n_x60, n_x100, n_pm1, k9L_m2, k9L_m1, k9L_0, k9L_1, k9L_2, k9L_3, k9L_4, k9L_5, k9L_6, k9L_7, k9L_8, k9L_9, k9L_10, k9L_20, k9L_23, k9L_24, k9L_30, k9L_40, k9L_50, k9L_60, k9L_99, k9L_100, k9L_120, k9L_255, k9L_999, k9L_1000, k9_bs, k9_ba, hM1.1]) | (refine k9o_call (k9s_208 hs6 by1) ?_; simp (disch := omega) only [k9e_221_0, k9e_221_2, k9e_221_3, k9e_221_5, k9e_221_6, k9e_221_9, k9e_221_10, k9e_221_12, k9e_221_15, k9e_221_18, k9e_221_20, k9e_221_24, k9e_154_0, k9e_154_7, k9e_155_0, k9e_155_4, k9e_156_0, k9e_156_4, Nat.reduceEqDiff, Int.reduceEq, Int.reduceLT, Int.reduceLE, k9_ps_s, k9_ps_n, k9_ur, false_and, and_false, true_and, and_true, true_or, or_true, false_or, or_false, eq_self, ↓reduceIte, not_true_eq_false, not_false_eq_true, n_toInt, n_cl, nI_1, nI_add, n_a0, n_p2, n_p3, n_p4, n_x2, n_x3, n_x4, n_x60, n_x100, n_pm1, k9L_m2, k9L_m1, k9L_0, k9L_1, k9L_2, k9L_3, k9L_4, k9L_5, k9L_6, k9L_7, k9L_8, k9L_9, k9L_10, k9L_20, k9L_23, k9L_24, k9L_30, k9L_40, k9L_50, k9L_60, k9L_99, k9L_100, k9L_120, k9L_255, k9L_999, k9L_1000, k9_bs, k9_ba, hM1.1]) | simp (disch := omega) only [k9e_221_0, k9e_221_2, k9e_221_3, k9e_221_5, k9e_221_6, k9e_221_9, k9e_221_10, k9e_221_12, k9e_221_15, k9e_221_18, k9e_221_20, k9e_221_24, k9e_154_0, k9e_154_7, k9e_155_0, k9e_155_4, k9e_156_0, k9e_156_4, Nat.reduceEqDiff, Int.reduceEq, Int.reduceLT, Int.reduceLE, k9_ps_s, k9_ps_n, k9_ur, false_and, and_false, true_and, and_true, true_or, or_true, false_or, or_false, eq_self, ↓reduceIte, not_true_eq_false, not_false_eq_true, n_toInt, n_cl, nI_1, nI_add, n_a0, n_p2, n_p3, n_p4, n_x2, n_x3, n_x4, n_x60, n_x100, n_pm1, k9L_m2, k9L_m1, k9L_0, k9L_1, k9L_2, k9L_3, k9L_4, k9L_5, k9L_6, k9L_7, k9L_8, k9L_9, k9L_10, k9L_20, k9L_23, k9L_24, k9L_30, k9L_40, k9L_50, k9L_60, k9L_99, k9L_100, k9L_120, k9L_255, k9L_999, k9L_1000, k9_bs, k9_ba, hM1.1])
          exact o
        · have hrr := k9_nb_r hr
          simp (disch := omega) only [k9e_124_0, k9e_124_3, k9e_124_3b, k9e_124_8, k9e_124_9, k9e_124_15, k9e_124_16, k9e_124_16b, k9e_124_18, k9e_124_20, k9e_124_21, k9e_124_27, k9e_124_28, k9e_124_30, k9e_144_0, k9e_144_2, k9e_144_5, k9e_144_9, k9e_144_10, k9e_144_11, k9e_144_11b, k9e_145_0, k9e_145_2, k9e_145_5, k9e_145_7, k9e_145_8, Nat.reduceEqDiff, Int.reduceEq, Int.reduceLT, Int.reduceLE, k9_ps_s, k9_ps_n, k9_ur, false_and, and_false, true_and, and_true, true_or, or_true, false_or, or_false, eq_self, ↓reduceIte, not_true_eq_false, not_false_eq_true, n_toInt, n_cl, nI_1, nI_add, n_a0, n_p2, n_p3, n_p4, n_x2, n_x3, n_x4, n_x60, n_x100, n_pm1, k9L_m2, k9L_m1, k9L_0, k9L_1, k9L_2, k9L_3, k9L_4, k9L_5, k9L_6, k9L_7, k9L_8, k9L_9, k9L_10, k9L_20, k9L_23, k9L_24, k9L_30, k9L_40, k9L_50, k9L_60, k9L_99, k9L_100, k9L_120, k9L_255, k9L_999, k9L_1000, k9_bs, k9_ba]
          repeat (first | ((with_reducible refine k9q_T ?_ ?_); · omega) | ((with_reducible refine k9q_F ?_ ?_); · omega) | ((with_reducible refine k9q_Tb ?_ ?_); · omega) | ((with_reducible refine k9q_Fb ?_ ?_); · omega) | (refine k9o_call (k9s_4 (q := 1) hW.1 hf hhas) ?_; simp (disch := omega) only [k9e_124_0, k9e_124_3, k9e_124_3b, k9e_124_8, k9e_124_9, k9e_124_15, k9e_124_16, k9e_124_16b, k9e_124_18, k9e_124_20, k9e_124_21, k9e_124_27, k9e_124_28, k9e_124_30, k9e_144_0, k9e_144_2, k9e_144_5, k9e_144_9, k9e_144_10, k9e_144_11, k9e_144_11b, k9e_145_0, k9e_145_2, k9e_145_5, k9e_145_7, k9e_145_8, Nat.reduceEqDiff, Int.reduceEq, Int.reduceLT, Int.reduceLE, k9_ps_s, k9_ps_n, k9_ur, false_and, and_false, true_and, and_true, true_or, or_true, false_or, or_false, eq_self, ↓reduceIte, not_true_eq_false, not_false_eq_true, n_toInt, n_cl, nI_1, nI_add, n_a0, n_p2, n_p3, n_p4, n_x2, n_x3, n_x4, n_x60, n_x100, n_pm1, k9L_m2, k9L_m1, k9L_0, k9L_1, k9L_2, k9L_3, k9L_4, k9L_5, k9L_6, k9L_7, k9L_8, k9L_9, k9L_10, k9L_20, k9L_23, k9L_24, k9L_30, k9L_40, k9L_50, k9L_60, k9L_99, k9L_100, k9L_120, k9L_255, k9L_999, k9L_1000, k9_bs, k9_ba]) | (refine k9o_call (k9s_91x hr) ?_; simp (disch := omega) only [k9e_124_0, k9e_124_3, k9e_124_3b, k9e_124_8, k9e_124_9, k9e_124_15, k9e_124_16, k9e_124_16b, k9e_124_18, k9e_124_20, k9e_124_21, k9e_124_27, k9e_124_28, k9e_124_30, k9e_144_0, k9e_144_2, k9e_144_5, k9e_144_9, k9e_144_10, k9e_144_11, k9e_144_11b, k9e_145_0, k9e_145_2, k9e_145_5, k9e_145_7, k9e_145_8, Nat.reduceEqDiff, Int.reduceEq, Int.reduceLT, Int.reduceLE, k9_ps_s, k9_ps_n, k9_ur, false_and, and_false, true_and, and_true, true_or, or_true, false_or, or_false, eq_self, ↓reduceIte, not_true_eq_false, not_false_eq_true, n_toInt, n_cl, nI_1, nI_add, n_a0, n_p2, n_p3, n_p4, n_x2, n_x3, n_x4, n_x60, n_x100, n_pm1, k9L_m2, k9L_m1, k9L_0, k9L_1, k9L_2, k9L_3, k9L_4, k9L_5, k9L_6, k9L_7, k9L_8, k9L_9, k9L_10, k9L_20, k9L_23, k9L_24, k9L_30, k9L_40, k9L_50, k9L_60, k9L_99, k9L_100, k9L_120, k9L_255, k9L_999, k9L_1000, k9_bs, k9_ba]) | (refine k9o_call (k9s_92 hr) ?_; simp (disch := omega) only [k9e_124_0, k9e_124_3, k9e_124_3b, k9e_124_8, k9e_124_9, k9e_124_15, k9e_124_16, k9e_124_16b, k9e_124_18, k9e_124_20, k9e_124_21, k9e_124_27, k9e_124_28, k9e_124_30, k9e_144_0, k9e_144_2, k9e_144_5, k9e_144_9, k9e_144_10, k9e_144_11, k9e_144_11b, k9e_145_0, k9e_145_2, k9e_145_5, k9e_145_7, k9e_145_8, Nat.reduceEqDiff, Int.reduceEq, Int.reduceLT, Int.reduceLE, k9_ps_s, k9_ps_n, k9_ur, false_and, and_false, true_and, and_true, true_or, or_true, false_or, or_false, eq_self, ↓reduceIte, not_true_eq_false, not_false_eq_true, n_toInt, n_cl, nI_1, nI_add, n_a0, n_p2, n_p3, n_p4, n_x2, n_x3, n_x4, n_x60, n_x100, n_pm1, k9L_m2, k9L_m1, k9L_0, k9L_1, k9L_2, k9L_3, k9L_4, k9L_5, k9L_6, k9L_7, k9L_8, k9L_9, k9L_10, k9L_20, k9L_23, k9L_24, k9L_30, k9L_40, k9L_50, k9L_60, k9L_99, k9L_100, k9L_120, k9L_255, k9L_999, k9L_1000, k9_bs, k9_ba]) | simp (disch := omega) only [k9e_124_0, k9e_124_3, k9e_124_3b, k9e_124_8, k9e_124_9, k9e_124_15, k9e_124_16, k9e_124_16b, k9e_124_18, k9e_124_20, k9e_124_21, k9e_124_27, k9e_124_28, k9e_124_30, k9e_144_0, k9e_144_2, k9e_144_5, k9e_144_9, k9e_144_10, k9e_144_11, k9e_144_11b, k9e_145_0, k9e_145_2, k9e_145_5, k9e_145_7, k9e_145_8, Nat.reduceEqDiff, Int.reduceEq, Int.reduceLT, Int.reduceLE, k9_ps_s, k9_ps_n, k9_ur, false_and, and_false, true_and, and_true, true_or, or_true, false_or, or_false, eq_self, ↓reduceIte, not_true_eq_false, not_false_eq_true, n_toInt, n_cl, nI_1, nI_add, n_a0, n_p2, n_p3, n_p4, n_x2, n_x3, n_x4, n_x60, n_x100, n_pm1, k9L_m2, k9L_m1, k9L_0, k9L_1, k9L_2, k9L_3, k9L_4, k9L_5, k9L_6, k9L_7, k9L_8, k9L_9, k9L_10, k9L_20, k9L_23, k9L_24, k9L_30, k9L_40, k9L_50, k9L_60, k9L_99, k9L_100, k9L_120, k9L_255, k9L_999, k9L_1000, k9_bs, k9_ba])
          refine k9o_ret ⟨_, _, _, rfl, ?_⟩
          simp (disch := omega) only [k9e_221_0, k9e_221_2, k9e_221_3, k9e_221_5, k9e_221_6, k9e_221_9, k9e_221_10, k9e_221_12, k9e_221_15, k9e_221_18, k9e_221_20, k9e_221_24, k9e_154_0, k9e_154_7, k9e_155_0, k9e_155_4, k9e_156_0, k9e_156_4, Nat.reduceEqDiff, Int.reduceEq, Int.reduceLT, Int.reduceLE, k9_ps_s, k9_ps_n, k9_ur, false_and, and_false, true_and, and_true, true_or, or_true, false_or, or_false, eq_self, ↓reduceIte, not_true_eq_false, not_false_eq_true, n_toInt, n_cl, nI_1, nI_add, n_a0, n_p2, n_p3, n_p4, n_x2, n_x3, n_x4, n_x60, n_x100, n_pm1, k9L_m2, k9L_m1, k9L_0, k9L_1, k9L_2, k9L_3, k9L_4, k9L_5, k9L_6, k9L_7, k9L_8, k9L_9, k9L_10, k9L_20, k9L_23, k9L_24, k9L_30, k9L_40, k9L_50, k9L_60, k9L_99, k9L_100, k9L_120, k9L_255, k9L_999, k9L_1000, k9_bs, k9_ba, hM.1]
          repeat (first | ((with_reducible refine k9q_T ?_ ?_); · omega) | ((with_reducible refine k9q_F ?_ ?_); · omega) | ((with_reducible refine k9q_Tb ?_ ?_); · omega) | ((with_reducible refine k9q_Fb ?_ ?_); · omega) | (refine k9o_call (k9s_153 (by first | omega | (simp (disch := omega) only [n_toInt, n_pm1, k9L_m2, k9L_m1, k9L_0, k9L_1, k9L_2, k9L_3, k9L_4, k9L_5, k9L_6, k9L_7, k9L_8, k9L_9, k9L_10, k9L_20, k9L_23, k9L_24, k9L_30, k9L_40, k9L_50, k9L_60, k9L_99, k9L_100, k9L_120, k9L_255, k9L_999, k9L_1000]; omega))) ?_; simp (disch := omega) only [k9e_221_0, k9e_221_2, k9e_221_3, k9e_221_5, k9e_221_6, k9e_221_9, k9e_221_10, k9e_221_12, k9e_221_15, k9e_221_18, k9e_221_20, k9e_221_24, k9e_154_0, k9e_154_7, k9e_155_0, k9e_155_4, k9e_156_0, k9e_156_4, Nat.reduceEqDiff, Int.reduceEq, Int.reduceLT, Int.reduceLE, k9_ps_s, k9_ps_n, k9_ur, false_and, and_false, true_and, and_true, true_or, or_true, false_or, or_false, eq_self, ↓reduceIte, not_true_eq_false, not_false_eq_true, n_toInt, n_cl, nI_1, nI_add, n_a0, n_p2, n_p3, n_p4, n_x2, n_x3, n_x4, n_x60, n_x100, n_pm1, k9L_m2, k9L_m1, k9L_0, k9L_1, k9L_2, k9L_3, k9L_4, k9L_5, k9L_6, k9L_7, k9L_8, k9L_9, k9L_10, k9L_20, k9L_23, k9L_24, k9L_30, k9L_40, k9L_50, k9L_60, k9L_99, k9L_100, k9L_120, k9L_255, k9L_999, k9L_1000, k9_bs, k9_ba, hM.1]) | (refine k9o_call (k9s_153x (by first | omega | (simp (disch := omega) only [n_toInt, n_pm1, k9L_m2, k9L_m1, k9L_0, k9L_1, k9L_2, k9L_3, k9L_4, k9L_5, k9L_6, k9L_7, k9L_8, k9L_9, k9L_10, k9L_20, k9L_23, k9L_24, k9L_30, k9L_40, k9L_50, k9L_60, k9L_99, k9L_100, k9L_120, k9L_255, k9L_999, k9L_1000]; omega))) ?_; simp (disch := omega) only [k9e_221_0, k9e_221_2, k9e_221_3, k9e_221_5, k9e_221_6, k9e_221_9, k9e_221_10, k9e_221_12, k9e_221_15, k9e_221_18, k9e_221_20, k9e_221_24, k9e_154_0, k9e_154_7, k9e_155_0, k9e_155_4, k9e_156_0, k9e_156_4, Nat.reduceEqDiff, Int.reduceEq, Int.reduceLT, Int.reduceLE, k9_ps_s, k9_ps_n, k9_ur, false_and, and_false, true_and, and_true, true_or, or_true, false_or, or_false, eq_self, ↓reduceIte, not_true_eq_false, not_false_eq_true, n_toInt, n_cl, nI_1, nI_add, n_a0, n_p2, n_p3, n_p4, n_x2, n_x3, n_x4, n_x60, n_x100, n_pm1, k9L_m2, k9L_m1, k9L_0, k9L_1, k9L_2, k9L_3, k9L_4, k9L_5, k9L_6, k9L_7, k9L_8, k9L_9, k9L_10, k9L_20, k9L_23, k9L_24, k9L_30, k9L_40, k9L_50, k9L_60, k9L_99, k9L_100, k9L_120, k9L_255, k9L_999, k9L_1000, k9_bs, k9_ba, hM.1]) | (refine k9o_call (k9s_208x hs6 hr) ?_; simp (disch := omega) only [k9e_221_0, k9e_221_2, k9e_221_3, k9e_221_5, k9e_221_6, k9e_221_9, k9e_221_10, k9e_221_12, k9e_221_15, k9e_221_18, k9e_221_20, k9e_221_24, k9e_154_0, k9e_154_7, k9e_155_0, k9e_155_4, k9e_156_0, k9e_156_4, Nat.reduceEqDiff, Int.reduceEq, Int.reduceLT, Int.reduceLE, k9_ps_s, k9_ps_n, k9_ur, false_and, and_false, true_and, and_true, true_or, or_true, false_or, or_false, eq_self, ↓reduceIte, not_true_eq_false, not_false_eq_true, n_toInt, n_cl, nI_1, nI_add, n_a0, n_p2, n_p3, n_p4, n_x2, n_x3, n_x4, n_x60, n_x100, n_pm1, k9L_m2, k9L_m1, k9L_0, k9L_1, k9L_2, k9L_3, k9L_4, k9L_5, k9L_6, k9L_7, k9L_8, k9L_9, k9L_10, k9L_20, k9L_23, k9L_24, k9L_30, k9L_40, k9L_50, k9L_60, k9L_99, k9L_100, k9L_120, k9L_255, k9L_999, k9L_1000, k9_bs, k9_ba, hM.1]) | simp (disch := omega) only [k9e_221_0, k9e_221_2, k9e_221_3, k9e_221_5, k9e_221_6, k9e_221_9, k9e_221_10, k9e_221_12, k9e_221_15, k9e_221_18, k9e_221_20, k9e_221_24, k9e_154_0, k9e_154_7, k9e_155_0, k9e_155_4, k9e_156_0, k9e_156_4, Nat.reduceEqDiff, Int.reduceEq, Int.reduceLT, Int.reduceLE, k9_ps_s, k9_ps_n, k9_ur, false_and, and_false, true_and, and_true, true_or, or_true, false_or, or_false, eq_self, ↓reduceIte, not_true_eq_false, not_false_eq_true, n_toInt, n_cl, nI_1, nI_add, n_a0, n_p2, n_p3, n_p4, n_x2, n_x3, n_x4, n_x60, n_x100, n_pm1, k9L_m2, k9L_m1, k9L_0, k9L_1, k9L_2, k9L_3, k9L_4, k9L_5, k9L_6, k9L_7, k9L_8, k9L_9, k9L_10, k9L_20, k9L_23, k9L_24, k9L_30, k9L_40, k9L_50, k9L_60, k9L_99, k9L_100, k9L_120, k9L_255, k9L_999, k9L_1000, k9_bs, k9_ba, hM.1])
          exact k9o_ret ⟨_, _, rfl, hI'⟩
      · obtain ⟨s, rfl, hs, -⟩ := n_of (x := x1) (by omega)
        have h4x := fun (I1 : k9_I) (hn : I1 3 0 0 = nI (w 7 0)) => k9s_4x (S := S) (d := d + 18) (I := I1) (J := J) (i0 := 0) (x := x3) (y := 1) hn hf (by rw [k9L_1]; omega)
        simp (disch := omega) only [k9e_124_0, k9e_124_3, k9e_124_3b, k9e_124_8, k9e_124_9, k9e_124_15, k9e_124_16, k9e_124_16b, k9e_144_0, k9e_144_2, k9e_144_5, k9e_144_9, k9e_144_10, k9e_144_11, k9e_144_11b, k9e_145_0, k9e_145_2, k9e_145_5, k9e_145_7, k9e_145_8, Nat.reduceEqDiff, Int.reduceEq, Int.reduceLT, Int.reduceLE, k9_ps_s, k9_ps_n, k9_ur, false_and, and_false, true_and, and_true, true_or, or_true, false_or, or_false, eq_self, ↓reduceIte, not_true_eq_false, not_false_eq_true, n_toInt, n_cl, nI_1, nI_add, n_a0, n_p2, n_p3, n_p4, n_x2, n_x3, n_x4, n_x60, n_x100, n_pm1, k9L_m2, k9L_m1, k9L_0, k9L_1, k9L_2, k9L_3, k9L_4, k9L_5, k9L_6, k9L_7, k9L_8, k9L_9, k9L_10, k9L_20, k9L_23, k9L_24, k9L_30, k9L_40, k9L_50, k9L_60, k9L_99, k9L_100, k9L_120, k9L_255, k9L_999, k9L_1000, k9_bs, k9_ba]
        repeat (first | ((with_reducible refine k9q_T ?_ ?_); · omega) | ((with_reducible refine k9q_F ?_ ?_); · omega) | ((with_reducible refine k9q_Tb ?_ ?_); · omega) | ((with_reducible refine k9q_Fb ?_ ?_); · omega) | (refine k9o_call (h4x I hW.1) ?_; simp (disch := omega) only [k9e_124_0, k9e_124_3, k9e_124_3b, k9e_124_8, k9e_124_9, k9e_124_15, k9e_124_16, k9e_124_16b, k9e_144_0, k9e_144_2, k9e_144_5, k9e_144_9, k9e_144_10, k9e_144_11, k9e_144_11b, k9e_145_0, k9e_145_2, k9e_145_5, k9e_145_7, k9e_145_8, Nat.reduceEqDiff, Int.reduceEq, Int.reduceLT, Int.reduceLE, k9_ps_s, k9_ps_n, k9_ur, false_and, and_false, true_and, and_true, true_or, or_true, false_or, or_false, eq_self, ↓reduceIte, not_true_eq_false, not_false_eq_true, n_toInt, n_cl, nI_1, nI_add, n_a0, n_p2, n_p3, n_p4, n_x2, n_x3, n_x4, n_x60, n_x100, n_pm1, k9L_m2, k9L_m1, k9L_0, k9L_1, k9L_2, k9L_3, k9L_4, k9L_5, k9L_6, k9L_7, k9L_8, k9L_9, k9L_10, k9L_20, k9L_23, k9L_24, k9L_30, k9L_40, k9L_50, k9L_60, k9L_99, k9L_100, k9L_120, k9L_255, k9L_999, k9L_1000, k9_bs, k9_ba]) | simp (disch := omega) only [k9e_124_0, k9e_124_3, k9e_124_3b, k9e_124_8, k9e_124_9, k9e_124_15, k9e_124_16, k9e_124_16b, k9e_144_0, k9e_144_2, k9e_144_5, k9e_144_9, k9e_144_10, k9e_144_11, k9e_144_11b, k9e_145_0, k9e_145_2, k9e_145_5, k9e_145_7, k9e_145_8, Nat.reduceEqDiff, Int.reduceEq, Int.reduceLT, Int.reduceLE, k9_ps_s, k9_ps_n, k9_ur, false_and, and_false, true_and, and_true, true_or, or_true, false_or, or_false, eq_self, ↓reduceIte, not_true_eq_false, not_false_eq_true, n_toInt, n_cl, nI_1, nI_add, n_a0, n_p2, n_p3, n_p4, n_x2, n_x3, n_x4, n_x60, n_x100, n_pm1, k9L_m2, k9L_m1, k9L_0, k9L_1, k9L_2, k9L_3, k9L_4, k9L_5, k9L_6, k9L_7, k9L_8, k9L_9, k9L_10, k9L_20, k9L_23, k9L_24, k9L_30, k9L_40, k9L_50, k9L_60, k9L_99, k9L_100, k9L_120, k9L_255, k9L_999, k9L_1000, k9_bs, k9_ba])
        refine k9o_ret ⟨_, _, _, rfl, ?_⟩
        simp (disch := omega) only [k9e_221_0, k9e_221_2, k9e_221_3, k9e_221_5, k9e_221_6, k9e_221_9, k9e_221_10, k9e_154_0, k9e_154_7, k9e_155_0, k9e_155_4, k9e_156_0, k9e_156_4, Nat.reduceEqDiff, Int.reduceEq, Int.reduceLT, Int.reduceLE, k9_ps_s, k9_ps_n, k9_ur, false_and, and_false, true_and, and_true, true_or, or_true, false_or, or_false, eq_self, ↓reduceIte, not_true_eq_false, not_false_eq_true, n_toInt, n_cl, nI_1, nI_add, n_a0, n_p2, n_p3, n_p4, n_x2, n_x3, n_x4, n_x60, n_x100, n_pm1, k9L_m2, k9L_m1, k9L_0, k9L_1, k9L_2, k9L_3, k9L_4, k9L_5, k9L_6, k9L_7, k9L_8, k9L_9, k9L_10, k9L_20, k9L_23, k9L_24, k9L_30, k9L_40, k9L_50, k9L_60, k9L_99, k9L_100, k9L_120, k9L_255, k9L_999, k9L_1000, k9_bs, k9_ba, hM.1]
        repeat (first | ((with_reducible refine k9q_T ?_ ?_); · omega) | ((with_reducible refine k9q_F ?_ ?_); · omega) | ((with_reducible refine k9q_Tb ?_ ?_); · omega) | ((with_reducible refine k9q_Fb ?_ ?_); · omega) | (refine k9o_call (k9s_153 (by first | omega | (simp (disch := omega) only [n_toInt, n_pm1, k9L_m2, k9L_m1, k9L_0, k9L_1, k9L_2, k9L_3, k9L_4, k9L_5, k9L_6, k9L_7, k9L_8, k9L_9, k9L_10, k9L_20, k9L_23, k9L_24, k9L_30, k9L_40, k9L_50, k9L_60, k9L_99, k9L_100, k9L_120, k9L_255, k9L_999, k9L_1000]; omega))) ?_; simp (disch := omega) only [k9e_221_0, k9e_221_2, k9e_221_3, k9e_221_5, k9e_221_6, k9e_221_9, k9e_221_10, k9e_154_0, k9e_154_7, k9e_155_0, k9e_155_4, k9e_156_0, k9e_156_4, Nat.reduceEqDiff, Int.reduceEq, Int.reduceLT, Int.reduceLE, k9_ps_s, k9_ps_n, k9_ur, false_and, and_false, true_and, and_true, true_or, or_true, false_or, or_false, eq_self, ↓reduceIte, not_true_eq_false, not_false_eq_true, n_toInt, n_cl, nI_1, nI_add, n_a0, n_p2, n_p3, n_p4, n_x2, n_x3, n_x4, n_x60, n_x100, n_pm1, k9L_m2, k9L_m1, k9L_0, k9L_1, k9L_2, k9L_3, k9L_4, k9L_5, k9L_6, k9L_7, k9L_8, k9L_9, k9L_10, k9L_20, k9L_23, k9L_24, k9L_30, k9L_40, k9L_50, k9L_60, k9L_99, k9L_100, k9L_120, k9L_255, k9L_999, k9L_1000, k9_bs, k9_ba, hM.1]) | (refine k9o_call (k9s_153x (by first | omega | (simp (disch := omega) only [n_toInt, n_pm1, k9L_m2, k9L_m1, k9L_0, k9L_1, k9L_2, k9L_3, k9L_4, k9L_5, k9L_6, k9L_7, k9L_8, k9L_9, k9L_10, k9L_20, k9L_23, k9L_24, k9L_30, k9L_40, k9L_50, k9L_60, k9L_99, k9L_100, k9L_120, k9L_255, k9L_999, k9L_1000]; omega))) ?_; simp (disch := omega) only [k9e_221_0, k9e_221_2, k9e_221_3, k9e_221_5, k9e_221_6, k9e_221_9, k9e_221_10, k9e_154_0, k9e_154_7, k9e_155_0, k9e_155_4, k9e_156_0, k9e_156_4, Nat.reduceEqDiff, Int.reduceEq, Int.reduceLT, Int.reduceLE, k9_ps_s, k9_ps_n, k9_ur, false_and, and_false, true_and, and_true, true_or, or_true, false_or, or_false, eq_self, ↓reduceIte, not_true_eq_false, not_false_eq_true, n_toInt, n_cl, nI_1, nI_add, n_a0, n_p2, n_p3, n_p4, n_x2, n_x3, n_x4, n_x60, n_x100, n_pm1, k9L_m2, k9L_m1, k9L_0, k9L_1, k9L_2, k9L_3, k9L_4, k9L_5, k9L_6, k9L_7, k9L_8, k9L_9, k9L_10, k9L_20, k9L_23, k9L_24, k9L_30, k9L_40, k9L_50, k9L_60, k9L_99, k9L_100, k9L_120, k9L_255, k9L_999, k9L_1000, k9_bs, k9_ba, hM.1]) | simp (disch := omega) only [k9e_221_0, k9e_221_2, k9e_221_3, k9e_221_5, k9e_221_6, k9e_221_9, k9e_221_10, k9e_154_0, k9e_154_7, k9e_155_0, k9e_155_4, k9e_156_0, k9e_156_4, Nat.reduceEqDiff, Int.reduceEq, Int.reduceLT, Int.reduceLE, k9_ps_s, k9_ps_n, k9_ur, false_and, and_false, true_and, and_true, true_or, or_true, false_or, or_false, eq_self, ↓reduceIte, not_true_eq_false, not_false_eq_true, n_toInt, n_cl, nI_1, nI_add, n_a0, n_p2, n_p3, n_p4, n_x2, n_x3, n_x4, n_x60, n_x100, n_pm1, k9L_m2, k9L_m1, k9L_0, k9L_1, k9L_2, k9L_3, k9L_4, k9L_5, k9L_6, k9L_7, k9L_8, k9L_9, k9L_10, k9L_20, k9L_23, k9L_24, k9L_30, k9L_40, k9L_50, k9L_60, k9L_99, k9L_100, k9L_120, k9L_255, k9L_999, k9L_1000, k9_bs, k9_ba, hM.1])
        exact k9o_ret ⟨_, _, rfl, hI'⟩
    · obtain ⟨s, rfl, hs, -⟩ := n_of (x := x1) (by omega)
      repeat' (first | ((with_reducible refine k9q_T ?_ ?_); · omega) | ((with_reducible refine k9q_F ?_ ?_); · omega) | ((with_reducible refine k9q_Tb ?_ ?_); · omega) | ((with_reducible refine k9q_Fb ?_ ?_); · omega) | simp (disch := omega) only [k9e_124_0, k9e_124_3, k9e_124_3b, k9e_124_8, k9e_124_9, k9e_124_15, k9e_124_16, k9e_124_16b, k9e_144_0, k9e_144_2, k9e_144_5, k9e_144_9, k9e_144_10, k9e_144_11, k9e_144_11b, k9e_145_0, k9e_145_2, k9e_145_5, k9e_145_7, k9e_145_8, Nat.reduceEqDiff, Int.reduceEq, Int.reduceLT, Int.reduceLE, k9_ps_s, k9_ps_n, k9_ur, false_and, and_false, true_and, and_true, true_or, or_true, false_or, or_false, eq_self, ↓reduceIte, not_true_eq_false, not_false_eq_true, n_toInt, n_cl, nI_1, nI_add, n_a0, n_p2, n_p3, n_p4, n_x2, n_x3, n_x4, n_x60, n_x100, n_pm1, k9L_m2, k9L_m1, k9L_0, k9L_1, k9L_2, k9L_3, k9L_4, k9L_5, k9L_6, k9L_7, k9L_8, k9L_9, k9L_10, k9L_20, k9L_23, k9L_24, k9L_30, k9L_40, k9L_50, k9L_60, k9L_99, k9L_100, k9L_120, k9L_255, k9L_999, k9L_1000, k9_bs, k9_ba] | (with_reducible refine k9q_if (fun _ => ?_) (fun _ => ?_)) | (with_reducible refine k9q_ifb (fun _ => ?_) (fun _ => ?_)))
      all_goals refine k9o_ret ⟨_, _, _, rfl, ?_⟩
      all_goals repeat' (first | ((with_reducible refine k9q_T ?_ ?_); · omega) | ((with_reducible refine k9q_F ?_ ?_); · omega) | ((with_reducible refine k9q_Tb ?_ ?_); · omega) | ((with_reducible refine k9q_Fb ?_ ?_); · omega) | (refine k9o_call (k9s_153 (by first | omega | (simp (disch := omega) only [n_toInt, n_pm1, k9L_m2, k9L_m1, k9L_0, k9L_1, k9L_2, k9L_3, k9L_4, k9L_5, k9L_6, k9L_7, k9L_8, k9L_9, k9L_10, k9L_20, k9L_23, k9L_24, k9L_30, k9L_40, k9L_50, k9L_60, k9L_99, k9L_100, k9L_120, k9L_255, k9L_999, k9L_1000]; omega))) ?_; simp (disch := omega) only [k9e_221_0, k9e_221_2, k9e_221_3, k9e_221_5, k9e_221_6, k9e_221_9, k9e_221_10, k9e_155_0, k9e_155_4, k9e_156_0, k9e_156_4, Nat.reduceEqDiff, Int.reduceEq, Int.reduceLT, Int.reduceLE, k9_ps_s, k9_ps_n, k9_ur, false_and, and_false, true_and, and_true, true_or, or_true, false_or, or_false, eq_self, ↓reduceIte, not_true_eq_false, not_false_eq_true, n_toInt, n_cl, nI_1, nI_add, n_a0, n_p2, n_p3, n_p4, n_x2, n_x3, n_x4, n_x60, n_x100, n_pm1, k9L_m2, k9L_m1, k9L_0, k9L_1, k9L_2, k9L_3, k9L_4, k9L_5, k9L_6, k9L_7, k9L_8, k9L_9, k9L_10, k9L_20, k9L_23, k9L_24, k9L_30, k9L_40, k9L_50, k9L_60, k9L_99, k9L_100, k9L_120, k9L_255, k9L_999, k9L_1000, k9_bs, k9_ba]) | (refine k9o_call (k9s_153x (by first | omega | (simp (disch := omega) only [n_toInt, n_pm1, k9L_m2, k9L_m1, k9L_0, k9L_1, k9L_2, k9L_3, k9L_4, k9L_5, k9L_6, k9L_7, k9L_8, k9L_9, k9L_10, k9L_20, k9L_23, k9L_24, k9L_30, k9L_40, k9L_50, k9L_60, k9L_99, k9L_100, k9L_120, k9L_255, k9L_999, k9L_1000]; omega))) ?_; simp (disch := omega) only [k9e_221_0, k9e_221_2, k9e_221_3, k9e_221_5, k9e_221_6, k9e_221_9, k9e_221_10, k9e_155_0, k9e_155_4, k9e_156_0, k9e_156_4, Nat.reduceEqDiff, Int.reduceEq, Int.reduceLT, Int.reduceLE, k9_ps_s, k9_ps_n, k9_ur, false_and, and_false, true_and, and_true, true_or, or_true, false_or, or_false, eq_self, ↓reduceIte, not_true_eq_false, not_false_eq_true, n_toInt, n_cl, nI_1, nI_add, n_a0, n_p2, n_p3, n_p4, n_x2, n_x3, n_x4, n_x60, n_x100, n_pm1, k9L_m2, k9L_m1, k9L_0, k9L_1, k9L_2, k9L_3, k9L_4, k9L_5, k9L_6, k9L_7, k9L_8, k9L_9, k9L_10, k9L_20, k9L_23, k9L_24, k9L_30, k9L_40, k9L_50, k9L_60, k9L_99, k9L_100, k9L_120, k9L_255, k9L_999, k9L_1000, k9_bs, k9_ba]) | simp (disch := omega) only [k9e_221_0, k9e_221_2, k9e_221_3, k9e_221_5, k9e_221_6, k9e_221_9, k9e_221_10, k9e_155_0, k9e_155_4, k9e_156_0, k9e_156_4, Nat.reduceEqDiff, Int.reduceEq, Int.reduceLT, Int.reduceLE, k9_ps_s, k9_ps_n, k9_ur, false_and, and_false, true_and, and_true, true_or, or_true, false_or, or_false, eq_self, ↓reduceIte, not_true_eq_false, not_false_eq_true, n_toInt, n_cl, nI_1, nI_add, n_a0, n_p2, n_p3, n_p4, n_x2, n_x3, n_x4, n_x60, n_x100, n_pm1, k9L_m2, k9L_m1, k9L_0, k9L_1, k9L_2, k9L_3, k9L_4, k9L_5, k9L_6, k9L_7, k9L_8, k9L_9, k9L_10, k9L_20, k9L_23, k9L_24, k9L_30, k9L_40, k9L_50, k9L_60, k9L_99, k9L_100, k9L_120, k9L_255, k9L_999, k9L_1000, k9_bs, k9_ba] | (with_reducible refine k9q_if (fun _ => ?_) (fun _ => ?_)) | (with_reducible refine k9q_ifb (fun _ => ?_) (fun _ => ?_)))
      all_goals exact k9o_ret ⟨_, _, rfl, hI'⟩
  · repeat' (first | ((with_reducible refine k9q_T ?_ ?_); · omega) | ((with_reducible refine k9q_F ?_ ?_); · omega) | ((with_reducible refine k9q_Tb ?_ ?_); · omega) | ((with_reducible refine k9q_Fb ?_ ?_); · omega) | simp (disch := omega) only [k9e_124_0, k9e_124_3, k9e_124_3b, k9e_124_8, k9e_124_9, k9e_124_15, k9e_124_16, k9e_124_16b, k9e_144_0, k9e_144_2, k9e_144_5, k9e_144_9, k9e_144_10, k9e_144_11, k9e_144_11b, k9e_145_0, k9e_145_2, k9e_145_5, k9e_145_7, k9e_145_8, Nat.reduceEqDiff, Int.reduceEq, Int.reduceLT, Int.reduceLE, k9_ps_s, k9_ps_n, k9_ur, false_and, and_false, true_and, and_true, true_or, or_true, false_or, or_false, eq_self, ↓reduceIte, not_true_eq_false, not_false_eq_true, n_toInt, n_cl, nI_1, nI_add, n_a0, n_p2, n_p3, n_p4, n_x2, n_x3, n_x4, n_x60, n_x100, n_pm1, k9L_m2, k9L_m1, k9L_0, k9L_1, k9L_2, k9L_3, k9L_4, k9L_5, k9L_6, k9L_7, k9L_8, k9L_9, k9L_10, k9L_20, k9L_23, k9L_24, k9L_30, k9L_40, k9L_50, k9L_60, k9L_99, k9L_100, k9L_120, k9L_255, k9L_999, k9L_1000, k9_bs, k9_ba] | (with_reducible refine k9q_if (fun _ => ?_) (fun _ => ?_)) | (with_reducible refine k9q_ifb (fun _ => ?_) (fun _ => ?_)))
    all_goals refine k9o_ret ⟨_, _, _, rfl, ?_⟩
    all_goals repeat' (first | ((with_reducible refine k9q_T ?_ ?_); · omega) | ((with_reducible refine k9q_F ?_ ?_); · omega) | ((with_reducible refine k9q_Tb ?_ ?_); · omega) | ((with_reducible refine k9q_Fb ?_ ?_); · omega) | (refine k9o_call (k9s_153 (by first | omega | (simp (disch := omega) only [n_toInt, n_pm1, k9L_m2, k9L_m1, k9L_0, k9L_1, k9L_2, k9L_3, k9L_4, k9L_5, k9L_6, k9L_7, k9L_8, k9L_9, k9L_10, k9L_20, k9L_23, k9L_24, k9L_30, k9L_40, k9L_50, k9L_60, k9L_99, k9L_100, k9L_120, k9L_255, k9L_999, k9L_1000]; omega))) ?_; simp (disch := omega) only [k9e_221_0, k9e_221_2, k9e_221_3, k9e_221_5, k9e_221_6, k9e_221_9, k9e_221_10, k9e_155_0, k9e_155_4, k9e_156_0, k9e_156_4, Nat.reduceEqDiff, Int.reduceEq, Int.reduceLT, Int.reduceLE, k9_ps_s, k9_ps_n, k9_ur, false_and, and_false, true_and, and_true, true_or, or_true, false_or, or_false, eq_self, ↓reduceIte, not_true_eq_false, not_false_eq_true, n_toInt, n_cl, nI_1, nI_add, n_a0, n_p2, n_p3, n_p4, n_x2, n_x3, n_x4, n_x60, n_x100, n_pm1, k9L_m2, k9L_m1, k9L_0, k9L_1, k9L_2, k9L_3, k9L_4, k9L_5, k9L_6, k9L_7, k9L_8, k9L_9, k9L_10, k9L_20, k9L_23, k9L_24, k9L_30, k9L_40, k9L_50, k9L_60, k9L_99, k9L_100, k9L_120, k9L_255, k9L_999, k9L_1000, k9_bs, k9_ba]) | (refine k9o_call (k9s_153x (by first | omega | (simp (disch := omega) only [n_toInt, n_pm1, k9L_m2, k9L_m1, k9L_0, k9L_1, k9L_2, k9L_3, k9L_4, k9L_5, k9L_6, k9L_7, k9L_8, k9L_9, k9L_10, k9L_20, k9L_23, k9L_24, k9L_30, k9L_40, k9L_50, k9L_60, k9L_99, k9L_100, k9L_120, k9L_255, k9L_999, k9L_1000]; omega))) ?_; simp (disch := omega) only [k9e_221_0, k9e_221_2, k9e_221_3, k9e_221_5, k9e_221_6, k9e_221_9, k9e_221_10, k9e_155_0, k9e_155_4, k9e_156_0, k9e_156_4, Nat.reduceEqDiff, Int.reduceEq, Int.reduceLT, Int.reduceLE, k9_ps_s, k9_ps_n, k9_ur, false_and, and_false, true_and, and_true, true_or, or_true, false_or, or_false, eq_self, ↓reduceIte, not_true_eq_false, not_false_eq_true, n_toInt, n_cl, nI_1, nI_add, n_a0, n_p2, n_p3, n_p4, n_x2, n_x3, n_x4, n_x60, n_x100, n_pm1, k9L_m2, k9L_m1, k9L_0, k9L_1, k9L_2, k9L_3, k9L_4, k9L_5, k9L_6, k9L_7, k9L_8, k9L_9, k9L_10, k9L_20, k9L_23, k9L_24, k9L_30, k9L_40, k9L_50, k9L_60, k9L_99, k9L_100, k9L_120, k9L_255, k9L_999, k9L_1000, k9_bs, k9_ba]) | simp (disch := omega) only [k9e_221_0, k9e_221_2, k9e_221_3, k9e_221_5, k9e_221_6, k9e_221_9, k9e_221_10, k9e_155_0, k9e_155_4, k9e_156_0, k9e_156_4, Nat.reduceEqDiff, Int.reduceEq, Int.reduceLT, Int.reduceLE, k9_ps_s, k9_ps_n, k9_ur, false_and, and_false, true_and, and_true, true_or, or_true, false_or, or_false, eq_self, ↓reduceIte, not_true_eq_false, not_false_eq_true, n_toInt, n_cl, nI_1, nI_add, n_a0, n_p2, n_p3, n_p4, n_x2, n_x3, n_x4, n_x60, n_x100, n_pm1, k9L_m2, k9L_m1, k9L_0, k9L_1, k9L_2, k9L_3, k9L_4, k9L_5, k9L_6, k9L_7, k9L_8, k9L_9, k9L_10, k9L_20, k9L_23, k9L_24, k9L_30, k9L_40, k9L_50, k9L_60, k9L_99, k9L_100, k9L_120, k9L_255, k9L_999, k9L_1000, k9_bs, k9_ba] | (with_reducible refine k9q_if (fun _ => ?_) (fun _ => ?_)) | (with_reducible refine k9q_ifb (fun _ => ?_) (fun _ => ?_)))
    all_goals exact k9o_ret ⟨_, _, rfl, hI'⟩
end KT23

/-! SEEN: stuck, the call -/
section KT24
variable {S : k9_S} {d : Nat} {I I' : k9_I} {J J' : k9_J} {w : Nat → Nat → Nat} {V : (Nat → Int32) → Int32} {b : Nat} {x1 x2 x3 : Int32}
def p_pp (l : Nat → Int32) : Nat → Nat → Int32
  | 0, _ => -2
  | k + 1, p => if l p = -2 then p_pp l k (p + 1) else nI (100 * p) + l p
theorem t_stuck (hI : k9_Inv I J) : k9_P S (d + 20) 123 220 [some (k9_r 1 0), some (k9_i x1), some (k9_i x2), none, none, none] [some (k9_r 12 0), some (k9_i x1), some (k9_i x2), none, none, none, none, none] I J k9_Inv := by
  have hI' := hI
  obtain ⟨w, V, b, v⟩ := hI
  have v : k9_Iv I J w V b := v
  have hf := v.1.2.2.1
  have h6 := hf.1
  have hb := v.2.2.2.2.1.1
  have v6 := v.2.2.2.2.2.1
  refine k9P_of ?_
  by_cases h1 : 0 ≤ x1.toInt ∧ x1.toInt ≤ 5
  · by_cases h2 : 0 ≤ x2.toInt ∧ x2.toInt ≤ 999
    · obtain ⟨s, rfl, hs, -⟩ := n_of (x := x1) (by omega)
      obtain ⟨t, rfl, ht, -⟩ := n_of (x := x2) (by omega)
      have hs6 : s < 6 := by omega
      rcases k9_byrs hb (v6.1 s hs6) with ⟨z, hz⟩ | ⟨r, hr⟩
      · obtain ⟨l, hl⟩ : ∃ l : Nat → Int32, l = fun p => p_lv (p_gv w V (fun i => (J 37 s i).toInt32) t z 2 p) 61 0 := ⟨_, rfl⟩
        have hlu : ∀ p, l p = p_lv (p_gv w V (fun i => (J 37 s i).toInt32) t z 2 p) 61 0 := fun p => by rw [hl]
        have kc : ∀ k p I1, p + k = w 7 0 → k9_fx k9_Ft I I1 → ∃ I2, k9_ok (k9_R S (d + 20) 123 19 [some (k9_r 1 0), some (k9_i (nI s)), some (k9_i (nI t)), some (k9_r 11 s), some (k9_i (nI p)), none] [] I1 J) (fun q => q = (some (k9_i (p_pp l k p)), I2, J)) ∧ k9_fx k9_Ft I I2 := by
          intro k
          induction k with
          | zero =>
            intro p I1 hp hx
            have i1 : k9_Iv I1 J w V b := k9_Iv_0 (k9_fp_x hx (k9_Ft_X rfl)) v
            refine ⟨I1, k9o_eq k9e_123_19 (k9o_T ?_ (k9o_eq k9e_123_43 (k9o_ret rfl))), hx⟩
            rw [i1.1.1.1, n_toInt (by omega), n_toInt (by omega)]
            omega
          | succ k ih =>
            intro p I1 hp hx
            have i1 : k9_Iv I1 J w V b := k9_Iv_0 (k9_fp_x hx (k9_Ft_X rfl)) v
            have hp7 : p < w 7 0 := by omega
            obtain ⟨I2, e2, x2⟩ := k9s_152 (S := S) (d := d + 11) (s := s) (z := z) (t := t) (q := 2) (p := p) i1 (k9_by_x hx hz) (by omega) (Or.inr rfl) hp7
            have e2 : k9_R S (d + 19) 152 0 [some (k9_r 1 0), some (k9_i (nI p)), some (k9_i 2), some (k9_r 11 s), some (k9_i (nI t)), none, none] [] I1 J = some (some (k9_i (l p)), I2, J) := by rw [hlu]; exact e2
            have hx2 := k9_fx_tr hx x2
            rw [p_pp]
            by_cases c : l p = -2
            · obtain ⟨I3, o3, x3⟩ := ih (p + 1) I2 (by omega) hx2
              refine ⟨I3, k9o_eq k9e_123_19 (k9o_F ?_ (k9o_eq k9e_123_25 (k9o_call e2 ?_))), x3⟩
              · rw [i1.1.1.1, n_toInt (by omega), n_toInt (by omega)]
                omega
              · simp only [k9_ps_s]
                refine k9o_eq k9e_123_31 (k9o_T (by rw [c]; decide) (k9o_eq k9e_123_41 ?_))
                rw [nI_1, if_pos c]
                exact o3
            · refine ⟨I2, k9o_eq k9e_123_19 (k9o_F ?_ (k9o_eq k9e_123_25 (k9o_call e2 ?_))), hx2⟩
              · rw [i1.1.1.1, n_toInt (by omega), n_toInt (by omega)]
                omega
              · simp only [k9_ps_s]
                refine k9o_eq k9e_123_31 (k9o_F (fun y => c (n_ext (by rw [y]; decide))) (k9o_eq k9e_123_35 ?_))
                rw [n_x100, if_neg c]
                exact k9o_ret rfl
        obtain ⟨I1, o1, x1'⟩ := kc (w 7 0) 0 I (by omega) (k9_fx_rf _ _)
        have i1 : k9_Iv I1 J w V b := k9_Iv_0 (k9_fp_x x1' (k9_Ft_X rfl)) v
        have by1 := k9_by_x x1' hz
        -- one piece, in the reference
        have one : ∀ p I2, p < w 7 0 → k9_Iv I2 J w V b → k9_byr I2 s z → ∀ Q : k9_A → Prop, (∀ I3, k9_Iv I3 J w V b → k9_byr I3 s z → ∀ x7 : Int32, k9_ok (k9_R S (d + 20) 220 55 [some (k9_r 12 0), some (k9_i (nI s)), some (k9_i (nI t)), some (k9_i 0), some (k9_i (nI p)), some (k9_i (I2 42 0 p)), some (k9_i (l p)), some (k9_i x7)] [] I3 J) Q) → k9_ok (k9_R S (d + 20) 220 22 [some (k9_r 12 0), some (k9_i (nI s)), some (k9_i (nI t)), some (k9_i 0), some (k9_i (nI p)), none, none, none] [] I2 J) Q := by
          intro p I2 hp7 i2 by2 Q g
          obtain ⟨gv, hgv⟩ : ∃ gv, gv = p_gv w V (fun i => (J 37 s i).toInt32) t z 2 p := ⟨_, rfl⟩
          have km : ∀ m I3, m ≤ 61 → k9_fx (k9_F3 42 p) I2 I3 → k9_ok (k9_R S (d + 20) 220 31 [some (k9_r 12 0), some (k9_i (nI s)), some (k9_i (nI t)), some (k9_i 0), some (k9_i (nI p)), some (k9_i (I2 42 0 p)), some (k9_i (p_lv gv (61 - m) m)), some (k9_i (nI m - 1))] [] I3 J) Q := by
            intro m
            induction m with
            | zero =>
              intro I3 hm hx
              refine k9o_eq k9e_220_31 (k9o_T (by rw [n_pm1 (by omega)]; omega) (k9o_eq k9e_220_50 (k9o_T (by rw [n_toInt (by omega)]; omega) ?_)))
              rw [n_cl (by omega)]
              have hfp := k9_F3_e hx
              have i3 := k9_Iv_0 hfp i2
              have by3 : k9_byr (k9_u I3 42 0 p (I2 42 0 p)) s z := by
                refine k9_by_t (funext fun p' => ?_) ?_ ?_ by2
                · simp only [k9_ur, Nat.reduceEqDiff, false_and, ↓reduceIte]
                  exact hx 11 s p' (k9_F3_o rfl (by omega))
                · simp only [k9_ur, Nat.reduceEqDiff, false_and, ↓reduceIte]
                  exact hx 60 0 s (k9_F3_o rfl (by omega))
                · simp only [k9_ur, Nat.reduceEqDiff, false_and, ↓reduceIte]
                  exact hx 61 0 s (k9_F3_o rfl (by omega))
              have := g _ i3 by3 (nI 0 - 1)
              rw [hlu, ← hgv] at this
              exact this
            | succ m ih =>
              intro I3 hm hx
              obtain ⟨I4, e4, m4, x4⟩ := k9_run3 (S := S) (d := d + 14) (q := 2) (p := p) (m := m) i2 hx (Or.inr rfl) hp7 (by simp [p_lo]) (by simp [p_hi]; omega)
              have e216 := k9s_216 (S := S) (d := d + 18) (J := J) (s := s) (t := t) (z := z) m4 hs6 hz.2.2.2.2.2 ((x4 61 0 s (k9_F3_o rfl (by omega))).trans by2.2.2.2.2.1) (by omega) (fun p hp => v6.2 s hs6 p hp)
              have e216 : k9_R S (d + 19) 216 0 [some (k9_r 12 0), some (k9_i (nI s)), some (k9_i (nI t)), none] [] I4 J = some (some (k9_i (gv m)), I4, J) := by rw [hgv]; exact e216
              have o4 := ih I4 (by omega) x4
              have hp6 : p < 6 := by omega
              rw [n_s1 (by omega), Nat.add_sub_cancel]
              refine k9o_eq k9e_220_31 (k9o_F (by rw [n_toInt (by omega)]; omega) (k9o_eq k9e_220_33 (k9o_T (by rw [n_toInt (by omega)]; omega) (k9o_eq k9e_220_38 ?_))))
              rw [n_cl (by omega)]
              refine k9o_call e4 ?_
              simp only [k9_ps_n]
              refine k9o_eq k9e_220_40 (k9o_call e216 ?_)
              simp only [k9_ps_s]
              refine k9o_eq k9e_220_44 ?_
              have em : nI m + (-1) = nI m - 1 := by rw [Int32.sub_eq_add_neg]
              rw [show 61 - m = (61 - (m + 1)) + 1 by omega, p_lv] at o4
              by_cases c : gv m = -2
              · rw [if_pos c] at o4
                refine k9o_T (by rw [c]; decide) (k9o_eq k9e_220_46 (k9o_eq k9e_220_48 ?_))
                rw [em]
                exact o4
              · rw [if_neg c] at o4
                refine k9o_F (fun y => c (n_ext (by rw [y]; decide))) (k9o_eq k9e_220_48 ?_)
                rw [em]
                exact o4
          refine k9o_eq k9e_220_22 (k9o_T (by rw [n_toInt (by omega)]; omega) (k9o_eq k9e_220_26 ?_))
          rw [n_cl (by omega)]
          exact km 61 I2 (Nat.le_refl _) (k9_fx_rf _ _)
        have km : ∀ k p I2, p + k = w 7 0 → k9_Iv I2 J w V b → k9_byr I2 s z → k9_ok (k9_R S (d + 20) 220 18 [some (k9_r 12 0), some (k9_i (nI s)), some (k9_i (nI t)), some (k9_i 0), some (k9_i (nI p)), none, none, none] [] I2 J) (fun q => ∃ I3 J3, q = (some (k9_i (p_pp l k p)), I3, J3) ∧ k9_Inv I3 J3) := by
          intro k
          induction k with
          | zero =>
            intro p I2 hp i2 by2
            refine k9o_eq k9e_220_18 (k9o_T ?_ (k9o_eq k9e_220_66 (k9o_ret ⟨_, _, rfl, k9_Iv_e i2⟩)))
            rw [i2.1.2.1.1, n_toInt (by omega), n_toInt (by omega)]
            omega
          | succ k ih =>
            intro p I2 hp i2 by2
            refine k9o_eq k9e_220_18 (k9o_F ?_ (one p I2 (by omega) i2 by2 _ (fun I3 i3 by3 x7 => ?_)))
            · rw [i2.1.2.1.1, n_toInt (by omega), n_toInt (by omega)]
              omega
            · refine k9o_eq k9e_220_55 ?_
              rw [p_pp]
              by_cases c : l p = -2
              · rw [if_pos c]
                refine k9o_T (by rw [c]; decide) (k9o_eq k9e_220_64 ?_)
                rw [nI_1]
                exact ih (p + 1) I3 (by omega) i3 by3
              · rw [if_neg c]
                refine k9o_F (fun y => c (n_ext (by rw [y]; decide))) (k9o_eq k9e_220_58 ?_)
                rw [n_x100]
                exact k9o_ret ⟨_, _, rfl, k9_Iv_e i3⟩
        simp (disch := omega) only [k9e_123_0, k9e_123_3, k9e_123_3b, k9e_123_8, k9e_123_9, k9e_123_9b, k9e_123_11, k9e_123_13, k9e_123_14, k9e_123_16, k9e_123_17, k9e_144_0, k9e_144_2, k9e_144_5, k9e_144_9, k9e_144_10, k9e_144_11, k9e_144_11b, k9e_145_0, k9e_145_2, k9e_145_5, k9e_145_7, k9e_145_8, Nat.reduceEqDiff, Int.reduceEq, Int.reduceLT, Int.reduceLE, k9_ps_s, k9_ps_n, k9_ur, false_and, and_false, true_and, and_true, true_or, or_true, false_or, or_false, eq_self, ↓reduceIte, not_true_eq_false, not_false_eq_true, n_toInt, n_cl, nI_1, nI_add, n_a0, n_p2, n_p3, n_p4, n_x2, n_x3, n_x4, n_x60, n_x100, n_pm1, k9L_m2, k9L_m1, k9L_0, k9L_1, k9L_2, k9L_3, k9L_4, k9L_5, k9L_6, k9L_7, k9L_8, k9L_9, k9L_10, k9L_20, k9L_23, k9L_24, k9L_30, k9L_40, k9L_50, k9L_60, k9L_99, k9L_100, k9L_120, k9L_255, k9L_999, k9L_1000, k9_bs, k9_ba]
        repeat (first | ((with_reducible refine k9q_T ?_ ?_); · omega) | ((with_reducible refine k9q_F ?_ ?_); · omega) | ((with_reducible refine k9q_Tb ?_ ?_); · omega) | ((with_reducible refine k9q_Fb ?_ ?_); · omega) | (refine k9o_call (k9s_91 hz) ?_; simp (disch := omega) only [k9e_123_0, k9e_123_3, k9e_123_3b, k9e_123_8, k9e_123_9, k9e_123_9b, k9e_123_11, k9e_123_13, k9e_123_14, k9e_123_16, k9e_123_17, k9e_144_0, k9e_144_2, k9e_144_5, k9e_144_9, k9e_144_10, k9e_144_11, k9e_144_11b, k9e_145_0, k9e_145_2, k9e_145_5, k9e_145_7, k9e_145_8, Nat.reduceEqDiff, Int.reduceEq, Int.reduceLT, Int.reduceLE, k9_ps_s, k9_ps_n, k9_ur, false_and, and_false, true_and, and_true, true_or, or_true, false_or, or_false, eq_self, ↓reduceIte, not_true_eq_false, not_false_eq_true, n_toInt, n_cl, nI_1, nI_add, n_a0, n_p2, n_p3, n_p4, n_x2, n_x3, n_x4, n_x60, n_x100, n_pm1, k9L_m2, k9L_m1, k9L_0, k9L_1, k9L_2, k9L_3, k9L_4, k9L_5, k9L_6, k9L_7, k9L_8, k9L_9, k9L_10, k9L_20, k9L_23, k9L_24, k9L_30, k9L_40, k9L_50, k9L_60, k9L_99, k9L_100, k9L_120, k9L_255, k9L_999, k9L_1000, k9_bs, k9_ba]) | simp (disch := omega) only [k9e_123_0, k9e_123_3, k9e_123_3b, k9e_123_8, k9e_123_9, k9e_123_9b, k9e_123_11, k9e_123_13, k9e_123_14, k9e_123_16, k9e_123_17, k9e_144_0, k9e_144_2, k9e_144_5, k9e_144_9, k9e_144_10, k9e_144_11, k9e_144_11b, k9e_145_0, k9e_145_2, k9e_145_5, k9e_145_7, k9e_145_8, Nat.reduceEqDiff, Int.reduceEq, Int.reduceLT, Int.reduceLE, k9_ps_s, k9_ps_n, k9_ur, false_and, and_false, true_and, and_true, true_or, or_true, false_or, or_false, eq_self, ↓reduceIte, not_true_eq_false, not_false_eq_true, n_toInt, n_cl, nI_1, nI_add, n_a0, n_p2, n_p3, n_p4, n_x2, n_x3, n_x4, n_x60, n_x100, n_pm1, k9L_m2, k9L_m1, k9L_0, k9L_1, k9L_2, k9L_3, k9L_4, k9L_5, k9L_6, k9L_7, k9L_8, k9L_9, k9L_10, k9L_20, k9L_23, k9L_24, k9L_30, k9L_40, k9L_50, k9L_60, k9L_99, k9L_100, k9L_120, k9L_255, k9L_999, k9L_1000, k9_bs, k9_ba])
        obtain ⟨q1, c1, rfl⟩ := o1
        refine k9o_to c1 ⟨_, _, _, rfl, ?_⟩
        simp (disch := omega) only [k9e_220_0, k9e_220_2, k9e_220_3, k9e_220_5, k9e_220_6, k9e_220_8, k9e_220_11, k9e_220_14, k9e_220_16, k9e_155_0, k9e_155_4, k9e_156_0, k9e_156_4, Nat.reduceEqDiff, Int.reduceEq, Int.reduceLT, Int.reduceLE, k9_ps_s, k9_ps_n, k9_ur, false_and, and_false, true_and, and_true, true_or, or_true, false_or, or_false, eq_self, ↓reduceIte, not_true_eq_false, not_false_eq_true, n_toInt, n_cl, nI_1, nI_add, n_a0, n_p2, n_p3, n_p4, n_x2, n_x3, n_x4, n_x60, n_x100, n_pm1, k9L_m2, k9L_m1, k9L_0, k9L_1, k9L_2, k9L_3, k9L_4, k9L_5, k9L_6, k9L_7, k9L_8, k9L_9, k9L_10, k9L_20, k9L_23, k9L_24, k9L_30, k9L_40, k9L_50, k9L_60, k9L_99, k9L_100, k9L_120, k9L_255, k9L_999, k9L_1000, k9_bs, k9_ba]
        repeat (first | ((with_reducible refine k9q_T ?_ ?_); · omega) | ((with_reducible refine k9q_F ?_ ?_); · omega) | ((with_reducible refine k9q_Tb ?_ ?_); · omega) | ((with_reducible refine k9q_Fb ?_ ?_); · omega) | (refine k9o_call (k9s_153 (by first | omega | (simp (disch := omega) only [n_toInt, n_pm1, k9L_m2, k9L_m1, k9L_0, k9L_1, k9L_2, k9L_3, k9L_4, k9L_5, k9L_6, k9L_7, k9L_8, k9L_9, k9L_10, k9L_20, k9L_23, k9L_24, k9L_30, k9L_40, k9L_50, k9L_60, k9L_99, k9L_100, k9L_120, k9L_255, k9L_999, k9L_1000]; omega))) ?_; simp (disch := omega) only [k9e_220_0, k9e_220_2, k9e_220_3, k9e_220_5, k9e_220_6, k9e_220_8, k9e_220_11, k9e_220_14, k9e_220_16, k9e_155_0, k9e_155_4, k9e_156_0, k9e_156_4, Nat.reduceEqDiff, Int.reduceEq, Int.reduceLT, Int.reduceLE, k9_ps_s, k9_ps_n, k9_ur, false_and, and_false, true_and, and_true, true_or, or_true, false_or, or_false, eq_self, ↓reduceIte, not_true_eq_false, not_false_eq_true, n_toInt, n_cl, nI_1, nI_add, n_a0, n_p2, n_p3, n_p4, n_x2, n_x3, n_x4, n_x60, n_x100, n_pm1, k9L_m2, k9L_m1, k9L_0, k9L_1, k9L_2, k9L_3, k9L_4, k9L_5, k9L_6, k9L_7, k9L_8, k9L_9, k9L_10, k9L_20, k9L_23, k9L_24, k9L_30, k9L_40, k9L_50, k9L_60, k9L_99, k9L_100, k9L_120, k9L_255, k9L_999, k9L_1000, k9_bs, k9_ba]) | (refine k9o_call (k9s_153x (by first | omega | (simp (disch := omega) only [n_toInt, n_pm1, k9L_m2, k9L_m1, k9L_0, k9L_1, k9L_2, k9L_3, k9L_4, k9L_5, k9L_6, k9L_7, k9L_8, k9L_9, k9L_10, k9L_20, k9L_23, k9L_24, k9L_30, k9L_40, k9L_50, k9L_60, k9L_99, k9L_100, k9L_120, k9L_255, k9L_999, k9L_1000]; omega))) ?_; simp (disch := omega) only [k9e_220_0, k9e_220_2, k9e_220_3, k9e_220_5, k9e_220_6, k9e_220_8, k9e_220_11, k9e_220_14, k9e_220_16, k9e_155_0, k9e_155_4, k9e_156_0, k9e_156_4, Nat.reduceEqDiff, Int.reduceEq, Int.reduceLT, Int.reduceLE, k9_ps_s, k9_ps_n, k9_ur, false_and, and_false, true_and, and_true, true_or, or_true, false_or, or_false, eq_self, ↓reduceIte, not_true_eq_false, not_false_eq_true, n_toInt, n_cl, nI_1, nI_add, n_a0, n_p2, n_p3, n_p4, n_x2, n_x3, n_x4, n_x60, n_x100, n_pm1, k9L_m2, k9L_m1, k9L_0, k9L_1, k9L_2, k9L_3, k9L_4, k9L_5, k9L_6, k9L_7, k9L_8, k9L_9, k9L_10, k9L_20, k9L_23, k9L_24, k9L_30, k9L_40, k9L_50, k9L_60, k9L_99, k9L_100, k9L_120, k9L_255, k9L_999, k9L_1000, k9_bs, k9_ba]) | (refine k9o_call (k9s_208 hs6 by1) ?_; simp (disch := omega) only [k9e_220_0, k9e_220_2, k9e_220_3, k9e_220_5, k9e_220_6, k9e_220_8, k9e_220_11, k9e_220_14, k9e_220_16, k9e_155_0, k9e_155_4, k9e_156_0, k9e_156_4, Nat.reduceEqDiff, Int.reduceEq, Int.reduceLT, Int.reduceLE, k9_ps_s, k9_ps_n, k9_ur, false_and, and_false, true_and, and_true, true_or, or_true, false_or, or_false, eq_self, ↓reduceIte, not_true_eq_false, not_false_eq_true, n_toInt, n_cl, nI_1, nI_add, n_a0, n_p2, n_p3, n_p4, n_x2, n_x3, n_x4, n_x60, n_x100, n_pm1, k9L_m2, k9L_m1, k9L_0, k9L_1, k9L_2, k9L_3, k9L_4, k9L_5, k9L_6, k9L_7, k9L_8, k9L_9, k9L_10, k9L_20, k9L_23, k9L_24, k9L_30, k9L_40, k9L_50, k9L_60, k9L_99, k9L_100, k9L_120, k9L_255, k9L_999, k9L_1000, k9_bs, k9_ba]) | simp (disch := omega) only [k9e_220_0, k9e_220_2, k9e_220_3, k9e_220_5, k9e_220_6, k9e_220_8, k9e_220_11, k9e_220_14, k9e_220_16, k9e_155_0, k9e_155_4, k9e_156_0, k9e_156_4, Nat.reduceEqDiff, Int.reduceEq, Int.reduceLT, Int.reduceLE, k9_ps_s, k9_ps_n, k9_ur, false_and, and_false, true_and, and_true, true_or, or_true, false_or, or_false, eq_self, ↓reduceIte, not_true_eq_false, not_false_eq_true, n_toInt, n_cl, nI_1, nI_add, n_a0, n_p2, n_p3, n_p4, n_x2, n_x3, n_x4, n_x60, n_x100, n_pm1, k9L_m2, k9L_m1, k9L_0, k9L_1, k9L_2, k9L_3, k9L_4, k9L_5, k9L_6, k9L_7, k9L_8, k9L_9, k9L_10, k9L_20, k9L_23, k9L_24, k9L_30, k9L_40, k9L_50, k9L_60, k9L_99, k9L_100, k9L_120, k9L_255, k9L_999, k9L_1000, k9_bs, k9_ba])
        exact km (w 7 0) 0 I1 (by omega) i1 by1
      · have hrr := k9_nb_r hr
        simp (disch := omega) only [k9e_123_0, k9e_123_3, k9e_123_3b, k9e_123_8, k9e_123_9, k9e_123_9b, k9e_123_11, k9e_123_13, k9e_123_14, k9e_123_16, k9e_123_17, k9e_144_0, k9e_144_2, k9e_144_5, k9e_144_9, k9e_144_10, k9e_144_11, k9e_144_11b, k9e_145_0, k9e_145_2, k9e_145_5, k9e_145_7, k9e_145_8, Nat.reduceEqDiff, Int.reduceEq, Int.reduceLT, Int.reduceLE, k9_ps_s, k9_ps_n, k9_ur, false_and, and_false, true_and, and_true, true_or, or_true, false_or, or_false, eq_self, ↓reduceIte, not_true_eq_false, not_false_eq_true, n_toInt, n_cl, nI_1, nI_add, n_a0, n_p2, n_p3, n_p4, n_x2, n_x3, n_x4, n_x60, n_x100, n_pm1, k9L_m2, k9L_m1, k9L_0, k9L_1, k9L_2, k9L_3, k9L_4, k9L_5, k9L_6, k9L_7, k9L_8, k9L_9, k9L_10, k9L_20, k9L_23, k9L_24, k9L_30, k9L_40, k9L_50, k9L_60, k9L_99, k9L_100, k9L_120, k9L_255, k9L_999, k9L_1000, k9_bs, k9_ba]
        repeat (first | ((with_reducible refine k9q_T ?_ ?_); · omega) | ((with_reducible refine k9q_F ?_ ?_); · omega) | ((with_reducible refine k9q_Tb ?_ ?_); · omega) | ((with_reducible refine k9q_Fb ?_ ?_); · omega) | (refine k9o_call (k9s_91x hr) ?_; simp (disch := omega) only [k9e_123_0, k9e_123_3, k9e_123_3b, k9e_123_8, k9e_123_9, k9e_123_9b, k9e_123_11, k9e_123_13, k9e_123_14, k9e_123_16, k9e_123_17, k9e_144_0, k9e_144_2, k9e_144_5, k9e_144_9, k9e_144_10, k9e_144_11, k9e_144_11b, k9e_145_0, k9e_145_2, k9e_145_5, k9e_145_7, k9e_145_8, Nat.reduceEqDiff, Int.reduceEq, Int.reduceLT, Int.reduceLE, k9_ps_s, k9_ps_n, k9_ur, false_and, and_false, true_and, and_true, true_or, or_true, false_or, or_false, eq_self, ↓reduceIte, not_true_eq_false, not_false_eq_true, n_toInt, n_cl, nI_1, nI_add, n_a0, n_p2, n_p3, n_p4, n_x2, n_x3, n_x4, n_x60, n_x100, n_pm1, k9L_m2, k9L_m1, k9L_0, k9L_1, k9L_2, k9L_3, k9L_4, k9L_5, k9L_6, k9L_7, k9L_8, k9L_9, k9L_10, k9L_20, k9L_23, k9L_24, k9L_30, k9L_40, k9L_50, k9L_60, k9L_99, k9L_100, k9L_120, k9L_255, k9L_999, k9L_1000, k9_bs, k9_ba]) | (refine k9o_call (k9s_92 hr) ?_; simp (disch := omega) only [k9e_123_0, k9e_123_3, k9e_123_3b, k9e_123_8, k9e_123_9, k9e_123_9b, k9e_123_11, k9e_123_13, k9e_123_14, k9e_123_16, k9e_123_17, k9e_144_0, k9e_144_2, k9e_144_5, k9e_144_9, k9e_144_10, k9e_144_11, k9e_144_11b, k9e_145_0, k9e_145_2, k9e_145_5, k9e_145_7, k9e_145_8, Nat.reduceEqDiff, Int.reduceEq, Int.reduceLT, Int.reduceLE, k9_ps_s, k9_ps_n, k9_ur, false_and, and_false, true_and, and_true, true_or, or_true, false_or, or_false, eq_self, ↓reduceIte, not_true_eq_false, not_false_eq_true, n_toInt, n_cl, nI_1, nI_add, n_a0, n_p2, n_p3, n_p4, n_x2, n_x3, n_x4, n_x60, n_x100, n_pm1, k9L_m2, k9L_m1, k9L_0, k9L_1, k9L_2, k9L_3, k9L_4, k9L_5, k9L_6, k9L_7, k9L_8, k9L_9, k9L_10, k9L_20, k9L_23, k9L_24, k9L_30, k9L_40, k9L_50, k9L_60, k9L_99, k9L_100, k9L_120, k9L_255, k9L_999, k9L_1000, k9_bs, k9_ba]) | simp (disch := omega) only [k9e_123_0, k9e_123_3, k9e_123_3b, k9e_123_8, k9e_123_9, k9e_123_9b, k9e_123_11, k9e_123_13, k9e_123_14, k9e_123_16, k9e_123_17, k9e_144_0, k9e_144_2, k9e_144_5, k9e_144_9, k9e_144_10, k9e_144_11, k9e_144_11b, k9e_145_0, k9e_145_2, k9e_145_5, k9e_145_7, k9e_145_8, Nat.reduceEqDiff, Int.reduceEq, Int.reduceLT, Int.reduceLE, k9_ps_s, k9_ps_n, k9_ur, false_and, and_false, true_and, and_true, true_or, or_true, false_or, or_false, eq_self, ↓reduceIte, not_true_eq_false, not_false_eq_true, n_toInt, n_cl, nI_1, nI_add, n_a0, n_p2, n_p3, n_p4, n_x2, n_x3, n_x4, n_x60, n_x100, n_pm1, k9L_m2, k9L_m1, k9L_0, k9L_1, k9L_2, k9L_3, k9L_4, k9L_5, k9L_6, k9L_7, k9L_8, k9L_9, k9L_10, k9L_20, k9L_23, k9L_24, k9L_30, k9L_40, k9L_50, k9L_60, k9L_99, k9L_100, k9L_120, k9L_255, k9L_999, k9L_1000, k9_bs, k9_ba])
        refine k9o_ret ⟨_, _, _, rfl, ?_⟩
        simp (disch := omega) only [k9e_220_0, k9e_220_2, k9e_220_3, k9e_220_5, k9e_220_6, k9e_220_8, k9e_220_11, k9e_220_14, k9e_220_16, k9e_155_0, k9e_155_4, k9e_156_0, k9e_156_4, Nat.reduceEqDiff, Int.reduceEq, Int.reduceLT, Int.reduceLE, k9_ps_s, k9_ps_n, k9_ur, false_and, and_false, true_and, and_true, true_or, or_true, false_or, or_false, eq_self, ↓reduceIte, not_true_eq_false, not_false_eq_true, n_toInt, n_cl, nI_1, nI_add, n_a0, n_p2, n_p3, n_p4, n_x2, n_x3, n_x4, n_x60, n_x100, n_pm1, k9L_m2, k9L_m1, k9L_0, k9L_1, k9L_2, k9L_3, k9L_4, k9L_5, k9L_6, k9L_7, k9L_8, k9L_9, k9L_10, k9L_20, k9L_23, k9L_24, k9L_30, k9L_40, k9L_50, k9L_60, k9L_99, k9L_100, k9L_120, k9L_255, k9L_999, k9L_1000, k9_bs, k9_ba]
        repeat (first | ((with_reducible refine k9q_T ?_ ?_); · omega) | ((with_reducible refine k9q_F ?_ ?_); · omega) | ((with_reducible refine k9q_Tb ?_ ?_); · omega) | ((with_reducible refine k9q_Fb ?_ ?_); · omega) | (refine k9o_call (k9s_153 (by first | omega | (simp (disch := omega) only [n_toInt, n_pm1, k9L_m2, k9L_m1, k9L_0, k9L_1, k9L_2, k9L_3, k9L_4, k9L_5, k9L_6, k9L_7, k9L_8, k9L_9, k9L_10, k9L_20, k9L_23, k9L_24, k9L_30, k9L_40, k9L_50, k9L_60, k9L_99, k9L_100, k9L_120, k9L_255, k9L_999, k9L_1000]; omega))) ?_; simp (disch := omega) only [k9e_220_0, k9e_220_2, k9e_220_3, k9e_220_5, k9e_220_6, k9e_220_8, k9e_220_11, k9e_220_14, k9e_220_16, k9e_155_0, k9e_155_4, k9e_156_0, k9e_156_4, Nat.reduceEqDiff, Int.reduceEq, Int.reduceLT, Int.reduceLE, k9_ps_s, k9_ps_n, k9_ur, false_and, and_false, true_and, and_true, true_or, or_true, false_or, or_false, eq_self, ↓reduceIte, not_true_eq_false, not_false_eq_true, n_toInt, n_cl, nI_1, nI_add, n_a0, n_p2, n_p3, n_p4, n_x2, n_x3, n_x4, n_x60, n_x100, n_pm1, k9L_m2, k9L_m1, k9L_0, k9L_1, k9L_2, k9L_3, k9L_4, k9L_5, k9L_6, k9L_7, k9L_8, k9L_9, k9L_10, k9L_20, k9L_23, k9L_24, k9L_30, k9L_40, k9L_50, k9L_60, k9L_99, k9L_100, k9L_120, k9L_255, k9L_999, k9L_1000, k9_bs, k9_ba]) | (refine k9o_call (k9s_153x (by first | omega | (simp (disch := omega) only [n_toInt, n_pm1, k9L_m2, k9L_m1, k9L_0, k9L_1, k9L_2, k9L_3, k9L_4, k9L_5, k9L_6, k9L_7, k9L_8, k9L_9, k9L_10, k9L_20, k9L_23, k9L_24, k9L_30, k9L_40, k9L_50, k9L_60, k9L_99, k9L_100, k9L_120, k9L_255, k9L_999, k9L_1000]; omega))) ?_; simp (disch := omega) only [k9e_220_0, k9e_220_2, k9e_220_3, k9e_220_5, k9e_220_6, k9e_220_8, k9e_220_11, k9e_220_14, k9e_220_16, k9e_155_0, k9e_155_4, k9e_156_0, k9e_156_4, Nat.reduceEqDiff, Int.reduceEq, Int.reduceLT, Int.reduceLE, k9_ps_s, k9_ps_n, k9_ur, false_and, and_false, true_and, and_true, true_or, or_true, false_or, or_false, eq_self, ↓reduceIte, not_true_eq_false, not_false_eq_true, n_toInt, n_cl, nI_1, nI_add, n_a0, n_p2, n_p3, n_p4, n_x2, n_x3, n_x4, n_x60, n_x100, n_pm1, k9L_m2, k9L_m1, k9L_0, k9L_1, k9L_2, k9L_3, k9L_4, k9L_5, k9L_6, k9L_7, k9L_8, k9L_9, k9L_10, k9L_20, k9L_23, k9L_24, k9L_30, k9L_40, k9L_50, k9L_60, k9L_99, k9L_100, k9L_120, k9L_255, k9L_999, k9L_1000, k9_bs, k9_ba]) | (refine k9o_call (k9s_208x hs6 hr) ?_; simp (disch := omega) only [k9e_220_0, k9e_220_2, k9e_220_3, k9e_220_5, k9e_220_6, k9e_220_8, k9e_220_11, k9e_220_14, k9e_220_16, k9e_155_0, k9e_155_4, k9e_156_0, k9e_156_4, Nat.reduceEqDiff, Int.reduceEq, Int.reduceLT, Int.reduceLE, k9_ps_s, k9_ps_n, k9_ur, false_and, and_false, true_and, and_true, true_or, or_true, false_or, or_false, eq_self, ↓reduceIte, not_true_eq_false, not_false_eq_true, n_toInt, n_cl, nI_1, nI_add, n_a0, n_p2, n_p3, n_p4, n_x2, n_x3, n_x4, n_x60, n_x100, n_pm1, k9L_m2, k9L_m1, k9L_0, k9L_1, k9L_2, k9L_3, k9L_4, k9L_5, k9L_6, k9L_7, k9L_8, k9L_9, k9L_10, k9L_20, k9L_23, k9L_24, k9L_30, k9L_40, k9L_50, k9L_60, k9L_99, k9L_100, k9L_120, k9L_255, k9L_999, k9L_1000, k9_bs, k9_ba]) | simp (disch := omega) only [k9e_220_0, k9e_220_2, k9e_220_3, k9e_220_5, k9e_220_6, k9e_220_8, k9e_220_11, k9e_220_14, k9e_220_16, k9e_155_0, k9e_155_4, k9e_156_0, k9e_156_4, Nat.reduceEqDiff, Int.reduceEq, Int.reduceLT, Int.reduceLE, k9_ps_s, k9_ps_n, k9_ur, false_and, and_false, true_and, and_true, true_or, or_true, false_or, or_false, eq_self, ↓reduceIte, not_true_eq_false, not_false_eq_true, n_toInt, n_cl, nI_1, nI_add, n_a0, n_p2, n_p3, n_p4, n_x2, n_x3, n_x4, n_x60, n_x100, n_pm1, k9L_m2, k9L_m1, k9L_0, k9L_1, k9L_2, k9L_3, k9L_4, k9L_5, k9L_6, k9L_7, k9L_8, k9L_9, k9L_10, k9L_20, k9L_23, k9L_24, k9L_30, k9L_40, k9L_50, k9L_60, k9L_99, k9L_100, k9L_120, k9L_255, k9L_999, k9L_1000, k9_bs, k9_ba])
        exact k9o_ret ⟨_, _, rfl, hI'⟩
    · obtain ⟨s, rfl, hs, -⟩ := n_of (x := x1) (by omega)
      repeat' (first | ((with_reducible refine k9q_T ?_ ?_); · omega) | ((with_reducible refine k9q_F ?_ ?_); · omega) | ((with_reducible refine k9q_Tb ?_ ?_); · omega) | ((with_reducible refine k9q_Fb ?_ ?_); · omega) | simp (disch := omega) only [k9e_123_0, k9e_123_3, k9e_123_3b, k9e_123_8, k9e_123_9, k9e_123_9b, k9e_144_0, k9e_144_2, k9e_144_5, k9e_144_9, k9e_144_10, k9e_144_11, k9e_144_11b, k9e_145_0, k9e_145_2, k9e_145_5, k9e_145_7, k9e_145_8, Nat.reduceEqDiff, Int.reduceEq, Int.reduceLT, Int.reduceLE, k9_ps_s, k9_ps_n, k9_ur, false_and, and_false, true_and, and_true, true_or, or_true, false_or, or_false, eq_self, ↓reduceIte, not_true_eq_false, not_false_eq_true, n_toInt, n_cl, nI_1, nI_add, n_a0, n_p2, n_p3, n_p4, n_x2, n_x3, n_x4, n_x60, n_x100, n_pm1, k9L_m2, k9L_m1, k9L_0, k9L_1, k9L_2, k9L_3, k9L_4, k9L_5, k9L_6, k9L_7, k9L_8, k9L_9, k9L_10, k9L_20, k9L_23, k9L_24, k9L_30, k9L_40, k9L_50, k9L_60, k9L_99, k9L_100, k9L_120, k9L_255, k9L_999, k9L_1000, k9_bs, k9_ba] | (with_reducible refine k9q_if (fun _ => ?_) (fun _ => ?_)) | (with_reducible refine k9q_ifb (fun _ => ?_) (fun _ => ?_)))
      all_goals refine k9o_ret ⟨_, _, _, rfl, ?_⟩
      all_goals repeat' (first | ((with_reducible refine k9q_T ?_ ?_); · omega) | ((with_reducible refine k9q_F ?_ ?_); · omega) | ((with_reducible refine k9q_Tb ?_ ?_); · omega) | ((with_reducible refine k9q_Fb ?_ ?_); · omega) | (refine k9o_call (k9s_153 (by first | omega | (simp (disch := omega) only [n_toInt, n_pm1, k9L_m2, k9L_m1, k9L_0, k9L_1, k9L_2, k9L_3, k9L_4, k9L_5, k9L_6, k9L_7, k9L_8, k9L_9, k9L_10, k9L_20, k9L_23, k9L_24, k9L_30, k9L_40, k9L_50, k9L_60, k9L_99, k9L_100, k9L_120, k9L_255, k9L_999, k9L_1000]; omega))) ?_; simp (disch := omega) only [k9e_220_0, k9e_220_2, k9e_220_3, k9e_220_5, k9e_220_6, k9e_155_0, k9e_155_4, k9e_156_0, k9e_156_4, Nat.reduceEqDiff, Int.reduceEq, Int.reduceLT, Int.reduceLE, k9_ps_s, k9_ps_n, k9_ur, false_and, and_false, true_and, and_true, true_or, or_true, false_or, or_false, eq_self, ↓reduceIte, not_true_eq_false, not_false_eq_true, n_toInt, n_cl, nI_1, nI_add, n_a0, n_p2, n_p3, n_p4, n_x2, n_x3, n_x4, n_x60, n_x100, n_pm1, k9L_m2, k9L_m1, k9L_0, k9L_1, k9L_2, k9L_3, k9L_4, k9L_5, k9L_6, k9L_7, k9L_8, k9L_9, k9L_10, k9L_20, k9L_23, k9L_24, k9L_30, k9L_40, k9L_50, k9L_60, k9L_99, k9L_100, k9L_120, k9L_255, k9L_999, k9L_1000, k9_bs, k9_ba]) | (refine k9o_call (k9s_153x (by first | omega | (simp (disch := omega) only [n_toInt, n_pm1, k9L_m2, k9L_m1, k9L_0, k9L_1, k9L_2, k9L_3, k9L_4, k9L_5, k9L_6, k9L_7, k9L_8, k9L_9, k9L_10, k9L_20, k9L_23, k9L_24, k9L_30, k9L_40, k9L_50, k9L_60, k9L_99, k9L_100, k9L_120, k9L_255, k9L_999, k9L_1000]; omega))) ?_; simp (disch := omega) only [k9e_220_0, k9e_220_2, k9e_220_3, k9e_220_5, k9e_220_6, k9e_155_0, k9e_155_4, k9e_156_0, k9e_156_4, Nat.reduceEqDiff, Int.reduceEq, Int.reduceLT, Int.reduceLE, k9_ps_s, k9_ps_n, k9_ur, false_and, and_false, true_and, and_true, true_or, or_true, false_or, or_false, eq_self, ↓reduceIte, not_true_eq_false, not_false_eq_true, n_toInt, n_cl, nI_1, nI_add, n_a0, n_p2, n_p3, n_p4, n_x2, n_x3, n_x4, n_x60, n_x100, n_pm1, k9L_m2, k9L_m1, k9L_0, k9L_1, k9L_2, k9L_3, k9L_4, k9L_5, k9L_6, k9L_7, k9L_8, k9L_9, k9L_10, k9L_20, k9L_23, k9L_24, k9L_30, k9L_40, k9L_50, k9L_60, k9L_99, k9L_100, k9L_120, k9L_255, k9L_999, k9L_1000, k9_bs, k9_ba]) | simp (disch := omega) only [k9e_220_0, k9e_220_2, k9e_220_3, k9e_220_5, k9e_220_6, k9e_155_0, k9e_155_4, k9e_156_0, k9e_156_4, Nat.reduceEqDiff, Int.reduceEq, Int.reduceLT, Int.reduceLE, k9_ps_s, k9_ps_n, k9_ur, false_and, and_false, true_and, and_true, true_or, or_true, false_or, or_false, eq_self, ↓reduceIte, not_true_eq_false, not_false_eq_true, n_toInt, n_cl, nI_1, nI_add, n_a0, n_p2, n_p3, n_p4, n_x2, n_x3, n_x4, n_x60, n_x100, n_pm1, k9L_m2, k9L_m1, k9L_0, k9L_1, k9L_2, k9L_3, k9L_4, k9L_5, k9L_6, k9L_7, k9L_8, k9L_9, k9L_10, k9L_20, k9L_23, k9L_24, k9L_30, k9L_40, k9L_50, k9L_60, k9L_99, k9L_100, k9L_120, k9L_255, k9L_999, k9L_1000, k9_bs, k9_ba] | (with_reducible refine k9q_if (fun _ => ?_) (fun _ => ?_)) | (with_reducible refine k9q_ifb (fun _ => ?_) (fun _ => ?_)))
      all_goals exact k9o_ret ⟨_, _, rfl, hI'⟩
  · repeat' (first | ((with_reducible refine k9q_T ?_ ?_); · omega) | ((with_reducible refine k9q_F ?_ ?_); · omega) | ((with_reducible refine k9q_Tb ?_ ?_); · omega) | ((with_reducible refine k9q_Fb ?_ ?_); · omega) | simp (disch := omega) only [k9e_123_0, k9e_123_3, k9e_123_3b, k9e_123_8, k9e_123_9, k9e_123_9b, k9e_144_0, k9e_144_2, k9e_144_5, k9e_144_9, k9e_144_10, k9e_144_11, k9e_144_11b, k9e_145_0, k9e_145_2, k9e_145_5, k9e_145_7, k9e_145_8, Nat.reduceEqDiff, Int.reduceEq, Int.reduceLT, Int.reduceLE, k9_ps_s, k9_ps_n, k9_ur, false_and, and_false, true_and, and_true, true_or, or_true, false_or, or_false, eq_self, ↓reduceIte, not_true_eq_false, not_false_eq_true, n_toInt, n_cl, nI_1, nI_add, n_a0, n_p2, n_p3, n_p4, n_x2, n_x3, n_x4, n_x60, n_x100, n_pm1, k9L_m2, k9L_m1, k9L_0, k9L_1, k9L_2, k9L_3, k9L_4, k9L_5, k9L_6, k9L_7, k9L_8, k9L_9, k9L_10, k9L_20, k9L_23, k9L_24, k9L_30, k9L_40, k9L_50, k9L_60, k9L_99, k9L_100, k9L_120, k9L_255, k9L_999, k9L_1000, k9_bs, k9_ba] | (with_reducible refine k9q_if (fun _ => ?_) (fun _ => ?_)) | (with_reducible refine k9q_ifb (fun _ => ?_) (fun _ => ?_)))
    all_goals refine k9o_ret ⟨_, _, _, rfl, ?_⟩
    all_goals repeat' (first | ((with_reducible refine k9q_T ?_ ?_); · omega) | ((with_reducible refine k9q_F ?_ ?_); · omega) | ((with_reducible refine k9q_Tb ?_ ?_); · omega) | ((with_reducible refine k9q_Fb ?_ ?_); · omega) | (refine k9o_call (k9s_153 (by first | omega | (simp (disch := omega) only [n_toInt, n_pm1, k9L_m2, k9L_m1, k9L_0, k9L_1, k9L_2, k9L_3, k9L_4, k9L_5, k9L_6, k9L_7, k9L_8, k9L_9, k9L_10, k9L_20, k9L_23, k9L_24, k9L_30, k9L_40, k9L_50, k9L_60, k9L_99, k9L_100, k9L_120, k9L_255, k9L_999, k9L_1000]; omega))) ?_; simp (disch := omega) only [k9e_220_0, k9e_220_2, k9e_220_3, k9e_220_5, k9e_220_6, k9e_155_0, k9e_155_4, k9e_156_0, k9e_156_4, Nat.reduceEqDiff, Int.reduceEq, Int.reduceLT, Int.reduceLE, k9_ps_s, k9_ps_n, k9_ur, false_and, and_false, true_and, and_true, true_or, or_true, false_or, or_false, eq_self, ↓reduceIte, not_true_eq_false, not_false_eq_true, n_toInt, n_cl, nI_1, nI_add, n_a0, n_p2, n_p3, n_p4, n_x2, n_x3, n_x4, n_x60, n_x100, n_pm1, k9L_m2, k9L_m1, k9L_0, k9L_1, k9L_2, k9L_3, k9L_4, k9L_5, k9L_6, k9L_7, k9L_8, k9L_9, k9L_10, k9L_20, k9L_23, k9L_24, k9L_30, k9L_40, k9L_50, k9L_60, k9L_99, k9L_100, k9L_120, k9L_255, k9L_999, k9L_1000, k9_bs, k9_ba]) | (refine k9o_call (k9s_153x (by first | omega | (simp (disch := omega) only [n_toInt, n_pm1, k9L_m2, k9L_m1, k9L_0, k9L_1, k9L_2, k9L_3, k9L_4, k9L_5, k9L_6, k9L_7, k9L_8, k9L_9, k9L_10, k9L_20, k9L_23, k9L_24, k9L_30, k9L_40, k9L_50, k9L_60, k9L_99, k9L_100, k9L_120, k9L_255, k9L_999, k9L_1000]; omega))) ?_; simp (disch := omega) only [k9e_220_0, k9e_220_2, k9e_220_3, k9e_220_5, k9e_220_6, k9e_155_0, k9e_155_4, k9e_156_0, k9e_156_4, Nat.reduceEqDiff, Int.reduceEq, Int.reduceLT, Int.reduceLE, k9_ps_s, k9_ps_n, k9_ur, false_and, and_false, true_and, and_true, true_or, or_true, false_or, or_false, eq_self, ↓reduceIte, not_true_eq_false, not_false_eq_true, n_toInt, n_cl, nI_1, nI_add, n_a0, n_p2, n_p3, n_p4, n_x2, n_x3, n_x4, n_x60, n_x100, n_pm1, k9L_m2, k9L_m1, k9L_0, k9L_1, k9L_2, k9L_3, k9L_4, k9L_5, k9L_6, k9L_7, k9L_8, k9L_9, k9L_10, k9L_20, k9L_23, k9L_24, k9L_30, k9L_40, k9L_50, k9L_60, k9L_99, k9L_100, k9L_120, k9L_255, k9L_999, k9L_1000, k9_bs, k9_ba]) | simp (disch := omega) only [k9e_220_0, k9e_220_2, k9e_220_3, k9e_220_5, k9e_220_6, k9e_155_0, k9e_155_4, k9e_156_0, k9e_156_4, Nat.reduceEqDiff, Int.reduceEq, Int.reduceLT, Int.reduceLE, k9_ps_s, k9_ps_n, k9_ur, false_and, and_false, true_and, and_true, true_or, or_true, false_or, or_false, eq_self, ↓reduceIte, not_true_eq_false, not_false_eq_true, n_toInt, n_cl, nI_1, nI_add, n_a0, n_p2, n_p3, n_p4, n_x2, n_x3, n_x4, n_x60, n_x100, n_pm1, k9L_m2, k9L_m1, k9L_0, k9L_1, k9L_2, k9L_3, k9L_4, k9L_5, k9L_6, k9L_7, k9L_8, k9L_9, k9L_10, k9L_20, k9L_23, k9L_24, k9L_30, k9L_40, k9L_50, k9L_60, k9L_99, k9L_100, k9L_120, k9L_255, k9L_999, k9L_1000, k9_bs, k9_ba] | (with_reducible refine k9q_if (fun _ => ?_) (fun _ => ?_)) | (with_reducible refine k9q_ifb (fun _ => ?_) (fun _ => ?_)))
    all_goals exact k9o_ret ⟨_, _, rfl, hI'⟩
end KT24

/-! DRAWN -/
section KT25
variable {S : k9_S} {d : Nat} {I I' : k9_I} {J J' : k9_J} {w : Nat → Nat → Nat} {V : (Nat → Int32) → Int32} {b : Nat} {x1 x2 x3 x4 : Int32}
def p_zz (n : Nat) (z : Int32) : Nat → Int32
  | 0 => z
  | i + 1 => p_z (p_zz n z i) n
def p_dl (w : Nat → Nat → Nat) (z : Int32) : Nat → Nat
  | 0 => 0
  | i + 1 => p_dl w z i + p_len (p_dw w (p_zz (w 7 0) z i) (w 7 0))
def p_di (w : Nat → Nat → Nat) (V : (Nat → Int32) → Int32) (u : Nat) : Int32 := p_dd (p_sh w (p_tt w) V) u (p_len w - 1) 1
def p_de (w : Nat → Nat → Nat) (V : (Nat → Int32) → Int32) (z : Int32) (u : Nat) : Nat → Nat
  | 0 => 0
  | i + 1 => p_de w V z u i + if p_di (p_dw w (p_zz (w 7 0) z i) (w 7 0)) V u = -2 then 0 else 1
def k9_F5 (n k i p : Nat) : Bool := k9_Fq k i p || Nat.beq k 71 || (Nat.beq k 41 && Nat.beq i 0 && Nat.blt p n)
theorem k9_F5_q {n : Nat} {I1 I2 : k9_I} (h : k9_fx k9_Fq I1 I2) : k9_fx (k9_F5 n) I1 I2 := k9_fx_w h (fun k i p e => by
  unfold k9_F5 at e
  exact (Bool.or_eq_false_iff.mp (Bool.or_eq_false_iff.mp e).1).1)
theorem k9_F5_t {n p : Nat} (h : p < n) : k9_F5 n 41 0 p = true := by
  unfold k9_F5
  have : Nat.blt p n = true := Nat.ble_eq.mpr h
  rw [this]
  rfl
theorem t_drawn (hI : k9_Inv I J) : k9_P S (d + 20) 125 222 [some (k9_r 1 0), some (k9_i x1), some (k9_i x2), some (k9_i x3), some (k9_i x4), none, none, none, none] [some (k9_r 12 0), some (k9_i x1), some (k9_i x2), some (k9_i x3), some (k9_i x4), none, none, none, none, none, none] I J k9_Inv := by
  have hI' := hI
  obtain ⟨w, V, b, v⟩ := hI
  have v : k9_Iv I J w V b := v
  have hf := v.1.2.2.1
  have hv9 := v.1.2.2.2
  have h6 := hf.1
  refine k9P_of ?_
  by_cases h1 : 1 ≤ x2.toInt ∧ x2.toInt ≤ 30
  · by_cases h2 : 1 ≤ x3.toInt ∧ x3.toInt ≤ 999
    · by_cases h3 : 0 ≤ x4.toInt ∧ x4.toInt ≤ 1
      · obtain ⟨n, rfl, hn, -⟩ := n_of (x := x2) (by omega)
        obtain ⟨u, rfl, hu, -⟩ := n_of (x := x3) (by omega)
        obtain ⟨q, rfl, hq, -⟩ := n_of (x := x4) (by omega)
        have hwf : ∀ z, k9_wf (p_dw w z (w 7 0)) := fun z => k9_wf_dw hf hv9
        have dlb : ∀ i, p_dl w x1 i ≤ 954 * i := by
          intro i
          induction i with
          | zero => exact Nat.le_refl _
          | succ i ih =>
            have := p_len_b (hwf (p_zz (w 7 0) x1 i))
            rw [p_dl]
            omega
        have deb : ∀ i, p_de w V x1 u i ≤ i := by
          intro i
          induction i with
          | zero => exact Nat.le_refl _
          | succ i ih =>
            rw [p_de]
            split <;> omega
        have kc : ∀ k i I1, i + k = n → k9_fx k9_Ft I I1 → ∃ I2, k9_ok (k9_R S (d + 20) 125 27 [some (k9_r 1 0), some (k9_i x1), some (k9_i (nI n)), some (k9_i (nI u)), some (k9_i (nI q)), some (k9_i (p_zz (w 7 0) x1 i)), some (k9_i (nI (p_dl w x1 i))), some (k9_i (nI (if q = 0 then 0 else p_de w V x1 u i))), some (k9_i (nI i))] [] I1 J) (fun q' => q' = (some (k9_i (nI (if q = 0 then p_dl w x1 n else p_de w V x1 u n))), I2, J)) ∧ k9_fx k9_Ft I I2 := by
          intro k
          induction k with
          | zero =>
            intro i I1 hi hx
            obtain rfl : i = n := by omega
            refine ⟨I1, k9o_eq k9e_125_27 (k9o_T (by rw [n_toInt (by omega)]; omega) (k9o_eq k9e_125_77 ?_)), hx⟩
            by_cases h0 : q = 0
            · rw [if_pos h0, if_pos h0]
              exact k9o_T (by rw [n_toInt (by omega)]; omega) (k9o_eq k9e_125_79 (k9o_eq k9e_125_82 (k9o_ret rfl)))
            · rw [if_neg h0, if_neg h0]
              exact k9o_F (by rw [n_toInt (by omega)]; omega) (k9o_eq k9e_125_81 (k9o_eq k9e_125_82 (k9o_ret rfl)))
          | succ k ih =>
            intro i I1 hi hx
            have i1 : k9_Iv I1 J w V b := k9_Iv_0 (k9_fp_x hx (k9_Ft_X rfl)) v
            obtain ⟨I2, e2, w2, x2⟩ := k9s_15 (S := S) (d := d + 17) (I := I1) (J := J) (i0 := 1) (i1 := 0) (by decide) i1.1.1 hf
            obtain ⟨I3, e3, w3, x3⟩ := k9s_19 (S := S) (d := d + 19) (J := J) (z := p_zz (w 7 0) x1 i) w2 hf hv9
            have hx3 := k9_fx_tr hx (k9_fx_tr (k9_Ft_w x2) (k9_Ft_w x3))
            have hwi := hwf (p_zz (w 7 0) x1 i)
            have e10 := k9s_10 (S := S) (d := d + 17) (J := J) w3 hwi
            have hlen := p_len_b hwi
            have b1 := dlb i
            have b2 := deb i
            by_cases h0 : q = 0
            · obtain ⟨I4, o4, x4⟩ := ih (i + 1) I3 (by omega) hx3
              refine ⟨I4, k9o_eq k9e_125_27 (k9o_F (by rw [n_toInt (by omega), n_toInt (by omega)]; omega) (k9o_eq k9e_125_30 (k9o_call e2 ?_))), x4⟩
              simp only [k9_ps_n]
              refine k9o_eq k9e_125_37 (k9o_call e3 ?_)
              simp only [k9_ps_s]
              refine k9o_eq k9e_125_42 (k9o_call e10 ?_)
              simp only [k9_ps_s]
              refine k9o_eq k9e_125_48 (k9o_F (by rw [n_toInt (by omega)]; omega) (k9o_eq k9e_125_75 ?_))
              rw [nI_add, nI_1]
              rw [if_pos h0] at o4 ⊢
              exact o4
            · obtain ⟨-, I4, e4, b4, w4, x4⟩ := k9_troll (S := S) (d := d + 15) (J := J) w3 hwi (k9_CL_t hx3 v.2.2.1.1)
              have hx4 := k9_fx_tr hx3 (k9_Ft_b x4)
              have e64 := k9s_64 (S := S) (d := d + 19) (J := J) (x := u) b4 (by omega) (by omega) (fun t => p_sh_b t) (by omega) (by omega)
              obtain ⟨I5, o5, x5⟩ := ih (i + 1) I4 (by omega) hx4
              refine ⟨I5, k9o_eq k9e_125_27 (k9o_F (by rw [n_toInt (by omega), n_toInt (by omega)]; omega) (k9o_eq k9e_125_30 (k9o_call e2 ?_))), x5⟩
              simp only [k9_ps_n]
              refine k9o_eq k9e_125_37 (k9o_call e3 ?_)
              simp only [k9_ps_s]
              refine k9o_eq k9e_125_42 (k9o_call e10 ?_)
              simp only [k9_ps_s]
              refine k9o_eq k9e_125_48 (k9o_T (by rw [n_toInt (by omega)]; omega) (k9o_eq k9e_125_53 (k9o_call e10 ?_)))
              simp only [k9_ps_s]
              refine k9o_eq k9e_125_62 (k9o_call e4 ?_)
              simp only [k9_ps_n]
              refine k9o_eq k9e_125_63 (k9o_call e64 ?_)
              simp only [k9_ps_s]
              refine k9o_eq k9e_125_68 ?_
              rw [if_neg h0] at o5 ⊢
              rw [p_de] at o5
              by_cases c : p_di (p_dw w (p_zz (w 7 0) x1 i) (w 7 0)) V u = -2
              · rw [if_pos c] at o5
                have c' : p_dd (p_sh (p_dw w (p_zz (w 7 0) x1 i) (w 7 0)) (p_tt (p_dw w (p_zz (w 7 0) x1 i) (w 7 0))) V) u (p_len (p_dw w (p_zz (w 7 0) x1 i) (w 7 0)) - 1) 1 = -2 := c
                refine k9o_T (by rw [c']; decide) (k9o_eq k9e_125_70 (k9o_eq k9e_125_73 (k9o_eq k9e_125_75 ?_)))
                rw [nI_add, nI_1, n_a0]
                exact o5
              · rw [if_neg c] at o5
                refine k9o_F (fun y => c (n_ext (by rw [p_di, y]; decide))) (k9o_eq k9e_125_72 (k9o_eq k9e_125_73 (k9o_eq k9e_125_75 ?_)))
                rw [nI_add, nI_1, nI_1]
                exact o5
        obtain ⟨I1, o1, x1'⟩ := kc n 0 I (by omega) (k9_fx_rf _ _)
        have i1 : k9_Iv I1 J w V b := k9_Iv_0 (k9_fp_x x1' (k9_Ft_X rfl)) v
        obtain ⟨m0, m1, m2, m3, m4⟩ := i1.1.2.1
        simp (disch := omega) only [k9e_125_0, k9e_125_3, k9e_125_6, k9e_125_9, k9e_125_12, k9e_125_14, k9e_125_17, k9e_125_19, Nat.reduceEqDiff, Int.reduceEq, Int.reduceLT, Int.reduceLE, k9_ps_s, k9_ps_n, k9_ur, false_and, and_false, true_and, and_true, true_or, or_true, false_or, or_false, eq_self, ↓reduceIte, not_true_eq_false, not_false_eq_true, n_toInt, n_cl, nI_1, nI_add, n_a0, n_p2, n_p3, n_p4, n_x2, n_x3, n_x4, n_x60, n_x100, n_pm1, k9L_m2, k9L_m1, k9L_0, k9L_1, k9L_2, k9L_3, k9L_4, k9L_5, k9L_6, k9L_7, k9L_8, k9L_9, k9L_10, k9L_20, k9L_23, k9L_24, k9L_30, k9L_40, k9L_50, k9L_60, k9L_99, k9L_100, k9L_120, k9L_255, k9L_999, k9L_1000, k9_bs, k9_ba]
        repeat (first | ((with_reducible refine k9q_T ?_ ?_); · omega) | ((with_reducible refine k9q_F ?_ ?_); · omega) | ((with_reducible refine k9q_Tb ?_ ?_); · omega) | ((with_reducible refine k9q_Fb ?_ ?_); · omega) | simp (disch := omega) only [k9e_125_0, k9e_125_3, k9e_125_6, k9e_125_9, k9e_125_12, k9e_125_14, k9e_125_17, k9e_125_19, Nat.reduceEqDiff, Int.reduceEq, Int.reduceLT, Int.reduceLE, k9_ps_s, k9_ps_n, k9_ur, false_and, and_false, true_and, and_true, true_or, or_true, false_or, or_false, eq_self, ↓reduceIte, not_true_eq_false, not_false_eq_true, n_toInt, n_cl, nI_1, nI_add, n_a0, n_p2, n_p3, n_p4, n_x2, n_x3, n_x4, n_x60, n_x100, n_pm1, k9L_m2, k9L_m1, k9L_0, k9L_1, k9L_2, k9L_3, k9L_4, k9L_5, k9L_6, k9L_7, k9L_8, k9L_9, k9L_10, k9L_20, k9L_23, k9L_24, k9L_30, k9L_40, k9L_50, k9L_60, k9L_99, k9L_100, k9L_120, k9L_255, k9L_999, k9L_1000, k9_bs, k9_ba])
        rw [show (if q = 0 then 0 else p_de w V x1 u 0) = 0 by split <;> rfl] at o1
        obtain ⟨q1, c1, rfl⟩ := o1
        refine k9o_to c1 ⟨_, _, _, rfl, ?_⟩
        -- the reference: its own speeds kept
        have own : ∀ (Q : k9_A → Prop), (∀ I2, (∀ p, p < w 7 0 → I2 71 0 p = nI (w 1 p)) → k9_fx (k9_F5 (w 7 0)) I1 I2 → (∀ p, I2 41 0 p = I1 41 0 p) → k9_ok (k9_R S (d + 20) 222 39 [some (k9_r 12 0), some (k9_i x1), some (k9_i (nI n)), some (k9_i (nI u)), some (k9_i (nI q)), some (k9_i x1), some (k9_i 0), some (k9_i 0), some (k9_i (nI (w 7 0))), none, none] [] I2 J) Q) → k9_ok (k9_R S (d + 20) 222 25 [some (k9_r 12 0), some (k9_i x1), some (k9_i (nI n)), some (k9_i (nI u)), some (k9_i (nI q)), some (k9_i x1), some (k9_i 0), some (k9_i 0), some (k9_i 0), none, none] [] I1 J) Q := by
          intro Q g
          have key : ∀ k p I2, p + k = w 7 0 → (∀ p', p' < p → I2 71 0 p' = nI (w 1 p')) → k9_fx (fun k _ _ => Nat.beq k 71) I1 I2 → k9_ok (k9_R S (d + 20) 222 25 [some (k9_r 12 0), some (k9_i x1), some (k9_i (nI n)), some (k9_i (nI u)), some (k9_i (nI q)), some (k9_i x1), some (k9_i 0), some (k9_i 0), some (k9_i (nI p)), none, none] [] I2 J) Q := by
            intro k
            induction k with
            | zero =>
              intro p I2 hp h hx
              obtain rfl : p = w 7 0 := by omega
              refine k9o_eq k9e_222_25 (k9o_T (by rw [hx 12 0 0 rfl, m0]; omega) (g I2 h (k9_fx_w hx (fun k i p e => ?_)) (fun p => hx 41 0 p rfl)))
              unfold k9_F5 at e
              exact (Bool.or_eq_false_iff.mp (Bool.or_eq_false_iff.mp e).1).2
            | succ k ih =>
              intro p I2 hp h hx
              have a := (hx 41 0 p rfl).trans (m4 p (by omega)).2.1
              refine k9o_eq k9e_222_25 (k9o_F (by rw [hx 12 0 0 rfl, m0, n_toInt (by omega), n_toInt (by omega)]; omega) (k9o_eq k9e_222_29 (k9o_T (by rw [n_toInt (by omega)]; omega) (k9o_eq k9e_222_36 (k9o_T (by rw [n_toInt (by omega)]; omega) (k9o_eq k9e_222_37 ?_))))))
              rw [n_cl (by omega), nI_1, a]
              refine ih (p + 1) _ (by omega) (fun p' hp' => ?_) (k9_fx_u hx rfl)
              by_cases e : p' = p
              · simp [k9_ur, e]
              · simpa [k9_ur, e] using h p' (by omega)
          exact key (w 7 0) 0 I1 (by omega) (fun p hp => by omega) (k9_fx_rf _ _)
        -- the draws of one wait
        have drw : ∀ (Q : k9_A → Prop) (z : Int32) (a6 a7 a8 : Int32) (I2 : k9_I), (∀ p, p < w 7 0 → I2 71 0 p = nI (w 1 p)) → k9_fx (k9_F5 (w 7 0)) I1 I2 → (∀ I3, (∀ p, p < w 7 0 → I3 71 0 p = nI (w 1 p)) → k9_fx (k9_F5 (w 7 0)) I1 I3 → k9_Wm I3 (p_dw w z (w 7 0)) → k9_ok (k9_R S (d + 20) 222 93 [some (k9_r 12 0), some (k9_i x1), some (k9_i (nI n)), some (k9_i (nI u)), some (k9_i (nI q)), some (k9_i (p_z z (w 7 0))), some (k9_i a6), some (k9_i a7), some (k9_i a8), some (k9_i (nI (w 7 0))), none] [] I3 J) Q) → k9_ok (k9_R S (d + 20) 222 46 [some (k9_r 12 0), some (k9_i x1), some (k9_i (nI n)), some (k9_i (nI u)), some (k9_i (nI q)), some (k9_i z), some (k9_i a6), some (k9_i a7), some (k9_i a8), some (k9_i 0), none] [] I2 J) Q := by
          intro Q z a6 a7 a8 I2 h71 hx g
          have key : ∀ k p I3, p + k = w 7 0 → (∀ p, p < w 7 0 → I3 71 0 p = nI (w 1 p)) → k9_fx (k9_F5 (w 7 0)) I1 I3 → (∀ p', p' < p → I3 41 0 p' = nI (p_dv (p_hw (p_z z (p' + 1))) (w 1 p'))) → k9_ok (k9_R S (d + 20) 222 46 [some (k9_r 12 0), some (k9_i x1), some (k9_i (nI n)), some (k9_i (nI u)), some (k9_i (nI q)), some (k9_i (p_z z p)), some (k9_i a6), some (k9_i a7), some (k9_i a8), some (k9_i (nI p)), none] [] I3 J) Q := by
            intro k
            induction k with
            | zero =>
              intro p I3 hp h hx3 h41
              obtain rfl : p = w 7 0 := by omega
              refine k9o_eq k9e_222_46 (k9o_T (by rw [hx3 12 0 0 rfl, m0]; omega) (g I3 h hx3 ⟨?_, ?_, ?_, ?_, fun p' hp' => ?_⟩))
              · exact (hx3 12 0 0 rfl).trans m0
              · exact (hx3 44 0 0 rfl).trans m1
              · exact (hx3 44 0 1 rfl).trans m2
              · exact (hx3 44 0 2 rfl).trans m3
              · have hp2 : p' < w 7 0 := hp'
                obtain ⟨b0, b1, b2, b3⟩ := m4 p' hp2
                refine ⟨(hx3 40 0 p' rfl).trans b0, ?_, (hx3 42 0 p' rfl).trans b2, (hx3 43 0 p' rfl).trans b3⟩
                rw [h41 p' hp2, p_dw, if_pos ⟨rfl, hp2⟩]
            | succ k ih =>
              intro p I3 hp h hx3 h41
              have hp7 : p < w 7 0 := by omega
              have a71 := h p hp7
              have b9 := hv9 p hp7
              have step : ∀ sv : Nat, sv = p_dv (p_hw (p_z z (p + 1))) (w 1 p) → k9_ok (k9_R S (d + 20) 222 46 [some (k9_r 12 0), some (k9_i x1), some (k9_i (nI n)), some (k9_i (nI u)), some (k9_i (nI q)), some (k9_i (p_z z (p + 1))), some (k9_i a6), some (k9_i a7), some (k9_i a8), some (k9_i (nI (p + 1))), none] [] (k9_u I3 41 0 p (nI sv)) J) Q := by
                intro sv hsv
                refine ih (p + 1) _ (by omega) (fun p' hp' => by simpa [k9_ur] using h p' hp') (k9_fx_u hx3 (k9_F5_t hp7)) (fun p' hp' => ?_)
                by_cases e : p' = p
                · subst e
                  simp [k9_ur, hsv]
                · simpa [k9_ur, e] using h41 p' (by omega)
              refine k9o_eq k9e_222_46 (k9o_F (by rw [hx3 12 0 0 rfl, m0, n_toInt (by omega), n_toInt (by omega)]; omega) (k9o_eq k9e_222_50 (k9o_eq k9e_222_59 (k9o_eq k9e_222_61 ?_))))
              have hz : p_z z (p + 1) = p_z z p * 1103515245 + 12345 := rfl
              by_cases e0 : (p_hw (p_z z (p + 1))).toInt = 0
              · have s := step (max 1 (w 1 p / 2)) (by simp [p_dv, e0])
                refine k9o_T e0 (k9o_eq k9e_222_67 (k9o_T (by rw [n_toInt (by omega)]; omega) ?_))
                rw [n_cl (by omega), a71]
                refine k9o_eq k9e_222_72 ?_
                rw [show (2 : Int32) = nI 2 from rfl, n_div (by omega) (by omega) (by omega)]
                refine k9o_eq k9e_222_74 ?_
                rw [show (1 : Int32) = nI 1 from rfl, n_max (by omega) (by omega)]
                refine k9o_eq k9e_222_90 (k9o_T (by rw [n_toInt (by omega)]; omega) ?_)
                rw [n_cl (by omega)]
                refine k9o_eq k9e_222_91 ?_
                rw [show nI p + 1 = nI (p + 1) from nI_1 p]
                exact s
              · by_cases e3 : (p_hw (p_z z (p + 1))).toInt = 3
                · have s := step (w 1 p * 2) (by simp [p_dv, e0, e3])
                  refine k9o_F e0 (k9o_eq k9e_222_76 (k9o_T e3 (k9o_eq k9e_222_79 (k9o_T (by rw [n_toInt (by omega)]; omega) ?_))))
                  rw [n_cl (by omega), a71]
                  refine k9o_eq k9e_222_84 ?_
                  rw [n_x2, Nat.mul_comm]
                  refine k9o_eq k9e_222_90 (k9o_T (by rw [n_toInt (by omega)]; omega) ?_)
                  rw [n_cl (by omega)]
                  refine k9o_eq k9e_222_91 ?_
                  rw [nI_1]
                  exact s
                · have s := step (w 1 p) (by simp [p_dv, e0, e3])
                  refine k9o_F e0 (k9o_eq k9e_222_76 (k9o_F e3 (k9o_eq k9e_222_86 (k9o_T (by rw [n_toInt (by omega)]; omega) ?_))))
                  rw [n_cl (by omega), a71]
                  refine k9o_eq k9e_222_90 (k9o_T (by rw [n_toInt (by omega)]; omega) ?_)
                  rw [n_cl (by omega)]
                  refine k9o_eq k9e_222_91 ?_
                  rw [nI_1]
                  exact s
          exact key (w 7 0) 0 I2 (by omega) h71 hx (fun p hp => by omega)
        -- the speeds laid back
        have bck : ∀ I2, (∀ p, p < w 7 0 → I2 71 0 p = nI (w 1 p)) → k9_fx (k9_F5 (w 7 0)) I1 I2 → ∀ a5 : Int32, k9_ok (k9_R S (d + 20) 222 108 [some (k9_r 12 0), some (k9_i x1), some (k9_i (nI n)), some (k9_i (nI u)), some (k9_i (nI q)), some (k9_i a5), some (k9_i (nI (p_dl w x1 n))), some (k9_i (nI (p_de w V x1 u n))), some (k9_i (nI n)), none, none] [] I2 J) (fun q' => ∃ I3 J3, q' = (some (k9_i (nI (if q = 0 then p_dl w x1 n else p_de w V x1 u n))), I3, J3) ∧ k9_Inv I3 J3) := by
          intro I2 h71 hx a5
          have key : ∀ k p I3, p + k = w 7 0 → (∀ p, p < w 7 0 → I3 71 0 p = nI (w 1 p)) → k9_fx (k9_F5 (w 7 0)) I1 I3 → (∀ p', p' < p → I3 41 0 p' = I1 41 0 p') → k9_ok (k9_R S (d + 20) 222 110 [some (k9_r 12 0), some (k9_i x1), some (k9_i (nI n)), some (k9_i (nI u)), some (k9_i (nI q)), some (k9_i a5), some (k9_i (nI (p_dl w x1 n))), some (k9_i (nI (p_de w V x1 u n))), some (k9_i (nI p)), none, none] [] I3 J) (fun q' => ∃ I3 J3, q' = (some (k9_i (nI (if q = 0 then p_dl w x1 n else p_de w V x1 u n))), I3, J3) ∧ k9_Inv I3 J3) := by
            intro k
            induction k with
            | zero =>
              intro p I3 hp h hx3 h41
              obtain rfl : p = w 7 0 := by omega
              have hfp : k9_fp (k9_Xs []) I1 I3 := by
                intro k i p' e
                by_cases c : k = 41 ∧ i = 0 ∧ p' < w 7 0
                · obtain ⟨rfl, rfl, hp'⟩ := c
                  exact h41 p' hp'
                · refine hx3 k i p' ?_
                  unfold k9_F5
                  have e41 : (Nat.beq k 41 && Nat.beq i 0 && Nat.blt p' (w 7 0)) = false := by
                    cases hb : (Nat.beq k 41 && Nat.beq i 0 && Nat.blt p' (w 7 0)) with
                    | false => rfl
                    | true =>
                      simp only [Bool.and_eq_true] at hb
                      exact absurd ⟨k9_beq_of hb.1.1, k9_beq_of hb.1.2, Nat.ble_eq.mp hb.2⟩ c
                  rw [e41, Bool.or_false]
                  cases hq : k9_Fq k i p' with
                  | true =>
                    have hx := k9_Fq_X (X := k9_Xs []) rfl k i p' hq
                    rw [hx] at e
                    cases e
                  | false =>
                    cases h71' : Nat.beq k 71 with
                    | true =>
                      rw [k9_beq_of h71'] at e
                      have e' : k9_Xs [] 0 = false := e
                      exact absurd e' (by decide)
                    | false => rfl
              have fin := k9_Iv_e (k9_Iv_0 hfp i1)
              refine k9o_eq k9e_222_110 (k9o_T (by rw [hx3 12 0 0 rfl, m0]; omega) (k9o_eq k9e_222_124 ?_))
              by_cases h0 : q = 0
              · rw [if_pos h0]
                exact k9o_T (by rw [n_toInt (by omega)]; omega) (k9o_eq k9e_222_126 (k9o_eq k9e_222_129 (k9o_ret ⟨_, _, rfl, fin⟩)))
              · rw [if_neg h0]
                exact k9o_F (by rw [n_toInt (by omega)]; omega) (k9o_eq k9e_222_128 (k9o_eq k9e_222_129 (k9o_ret ⟨_, _, rfl, fin⟩)))
            | succ k ih =>
              intro p I3 hp h hx3 h41
              have hp7 : p < w 7 0 := by omega
              have a71 := h p hp7
              refine k9o_eq k9e_222_110 (k9o_F (by rw [hx3 12 0 0 rfl, m0, n_toInt (by omega), n_toInt (by omega)]; omega) (k9o_eq k9e_222_114 (k9o_T (by rw [n_toInt (by omega)]; omega) (k9o_eq k9e_222_121 (k9o_T (by rw [n_toInt (by omega)]; omega) (k9o_eq k9e_222_122 ?_))))))
              rw [n_cl (by omega), nI_1, a71]
              refine ih (p + 1) _ (by omega) (fun p' hp' => by simpa [k9_ur] using h p' hp') (k9_fx_u hx3 (k9_F5_t hp7)) (fun p' hp' => ?_)
              by_cases e : p' = p
              · subst e
                simp [k9_ur, (m4 p' hp7).2.1]
              · simpa [k9_ur, e] using h41 p' (by omega)
          rw [k9e_222_108]
          exact key (w 7 0) 0 I2 (by omega) h71 hx (fun p hp => by omega)
        have km : ∀ k i I2, i + k = n → (∀ p, p < w 7 0 → I2 71 0 p = nI (w 1 p)) → k9_fx (k9_F5 (w 7 0)) I1 I2 → k9_ok (k9_R S (d + 20) 222 41 [some (k9_r 12 0), some (k9_i x1), some (k9_i (nI n)), some (k9_i (nI u)), some (k9_i (nI q)), some (k9_i (p_zz (w 7 0) x1 i)), some (k9_i (nI (p_dl w x1 i))), some (k9_i (nI (p_de w V x1 u i))), some (k9_i (nI i)), none, none] [] I2 J) (fun q' => ∃ I3 J3, q' = (some (k9_i (nI (if q = 0 then p_dl w x1 n else p_de w V x1 u n))), I3, J3) ∧ k9_Inv I3 J3) := by
          intro k
          induction k with
          | zero =>
            intro i I2 hi h71 hx
            obtain rfl : i = n := by omega
            exact k9o_eq k9e_222_41 (k9o_T (by rw [n_toInt (by omega)]; omega) (bck I2 h71 hx _))
          | succ k ih =>
            intro i I2 hi h71 hx
            have hwi := hwf (p_zz (w 7 0) x1 i)
            have hlen := p_len_b hwi
            have b1 := dlb i
            have b2 := deb i
            refine k9o_eq k9e_222_41 (k9o_F (by rw [n_toInt (by omega), n_toInt (by omega)]; omega) (k9o_eq k9e_222_44 (drw _ _ _ _ _ I2 h71 hx (fun I3 h3 x3 hM3 => ?_))))
            have hV3 : k9_ML I3 V := k9_ML_x x3 ⟨rfl, rfl, fun _ => rfl, fun _ => rfl, fun _ => rfl, fun _ => rfl⟩ i1.2.2.1.2
            obtain ⟨I4, e4, r4, x4⟩ := k9s_190 (S := S) (d := d + 14) (J := J) hM3 hwi hV3
            have e201 := k9s_201 (S := S) (d := d + 19) (J := J) (x := u) r4 (by omega) (fun t => p_sh_b t) (by omega) (by omega)
            have o5 := ih (i + 1) I4 (by omega) (fun p hp => (x4 71 0 p rfl).trans (h3 p hp)) (k9_fx_tr x3 (k9_F5_q x4))
            refine k9o_eq k9e_222_93 (k9o_call e4 ?_)
            simp only [k9_ps_n]
            refine k9o_eq k9e_222_95 (k9o_call e201 ?_)
            simp only [k9_ps_s]
            rw [r4.1, nI_add]
            refine k9o_eq k9e_222_103 ?_
            rw [p_de] at o5
            by_cases c : p_di (p_dw w (p_zz (w 7 0) x1 i) (w 7 0)) V u = -2
            · rw [if_pos c] at o5
              have c' : p_dd (p_sh (p_dw w (p_zz (w 7 0) x1 i) (w 7 0)) (p_tt (p_dw w (p_zz (w 7 0) x1 i) (w 7 0))) V) u (p_len (p_dw w (p_zz (w 7 0) x1 i) (w 7 0)) - 1) 1 = -2 := c
              refine k9o_T (by rw [c']; decide) (k9o_eq k9e_222_106 ?_)
              rw [nI_1]
              exact o5
            · rw [if_neg c] at o5
              refine k9o_F (fun y => c (n_ext (by rw [p_di, y]; decide))) (k9o_eq k9e_222_105 (k9o_eq k9e_222_106 ?_))
              rw [nI_1, nI_1]
              exact o5
        simp (disch := omega) only [k9e_222_0, k9e_222_4, k9e_222_5, k9e_222_9, k9e_222_10, k9e_222_14, k9e_222_15, k9e_222_17, Nat.reduceEqDiff, Int.reduceEq, Int.reduceLT, Int.reduceLE, k9_ps_s, k9_ps_n, k9_ur, false_and, and_false, true_and, and_true, true_or, or_true, false_or, or_false, eq_self, ↓reduceIte, not_true_eq_false, not_false_eq_true, n_toInt, n_cl, nI_1, nI_add, n_a0, n_p2, n_p3, n_p4, n_x2, n_x3, n_x4, n_x60, n_x100, n_pm1, k9L_m2, k9L_m1, k9L_0, k9L_1, k9L_2, k9L_3, k9L_4, k9L_5, k9L_6, k9L_7, k9L_8, k9L_9, k9L_10, k9L_20, k9L_23, k9L_24, k9L_30, k9L_40, k9L_50, k9L_60, k9L_99, k9L_100, k9L_120, k9L_255, k9L_999, k9L_1000, k9_bs, k9_ba]
        repeat (first | ((with_reducible refine k9q_T ?_ ?_); · omega) | ((with_reducible refine k9q_F ?_ ?_); · omega) | ((with_reducible refine k9q_Tb ?_ ?_); · omega) | ((with_reducible refine k9q_Fb ?_ ?_); · omega) | (refine k9o_call (k9s_153 (by first | omega | (simp (disch := omega) only [n_toInt, n_pm1, k9L_m2, k9L_m1, k9L_0, k9L_1, k9L_2, k9L_3, k9L_4, k9L_5, k9L_6, k9L_7, k9L_8, k9L_9, k9L_10, k9L_20, k9L_23, k9L_24, k9L_30, k9L_40, k9L_50, k9L_60, k9L_99, k9L_100, k9L_120, k9L_255, k9L_999, k9L_1000]; omega))) ?_; simp (disch := omega) only [k9e_222_0, k9e_222_4, k9e_222_5, k9e_222_9, k9e_222_10, k9e_222_14, k9e_222_15, k9e_222_17, Nat.reduceEqDiff, Int.reduceEq, Int.reduceLT, Int.reduceLE, k9_ps_s, k9_ps_n, k9_ur, false_and, and_false, true_and, and_true, true_or, or_true, false_or, or_false, eq_self, ↓reduceIte, not_true_eq_false, not_false_eq_true, n_toInt, n_cl, nI_1, nI_add, n_a0, n_p2, n_p3, n_p4, n_x2, n_x3, n_x4, n_x60, n_x100, n_pm1, k9L_m2, k9L_m1, k9L_0, k9L_1, k9L_2, k9L_3, k9L_4, k9L_5, k9L_6, k9L_7, k9L_8, k9L_9, k9L_10, k9L_20, k9L_23, k9L_24, k9L_30, k9L_40, k9L_50, k9L_60, k9L_99, k9L_100, k9L_120, k9L_255, k9L_999, k9L_1000, k9_bs, k9_ba]) | (refine k9o_call (k9s_153x (by first | omega | (simp (disch := omega) only [n_toInt, n_pm1, k9L_m2, k9L_m1, k9L_0, k9L_1, k9L_2, k9L_3, k9L_4, k9L_5, k9L_6, k9L_7, k9L_8, k9L_9, k9L_10, k9L_20, k9L_23, k9L_24, k9L_30, k9L_40, k9L_50, k9L_60, k9L_99, k9L_100, k9L_120, k9L_255, k9L_999, k9L_1000]; omega))) ?_; simp (disch := omega) only [k9e_222_0, k9e_222_4, k9e_222_5, k9e_222_9, k9e_222_10, k9e_222_14, k9e_222_15, k9e_222_17, Nat.reduceEqDiff, Int.reduceEq, Int.reduceLT, Int.reduceLE, k9_ps_s, k9_ps_n, k9_ur, false_and, and_false, true_and, and_true, true_or, or_true, false_or, or_false, eq_self, ↓reduceIte, not_true_eq_false, not_false_eq_true, n_toInt, n_cl, nI_1, nI_add, n_a0, n_p2, n_p3, n_p4, n_x2, n_x3, n_x4, n_x60, n_x100, n_pm1, k9L_m2, k9L_m1, k9L_0, k9L_1, k9L_2, k9L_3, k9L_4, k9L_5, k9L_6, k9L_7, k9L_8, k9L_9, k9L_10, k9L_20, k9L_23, k9L_24, k9L_30, k9L_40, k9L_50, k9L_60, k9L_99, k9L_100, k9L_120, k9L_255, k9L_999, k9L_1000, k9_bs, k9_ba]) | simp (disch := omega) only [k9e_222_0, k9e_222_4, k9e_222_5, k9e_222_9, k9e_222_10, k9e_222_14, k9e_222_15, k9e_222_17, Nat.reduceEqDiff, Int.reduceEq, Int.reduceLT, Int.reduceLE, k9_ps_s, k9_ps_n, k9_ur, false_and, and_false, true_and, and_true, true_or, or_true, false_or, or_false, eq_self, ↓reduceIte, not_true_eq_false, not_false_eq_true, n_toInt, n_cl, nI_1, nI_add, n_a0, n_p2, n_p3, n_p4, n_x2, n_x3, n_x4, n_x60, n_x100, n_pm1, k9L_m2, k9L_m1, k9L_0, k9L_1, k9L_2, k9L_3, k9L_4, k9L_5, k9L_6, k9L_7, k9L_8, k9L_9, k9L_10, k9L_20, k9L_23, k9L_24, k9L_30, k9L_40, k9L_50, k9L_60, k9L_99, k9L_100, k9L_120, k9L_255, k9L_999, k9L_1000, k9_bs, k9_ba])
        refine own _ (fun I2 h71 hx h41 => ?_)
        refine k9o_eq k9e_222_39 ?_
        exact km n 0 I2 (by omega) h71 hx
      · repeat' (first | ((with_reducible refine k9q_T ?_ ?_); · omega) | ((with_reducible refine k9q_F ?_ ?_); · omega) | ((with_reducible refine k9q_Tb ?_ ?_); · omega) | ((with_reducible refine k9q_Fb ?_ ?_); · omega) | simp (disch := omega) only [k9e_125_0, k9e_125_3, k9e_125_6, k9e_125_9, k9e_125_12, k9e_125_14, k9e_125_17, Nat.reduceEqDiff, Int.reduceEq, Int.reduceLT, Int.reduceLE, k9_ps_s, k9_ps_n, k9_ur, false_and, and_false, true_and, and_true, true_or, or_true, false_or, or_false, eq_self, ↓reduceIte, not_true_eq_false, not_false_eq_true, n_toInt, n_cl, nI_1, nI_add, n_a0, n_p2, n_p3, n_p4, n_x2, n_x3, n_x4, n_x60, n_x100, n_pm1, k9L_m2, k9L_m1, k9L_0, k9L_1, k9L_2, k9L_3, k9L_4, k9L_5, k9L_6, k9L_7, k9L_8, k9L_9, k9L_10, k9L_20, k9L_23, k9L_24, k9L_30, k9L_40, k9L_50, k9L_60, k9L_99, k9L_100, k9L_120, k9L_255, k9L_999, k9L_1000, k9_bs, k9_ba] | (with_reducible refine k9q_if (fun _ => ?_) (fun _ => ?_)) | (with_reducible refine k9q_ifb (fun _ => ?_) (fun _ => ?_)))
        all_goals refine k9o_ret ⟨_, _, _, rfl, ?_⟩
        all_goals repeat' (first | ((with_reducible refine k9q_T ?_ ?_); · omega) | ((with_reducible refine k9q_F ?_ ?_); · omega) | ((with_reducible refine k9q_Tb ?_ ?_); · omega) | ((with_reducible refine k9q_Fb ?_ ?_); · omega) | (refine k9o_call (k9s_153 (by first | omega | (simp (disch := omega) only [n_toInt, n_pm1, k9L_m2, k9L_m1, k9L_0, k9L_1, k9L_2, k9L_3, k9L_4, k9L_5, k9L_6, k9L_7, k9L_8, k9L_9, k9L_10, k9L_20, k9L_23, k9L_24, k9L_30, k9L_40, k9L_50, k9L_60, k9L_99, k9L_100, k9L_120, k9L_255, k9L_999, k9L_1000]; omega))) ?_; simp (disch := omega) only [k9e_222_0, k9e_222_4, k9e_222_5, k9e_222_9, k9e_222_10, k9e_222_14, k9e_222_15, Nat.reduceEqDiff, Int.reduceEq, Int.reduceLT, Int.reduceLE, k9_ps_s, k9_ps_n, k9_ur, false_and, and_false, true_and, and_true, true_or, or_true, false_or, or_false, eq_self, ↓reduceIte, not_true_eq_false, not_false_eq_true, n_toInt, n_cl, nI_1, nI_add, n_a0, n_p2, n_p3, n_p4, n_x2, n_x3, n_x4, n_x60, n_x100, n_pm1, k9L_m2, k9L_m1, k9L_0, k9L_1, k9L_2, k9L_3, k9L_4, k9L_5, k9L_6, k9L_7, k9L_8, k9L_9, k9L_10, k9L_20, k9L_23, k9L_24, k9L_30, k9L_40, k9L_50, k9L_60, k9L_99, k9L_100, k9L_120, k9L_255, k9L_999, k9L_1000, k9_bs, k9_ba]) | (refine k9o_call (k9s_153x (by first | omega | (simp (disch := omega) only [n_toInt, n_pm1, k9L_m2, k9L_m1, k9L_0, k9L_1, k9L_2, k9L_3, k9L_4, k9L_5, k9L_6, k9L_7, k9L_8, k9L_9, k9L_10, k9L_20, k9L_23, k9L_24, k9L_30, k9L_40, k9L_50, k9L_60, k9L_99, k9L_100, k9L_120, k9L_255, k9L_999, k9L_1000]; omega))) ?_; simp (disch := omega) only [k9e_222_0, k9e_222_4, k9e_222_5, k9e_222_9, k9e_222_10, k9e_222_14, k9e_222_15, Nat.reduceEqDiff, Int.reduceEq, Int.reduceLT, Int.reduceLE, k9_ps_s, k9_ps_n, k9_ur, false_and, and_false, true_and, and_true, true_or, or_true, false_or, or_false, eq_self, ↓reduceIte, not_true_eq_false, not_false_eq_true, n_toInt, n_cl, nI_1, nI_add, n_a0, n_p2, n_p3, n_p4, n_x2, n_x3, n_x4, n_x60, n_x100, n_pm1, k9L_m2, k9L_m1, k9L_0, k9L_1, k9L_2, k9L_3, k9L_4, k9L_5, k9L_6, k9L_7, k9L_8, k9L_9, k9L_10, k9L_20, k9L_23, k9L_24, k9L_30, k9L_40, k9L_50, k9L_60, k9L_99, k9L_100, k9L_120, k9L_255, k9L_999, k9L_1000, k9_bs, k9_ba]) | simp (disch := omega) only [k9e_222_0, k9e_222_4, k9e_222_5, k9e_222_9, k9e_222_10, k9e_222_14, k9e_222_15, Nat.reduceEqDiff, Int.reduceEq, Int.reduceLT, Int.reduceLE, k9_ps_s, k9_ps_n, k9_ur, false_and, and_false, true_and, and_true, true_or, or_true, false_or, or_false, eq_self, ↓reduceIte, not_true_eq_false, not_false_eq_true, n_toInt, n_cl, nI_1, nI_add, n_a0, n_p2, n_p3, n_p4, n_x2, n_x3, n_x4, n_x60, n_x100, n_pm1, k9L_m2, k9L_m1, k9L_0, k9L_1, k9L_2, k9L_3, k9L_4, k9L_5, k9L_6, k9L_7, k9L_8, k9L_9, k9L_10, k9L_20, k9L_23, k9L_24, k9L_30, k9L_40, k9L_50, k9L_60, k9L_99, k9L_100, k9L_120, k9L_255, k9L_999, k9L_1000, k9_bs, k9_ba] | (with_reducible refine k9q_if (fun _ => ?_) (fun _ => ?_)) | (with_reducible refine k9q_ifb (fun _ => ?_) (fun _ => ?_)))
        all_goals exact k9o_ret ⟨_, _, rfl, hI'⟩
    · repeat' (first | ((with_reducible refine k9q_T ?_ ?_); · omega) | ((with_reducible refine k9q_F ?_ ?_); · omega) | ((with_reducible refine k9q_Tb ?_ ?_); · omega) | ((with_reducible refine k9q_Fb ?_ ?_); · omega) | simp (disch := omega) only [k9e_125_0, k9e_125_3, k9e_125_6, k9e_125_9, k9e_125_12, k9e_125_14, k9e_125_17, Nat.reduceEqDiff, Int.reduceEq, Int.reduceLT, Int.reduceLE, k9_ps_s, k9_ps_n, k9_ur, false_and, and_false, true_and, and_true, true_or, or_true, false_or, or_false, eq_self, ↓reduceIte, not_true_eq_false, not_false_eq_true, n_toInt, n_cl, nI_1, nI_add, n_a0, n_p2, n_p3, n_p4, n_x2, n_x3, n_x4, n_x60, n_x100, n_pm1, k9L_m2, k9L_m1, k9L_0, k9L_1, k9L_2, k9L_3, k9L_4, k9L_5, k9L_6, k9L_7, k9L_8, k9L_9, k9L_10, k9L_20, k9L_23, k9L_24, k9L_30, k9L_40, k9L_50, k9L_60, k9L_99, k9L_100, k9L_120, k9L_255, k9L_999, k9L_1000, k9_bs, k9_ba] | (with_reducible refine k9q_if (fun _ => ?_) (fun _ => ?_)) | (with_reducible refine k9q_ifb (fun _ => ?_) (fun _ => ?_)))
      all_goals refine k9o_ret ⟨_, _, _, rfl, ?_⟩
      all_goals repeat' (first | ((with_reducible refine k9q_T ?_ ?_); · omega) | ((with_reducible refine k9q_F ?_ ?_); · omega) | ((with_reducible refine k9q_Tb ?_ ?_); · omega) | ((with_reducible refine k9q_Fb ?_ ?_); · omega) | (refine k9o_call (k9s_153 (by first | omega | (simp (disch := omega) only [n_toInt, n_pm1, k9L_m2, k9L_m1, k9L_0, k9L_1, k9L_2, k9L_3, k9L_4, k9L_5, k9L_6, k9L_7, k9L_8, k9L_9, k9L_10, k9L_20, k9L_23, k9L_24, k9L_30, k9L_40, k9L_50, k9L_60, k9L_99, k9L_100, k9L_120, k9L_255, k9L_999, k9L_1000]; omega))) ?_; simp (disch := omega) only [k9e_222_0, k9e_222_4, k9e_222_5, k9e_222_9, k9e_222_10, k9e_222_14, k9e_222_15, Nat.reduceEqDiff, Int.reduceEq, Int.reduceLT, Int.reduceLE, k9_ps_s, k9_ps_n, k9_ur, false_and, and_false, true_and, and_true, true_or, or_true, false_or, or_false, eq_self, ↓reduceIte, not_true_eq_false, not_false_eq_true, n_toInt, n_cl, nI_1, nI_add, n_a0, n_p2, n_p3, n_p4, n_x2, n_x3, n_x4, n_x60, n_x100, n_pm1, k9L_m2, k9L_m1, k9L_0, k9L_1, k9L_2, k9L_3, k9L_4, k9L_5, k9L_6, k9L_7, k9L_8, k9L_9, k9L_10, k9L_20, k9L_23, k9L_24, k9L_30, k9L_40, k9L_50, k9L_60, k9L_99, k9L_100, k9L_120, k9L_255, k9L_999, k9L_1000, k9_bs, k9_ba]) | (refine k9o_call (k9s_153x (by first | omega | (simp (disch := omega) only [n_toInt, n_pm1, k9L_m2, k9L_m1, k9L_0, k9L_1, k9L_2, k9L_3, k9L_4, k9L_5, k9L_6, k9L_7, k9L_8, k9L_9, k9L_10, k9L_20, k9L_23, k9L_24, k9L_30, k9L_40, k9L_50, k9L_60, k9L_99, k9L_100, k9L_120, k9L_255, k9L_999, k9L_1000]; omega))) ?_; simp (disch := omega) only [k9e_222_0, k9e_222_4, k9e_222_5, k9e_222_9, k9e_222_10, k9e_222_14, k9e_222_15, Nat.reduceEqDiff, Int.reduceEq, Int.reduceLT, Int.reduceLE, k9_ps_s, k9_ps_n, k9_ur, false_and, and_false, true_and, and_true, true_or, or_true, false_or, or_false, eq_self, ↓reduceIte, not_true_eq_false, not_false_eq_true, n_toInt, n_cl, nI_1, nI_add, n_a0, n_p2, n_p3, n_p4, n_x2, n_x3, n_x4, n_x60, n_x100, n_pm1, k9L_m2, k9L_m1, k9L_0, k9L_1, k9L_2, k9L_3, k9L_4, k9L_5, k9L_6, k9L_7, k9L_8, k9L_9, k9L_10, k9L_20, k9L_23, k9L_24, k9L_30, k9L_40, k9L_50, k9L_60, k9L_99, k9L_100, k9L_120, k9L_255, k9L_999, k9L_1000, k9_bs, k9_ba]) | simp (disch := omega) only [k9e_222_0, k9e_222_4, k9e_222_5, k9e_222_9, k9e_222_10, k9e_222_14, k9e_222_15, Nat.reduceEqDiff, Int.reduceEq, Int.reduceLT, Int.reduceLE, k9_ps_s, k9_ps_n, k9_ur, false_and, and_false, true_and, and_true, true_or, or_true, false_or, or_false, eq_self, ↓reduceIte, not_true_eq_false, not_false_eq_true, n_toInt, n_cl, nI_1, nI_add, n_a0, n_p2, n_p3, n_p4, n_x2, n_x3, n_x4, n_x60, n_x100, n_pm1, k9L_m2, k9L_m1, k9L_0, k9L_1, k9L_2, k9L_3, k9L_4, k9L_5, k9L_6, k9L_7, k9L_8, k9L_9, k9L_10, k9L_20, k9L_23, k9L_24, k9L_30, k9L_40, k9L_50, k9L_60, k9L_99, k9L_100, k9L_120, k9L_255, k9L_999, k9L_1000, k9_bs, k9_ba] | (with_reducible refine k9q_if (fun _ => ?_) (fun _ => ?_)) | (with_reducible refine k9q_ifb (fun _ => ?_) (fun _ => ?_)))
      all_goals exact k9o_ret ⟨_, _, rfl, hI'⟩
  · repeat' (first | ((with_reducible refine k9q_T ?_ ?_); · omega) | ((with_reducible refine k9q_F ?_ ?_); · omega) | ((with_reducible refine k9q_Tb ?_ ?_); · omega) | ((with_reducible refine k9q_Fb ?_ ?_); · omega) | simp (disch := omega) only [k9e_125_0, k9e_125_3, k9e_125_6, k9e_125_9, k9e_125_12, k9e_125_14, k9e_125_17, Nat.reduceEqDiff, Int.reduceEq, Int.reduceLT, Int.reduceLE, k9_ps_s, k9_ps_n, k9_ur, false_and, and_false, true_and, and_true, true_or, or_true, false_or, or_false, eq_self, ↓reduceIte, not_true_eq_false, not_false_eq_true, n_toInt, n_cl, nI_1, nI_add, n_a0, n_p2, n_p3, n_p4, n_x2, n_x3, n_x4, n_x60, n_x100, n_pm1, k9L_m2, k9L_m1, k9L_0, k9L_1, k9L_2, k9L_3, k9L_4, k9L_5, k9L_6, k9L_7, k9L_8, k9L_9, k9L_10, k9L_20, k9L_23, k9L_24, k9L_30, k9L_40, k9L_50, k9L_60, k9L_99, k9L_100, k9L_120, k9L_255, k9L_999, k9L_1000, k9_bs, k9_ba] | (with_reducible refine k9q_if (fun _ => ?_) (fun _ => ?_)) | (with_reducible refine k9q_ifb (fun _ => ?_) (fun _ => ?_)))
    all_goals refine k9o_ret ⟨_, _, _, rfl, ?_⟩
    all_goals repeat' (first | ((with_reducible refine k9q_T ?_ ?_); · omega) | ((with_reducible refine k9q_F ?_ ?_); · omega) | ((with_reducible refine k9q_Tb ?_ ?_); · omega) | ((with_reducible refine k9q_Fb ?_ ?_); · omega) | (refine k9o_call (k9s_153 (by first | omega | (simp (disch := omega) only [n_toInt, n_pm1, k9L_m2, k9L_m1, k9L_0, k9L_1, k9L_2, k9L_3, k9L_4, k9L_5, k9L_6, k9L_7, k9L_8, k9L_9, k9L_10, k9L_20, k9L_23, k9L_24, k9L_30, k9L_40, k9L_50, k9L_60, k9L_99, k9L_100, k9L_120, k9L_255, k9L_999, k9L_1000]; omega))) ?_; simp (disch := omega) only [k9e_222_0, k9e_222_4, k9e_222_5, k9e_222_9, k9e_222_10, k9e_222_14, k9e_222_15, Nat.reduceEqDiff, Int.reduceEq, Int.reduceLT, Int.reduceLE, k9_ps_s, k9_ps_n, k9_ur, false_and, and_false, true_and, and_true, true_or, or_true, false_or, or_false, eq_self, ↓reduceIte, not_true_eq_false, not_false_eq_true, n_toInt, n_cl, nI_1, nI_add, n_a0, n_p2, n_p3, n_p4, n_x2, n_x3, n_x4, n_x60, n_x100, n_pm1, k9L_m2, k9L_m1, k9L_0, k9L_1, k9L_2, k9L_3, k9L_4, k9L_5, k9L_6, k9L_7, k9L_8, k9L_9, k9L_10, k9L_20, k9L_23, k9L_24, k9L_30, k9L_40, k9L_50, k9L_60, k9L_99, k9L_100, k9L_120, k9L_255, k9L_999, k9L_1000, k9_bs, k9_ba]) | (refine k9o_call (k9s_153x (by first | omega | (simp (disch := omega) only [n_toInt, n_pm1, k9L_m2, k9L_m1, k9L_0, k9L_1, k9L_2, k9L_3, k9L_4, k9L_5, k9L_6, k9L_7, k9L_8, k9L_9, k9L_10, k9L_20, k9L_23, k9L_24, k9L_30, k9L_40, k9L_50, k9L_60, k9L_99, k9L_100, k9L_120, k9L_255, k9L_999, k9L_1000]; omega))) ?_; simp (disch := omega) only [k9e_222_0, k9e_222_4, k9e_222_5, k9e_222_9, k9e_222_10, k9e_222_14, k9e_222_15, Nat.reduceEqDiff, Int.reduceEq, Int.reduceLT, Int.reduceLE, k9_ps_s, k9_ps_n, k9_ur, false_and, and_false, true_and, and_true, true_or, or_true, false_or, or_false, eq_self, ↓reduceIte, not_true_eq_false, not_false_eq_true, n_toInt, n_cl, nI_1, nI_add, n_a0, n_p2, n_p3, n_p4, n_x2, n_x3, n_x4, n_x60, n_x100, n_pm1, k9L_m2, k9L_m1, k9L_0, k9L_1, k9L_2, k9L_3, k9L_4, k9L_5, k9L_6, k9L_7, k9L_8, k9L_9, k9L_10, k9L_20, k9L_23, k9L_24, k9L_30, k9L_40, k9L_50, k9L_60, k9L_99, k9L_100, k9L_120, k9L_255, k9L_999, k9L_1000, k9_bs, k9_ba]) | simp (disch := omega) only [k9e_222_0, k9e_222_4, k9e_222_5, k9e_222_9, k9e_222_10, k9e_222_14, k9e_222_15, Nat.reduceEqDiff, Int.reduceEq, Int.reduceLT, Int.reduceLE, k9_ps_s, k9_ps_n, k9_ur, false_and, and_false, true_and, and_true, true_or, or_true, false_or, or_false, eq_self, ↓reduceIte, not_true_eq_false, not_false_eq_true, n_toInt, n_cl, nI_1, nI_add, n_a0, n_p2, n_p3, n_p4, n_x2, n_x3, n_x4, n_x60, n_x100, n_pm1, k9L_m2, k9L_m1, k9L_0, k9L_1, k9L_2, k9L_3, k9L_4, k9L_5, k9L_6, k9L_7, k9L_8, k9L_9, k9L_10, k9L_20, k9L_23, k9L_24, k9L_30, k9L_40, k9L_50, k9L_60, k9L_99, k9L_100, k9L_120, k9L_255, k9L_999, k9L_1000, k9_bs, k9_ba] | (with_reducible refine k9q_if (fun _ => ?_) (fun _ => ?_)) | (with_reducible refine k9q_ifb (fun _ => ?_) (fun _ => ?_)))
    all_goals exact k9o_ret ⟨_, _, rfl, hI'⟩
end KT25

/-! ORDERS: totals under an order; off by an order; the reference with a line -/
section KT26
variable {S : k9_S} {d : Nat} {I I' : k9_I} {J J' : k9_J} {w : Nat → Nat → Nat} {V : (Nat → Int32) → Int32} {b : Nat} {x1 x2 x3 : Int32} {h c : Nat → Nat} {L A f M : Nat}
theorem p_sm_c {r r' : Nat → Nat} : ∀ n, (∀ k, k < n → r k = r' k) → p_sm r n = p_sm r' n
  | 0, _ => rfl
  | n + 1, h => by
    rw [p_sm, p_sm, p_sm_c n (fun k hk => h k (by omega)), h n (by omega)]
theorem p_sm_add (r r' : Nat → Nat) : ∀ n, p_sm (fun k => r k + r' k) n = p_sm r n + p_sm r' n
  | 0 => rfl
  | n + 1 => by
    rw [p_sm, p_sm, p_sm, p_sm_add r r' n]
    omega
theorem p_sm_0 : ∀ n, p_sm (fun _ => 0) n = 0
  | 0 => rfl
  | n + 1 => by rw [p_sm, p_sm_0 n]
theorem p_sm_1 : ∀ n, p_sm (fun _ => 1) n = n
  | 0 => rfl
  | n + 1 => by rw [p_sm, p_sm_1 n]
theorem p_sm_at (r : Nat → Nat) (y : Nat) : ∀ n, p_sm (fun x => if y = x then r x else 0) n = if y < n then r y else 0
  | 0 => by simp [p_sm]
  | n + 1 => by
    rw [p_sm, p_sm_at r y n]
    by_cases e : y = n
    · subst e
      rw [if_neg (by omega), if_pos rfl, if_pos (by omega)]
      omega
    · by_cases c : y < n
      · rw [if_pos c, if_neg e, if_pos (by omega)]
        omega
      · rw [if_neg c, if_neg e, if_neg (by omega)]
/-- how often x comes in the first n of an order -/
def p_ot (o : Nat → Nat) (x : Nat) (n : Nat) : Nat := p_sm (fun k => if o k = x then 1 else 0) n
theorem p_sm_o (r o : Nat → Nat) (m : Nat) : ∀ n, (∀ k, k < n → o k < m) → p_sm (fun k => r (o k)) n = p_sm (fun x => r x * p_ot o x n) m
  | 0, _ => by
    rw [p_sm, p_sm_c (r' := fun _ => 0) m (fun k _ => by simp [p_ot, p_sm]), p_sm_0]
  | n + 1, h => by
    have e1 : p_sm (fun x => r x * p_ot o x (n + 1)) m = p_sm (fun x => r x * p_ot o x n + (if o n = x then r x else 0)) m := p_sm_c m (fun k _ => by
      show r k * (p_ot o k n + if o n = k then 1 else 0) = _
      rw [Nat.mul_add]
      by_cases e : o n = k
      · rw [if_pos e, if_pos e, Nat.mul_one]
      · rw [if_neg e, if_neg e, Nat.mul_zero])
    rw [e1, p_sm_add, p_sm_at, if_pos (h n (by omega)), p_sm, p_sm_o r o m n (fun k hk => h k (by omega))]
theorem p_ot_0 (o : Nat → Nat) (x : Nat) : ∀ n, (∀ k, k < n → o k ≠ x) → p_ot o x n = 0
  | 0, _ => rfl
  | n + 1, h => by
    rw [p_ot, p_sm, if_neg (h n (by omega))]
    exact p_ot_0 o x n (fun k hk => h k (by omega))
theorem p_ot_1 (o : Nat → Nat) (x : Nat) : ∀ n, (∀ i j, i < n → j < n → o i = o j → i = j) → p_ot o x n ≤ 1
  | 0, _ => by simp [p_ot, p_sm]
  | n + 1, h => by
    rw [p_ot, p_sm]
    by_cases e : o n = x
    · rw [if_pos e]
      have := p_ot_0 o x n (fun k hk y => by
        have := h k n (by omega) (by omega) (by omega)
        omega)
      rw [p_ot] at this
      omega
    · rw [if_neg e]
      exact p_ot_1 o x n (fun i j hi hj => h i j (by omega) (by omega))
theorem p_sm_full {c : Nat → Nat} (h : ∀ x, c x ≤ 1) : ∀ n, p_sm c n ≤ n ∧ (p_sm c n = n → ∀ x, x < n → c x = 1)
  | 0 => ⟨Nat.le_refl _, fun _ x hx => by omega⟩
  | n + 1 => by
    have hn := p_sm_full h n
    have := h n
    rw [p_sm]
    refine ⟨by omega, fun e x hx => ?_⟩
    by_cases e' : x = n
    · subst e'
      omega
    · exact hn.2 (by omega) x (by omega)
/-- a sum over an order that has all -/
theorem p_sm_p {o : Nat → Nat} {n : Nat} (r : Nat → Nat) (hb : ∀ k, k < n → o k < n) (hj : ∀ i j, i < n → j < n → o i = o j → i = j) : p_sm (fun k => r (o k)) n = p_sm r n := by
  have h1 := p_sm_o (fun _ => 1) o n n hb
  have h2 := p_sm_o r o n n hb
  rw [p_sm_1, p_sm_c (r' := fun x => p_ot o x n) n (fun k _ => Nat.one_mul _)] at h1
  have h3 := (p_sm_full (fun x => p_ot_1 o x n hj) n).2 h1.symm
  rw [h2]
  exact p_sm_c n (fun k hk => by rw [h3 k hk, Nat.mul_one])
theorem p_st_sm (w : Nat → Nat → Nat) : ∀ n, p_st w n = p_sm (p_tk w) n
  | 0 => rfl
  | n + 1 => by rw [p_st, p_sm, p_st_sm w n]
/-- an order of all keeps the totals -/
theorem p_tt_cm {o : Nat → Nat} (hb : ∀ k, k < w 7 0 → o k < w 7 0) (hj : ∀ i j, i < w 7 0 → j < w 7 0 → o i = o j → i = j) (k : Nat) : p_tt (p_cm w o) k = p_tt w k := by
  have h7 : p_cm w o 7 0 = w 7 0 := rfl
  unfold p_tt p_len
  rw [h7]
  split
  · exact p_sm_p (w 0) hb hj
  · split
    · exact p_sm_p (w 3) hb hj
    · rw [p_st_sm, p_st_sm]
      exact p_sm_p (p_tk w) hb hj
theorem p_cm_c {o o' : Nat → Nat} (h : ∀ k, o k = o' k) : p_cm w o = p_cm w o' := by
  rw [show o = o' from funext h]
/-- one at a place: an order of all -/
theorem p_ld_b {n a pl : Nat} (ha : a < n) (hp : pl < n) {k : Nat} (hk : k < n) : p_ld a pl k < n := by
  unfold p_ld
  repeat' split
  all_goals omega
theorem p_ld_j {n a pl : Nat} (ha : a < n) (hp : pl < n) {i j : Nat} (hi : i < n) (hj : j < n) (e : p_ld a pl i = p_ld a pl j) : i = j := by
  unfold p_ld at e
  repeat' split at e
  all_goals omega
/-- the trial in an order -/
theorem k9_otroll {n : Nat} {o : Nat → Nat} {i2 : Nat} (hW : k9_Wk I 0 w) (hf : k9_wf w) (hC : k9_CL I V) (hO : k9_Or I i2 n o) (hn : n = w 7 0) (hb : ∀ k, k < w 7 0 → o k < w 7 0) (hj : ∀ i j, i < w 7 0 → j < w 7 0 → o i = o j → i = j) :
    ∃ I2, k9_R S (d + 8) 149 0 [some (k9_r 1 0), some (k9_r 7 i2)] [] I J = some (some (k9_i (nI (p_oo w V (fun k => if k < n then o k else 0)))), I2, J) ∧ k9_Br I2 1 (p_len (p_cm w (fun k => if k < n then o k else 0))) (p_tt (p_cm w (fun k => if k < n then o k else 0)) 0) (p_sh (p_cm w (fun k => if k < n then o k else 0)) (p_tt (p_cm w (fun k => if k < n then o k else 0))) V) (p_co (p_cm w (fun k => if k < n then o k else 0))) 0 (p_len (p_cm w (fun k => if k < n then o k else 0)) + 1) ∧ k9_Wk I2 1 (p_cm w (fun k => if k < n then o k else 0)) ∧ k9_fx k9_Ft I I2 := by
  have ho : ∀ k, k < w 7 0 → (if k < n then o k else 0) < w 7 0 := fun k hk => by rw [if_pos (by omega)]; exact hb k hk
  obtain ⟨I1, e1, w1, x1⟩ := k9s_16 (S := S) (d := d + 5) (J := J) (i0 := 1) (i1 := 0) (by decide) hW hf hO ho
  have hwf := k9_wf_cm hf ho
  obtain ⟨e10, I2, e2, b2, w2, x2⟩ := k9_troll (S := S) (d := d + 3) (J := J) w1 hwf (k9_CL_t (k9_Ft_w x1) hC)
  have hlen := p_len_b hwf
  have e10' := k9s_10 (S := S) (d := d + 5) (J := J) w1 hwf
  have e61 := k9s_61 (S := S) (d := d + 5) (J := J) (q := 1) b2 (by omega) (by omega) (fun t => p_sh_b t) (by omega)
  rw [if_neg (by decide), if_pos rfl] at e61
  refine ⟨I2, k9o_of ?_, b2, w2, k9_fx_tr (k9_Ft_w x1) (k9_Ft_b x2)⟩
  refine k9o_eq k9e_149_0 (k9o_call e1 ?_)
  simp only [k9_ps_n]
  refine k9o_eq k9e_149_8 (k9o_call e10' ?_)
  simp only [k9_ps_s]
  refine k9o_eq k9e_149_17 (k9o_call e2 ?_)
  simp only [k9_ps_n]
  refine k9o_eq k9e_149_18 (k9o_call e61 ?_)
  simp only [k9_ps_s]
  exact k9o_eq k9e_149_22 (k9o_ret rfl)
/-- the reference runs in an order -/
theorem k9_orun {o : Nat → Nat} {x : Int32} (hM : k9_Wm I w) (hf : k9_wf w) (hV : k9_ML I V) (hL : ∀ i, i < w 7 0 → I 63 0 i = nI (o i)) (hb : ∀ k, k < w 7 0 → o k < w 7 0) (hj : ∀ i j, i < w 7 0 → j < w 7 0 → o i = o j → i = j) :
    ∃ I2, k9_R S (d + 4) 188 0 [some (k9_r 12 0), some (k9_i x), none, none, none, none, none, none, none, none, none, none] [] I J = some (none, I2, J) ∧ k9_Mr I2 (p_len (p_cm w o)) (p_sh (p_cm w o) (p_tt (p_cm w o)) V) (p_co (p_cm w o)) ∧ k9_fx k9_Fr I I2 := by
  obtain ⟨I2, e2, h2, -, x2⟩ := k9s_188 (S := S) (d := d) (I := I) (J := J) (w := p_cm w o) (V := V) (o := o) (x := x) hM hf (fun i hi => ⟨hL i hi, hb i hi⟩) hV rfl (fun k hk => p_tt_cm hb hj k)
  exact ⟨I2, e2, h2, x2⟩
end KT26

/-! LIES: where -/
section KT27
variable {S : k9_S} {d : Nat} {I I' : k9_I} {J J' : k9_J} {w : Nat → Nat → Nat} {V : (Nat → Int32) → Int32} {b : Nat} {x1 x2 x3 : Int32} {h c : Nat → Nat} {L A f M : Nat}
def p_wo (n a i : Nat) : Nat → Nat := fun k => if k < n then p_ld a i k else 0
def p_wg (w : Nat → Nat → Nat) (V : (Nat → Int32) → Int32) (q : Nat) (o : Nat → Nat) : Nat := if q = 2 then (p_sd (p_sh (p_cm w o) (p_tt (p_cm w o)) V) (p_len (p_cm w o) + 1)).1 else p_oo w V o
theorem p_oo_b {o : Nat → Nat} (hf : k9_wf (p_cm w o)) : p_oo w V o ≤ 100000 := by
  have := p_len_b hf
  have := (p_of_b (h := p_sh (p_cm w o) (p_tt (p_cm w o)) V) (fun t => p_sh_b t) (fun t => p_ct_b (Nat.min_le_right t (p_len (p_cm w o)))) (p_len (p_cm w o) + 1)).2.1
  unfold p_oo
  omega
theorem p_wg_b {o : Nat → Nat} {q : Nat} (hf : k9_wf (p_cm w o)) : p_wg w V q o ≤ 100000 := by
  unfold p_wg
  split
  · have := (p_sd_b (p_sh (p_cm w o) (p_tt (p_cm w o)) V) (p_len (p_cm w o) + 1)).1
    have := p_len_b hf
    omega
  · exact p_oo_b hf
def p_aw (g : Nat → Nat) : Nat → Nat × Nat
  | 0 => (0, 0)
  | k + 1 => if k = 0 ∨ g k < (p_aw g k).2 then (k, g k) else p_aw g k
theorem p_aw_b {g : Nat → Nat} {N m : Nat} (h : ∀ k, k < m → g k ≤ N) : ∀ k, k ≤ m → (p_aw g k).1 ≤ k ∧ (p_aw g k).2 ≤ N
  | 0, _ => ⟨Nat.le_refl _, Nat.zero_le _⟩
  | k + 1, hk => by
    have := p_aw_b h k (by omega)
    have := h k (by omega)
    rw [p_aw]
    split
    · exact ⟨Nat.le_succ k, h k (by omega)⟩
    · exact ⟨by omega, by omega⟩
/-- of the class: trial and an order -/
def k9_F6 (k i p : Nat) : Bool := k9_Ft k i p || k9_Fo 0 k i p
theorem k9_F6_t {I1 I2 : k9_I} (h : k9_fx k9_Ft I1 I2) : k9_fx k9_F6 I1 I2 := k9_fx_w h (fun k i p e => by
  unfold k9_F6 at e
  exact (Bool.or_eq_false_iff.mp e).1)
theorem k9_F6_o {I1 I2 : k9_I} (h : k9_fx (k9_Fo 0) I1 I2) : k9_fx k9_F6 I1 I2 := k9_fx_w h (fun k i p e => by
  unfold k9_F6 at e
  exact (Bool.or_eq_false_iff.mp e).2)
theorem k9_F6_X {X : Nat → Bool} (hX : X 0 = true) : ∀ k i p, k9_F6 k i p = true → X (v_cl k i p) = true := by
  intro k i p e
  rcases Bool.or_eq_true_iff.mp e with f | f
  · exact k9_Ft_X hX k i p f
  · clear e
    simp only [k9_Fo, Bool.or_eq_true, Bool.and_eq_true] at f
    obtain ⟨f, e0⟩ := f
    have e0 := k9_beq_of e0
    subst e0
    rcases f with f | f <;> (rw [k9_beq_of f]; exact hX)
/-- of the reference: runs and looks -/
def k9_F7 (k i p : Nat) : Bool := k9_Fq k i p || k9_F44 k i p
theorem k9_F7_q {I1 I2 : k9_I} (h : k9_fx k9_Fq I1 I2) : k9_fx k9_F7 I1 I2 := k9_fx_w h (fun k i p e => by
  unfold k9_F7 at e
  exact (Bool.or_eq_false_iff.mp e).1)
theorem k9_F7_44 {I1 I2 : k9_I} (h : k9_fx k9_F44 I1 I2) : k9_fx k9_F7 I1 I2 := k9_fx_w h (fun k i p e => by
  unfold k9_F7 at e
  exact (Bool.or_eq_false_iff.mp e).2)
theorem k9_F7_X {X : Nat → Bool} (hX : X 0 = true) : ∀ k i p, k9_F7 k i p = true → X (v_cl k i p) = true := by
  intro k i p e
  rcases Bool.or_eq_true_iff.mp e with e | e
  · exact k9_Fq_X hX k i p e
  · exact k9_F44_X hX k i p e
theorem k9s_212l {Q : k9_A → Prop} {x1 x3 x4 : Int32} {n a pl : Nat} (h6 : n ≤ 6) (ha : a < n) (hpl : pl < n) (h0 : I 12 0 0 = nI n)
    (g : ∀ I', (∀ k, k < n → I' 63 0 k = nI (p_ld a pl k)) → k9_fx (fun k _ _ => Nat.beq k 63) I I' → ∀ x6 x7 : Int32, k9_ok (k9_R S d 212 79 [some (k9_r 12 0), some (k9_i x1), some (k9_i (nI a)), some (k9_i x3), some (k9_i x4), some (k9_i (nI pl)), some (k9_i x6), some (k9_i x7)] [] I' J) Q) :
    k9_ok (k9_R S d 212 43 [some (k9_r 12 0), some (k9_i x1), some (k9_i (nI a)), some (k9_i x3), some (k9_i x4), some (k9_i (nI pl)), none, none] [] I J) Q := by
  have key : ∀ k j m I1, j + k = n → m = p_ln a pl j → (∀ k, k < m → I1 63 0 k = nI (p_ld a pl k)) → k9_fx (fun k _ _ => Nat.beq k 63) I I1 → k9_ok (k9_R S d 212 47 [some (k9_r 12 0), some (k9_i x1), some (k9_i (nI a)), some (k9_i x3), some (k9_i x4), some (k9_i (nI pl)), some (k9_i (nI m)), some (k9_i (nI j))] [] I1 J) Q := by
    intro k
    induction k with
    | zero =>
      intro j m I1 hj hm hh hx
      obtain rfl : j = n := by omega
      have hm6 : m ≤ j := by
        rw [hm]
        unfold p_ln p_lr
        repeat' split
        all_goals omega
      refine k9o_eq k9e_212_47 (k9o_T (by rw [hx 12 0 0 rfl, h0]; omega) (k9o_eq k9e_212_71 ?_))
      by_cases e : m = pl
      · refine k9o_T (by rw [n_toInt (by omega), n_toInt (by omega)]; omega) (k9o_eq k9e_212_74 (k9o_T (by rw [n_toInt (by omega)]; omega) ?_))
        rw [n_cl (by omega)]
        refine g _ (fun k hk => ?_) (k9_fx_u hx rfl) _ _
        have hm' : m + 1 = j := by
          rw [hm] at e ⊢
          unfold p_ln p_lr at e ⊢
          repeat' split at e
          all_goals repeat' split
          all_goals omega
        by_cases c : k = m
        · subst c
          simp [k9_ur, p_ld, e]
        · simpa [k9_ur, c] using hh k (by omega)
      · refine k9o_F (by rw [n_toInt (by omega), n_toInt (by omega)]; omega) (g _ (fun k hk => hh k ?_) hx _ _)
        rw [hm] at e ⊢
        unfold p_ln p_lr at e ⊢
        repeat' split at e
        all_goals repeat' split
        all_goals omega
    | succ k ih =>
      intro j m I1 hj hm hh hx
      have hm6 : m ≤ j + 1 := by
        rw [hm]
        unfold p_ln p_lr
        repeat' split
        all_goals omega
      refine k9o_eq k9e_212_47 (k9o_F (by rw [hx 12 0 0 rfl, h0, n_toInt (by omega), n_toInt (by omega)]; omega) (k9o_eq k9e_212_51 ?_))
      have two : ∀ m2 I2, m2 = p_lr a j + (if pl ≤ p_lr a j then 1 else 0) → (∀ k, k < m2 → I2 63 0 k = nI (p_ld a pl k)) → k9_fx (fun k _ _ => Nat.beq k 63) I I2 → k9_ok (k9_R S d 212 60 [some (k9_r 12 0), some (k9_i x1), some (k9_i (nI a)), some (k9_i x3), some (k9_i x4), some (k9_i (nI pl)), some (k9_i (nI m2)), some (k9_i (nI j))] [] I2 J) Q := by
        intro m2 I2 hm2 hh2 hx2
        have hm26 : m2 ≤ j + 1 := by
          rw [hm2]
          unfold p_lr
          repeat' split
          all_goals omega
        by_cases e : j = a
        · have hl : m2 = p_ln a pl (j + 1) := by
            rw [hm2]
            unfold p_ln p_lr
            rw [Nat.add_sub_cancel]
            repeat' split
            all_goals omega
          refine k9o_eq k9e_212_60 (k9o_T (by rw [n_toInt (by omega), n_toInt (by omega)]; omega) (k9o_eq k9e_212_69 ?_))
          rw [nI_1]
          exact ih (j + 1) m2 I2 (by omega) hl hh2 hx2
        · have hl : m2 + 1 = p_ln a pl (j + 1) := by
            rw [hm2]
            unfold p_ln p_lr
            rw [Nat.add_sub_cancel]
            repeat' split
            all_goals omega
          have hn26 : m2 < 6 := by
            rw [hm2]
            unfold p_lr
            repeat' split
            all_goals omega
          refine k9o_eq k9e_212_60 (k9o_F (by rw [n_toInt (by omega), n_toInt (by omega)]; omega) (k9o_eq k9e_212_63 (k9o_T (by rw [n_toInt (by omega)]; omega) (k9o_eq k9e_212_69 ?_))))
          rw [n_cl (by omega), nI_1, nI_1]
          refine ih (j + 1) (m2 + 1) _ (by omega) hl (fun k hk => ?_) (k9_fx_u hx2 rfl)
          by_cases c : k = m2
          · subst c
            have : p_ld a pl k = j := by
              rw [hm2]
              unfold p_ld p_lr
              repeat' split
              all_goals omega
            simp [k9_ur, this]
          · simpa [k9_ur, c] using hh2 k (by omega)
      by_cases e : m = pl
      · have hl : m + 1 = p_lr a j + (if pl ≤ p_lr a j then 1 else 0) := by
          rw [hm] at e ⊢
          unfold p_ln p_lr at e ⊢
          repeat' split at e
          all_goals repeat' split
          all_goals omega
        refine k9o_T (by rw [n_toInt (by omega), n_toInt (by omega)]; omega) (k9o_eq k9e_212_54 (k9o_T (by rw [n_toInt (by omega)]; omega) ?_))
        rw [n_cl (by omega), nI_1]
        refine two _ _ hl (fun k hk => ?_) (k9_fx_u hx rfl)
        by_cases c : k = m
        · subst c
          simp [k9_ur, p_ld, e]
        · simpa [k9_ur, c] using hh k (by omega)
      · have hl : m = p_lr a j + (if pl ≤ p_lr a j then 1 else 0) := by
          rw [hm] at e ⊢
          unfold p_ln p_lr at e ⊢
          repeat' split at e
          all_goals repeat' split
          all_goals omega
        exact k9o_F (by rw [n_toInt (by omega), n_toInt (by omega)]; omega) (two _ _ hl hh hx)
  rw [k9e_212_43]
  exact key n 0 0 I (by omega) (by rw [p_ln, if_pos rfl]) (fun k hk => by omega) (k9_fx_rf _ _)
theorem t_where (hI : k9_Inv I J) : k9_P S (d + 20) 116 212 [some (k9_r 1 0), some (k9_i x1), none, none, none, none, none] [some (k9_r 12 0), some (k9_i x1), none, none, none, none, none, none] I J k9_Inv := by
  have hI' := hI
  obtain ⟨w, V, b, v⟩ := hI
  have v : k9_Iv I J w V b := v
  have hf := v.1.2.2.1
  have h6 := hf.1
  have m0 := v.1.2.1.1
  have c0 := v.1.1.1
  have hwm := v.1.2.1.2.2.2.2
  refine k9P_of ?_
  by_cases h1 : 0 ≤ x1.toInt ∧ x1.toInt ≤ 2
  · obtain ⟨q, rfl, hq, -⟩ := n_of (x := x1) (by omega)
    by_cases h0 : w 7 0 = 0
    · repeat' (first | ((with_reducible refine k9q_T ?_ ?_); · omega) | ((with_reducible refine k9q_F ?_ ?_); · omega) | ((with_reducible refine k9q_Tb ?_ ?_); · omega) | ((with_reducible refine k9q_Fb ?_ ?_); · omega) | simp (disch := omega) only [k9e_116_0, k9e_116_2, k9e_116_5, k9e_116_7, k9e_116_12, Nat.reduceEqDiff, Int.reduceEq, Int.reduceLT, Int.reduceLE, k9_ps_s, k9_ps_n, k9_ur, false_and, and_false, true_and, and_true, true_or, or_true, false_or, or_false, eq_self, ↓reduceIte, not_true_eq_false, not_false_eq_true, n_toInt, n_cl, nI_1, nI_add, n_a0, n_p2, n_p3, n_p4, n_x2, n_x3, n_x4, n_x60, n_x100, n_pm1, k9L_m2, k9L_m1, k9L_0, k9L_1, k9L_2, k9L_3, k9L_4, k9L_5, k9L_6, k9L_7, k9L_8, k9L_9, k9L_10, k9L_20, k9L_23, k9L_24, k9L_30, k9L_40, k9L_50, k9L_60, k9L_99, k9L_100, k9L_120, k9L_255, k9L_999, k9L_1000, k9_bs, k9_ba, c0, h0] | (with_reducible refine k9q_if (fun _ => ?_) (fun _ => ?_)) | (with_reducible refine k9q_ifb (fun _ => ?_) (fun _ => ?_)))
      all_goals refine k9o_ret ⟨_, _, _, rfl, ?_⟩
      all_goals repeat' (first | ((with_reducible refine k9q_T ?_ ?_); · omega) | ((with_reducible refine k9q_F ?_ ?_); · omega) | ((with_reducible refine k9q_Tb ?_ ?_); · omega) | ((with_reducible refine k9q_Fb ?_ ?_); · omega) | (refine k9o_call (k9s_153 (by first | omega | (simp (disch := omega) only [n_toInt, n_pm1, k9L_m2, k9L_m1, k9L_0, k9L_1, k9L_2, k9L_3, k9L_4, k9L_5, k9L_6, k9L_7, k9L_8, k9L_9, k9L_10, k9L_20, k9L_23, k9L_24, k9L_30, k9L_40, k9L_50, k9L_60, k9L_99, k9L_100, k9L_120, k9L_255, k9L_999, k9L_1000]; omega))) ?_; simp (disch := omega) only [k9e_212_0, k9e_212_4, k9e_212_5, k9e_212_7, k9e_212_10, Nat.reduceEqDiff, Int.reduceEq, Int.reduceLT, Int.reduceLE, k9_ps_s, k9_ps_n, k9_ur, false_and, and_false, true_and, and_true, true_or, or_true, false_or, or_false, eq_self, ↓reduceIte, not_true_eq_false, not_false_eq_true, n_toInt, n_cl, nI_1, nI_add, n_a0, n_p2, n_p3, n_p4, n_x2, n_x3, n_x4, n_x60, n_x100, n_pm1, k9L_m2, k9L_m1, k9L_0, k9L_1, k9L_2, k9L_3, k9L_4, k9L_5, k9L_6, k9L_7, k9L_8, k9L_9, k9L_10, k9L_20, k9L_23, k9L_24, k9L_30, k9L_40, k9L_50, k9L_60, k9L_99, k9L_100, k9L_120, k9L_255, k9L_999, k9L_1000, k9_bs, k9_ba, m0, h0]) | (refine k9o_call (k9s_153x (by first | omega | (simp (disch := omega) only [n_toInt, n_pm1, k9L_m2, k9L_m1, k9L_0, k9L_1, k9L_2, k9L_3, k9L_4, k9L_5, k9L_6, k9L_7, k9L_8, k9L_9, k9L_10, k9L_20, k9L_23, k9L_24, k9L_30, k9L_40, k9L_50, k9L_60, k9L_99, k9L_100, k9L_120, k9L_255, k9L_999, k9L_1000]; omega))) ?_; simp (disch := omega) only [k9e_212_0, k9e_212_4, k9e_212_5, k9e_212_7, k9e_212_10, Nat.reduceEqDiff, Int.reduceEq, Int.reduceLT, Int.reduceLE, k9_ps_s, k9_ps_n, k9_ur, false_and, and_false, true_and, and_true, true_or, or_true, false_or, or_false, eq_self, ↓reduceIte, not_true_eq_false, not_false_eq_true, n_toInt, n_cl, nI_1, nI_add, n_a0, n_p2, n_p3, n_p4, n_x2, n_x3, n_x4, n_x60, n_x100, n_pm1, k9L_m2, k9L_m1, k9L_0, k9L_1, k9L_2, k9L_3, k9L_4, k9L_5, k9L_6, k9L_7, k9L_8, k9L_9, k9L_10, k9L_20, k9L_23, k9L_24, k9L_30, k9L_40, k9L_50, k9L_60, k9L_99, k9L_100, k9L_120, k9L_255, k9L_999, k9L_1000, k9_bs, k9_ba, m0, h0]) | simp (disch := omega) only [k9e_212_0, k9e_212_4, k9e_212_5, k9e_212_7, k9e_212_10, Nat.reduceEqDiff, Int.reduceEq, Int.reduceLT, Int.reduceLE, k9_ps_s, k9_ps_n, k9_ur, false_and, and_false, true_and, and_true, true_or, or_true, false_or, or_false, eq_self, ↓reduceIte, not_true_eq_false, not_false_eq_true, n_toInt, n_cl, nI_1, nI_add, n_a0, n_p2, n_p3, n_p4, n_x2, n_x3, n_x4, n_x60, n_x100, n_pm1, k9L_m2, k9L_m1, k9L_0, k9L_1, k9L_2, k9L_3, k9L_4, k9L_5, k9L_6, k9L_7, k9L_8, k9L_9, k9L_10, k9L_20, k9L_23, k9L_24, k9L_30, k9L_40, k9L_50, k9L_60, k9L_99, k9L_100, k9L_120, k9L_255, k9L_999, k9L_1000, k9_bs, k9_ba, m0, h0] | (with_reducible refine k9q_if (fun _ => ?_) (fun _ => ?_)) | (with_reducible refine k9q_ifb (fun _ => ?_) (fun _ => ?_)))
      all_goals exact k9o_ret ⟨_, _, rfl, hI'⟩
    · obtain ⟨n, hn⟩ : ∃ n, n = w 7 0 := ⟨_, rfl⟩
      rw [← hn] at h0 h6 m0 c0 hwm
      obtain ⟨a, ha⟩ : ∃ a, a = p_lg (w 0) n := ⟨_, rfl⟩
      have han : a < n := by
        rw [ha]
        exact (p_lg_le (w 0) n).2 (by omega)
      obtain ⟨g, hg⟩ : ∃ g : Nat → Nat, g = fun i => p_wg w V q (p_wo n a i) := ⟨_, rfl⟩
      have hgu : ∀ i, g i = p_wg w V q (p_wo n a i) := fun i => by rw [hg]
      have hob : ∀ i, i < n → ∀ k, k < n → p_wo n a i k < n := fun i hi k hk => by
        rw [p_wo, if_pos hk]
        exact p_ld_b han hi hk
      have hoj : ∀ i, i < n → ∀ k j, k < n → j < n → p_wo n a i k = p_wo n a i j → k = j := fun i hi k j hk hj e => by
        rw [p_wo, p_wo, if_pos hk, if_pos hj] at e
        exact p_ld_j han hi hk hj e
      have hwf : ∀ i, i < n → k9_wf (p_cm w (p_wo n a i)) := fun i hi => k9_wf_cm hf (fun k hk => by rw [← hn] at hk ⊢; exact hob i hi k hk)
      have hgb : ∀ i, i < n → g i ≤ 100000 := fun i hi => by rw [hgu]; exact p_wg_b (hwf i hi)
      have hab := p_aw_b hgb
      -- the class
      have kc : ∀ k i I1, i + k = n → k9_fx k9_F6 I I1 → ∃ I2, k9_ok (k9_R S (d + 20) 116 20 [some (k9_r 1 0), some (k9_i (nI q)), some (k9_i (nI (p_aw g i).1)), some (k9_i (nI (p_aw g i).2)), some (k9_i (nI i)), none, none] [] I1 J) (fun q' => q' = (some (k9_i (nI (if q = 1 then (p_aw g n).2 else (p_aw g n).1))), I2, J)) ∧ k9_fx k9_F6 I I2 := by
        intro k
        induction k with
        | zero =>
          intro i I1 hi hx
          obtain rfl : i = n := by omega
          refine ⟨I1, k9o_eq k9e_116_20 (k9o_T (by rw [hx 3 0 0 rfl, c0]; omega) (k9o_eq k9e_116_68 ?_)), hx⟩
          by_cases e : q = 1
          · rw [if_pos e]
            exact k9o_T (by rw [n_toInt (by omega)]; omega) (k9o_eq k9e_116_71 (k9o_eq k9e_116_74 (k9o_ret rfl)))
          · rw [if_neg e]
            exact k9o_F (by rw [n_toInt (by omega)]; omega) (k9o_eq k9e_116_73 (k9o_eq k9e_116_74 (k9o_ret rfl)))
        | succ k ih =>
          intro i I1 hi hx
          have hin : i < n := by omega
          have i1 : k9_Iv I1 J w V b := k9_Iv_0 (k9_fp_x hx (k9_F6_X rfl)) v
          have e14 := k9s_14 (S := S) (d := d + 19) (J := J) i1.1.1 hf (by omega)
          obtain ⟨I2, n', o', e31, O2, hn', ho', x2⟩ := k9s_31 (S := S) (d := d + 17) (I := I1) (J := J) (i0 := 0) (m := n) (b := a) (pl := i) h6 han hin
          subst hn'
          have hoo : (fun k => if k < n' then o' k else 0) = p_wo n' a i := funext fun k => by
            rw [p_wo]
            split
            · exact ho' k (by assumption)
            · rfl
          have i2 : k9_Iv I2 J w V b := k9_Iv_0 (k9_fp_x (k9_fx_tr hx (k9_F6_o x2)) (k9_F6_X rfl)) v
          obtain ⟨I3, e3, b3, w3, x3⟩ := k9_otroll (S := S) (d := d + 11) (J := J) i2.1.1 hf i2.2.2.1.1 O2 hn (fun k hk => by rw [← hn] at hk ⊢; rw [ho' k hk]; exact p_ld_b han hin hk) (fun k j hk hj e => by rw [← hn] at hk hj; rw [ho' k hk, ho' j hj] at e; exact p_ld_j han hin hk hj e)
          rw [hoo] at e3 b3 w3
          have hx3 := k9_fx_tr (k9_fx_tr hx (k9_F6_o x2)) (k9_F6_t x3)
          obtain ⟨I4, o4, x4⟩ := ih (i + 1) I3 (by omega) hx3
          have hg4 := hgb i hin
          have hb4 := hab i (by omega)
          have hlen := p_len_b (hwf i hin)
          refine ⟨I4, k9o_eq k9e_116_20 (k9o_F (by rw [hx 3 0 0 rfl, c0, n_toInt (by omega), n_toInt (by omega)]; omega) (k9o_eq k9e_116_26 (k9o_call e14 ?_))), x4⟩
          simp only [k9_ps_s]
          rw [← hn, ← ha]
          refine k9o_eq k9e_116_32 ?_
          rw [hx 3 0 0 rfl, c0]
          refine k9o_call e31 ?_
          simp only [k9_ps_n]
          refine k9o_eq k9e_116_38 (k9o_call e3 ?_)
          simp only [k9_ps_s]
          have fin : ∀ x5 : Int32, k9_ok (k9_R S (d + 20) 116 56 [some (k9_r 1 0), some (k9_i (nI q)), some (k9_i (nI (p_aw g i).1)), some (k9_i (nI (p_aw g i).2)), some (k9_i (nI i)), some (k9_i x5), none] [k9_i (nI (g i))] I3 J) (fun q' => q' = (some (k9_i (nI (if q = 1 then (p_aw g n').2 else (p_aw g n').1))), I4, J)) := by
            intro x5
            rw [p_aw] at o4
            refine k9o_eq k9e_116_56 ?_
            by_cases z : i = 0
            · rw [if_pos (Or.inl z)] at o4
              refine k9o_T (by rw [n_toInt (by omega)]; omega) (k9o_eq k9e_116_62 (k9o_eq k9e_116_66 ?_))
              rw [nI_1]
              exact o4
            · refine k9o_F (by rw [n_toInt (by omega)]; omega) (k9o_eq k9e_116_59 ?_)
              by_cases c : g i < (p_aw g i).2
              · rw [if_pos (Or.inr c)] at o4
                refine k9o_F (by rw [n_toInt (by omega), n_toInt (by omega)]; omega) (k9o_eq k9e_116_62 (k9o_eq k9e_116_66 ?_))
                rw [nI_1]
                exact o4
              · rw [if_neg (by omega)] at o4
                refine k9o_T (by rw [n_toInt (by omega), n_toInt (by omega)]; omega) (k9o_eq k9e_116_66 ?_)
                rw [nI_1]
                exact o4
          refine k9o_eq k9e_116_42 ?_
          have hgi := hgu i
          by_cases e2 : q = 2
          · rw [p_wg, if_pos e2] at hgi
            have e10 := k9s_10 (S := S) (d := d + 17) (J := J) w3 (hwf i hin)
            have e60 := k9s_60 (S := S) (d := d + 18) (J := J) (q := 0) b3 (x := nI (p_len (p_cm w (p_wo n' a i)))) (N := p_len (p_cm w (p_wo n' a i)) + 1) (by rw [n_toInt (by omega)]; omega) (by omega) (by omega) (by omega) (fun t => p_sh_b t) (by omega)
            rw [if_pos rfl, ← hgi] at e60
            refine k9o_T (by rw [n_toInt (by omega)]; omega) (k9o_eq k9e_116_46 (k9o_call e10 ?_))
            simp only [k9_ps_s]
            refine k9o_eq k9e_116_53 (k9o_call e60 ?_)
            simp only [k9_ps_s]
            exact k9o_eq k9e_116_54 (fin _)
          · rw [p_wg, if_neg e2] at hgi
            rw [← hgi]
            exact k9o_F (by rw [n_toInt (by omega)]; omega) (k9o_eq k9e_116_55 (fin _))
      obtain ⟨I2, o2, x2⟩ := kc n 0 I (by omega) (k9_fx_rf _ _)
      have i2 : k9_Iv I2 J w V b := k9_Iv_0 (k9_fp_x x2 (k9_F6_X rfl)) v
      have m20 := i2.1.2.1.1
      rw [← hn] at m20
      simp (disch := omega) only [k9e_116_0, k9e_116_2, k9e_116_5, k9e_116_7, k9e_116_12, k9e_116_14, Nat.reduceEqDiff, Int.reduceEq, Int.reduceLT, Int.reduceLE, k9_ps_s, k9_ps_n, k9_ur, false_and, and_false, true_and, and_true, true_or, or_true, false_or, or_false, eq_self, ↓reduceIte, not_true_eq_false, not_false_eq_true, n_toInt, n_cl, nI_1, nI_add, n_a0, n_p2, n_p3, n_p4, n_x2, n_x3, n_x4, n_x60, n_x100, n_pm1, k9L_m2, k9L_m1, k9L_0, k9L_1, k9L_2, k9L_3, k9L_4, k9L_5, k9L_6, k9L_7, k9L_8, k9L_9, k9L_10, k9L_20, k9L_23, k9L_24, k9L_30, k9L_40, k9L_50, k9L_60, k9L_99, k9L_100, k9L_120, k9L_255, k9L_999, k9L_1000, k9_bs, k9_ba, c0]
      repeat (first | ((with_reducible refine k9q_T ?_ ?_); · omega) | ((with_reducible refine k9q_F ?_ ?_); · omega) | ((with_reducible refine k9q_Tb ?_ ?_); · omega) | ((with_reducible refine k9q_Fb ?_ ?_); · omega) | simp (disch := omega) only [k9e_116_0, k9e_116_2, k9e_116_5, k9e_116_7, k9e_116_12, k9e_116_14, Nat.reduceEqDiff, Int.reduceEq, Int.reduceLT, Int.reduceLE, k9_ps_s, k9_ps_n, k9_ur, false_and, and_false, true_and, and_true, true_or, or_true, false_or, or_false, eq_self, ↓reduceIte, not_true_eq_false, not_false_eq_true, n_toInt, n_cl, nI_1, nI_add, n_a0, n_p2, n_p3, n_p4, n_x2, n_x3, n_x4, n_x60, n_x100, n_pm1, k9L_m2, k9L_m1, k9L_0, k9L_1, k9L_2, k9L_3, k9L_4, k9L_5, k9L_6, k9L_7, k9L_8, k9L_9, k9L_10, k9L_20, k9L_23, k9L_24, k9L_30, k9L_40, k9L_50, k9L_60, k9L_99, k9L_100, k9L_120, k9L_255, k9L_999, k9L_1000, k9_bs, k9_ba, c0])
      obtain ⟨q1, c1, rfl⟩ := o2
      refine k9o_to c1 ⟨_, _, _, rfl, ?_⟩
      -- the reference
      have km : ∀ k i I3, i + k = n → k9_fx k9_F7 I2 I3 → k9_ok (k9_R S (d + 20) 212 39 [some (k9_r 12 0), some (k9_i (nI q)), some (k9_i (nI a)), some (k9_i (nI (p_aw g i).1)), some (k9_i (if i = 0 then -1 else nI (p_aw g i).2)), some (k9_i (nI i)), none, none] [] I3 J) (fun q' => ∃ I4 J4, q' = (some (k9_i (nI (if q = 1 then (p_aw g n).2 else (p_aw g n).1))), I4, J4) ∧ k9_Inv I4 J4) := by
        intro k
        induction k with
        | zero =>
          intro i I3 hi hx
          obtain rfl : i = n := by omega
          have i3 := k9_Iv_e (k9_Iv_0 (k9_fp_x hx (k9_F7_X rfl)) i2)
          rw [if_neg h0]
          refine k9o_eq k9e_212_39 (k9o_T (by rw [hx 12 0 0 rfl, m20]; omega) (k9o_eq k9e_212_105 ?_))
          by_cases e : q = 1
          · rw [if_pos e]
            exact k9o_T (by rw [n_toInt (by omega)]; omega) (k9o_eq k9e_212_108 (k9o_eq k9e_212_111 (k9o_ret ⟨_, _, rfl, i3⟩)))
          · rw [if_neg e]
            exact k9o_F (by rw [n_toInt (by omega)]; omega) (k9o_eq k9e_212_110 (k9o_eq k9e_212_111 (k9o_ret ⟨_, _, rfl, i3⟩)))
        | succ k ih =>
          intro i I3 hi hx
          have hin : i < n := by omega
          have hg4 := hgb i hin
          have hb4 := hab i (by omega)
          have hlen := p_len_b (hwf i hin)
          refine k9o_eq k9e_212_39 (k9o_F (by rw [hx 12 0 0 rfl, m20, n_toInt (by omega), n_toInt (by omega)]; omega) (k9s_212l h6 han hin ((hx 12 0 0 rfl).trans m20) (fun I4 h4 x4 x6 x7 => ?_)))
          have i4 : k9_Iv I4 J w V b := k9_Iv_0 (k9_fp_x (k9_fx_tr hx (k9_F7_q (k9_Fq_63 x4))) (k9_F7_X rfl)) i2
          obtain ⟨I5, e5, m5, x5⟩ := k9_orun (S := S) (d := d + 15) (J := J) (o := p_wo n a i) (x := -1) i4.1.2.1 hf i4.2.2.1.2 (fun k hk => by rw [← hn] at hk; rw [h4 k hk, p_wo, if_pos hk]) (fun k hk => by rw [← hn] at hk ⊢; exact hob i hin k hk) (fun k j hk hj e => by rw [← hn] at hk hj; exact hoj i hin k j hk hj e)
          obtain ⟨I6, e6, k6, x6'⟩ := k9s_191 (S := S) (d := d + 19) (J := J) m5 (by omega) (fun t => p_sh_b t)
          have hx6 := k9_fx_tr (k9_fx_tr (k9_fx_tr hx (k9_F7_q (k9_Fq_63 x4))) (k9_F7_q (k9_Fq_of x5))) (k9_F7_44 x6')
          have o7 := ih (i + 1) I6 (by omega) hx6
          refine k9o_eq k9e_212_79 (k9o_call e5 ?_)
          simp only [k9_ps_n]
          refine k9o_eq k9e_212_82 (k9o_call e6 ?_)
          simp only [k9_ps_n]
          have fin : k9_ok (k9_R S (d + 20) 212 92 [some (k9_r 12 0), some (k9_i (nI q)), some (k9_i (nI a)), some (k9_i (nI (p_aw g i).1)), some (k9_i (if i = 0 then -1 else nI (p_aw g i).2)), some (k9_i (nI i)), some (k9_i x6), some (k9_i x7)] [k9_i (nI (g i))] I6 J) (fun q' => ∃ I4 J4, q' = (some (k9_i (nI (if q = 1 then (p_aw g n).2 else (p_aw g n).1))), I4, J4) ∧ k9_Inv I4 J4) := by
            rw [if_neg (show ¬ i + 1 = 0 by omega), p_aw] at o7
            refine k9o_eq k9e_212_92 ?_
            by_cases z : i = 0
            · rw [if_pos (Or.inl z)] at o7
              rw [if_pos z]
              refine k9o_T (by decide) (k9o_eq k9e_212_99 (k9o_eq k9e_212_103 ?_))
              rw [nI_1]
              exact o7
            · rw [if_neg z]
              refine k9o_F (by rw [n_toInt (by omega)]; omega) (k9o_eq k9e_212_95 ?_)
              by_cases c : g i < (p_aw g i).2
              · rw [if_pos (Or.inr c)] at o7
                refine k9o_T (by rw [n_toInt (by omega), n_toInt (by omega)]; omega) (k9o_eq k9e_212_99 (k9o_eq k9e_212_103 ?_))
                rw [nI_1]
                exact o7
              · rw [if_neg (by omega)] at o7
                refine k9o_F (by rw [n_toInt (by omega), n_toInt (by omega)]; omega) (k9o_eq k9e_212_98 (k9o_eq k9e_212_103 ?_))
                rw [nI_1]
                exact o7
          refine k9o_eq k9e_212_84 ?_
          have hgi := hgu i
          by_cases e2 : q = 2
          · rw [p_wg, if_pos e2] at hgi
            refine k9o_T (by rw [n_toInt (by omega)]; omega) (k9o_eq k9e_212_87 ?_)
            rw [k6.2.2.2.1, ← hgi]
            exact fin
          · rw [p_wg, if_neg e2] at hgi
            refine k9o_F (by rw [n_toInt (by omega)]; omega) (k9o_eq k9e_212_90 ?_)
            rw [k6.2.1]
            have hgi : g i = (p_of (p_sh (p_cm w (p_wo n a i)) (p_tt (p_cm w (p_wo n a i))) V) (fun t => p_ct (p_len (p_cm w (p_wo n a i))) (min t (p_len (p_cm w (p_wo n a i))))) (p_len (p_cm w (p_wo n a i)) + 1)).2.1 := hgi
            rw [← hgi]
            exact fin
      have kl : ∀ k j, j + k = n → 1 ≤ j → k9_ok (k9_R S (d + 20) 212 16 [some (k9_r 12 0), some (k9_i (nI q)), some (k9_i (nI (p_lg (w 0) j))), some (k9_i (nI j)), none, none, none, none] [] I2 J) (fun q' => ∃ I4 J4, q' = (some (k9_i (nI (if q = 1 then (p_aw g n).2 else (p_aw g n).1))), I4, J4) ∧ k9_Inv I4 J4) := by
        intro k
        induction k with
        | zero =>
          intro j hj h1j
          obtain rfl : j = n := by omega
          have o := km j 0 I2 (by omega) (k9_fx_rf _ _)
          rw [if_pos rfl] at o
          refine k9o_eq k9e_212_16 (k9o_T (by rw [m20]; omega) (k9o_eq k9e_212_33 ?_))
          rw [← ha]
          exact o
        | succ k ih =>
          intro j hj h1j
          have o := ih (j + 1) (by omega) (by omega)
          have hl := (p_lg_le (w 0) j).2 h1j
          have wm := i2.1.2.1.2.2.2.2
          have aj := (wm j (by omega)).1
          have al := (wm (p_lg (w 0) j) (by omega)).1
          have bj := (hf.2.2.2.2 j (by omega)).2.1
          have bl := (hf.2.2.2.2 (p_lg (w 0) j) (by omega)).2.1
          rw [p_lg, if_neg (by omega)] at o
          refine k9o_eq k9e_212_16 (k9o_F (by rw [m20, n_toInt (by omega), n_toInt (by omega)]; omega) (k9o_eq k9e_212_20 (k9o_T (by rw [n_toInt (by omega)]; omega) (k9o_eq k9e_212_24 (k9o_T (by rw [n_toInt (by omega)]; omega) ?_)))))
          rw [n_cl (by omega), n_cl (by omega), aj, al]
          refine k9o_eq k9e_212_28 ?_
          by_cases c : w 0 (p_lg (w 0) j) < w 0 j
          · rw [if_pos c] at o
            refine k9o_F (by rw [n_toInt (by omega), n_toInt (by omega)]; omega) (k9o_eq k9e_212_29 (k9o_eq k9e_212_31 ?_))
            rw [nI_1]
            exact o
          · rw [if_neg c] at o
            refine k9o_T (by rw [n_toInt (by omega), n_toInt (by omega)]; omega) (k9o_eq k9e_212_31 ?_)
            rw [nI_1]
            exact o
      simp (disch := omega) only [k9e_212_0, k9e_212_4, k9e_212_5, k9e_212_7, k9e_212_10, k9e_212_12, Nat.reduceEqDiff, Int.reduceEq, Int.reduceLT, Int.reduceLE, k9_ps_s, k9_ps_n, k9_ur, false_and, and_false, true_and, and_true, true_or, or_true, false_or, or_false, eq_self, ↓reduceIte, not_true_eq_false, not_false_eq_true, n_toInt, n_cl, nI_1, nI_add, n_a0, n_p2, n_p3, n_p4, n_x2, n_x3, n_x4, n_x60, n_x100, n_pm1, k9L_m2, k9L_m1, k9L_0, k9L_1, k9L_2, k9L_3, k9L_4, k9L_5, k9L_6, k9L_7, k9L_8, k9L_9, k9L_10, k9L_20, k9L_23, k9L_24, k9L_30, k9L_40, k9L_50, k9L_60, k9L_99, k9L_100, k9L_120, k9L_255, k9L_999, k9L_1000, k9_bs, k9_ba, m20]
      repeat (first | ((with_reducible refine k9q_T ?_ ?_); · omega) | ((with_reducible refine k9q_F ?_ ?_); · omega) | ((with_reducible refine k9q_Tb ?_ ?_); · omega) | ((with_reducible refine k9q_Fb ?_ ?_); · omega) | (refine k9o_call (k9s_153 (by first | omega | (simp (disch := omega) only [n_toInt, n_pm1, k9L_m2, k9L_m1, k9L_0, k9L_1, k9L_2, k9L_3, k9L_4, k9L_5, k9L_6, k9L_7, k9L_8, k9L_9, k9L_10, k9L_20, k9L_23, k9L_24, k9L_30, k9L_40, k9L_50, k9L_60, k9L_99, k9L_100, k9L_120, k9L_255, k9L_999, k9L_1000]; omega))) ?_; simp (disch := omega) only [k9e_212_0, k9e_212_4, k9e_212_5, k9e_212_7, k9e_212_10, k9e_212_12, Nat.reduceEqDiff, Int.reduceEq, Int.reduceLT, Int.reduceLE, k9_ps_s, k9_ps_n, k9_ur, false_and, and_false, true_and, and_true, true_or, or_true, false_or, or_false, eq_self, ↓reduceIte, not_true_eq_false, not_false_eq_true, n_toInt, n_cl, nI_1, nI_add, n_a0, n_p2, n_p3, n_p4, n_x2, n_x3, n_x4, n_x60, n_x100, n_pm1, k9L_m2, k9L_m1, k9L_0, k9L_1, k9L_2, k9L_3, k9L_4, k9L_5, k9L_6, k9L_7, k9L_8, k9L_9, k9L_10, k9L_20, k9L_23, k9L_24, k9L_30, k9L_40, k9L_50, k9L_60, k9L_99, k9L_100, k9L_120, k9L_255, k9L_999, k9L_1000, k9_bs, k9_ba, m20]) | (refine k9o_call (k9s_153x (by first | omega | (simp (disch := omega) only [n_toInt, n_pm1, k9L_m2, k9L_m1, k9L_0, k9L_1, k9L_2, k9L_3, k9L_4, k9L_5, k9L_6, k9L_7, k9L_8, k9L_9, k9L_10, k9L_20, k9L_23, k9L_24, k9L_30, k9L_40, k9L_50, k9L_60, k9L_99, k9L_100, k9L_120, k9L_255, k9L_999, k9L_1000]; omega))) ?_; simp (disch := omega) only [k9e_212_0, k9e_212_4, k9e_212_5, k9e_212_7, k9e_212_10, k9e_212_12, Nat.reduceEqDiff, Int.reduceEq, Int.reduceLT, Int.reduceLE, k9_ps_s, k9_ps_n, k9_ur, false_and, and_false, true_and, and_true, true_or, or_true, false_or, or_false, eq_self, ↓reduceIte, not_true_eq_false, not_false_eq_true, n_toInt, n_cl, nI_1, nI_add, n_a0, n_p2, n_p3, n_p4, n_x2, n_x3, n_x4, n_x60, n_x100, n_pm1, k9L_m2, k9L_m1, k9L_0, k9L_1, k9L_2, k9L_3, k9L_4, k9L_5, k9L_6, k9L_7, k9L_8, k9L_9, k9L_10, k9L_20, k9L_23, k9L_24, k9L_30, k9L_40, k9L_50, k9L_60, k9L_99, k9L_100, k9L_120, k9L_255, k9L_999, k9L_1000, k9_bs, k9_ba, m20]) | simp (disch := omega) only [k9e_212_0, k9e_212_4, k9e_212_5, k9e_212_7, k9e_212_10, k9e_212_12, Nat.reduceEqDiff, Int.reduceEq, Int.reduceLT, Int.reduceLE, k9_ps_s, k9_ps_n, k9_ur, false_and, and_false, true_and, and_true, true_or, or_true, false_or, or_false, eq_self, ↓reduceIte, not_true_eq_false, not_false_eq_true, n_toInt, n_cl, nI_1, nI_add, n_a0, n_p2, n_p3, n_p4, n_x2, n_x3, n_x4, n_x60, n_x100, n_pm1, k9L_m2, k9L_m1, k9L_0, k9L_1, k9L_2, k9L_3, k9L_4, k9L_5, k9L_6, k9L_7, k9L_8, k9L_9, k9L_10, k9L_20, k9L_23, k9L_24, k9L_30, k9L_40, k9L_50, k9L_60, k9L_99, k9L_100, k9L_120, k9L_255, k9L_999, k9L_1000, k9_bs, k9_ba, m20])
      exact kl (n - 1) 1 (by omega) (by omega)
  · repeat' (first | ((with_reducible refine k9q_T ?_ ?_); · omega) | ((with_reducible refine k9q_F ?_ ?_); · omega) | ((with_reducible refine k9q_Tb ?_ ?_); · omega) | ((with_reducible refine k9q_Fb ?_ ?_); · omega) | simp (disch := omega) only [k9e_116_0, k9e_116_2, k9e_116_5, Nat.reduceEqDiff, Int.reduceEq, Int.reduceLT, Int.reduceLE, k9_ps_s, k9_ps_n, k9_ur, false_and, and_false, true_and, and_true, true_or, or_true, false_or, or_false, eq_self, ↓reduceIte, not_true_eq_false, not_false_eq_true, n_toInt, n_cl, nI_1, nI_add, n_a0, n_p2, n_p3, n_p4, n_x2, n_x3, n_x4, n_x60, n_x100, n_pm1, k9L_m2, k9L_m1, k9L_0, k9L_1, k9L_2, k9L_3, k9L_4, k9L_5, k9L_6, k9L_7, k9L_8, k9L_9, k9L_10, k9L_20, k9L_23, k9L_24, k9L_30, k9L_40, k9L_50, k9L_60, k9L_99, k9L_100, k9L_120, k9L_255, k9L_999, k9L_1000, k9_bs, k9_ba] | (with_reducible refine k9q_if (fun _ => ?_) (fun _ => ?_)) | (with_reducible refine k9q_ifb (fun _ => ?_) (fun _ => ?_)))
    all_goals refine k9o_ret ⟨_, _, _, rfl, ?_⟩
    all_goals repeat' (first | ((with_reducible refine k9q_T ?_ ?_); · omega) | ((with_reducible refine k9q_F ?_ ?_); · omega) | ((with_reducible refine k9q_Tb ?_ ?_); · omega) | ((with_reducible refine k9q_Fb ?_ ?_); · omega) | (refine k9o_call (k9s_153 (by first | omega | (simp (disch := omega) only [n_toInt, n_pm1, k9L_m2, k9L_m1, k9L_0, k9L_1, k9L_2, k9L_3, k9L_4, k9L_5, k9L_6, k9L_7, k9L_8, k9L_9, k9L_10, k9L_20, k9L_23, k9L_24, k9L_30, k9L_40, k9L_50, k9L_60, k9L_99, k9L_100, k9L_120, k9L_255, k9L_999, k9L_1000]; omega))) ?_; simp (disch := omega) only [k9e_212_0, k9e_212_4, k9e_212_5, Nat.reduceEqDiff, Int.reduceEq, Int.reduceLT, Int.reduceLE, k9_ps_s, k9_ps_n, k9_ur, false_and, and_false, true_and, and_true, true_or, or_true, false_or, or_false, eq_self, ↓reduceIte, not_true_eq_false, not_false_eq_true, n_toInt, n_cl, nI_1, nI_add, n_a0, n_p2, n_p3, n_p4, n_x2, n_x3, n_x4, n_x60, n_x100, n_pm1, k9L_m2, k9L_m1, k9L_0, k9L_1, k9L_2, k9L_3, k9L_4, k9L_5, k9L_6, k9L_7, k9L_8, k9L_9, k9L_10, k9L_20, k9L_23, k9L_24, k9L_30, k9L_40, k9L_50, k9L_60, k9L_99, k9L_100, k9L_120, k9L_255, k9L_999, k9L_1000, k9_bs, k9_ba]) | (refine k9o_call (k9s_153x (by first | omega | (simp (disch := omega) only [n_toInt, n_pm1, k9L_m2, k9L_m1, k9L_0, k9L_1, k9L_2, k9L_3, k9L_4, k9L_5, k9L_6, k9L_7, k9L_8, k9L_9, k9L_10, k9L_20, k9L_23, k9L_24, k9L_30, k9L_40, k9L_50, k9L_60, k9L_99, k9L_100, k9L_120, k9L_255, k9L_999, k9L_1000]; omega))) ?_; simp (disch := omega) only [k9e_212_0, k9e_212_4, k9e_212_5, Nat.reduceEqDiff, Int.reduceEq, Int.reduceLT, Int.reduceLE, k9_ps_s, k9_ps_n, k9_ur, false_and, and_false, true_and, and_true, true_or, or_true, false_or, or_false, eq_self, ↓reduceIte, not_true_eq_false, not_false_eq_true, n_toInt, n_cl, nI_1, nI_add, n_a0, n_p2, n_p3, n_p4, n_x2, n_x3, n_x4, n_x60, n_x100, n_pm1, k9L_m2, k9L_m1, k9L_0, k9L_1, k9L_2, k9L_3, k9L_4, k9L_5, k9L_6, k9L_7, k9L_8, k9L_9, k9L_10, k9L_20, k9L_23, k9L_24, k9L_30, k9L_40, k9L_50, k9L_60, k9L_99, k9L_100, k9L_120, k9L_255, k9L_999, k9L_1000, k9_bs, k9_ba]) | simp (disch := omega) only [k9e_212_0, k9e_212_4, k9e_212_5, Nat.reduceEqDiff, Int.reduceEq, Int.reduceLT, Int.reduceLE, k9_ps_s, k9_ps_n, k9_ur, false_and, and_false, true_and, and_true, true_or, or_true, false_or, or_false, eq_self, ↓reduceIte, not_true_eq_false, not_false_eq_true, n_toInt, n_cl, nI_1, nI_add, n_a0, n_p2, n_p3, n_p4, n_x2, n_x3, n_x4, n_x60, n_x100, n_pm1, k9L_m2, k9L_m1, k9L_0, k9L_1, k9L_2, k9L_3, k9L_4, k9L_5, k9L_6, k9L_7, k9L_8, k9L_9, k9L_10, k9L_20, k9L_23, k9L_24, k9L_30, k9L_40, k9L_50, k9L_60, k9L_99, k9L_100, k9L_120, k9L_255, k9L_999, k9L_1000, k9_bs, k9_ba] | (with_reducible refine k9q_if (fun _ => ?_) (fun _ => ?_)) | (with_reducible refine k9q_ifb (fun _ => ?_) (fun _ => ?_)))
    all_goals exact k9o_ret ⟨_, _, rfl, hI'⟩
end KT27

/-! ORDERS: the next one -/
section KT28
variable {S : k9_S} {d : Nat} {I I' : k9_I} {J J' : k9_J} {w : Nat → Nat → Nat} {V : (Nat → Int32) → Int32} {b : Nat} {x1 x2 x3 : Int32} {h c : Nat → Nat} {L A f M : Nat}
def p_pv (o : Nat → Nat) : Nat → Nat
  | 0 => 0
  | k + 1 => if o k ≤ o (k + 1) then k + 1 else p_pv o k
def p_sc (o : Nat → Nat) (i : Nat) : Nat → Nat
  | 0 => 0
  | j + 1 => if j + 1 ≤ i ∨ o i ≤ o (j + 1) then j + 1 else p_sc o i j
def p_sw (o : Nat → Nat) (a b : Nat) : Nat → Nat := fun k => if k = b then o a else if k = a then o b else o k
def p_rv : Nat → (Nat → Nat) → Nat → Nat → (Nat → Nat)
  | 0, o, _, _ => o
  | f + 1, o, a, b => if a < b then p_rv f (p_sw o a b) (a + 1) (b - 1) else o
/-- the next order of n (where there is one) -/
def p_nx (n : Nat) (o : Nat → Nat) : Nat → Nat := p_rv 6 (p_sw o (p_pv o (n - 1) - 1) (p_sc o (p_pv o (n - 1) - 1) (n - 1))) (p_pv o (n - 1)) (n - 1)
theorem p_pv_b (o : Nat → Nat) : ∀ k, p_pv o k ≤ k
  | 0 => Nat.le_refl _
  | k + 1 => by
    have := p_pv_b o k
    rw [p_pv]
    split <;> omega
theorem p_sc_b (o : Nat → Nat) (i : Nat) : ∀ k, p_sc o i k ≤ k
  | 0 => Nat.le_refl _
  | k + 1 => by
    have := p_sc_b o i k
    rw [p_sc]
    split <;> omega
theorem k9_Or_sw {i0 n a e : Nat} {o : Nat → Nat} (hO : k9_Or I i0 n o) (ha : a < n) (he : e < n) : k9_Or (k9_u (k9_u I 30 i0 a (nI (o e))) 30 i0 e (nI (o a))) i0 n (p_sw o a e) := by
  refine ⟨by simpa [k9_ur] using hO.1, hO.2.1, fun k hk => ?_⟩
  have := hO.2.2 k hk
  unfold p_sw
  by_cases e1 : k = e
  · simp [k9_ur, e1]
  · by_cases e2 : k = a
    · subst e2
      simp [k9_ur, e1]
    · simpa [k9_ur, e1, e2] using this
theorem k9s_33 {i0 n a e : Nat} {o : Nat → Nat} (hO : k9_Or I i0 n o) (ha : a < n) (he : e < n) : ∃ I', k9_R S d 33 0 [some (k9_r 7 i0), some (k9_i (nI a)), some (k9_i (nI e)), none] [] I J = some (none, I', J) ∧ k9_Or I' i0 n (p_sw o a e) ∧ k9_fx (k9_Fo i0) I I' := by
  have h6 := hO.2.1
  refine ⟨_, k9o_of ?_, k9_Or_sw hO ha he, k9_fx_u (k9_fx_u (k9_fx_rf _ _) (k9_Fo_t _ rfl _)) (k9_Fo_t _ rfl _)⟩
  refine k9o_eq k9e_33_0 (k9o_F (by rw [n_toInt (by omega)]; omega) (k9o_eq k9e_33_2 (k9o_F (by rw [n_toInt (by omega)]; omega) (k9o_eq k9e_33_5 (k9o_F (by rw [n_toInt (by omega)]; omega) (k9o_eq k9e_33_7 (k9o_T (by rw [n_toInt (by omega)]; omega) (k9o_eq k9e_33_11 (k9o_T (by rw [n_toInt (by omega)]; omega) (k9o_eq k9e_33_15 (k9o_T (by rw [n_toInt (by omega)]; omega) (k9o_eq k9e_33_23 (k9o_T (by rw [n_toInt (by omega)]; omega) (k9o_eq k9e_33_24 (k9o_T (by rw [n_toInt (by omega)]; omega) (k9o_eq k9e_33_29 ?_))))))))))))))))
  rw [n_cl (by omega), n_cl (by omega), hO.2.2 a ha, hO.2.2 e he]
  exact k9o_ret rfl
/-- pieces behind a place turned round -/
theorem k9s_32r {i0 n : Nat} {x1 x2 x3 : Int32} : ∀ f a e o I1, a ≤ n → e < n → e < a + 2 * f → k9_Or I1 i0 n o → k9_fx (k9_Fo i0) I I1 → ∃ I', k9_ok (k9_R S (d + 1) 32 56 [some (k9_r 7 i0), some (k9_i x1), some (k9_i x2), some (k9_i x3), some (k9_i (nI a)), some (k9_i (nI e))] [] I1 J) (fun q => q = (some (k9_i 1), I', J)) ∧ k9_Or I' i0 n (p_rv f o a e) ∧ k9_fx (k9_Fo i0) I I' := by
  intro f
  induction f with
  | zero =>
    intro a e o I1 ha he hf hO hx
    have h6 := hO.2.1
    exact ⟨I1, k9o_eq k9e_32_56 (k9o_T (by rw [n_toInt (by omega), n_toInt (by omega)]; omega) (k9o_eq k9e_32_66 (k9o_ret rfl))), hO, hx⟩
  | succ f ih =>
    intro a e o I1 ha he hf hO hx
    have h6 := hO.2.1
    rw [p_rv]
    by_cases c : a < e
    · rw [if_pos c]
      obtain ⟨I2, e2, O2, x2'⟩ := k9s_33 (S := S) (d := d) (J := J) hO (show a < n by omega) he
      obtain ⟨I3, e3, O3, x3'⟩ := ih (a + 1) (e - 1) _ I2 (by omega) (by omega) (by omega) O2 (k9_fx_tr hx x2')
      refine ⟨I3, k9o_eq k9e_32_56 (k9o_F (by rw [n_toInt (by omega), n_toInt (by omega)]; omega) (k9o_eq k9e_32_59 (k9o_call e2 ?_))), O3, x3'⟩
      simp only [k9_ps_n]
      refine k9o_eq k9e_32_63 ?_
      rw [nI_1, n_m1 (by omega)]
      exact e3
    · rw [if_neg c]
      exact ⟨I1, k9o_eq k9e_32_56 (k9o_T (by rw [n_toInt (by omega), n_toInt (by omega)]; omega) (k9o_eq k9e_32_66 (k9o_ret rfl))), hO, hx⟩
theorem k9s_32s {i0 n i : Nat} {o : Nat → Nat} {x1 : Int32} {Q : k9_A → Prop} (hO : k9_Or I i0 n o) (hi : i + 1 < n) (hm : ∀ k, k < n → o k < 100) (g : k9_ok (k9_R S d 32 46 [some (k9_r 7 i0), some (k9_i x1), some (k9_i (nI i)), some (k9_i (nI (p_sc o i (n - 1)))), none, none] [] I J) Q) : k9_ok (k9_R S d 32 32 [some (k9_r 7 i0), some (k9_i x1), some (k9_i (nI i)), some (k9_i (nI (n - 1))), none, none] [] I J) Q := by
  have h6 := hO.2.1
  have key : ∀ j, j < n → i ≤ j → p_sc o i j = p_sc o i (n - 1) → k9_ok (k9_R S d 32 32 [some (k9_r 7 i0), some (k9_i x1), some (k9_i (nI i)), some (k9_i (nI j)), none, none] [] I J) Q := by
    intro j
    induction j with
    | zero =>
      intro hj hij hs
      rw [p_sc] at hs
      rw [← hs] at g
      exact k9o_eq k9e_32_32 (k9o_T (by rw [n_toInt (by omega), n_toInt (by omega)]; omega) g)
    | succ j ih =>
      intro hj hij hs
      rw [p_sc] at hs
      by_cases c : j + 1 ≤ i
      · rw [if_pos (Or.inl c)] at hs
        rw [← hs] at g
        exact k9o_eq k9e_32_32 (k9o_T (by rw [n_toInt (by omega), n_toInt (by omega)]; omega) g)
      · have aj := hO.2.2 (j + 1) hj
        have ai := hO.2.2 i (by omega)
        have bj := hm (j + 1) hj
        have bi := hm i (by omega)
        refine k9o_eq k9e_32_32 (k9o_F (by rw [n_toInt (by omega), n_toInt (by omega)]; omega) (k9o_eq k9e_32_35 (k9o_T (by rw [n_toInt (by omega)]; omega) (k9o_eq k9e_32_39 (k9o_T (by rw [n_toInt (by omega)]; omega) ?_)))))
        rw [n_cl (by omega), n_cl (by omega), aj, ai]
        refine k9o_eq k9e_32_43 ?_
        by_cases e : o i ≤ o (j + 1)
        · rw [if_pos (Or.inr e)] at hs
          rw [← hs] at g
          exact k9o_T (by rw [n_toInt (by omega), n_toInt (by omega)]; omega) g
        · rw [if_neg (by omega)] at hs
          refine k9o_F (by rw [n_toInt (by omega), n_toInt (by omega)]; omega) (k9o_eq k9e_32_44 ?_)
          rw [n_m1 (by omega)]
          exact ih (by omega) (by omega) hs
  exact key (n - 1) (by omega) (by omega) rfl
theorem k9s_32 {i0 n : Nat} {o : Nat → Nat} (hO : k9_Or I i0 n o) (h1 : 1 ≤ n) (hm : ∀ k, k < n → o k < 100) : (p_pv o (n - 1) = 0 ∧ k9_R S (d + 1) 32 0 [some (k9_r 7 i0), none, none, none, none, none] [] I J = some (some (k9_i 0), I, J)) ∨ (p_pv o (n - 1) ≠ 0 ∧ ∃ I', k9_R S (d + 1) 32 0 [some (k9_r 7 i0), none, none, none, none, none] [] I J = some (some (k9_i 1), I', J) ∧ k9_Or I' i0 n (p_nx n o) ∧ k9_fx (k9_Fo i0) I I') := by
  have h6 := hO.2.1
  have hp := p_pv_b o (n - 1)
  have st : ∀ Q : k9_A → Prop, (∀ x : Int32, x = (if p_pv o (n - 1) = 0 then -1 else nI (p_pv o (n - 1) - 1)) → k9_ok (k9_R S (d + 1) 32 26 [some (k9_r 7 i0), some (k9_i (nI (n - 1))), some (k9_i x), none, none, none] [] I J) Q) → k9_ok (k9_R S (d + 1) 32 0 [some (k9_r 7 i0), none, none, none, none, none] [] I J) Q := by
    intro Q g
    have key : ∀ k, k < n → p_pv o k = p_pv o (n - 1) → ∀ x : Int32, x = (if k = 0 then -1 else nI (k - 1)) → k9_ok (k9_R S (d + 1) 32 11 [some (k9_r 7 i0), some (k9_i (nI (n - 1))), some (k9_i x), none, none, none] [] I J) Q := by
      intro k
      induction k with
      | zero =>
        intro hk hs x hx
        rw [if_pos rfl] at hx
        rw [p_pv] at hs
        refine k9o_eq k9e_32_11 (k9o_T (by rw [hx]; decide) (g x ?_))
        rw [if_pos hs.symm, hx]
      | succ k ih =>
        intro hk hs x hx
        rw [if_neg (by omega), Nat.add_sub_cancel] at hx
        subst hx
        have a0 := hO.2.2 k (by omega)
        have a1 := hO.2.2 (k + 1) hk
        have b0 := hm k (by omega)
        have b1 := hm (k + 1) hk
        rw [p_pv] at hs
        refine k9o_eq k9e_32_11 (k9o_F (by rw [n_toInt (by omega)]; omega) (k9o_eq k9e_32_13 (k9o_T (by rw [n_toInt (by omega)]; omega) (k9o_eq k9e_32_17 ?_))))
        rw [n_cl (by omega), nI_1, n_cl (by omega), a0, a1]
        refine k9o_T (by rw [n_toInt (by omega)]; omega) (k9o_eq k9e_32_23 ?_)
        by_cases c : o k ≤ o (k + 1)
        · rw [if_pos c] at hs
          refine k9o_T (by rw [n_toInt (by omega), n_toInt (by omega)]; omega) (g _ ?_)
          rw [← hs, if_neg (by omega), Nat.add_sub_cancel]
        · rw [if_neg c] at hs
          refine k9o_F (by rw [n_toInt (by omega), n_toInt (by omega)]; omega) (k9o_eq k9e_32_24 ?_)
          refine ih (by omega) hs _ ?_
          by_cases z : k = 0
          · subst z
            rw [if_pos rfl]
            decide
          · rw [if_neg z, n_m1 (by omega)]
    have e7 : (if (6 : Int32) < I 7 i0 1 then (6 : Int32) else I 7 i0 1) = nI n := by
      rw [hO.1]
      refine if_neg (fun z => ?_)
      have z := Int32.lt_iff_toInt_lt.mp z
      rw [n_toInt (by omega)] at z
      have : (6 : Int32).toInt = 6 := by decide
      omega
    rw [k9e_32_0, e7, n_s1 h1]
    refine key (n - 1) (by omega) rfl _ ?_
    by_cases z : n - 1 = 0
    · rw [if_pos z, z]
      decide
    · rw [if_neg z, n_s1 (by omega)]
  by_cases c : p_pv o (n - 1) = 0
  · refine Or.inl ⟨c, k9o_of (st _ (fun x hx => ?_))⟩
    rw [if_pos c] at hx
    exact k9o_eq k9e_32_26 (k9o_F (by rw [hx]; decide) (k9o_eq k9e_32_28 (k9o_ret rfl)))
  · refine Or.inr ⟨c, ?_⟩
    obtain ⟨i, hi⟩ : ∃ i, i = p_pv o (n - 1) - 1 := ⟨_, rfl⟩
    have hs := p_sc_b o i (n - 1)
    obtain ⟨I2, e2, O2, x2'⟩ := k9s_33 (S := S) (d := d) (J := J) hO (show i < n by omega) (show p_sc o i (n - 1) < n by omega)
    obtain ⟨I3, o3, O3, x3'⟩ := k9s_32r (S := S) (d := d) (J := J) (x1 := nI (n - 1)) (x2 := nI i) (x3 := nI (p_sc o i (n - 1))) 6 (p_pv o (n - 1)) (n - 1) _ I2 (by omega) (by omega) (by omega) O2 x2'
    rw [hi] at O3
    refine ⟨I3, k9o_of (st _ (fun x hx => ?_)), O3, x3'⟩
    rw [if_neg c, ← hi] at hx
    subst hx
    refine k9o_eq k9e_32_26 (k9o_T (by rw [n_toInt (by omega)]; omega) (k9o_eq k9e_32_30 (k9s_32s hO (by omega) hm (k9o_eq k9e_32_46 (k9o_call e2 ?_)))))
    simp only [k9_ps_n]
    refine k9o_eq k9e_32_50 ?_
    rw [nI_1, show i + 1 = p_pv o (n - 1) by omega]
    exact o3
theorem k9s_32z {i0 : Nat} {o : Nat → Nat} (hO : k9_Or I i0 0 o) : k9_R S (d + 1) 32 0 [some (k9_r 7 i0), none, none, none, none, none] [] I J = some (some (k9_i 0), I, J) := by
  have e7 : (if (6 : Int32) < I 7 i0 1 then (6 : Int32) else I 7 i0 1) = nI 0 := by
    rw [hO.1]
    decide
  refine k9o_of (k9o_eq k9e_32_0 ?_)
  rw [e7]
  exact k9o_eq k9e_32_11 (k9o_T (by decide) (k9o_eq k9e_32_26 (k9o_F (by decide) (k9o_eq k9e_32_28 (k9o_ret rfl)))))
end KT28

/-! ORDERS: the next one, in the reference -/
section KT29
variable {S : k9_S} {d : Nat} {I I' : k9_I} {J J' : k9_J} {w : Nat → Nat → Nat} {V : (Nat → Int32) → Int32} {b : Nat} {x1 x2 x3 : Int32} {h c : Nat → Nat} {L A f M : Nat}
def k9_Om (I : k9_I) (n : Nat) (o : Nat → Nat) : Prop := I 12 0 0 = nI n ∧ n ≤ 6 ∧ ∀ k, k < n → I 69 0 k = nI (o k)
def k9_F69 (k _ _ : Nat) : Bool := Nat.beq k 69
theorem k9s_206 {n a e : Nat} {o : Nat → Nat} (hO : k9_Om I n o) (ha : a < n) (he : e < n) : ∃ I', k9_R S d 206 0 [some (k9_r 12 0), some (k9_i (nI a)), some (k9_i (nI e)), none] [] I J = some (none, I', J) ∧ k9_Om I' n (p_sw o a e) ∧ k9_fx k9_F69 I I' := by
  have h6 := hO.2.1
  have hsw : k9_Om (k9_u (k9_u I 69 0 a (nI (o e))) 69 0 e (nI (o a))) n (p_sw o a e) := by
    refine ⟨by simpa [k9_ur] using hO.1, hO.2.1, fun k hk => ?_⟩
    have := hO.2.2 k hk
    unfold p_sw
    by_cases e1 : k = e
    · simp [k9_ur, e1]
    · by_cases e2 : k = a
      · subst e2
        simp [k9_ur, e1]
      · simpa [k9_ur, e1, e2] using this
  refine ⟨_, k9o_of ?_, hsw, k9_fx_u (k9_fx_u (k9_fx_rf _ _) rfl) rfl⟩
  refine k9o_eq k9e_206_0 (k9o_T (by rw [n_toInt (by omega)]; omega) (k9o_eq k9e_206_4 (k9o_T (by rw [n_toInt (by omega)]; omega) (k9o_eq k9e_206_12 (k9o_T (by rw [n_toInt (by omega)]; omega) (k9o_eq k9e_206_13 (k9o_T (by rw [n_toInt (by omega)]; omega) (k9o_eq k9e_206_18 ?_))))))))
  rw [n_cl (by omega), n_cl (by omega), hO.2.2 a ha, hO.2.2 e he]
  exact k9o_ret rfl
theorem k9s_205r {n : Nat} {x1 x2 : Int32} : ∀ f a e o I1, a ≤ n → e < n → e < a + 2 * f → k9_Om I1 n o → k9_fx k9_F69 I I1 → ∃ I', k9_ok (k9_R S (d + 1) 205 53 [some (k9_r 12 0), some (k9_i x1), some (k9_i x2), some (k9_i (nI a)), some (k9_i (nI e))] [] I1 J) (fun q => q = (some (k9_i 1), I', J)) ∧ k9_Om I' n (p_rv f o a e) ∧ k9_fx k9_F69 I I' := by
  intro f
  induction f with
  | zero =>
    intro a e o I1 ha he hf hO hx
    have h6 := hO.2.1
    exact ⟨I1, k9o_eq k9e_205_53 (k9o_T (by rw [n_toInt (by omega), n_toInt (by omega)]; omega) (k9o_eq k9e_205_63 (k9o_ret rfl))), hO, hx⟩
  | succ f ih =>
    intro a e o I1 ha he hf hO hx
    have h6 := hO.2.1
    rw [p_rv]
    by_cases c : a < e
    · rw [if_pos c]
      obtain ⟨I2, e2, O2, x2'⟩ := k9s_206 (S := S) (d := d) (J := J) hO (show a < n by omega) he
      obtain ⟨I3, e3, O3, x3'⟩ := ih (a + 1) (e - 1) _ I2 (by omega) (by omega) (by omega) O2 (k9_fx_tr hx x2')
      refine ⟨I3, k9o_eq k9e_205_53 (k9o_F (by rw [n_toInt (by omega), n_toInt (by omega)]; omega) (k9o_eq k9e_205_56 (k9o_call e2 ?_))), O3, x3'⟩
      simp only [k9_ps_n]
      refine k9o_eq k9e_205_60 ?_
      rw [nI_1, n_m1 (by omega)]
      exact e3
    · rw [if_neg c]
      exact ⟨I1, k9o_eq k9e_205_53 (k9o_T (by rw [n_toInt (by omega), n_toInt (by omega)]; omega) (k9o_eq k9e_205_63 (k9o_ret rfl))), hO, hx⟩
theorem k9s_205s {n i : Nat} {o : Nat → Nat} {Q : k9_A → Prop} (hO : k9_Om I n o) (hi : i + 1 < n) (hu : o i ≤ o (i + 1)) (hm : ∀ k, k < n → o k < 100) (g : k9_ok (k9_R S d 205 40 [some (k9_r 12 0), some (k9_i (nI i)), some (k9_i (nI (p_sc o i (n - 1)))), none, none] [] I J) Q) : k9_ok (k9_R S d 205 29 [some (k9_r 12 0), some (k9_i (nI i)), some (k9_i (nI (n - 1))), none, none] [] I J) Q := by
  have h6 := hO.2.1
  have key : ∀ j, j < n → i < j → p_sc o i j = p_sc o i (n - 1) → k9_ok (k9_R S d 205 29 [some (k9_r 12 0), some (k9_i (nI i)), some (k9_i (nI j)), none, none] [] I J) Q := by
    intro j
    induction j with
    | zero =>
      intro hj hij hs
      omega
    | succ j ih =>
      intro hj hij hs
      rw [p_sc] at hs
      have aj := hO.2.2 (j + 1) hj
      have ai := hO.2.2 i (by omega)
      have bj := hm (j + 1) hj
      have bi := hm i (by omega)
      refine k9o_eq k9e_205_29 (k9o_T (by rw [n_toInt (by omega)]; omega) (k9o_eq k9e_205_33 (k9o_T (by rw [n_toInt (by omega)]; omega) ?_)))
      rw [n_cl (by omega), n_cl (by omega), aj, ai]
      refine k9o_eq k9e_205_37 ?_
      by_cases e : o i ≤ o (j + 1)
      · rw [if_pos (Or.inr e)] at hs
        rw [← hs] at g
        exact k9o_T (by rw [n_toInt (by omega), n_toInt (by omega)]; omega) g
      · rw [if_neg (by omega)] at hs
        refine k9o_F (by rw [n_toInt (by omega), n_toInt (by omega)]; omega) (k9o_eq k9e_205_38 ?_)
        rw [n_m1 (by omega)]
        have : i ≠ j := fun z => by
          subst z
          exact e hu
        exact ih (by omega) (by omega) hs
  exact key (n - 1) (by omega) (by omega) rfl
theorem p_pv_u (o : Nat → Nat) : ∀ k, p_pv o k ≠ 0 → o (p_pv o k - 1) ≤ o (p_pv o k - 1 + 1)
  | 0, h => absurd rfl h
  | k + 1, h => by
    rw [p_pv] at h ⊢
    by_cases c : o k ≤ o (k + 1)
    · rw [if_pos c]
      exact c
    · rw [if_neg c] at h ⊢
      exact p_pv_u o k h
theorem k9s_205 {n : Nat} {o : Nat → Nat} (hO : k9_Om I n o) (h1 : 1 ≤ n) (hm : ∀ k, k < n → o k < 100) : (p_pv o (n - 1) = 0 ∧ k9_R S (d + 1) 205 0 [some (k9_r 12 0), none, none, none, none] [] I J = some (some (k9_i 0), I, J)) ∨ (p_pv o (n - 1) ≠ 0 ∧ ∃ I', k9_R S (d + 1) 205 0 [some (k9_r 12 0), none, none, none, none] [] I J = some (some (k9_i 1), I', J) ∧ k9_Om I' n (p_nx n o) ∧ k9_fx k9_F69 I I') := by
  have h6 := hO.2.1
  have hp := p_pv_b o (n - 1)
  have st : ∀ Q : k9_A → Prop, (∀ x : Int32, x = (if p_pv o (n - 1) = 0 then -1 else nI (p_pv o (n - 1) - 1)) → k9_ok (k9_R S (d + 1) 205 20 [some (k9_r 12 0), some (k9_i x), none, none, none] [] I J) Q) → k9_ok (k9_R S (d + 1) 205 0 [some (k9_r 12 0), none, none, none, none] [] I J) Q := by
    intro Q g
    have key : ∀ k, k < n → p_pv o k = p_pv o (n - 1) → ∀ x : Int32, x = (if k = 0 then -1 else nI (k - 1)) → k9_ok (k9_R S (d + 1) 205 5 [some (k9_r 12 0), some (k9_i x), none, none, none] [] I J) Q := by
      intro k
      induction k with
      | zero =>
        intro hk hs x hx
        rw [if_pos rfl] at hx
        rw [p_pv] at hs
        refine k9o_eq k9e_205_5 (k9o_T (by rw [hx]; decide) (g x ?_))
        rw [if_pos hs.symm, hx]
      | succ k ih =>
        intro hk hs x hx
        rw [if_neg (by omega), Nat.add_sub_cancel] at hx
        subst hx
        have a0 := hO.2.2 k (by omega)
        have a1 := hO.2.2 (k + 1) hk
        have b0 := hm k (by omega)
        have b1 := hm (k + 1) hk
        rw [p_pv] at hs
        refine k9o_eq k9e_205_5 (k9o_F (by rw [n_toInt (by omega)]; omega) (k9o_eq k9e_205_7 (k9o_T (by rw [n_toInt (by omega)]; omega) (k9o_eq k9e_205_11 ?_))))
        rw [n_cl (by omega), nI_1, n_cl (by omega), a0, a1]
        refine k9o_T (by rw [n_toInt (by omega)]; omega) (k9o_eq k9e_205_17 ?_)
        by_cases c : o k ≤ o (k + 1)
        · rw [if_pos c] at hs
          refine k9o_T (by rw [n_toInt (by omega), n_toInt (by omega)]; omega) (g _ ?_)
          rw [← hs, if_neg (by omega), Nat.add_sub_cancel]
        · rw [if_neg c] at hs
          refine k9o_F (by rw [n_toInt (by omega), n_toInt (by omega)]; omega) (k9o_eq k9e_205_18 ?_)
          refine ih (by omega) hs _ ?_
          by_cases z : k = 0
          · subst z
            rw [if_pos rfl]
            decide
          · rw [if_neg z, n_m1 (by omega)]
    rw [k9e_205_0, hO.1]
    refine key (n - 1) (by omega) rfl _ ?_
    by_cases z : n - 1 = 0
    · rw [if_pos z, show n = 1 by omega]
      decide
    · rw [if_neg z, show (2 : Int32) = nI 2 from rfl, n_sub (by omega)]
      rfl
  by_cases c : p_pv o (n - 1) = 0
  · refine Or.inl ⟨c, k9o_of (st _ (fun x hx => ?_))⟩
    rw [if_pos c] at hx
    exact k9o_eq k9e_205_20 (k9o_F (by rw [hx]; decide) (k9o_eq k9e_205_22 (k9o_ret rfl)))
  · refine Or.inr ⟨c, ?_⟩
    have hu := p_pv_u o (n - 1) c
    obtain ⟨i, hi⟩ : ∃ i, i = p_pv o (n - 1) - 1 := ⟨_, rfl⟩
    have hs := p_sc_b o i (n - 1)
    obtain ⟨I2, e2, O2, x2'⟩ := k9s_206 (S := S) (d := d) (J := J) hO (show i < n by omega) (show p_sc o i (n - 1) < n by omega)
    obtain ⟨I3, o3, O3, x3'⟩ := k9s_205r (S := S) (d := d) (J := J) (x1 := nI i) (x2 := nI (p_sc o i (n - 1))) 6 (p_pv o (n - 1)) (n - 1) _ I2 (by omega) (by omega) (by omega) O2 x2'
    rw [hi] at O3
    refine ⟨I3, k9o_of (st _ (fun x hx => ?_)), O3, x3'⟩
    rw [if_neg c, ← hi] at hx
    subst hx
    rw [← hi] at hu
    refine k9o_eq k9e_205_20 (k9o_T (by rw [n_toInt (by omega)]; omega) (k9o_eq k9e_205_24 ?_))
    rw [hO.1, n_s1 h1]
    refine k9s_205s hO (by omega) hu hm (k9o_eq k9e_205_40 (k9o_call e2 ?_))
    simp only [k9_ps_n]
    refine k9o_eq k9e_205_44 ?_
    rw [O2.1, n_s1 h1, nI_1, show i + 1 = p_pv o (n - 1) by omega]
    exact o3
theorem k9s_205z {o : Nat → Nat} (hO : k9_Om I 0 o) : k9_R S (d + 1) 205 0 [some (k9_r 12 0), none, none, none, none] [] I J = some (some (k9_i 0), I, J) := by
  refine k9o_of (k9o_eq k9e_205_0 ?_)
  rw [hO.1]
  exact k9o_eq k9e_205_5 (k9o_T (by decide) (k9o_eq k9e_205_20 (k9o_F (by decide) (k9o_eq k9e_205_22 (k9o_ret rfl)))))
/-- the table of all orders: each next one -/
def p_tabok (n : Nat) : Bool := (List.range (p_fc n)).all (fun k => if k + 1 < p_fc n then (!Nat.beq (p_pv (p_or n k) (n - 1)) 0) && (List.range n).all (fun j => Nat.beq (p_nx n (p_or n k) j) (p_or n (k + 1) j)) else Nat.beq (p_pv (p_or n k) (n - 1)) 0)
theorem p_tabok_all : (List.range 6).all p_tabok = true := by decide +kernel
end KT29

/-! ORDERS: the table; the evenest, in the class -/
section KT30
variable {S : k9_S} {d : Nat} {I I' : k9_I} {J J' : k9_J} {w : Nat → Nat → Nat} {V : (Nat → Int32) → Int32} {b : Nat} {x1 x2 x3 : Int32} {h c : Nat → Nat} {L A f M : Nat}
theorem p_fc_b : ∀ n, n ≤ 5 → 1 ≤ p_fc n ∧ p_fc n ≤ 120 := by decide
theorem k9_all_range {n : Nat} {f : Nat → Bool} (h : (List.range n).all f = true) {k : Nat} (hk : k < n) : f k = true := List.all_eq_true.mp h k (List.mem_range.mpr hk)
theorem p_or_nx {n k : Nat} (hn : n ≤ 5) (hk : k + 1 < p_fc n) : p_pv (p_or n k) (n - 1) ≠ 0 ∧ ∀ j, j < n → p_nx n (p_or n k) j = p_or n (k + 1) j := by
  have h := k9_all_range (k9_all_range p_tabok_all (show n < 6 by omega)) (show k < p_fc n by omega)
  rw [if_pos hk, Bool.and_eq_true] at h
  refine ⟨fun z => ?_, fun j hj => k9_beq_of (k9_all_range h.2 hj)⟩
  rw [z] at h
  exact absurd h.1 (by decide)
theorem p_or_la {n k : Nat} (hn : n ≤ 5) (hk : k + 1 = p_fc n) : p_pv (p_or n k) (n - 1) = 0 := by
  have h := k9_all_range (k9_all_range p_tabok_all (show n < 6 by omega)) (show k < p_fc n by omega)
  rw [if_neg (by omega)] at h
  exact k9_beq_of h
def p_tabal (n : Nat) : Bool := (List.range (p_fc n)).all (fun k => Nat.ble (k9_nth [] (k9_nth [] p_tab n) k).length n && (List.range n).all (fun i => Nat.blt (p_or n k i) n && (List.range n).all (fun j => !Nat.beq (p_or n k i) (p_or n k j) || Nat.beq i j)))
theorem p_tabal_all : (List.range 6).all p_tabal = true := by decide +kernel
theorem k9_nth_z {α : Type} (z : α) : ∀ (l : List α) (k : Nat), l.length ≤ k → k9_nth z l k = z
  | [], _, _ => by rw [k9_nth]
  | _ :: l, 0, h => by simp at h
  | _ :: l, k + 1, h => by
    rw [k9_nth]
    exact k9_nth_z z l k (by simpa using h)
theorem p_or_al {n k : Nat} (hn : n ≤ 5) (hk : k < p_fc n) : (∀ j, n ≤ j → p_or n k j = 0) ∧ (∀ j, j < n → p_or n k j < n) ∧ (∀ i j, i < n → j < n → p_or n k i = p_or n k j → i = j) := by
  have h := k9_all_range (k9_all_range p_tabal_all (show n < 6 by omega)) hk
  rw [Bool.and_eq_true] at h
  have h2 := fun i (hi : i < n) => k9_all_range h.2 hi
  simp only [Bool.and_eq_true] at h2
  refine ⟨fun j hj => k9_nth_z _ _ _ (Nat.le_trans (Nat.ble_eq.mp h.1) hj), fun j hj => Nat.ble_eq.mp (h2 j hj).1, fun i j hi hj e => ?_⟩
  have := k9_all_range (h2 i hi).2 hj
  rw [e, k9_beq_self] at this
  exact k9_beq_of this
theorem p_or_0 : ∀ n, n ≤ 5 → ∀ j, j < n → p_or n 0 j = j := by decide +kernel
theorem p_or_e {n k : Nat} (hn : n ≤ 5) (hk : k < p_fc n) : (fun j => if j < n then p_or n k j else 0) = p_or n k := funext fun j => by
  split
  · rfl
  · exact ((p_or_al hn hk).1 j (by omega)).symm
theorem k9_Or_e {i n : Nat} {o o' : Nat → Nat} (hO : k9_Or I i n o) (e : ∀ k, k < n → o k = o' k) : k9_Or I i n o' := ⟨hO.1, hO.2.1, fun k hk => by rw [← e k hk]; exact hO.2.2 k hk⟩
theorem k9_Or_x {i n : Nat} {o : Nat → Nat} {F : Nat → Nat → Nat → Bool} (hx : k9_fx F I I') (h7 : F 7 i 1 = false) (h30 : ∀ k, F 30 i k = false) (hO : k9_Or I i n o) : k9_Or I' i n o := ⟨(hx 7 i 1 h7).trans hO.1, hO.2.1, fun k hk => (hx 30 i k (h30 k)).trans (hO.2.2 k hk)⟩
theorem p_or_wf {n k : Nat} (hf : k9_wf w) (h7 : n = w 7 0) (hn : n ≤ 5) (hk : k < p_fc n) : k9_wf (p_cm w (p_or n k)) := k9_wf_cm hf (fun j hj => by
  rw [← h7] at hj ⊢
  exact (p_or_al hn hk).2.1 j hj)
theorem p_ev_b {s : Nat → Nat → Nat} {N m : Nat} (h : ∀ k, k < m → p_oo w V (s k) ≤ N) : ∀ k, k < m → (p_ev w V s k).1 ≤ N
  | 0, hk => h 0 hk
  | k + 1, hk => by
    rw [p_ev]
    split
    · exact h (k + 1) hk
    · exact p_ev_b h k (by omega)
/-- of the class: the evenest's search -/
def k9_Fe (k i p : Nat) : Bool := k9_F6 k i p || k9_Fo 1 k i p || (Nat.beq k 1 && Nat.beq i 0 && (Nat.beq p 13 || Nat.beq p 14))
theorem k9_Fe_6 {I1 I2 : k9_I} (h : k9_fx k9_F6 I1 I2) : k9_fx k9_Fe I1 I2 := k9_fx_w h (fun k i p e => by
  unfold k9_Fe at e
  exact (Bool.or_eq_false_iff.mp (Bool.or_eq_false_iff.mp e).1).1)
theorem k9_Fe_o {I1 I2 : k9_I} (h : k9_fx (k9_Fo 1) I1 I2) : k9_fx k9_Fe I1 I2 := k9_fx_w h (fun k i p e => by
  unfold k9_Fe at e
  exact (Bool.or_eq_false_iff.mp (Bool.or_eq_false_iff.mp e).1).2)
theorem k9_Fe_X : ∀ k i p, k9_Fe k i p = true → k9_Xs [9] (v_cl k i p) = true := by
  intro k i p e
  rcases Bool.or_eq_true_iff.mp e with f | f
  · rcases Bool.or_eq_true_iff.mp f with g | g
    · exact k9_F6_X (X := k9_Xs [9]) rfl k i p g
    · clear e f
      simp only [k9_Fo, Bool.or_eq_true, Bool.and_eq_true] at g
      obtain ⟨g, e0⟩ := g
      have e0 := k9_beq_of e0
      subst e0
      rcases g with g | g <;> (rw [k9_beq_of g]; rfl)
  · clear e
    simp only [Bool.or_eq_true, Bool.and_eq_true] at f
    obtain ⟨⟨f, e0⟩, f2⟩ := f
    rw [k9_beq_of e0, k9_beq_of f]
    rcases f2 with f2 | f2 <;> (rw [k9_beq_of f2]; rfl)
theorem k9_Iv_9 (h : k9_fp (k9_Xs [9]) I I') (v9' : k9_vO I' w V) (v : k9_Iv I J w V b) : k9_Iv I' J w V b := by
  obtain ⟨v1, v2, v3, v4, v5, v6, v7, v8, v9⟩ := v
  exact ⟨k9_vW_c (k9_fp_c h rfl) v1, k9_vT_c (k9_fp_c h rfl) v2, k9_vL_c (k9_fp_c h rfl) v3, k9_vC_c (k9_fp_c h rfl) v4, k9_vB_c (k9_fp_c h rfl) v5, k9_vS_c (k9_fp_c h rfl) v6, k9_vD_c (k9_fp_c h rfl) v7, k9_vR_c (k9_fp_c h rfl) v8, v9'⟩
end KT30

/-! ORDERS: the evenest -/
section KT31
variable {S : k9_S} {d : Nat} {I I' : k9_I} {J J' : k9_J} {w : Nat → Nat → Nat} {V : (Nat → Int32) → Int32} {b : Nat} {x1 x2 x3 : Int32} {h c : Nat → Nat} {L A f M : Nat}
theorem k9s_150 (v : k9_Iv I J w V b) (h5 : w 7 0 ≤ 5) : ∃ I', k9_R S (d + 10) 150 0 [some (k9_r 1 0), none, none] [] I J = some (none, I', J) ∧ k9_Iv I' J w V b ∧ I' 1 0 14 = nI (p_ev w V (p_or (w 7 0)) (p_fc (w 7 0) - 1)).1 ∧ k9_Or I' 1 (w 7 0) (p_ev w V (p_or (w 7 0)) (p_fc (w 7 0) - 1)).2 := by
  have hf := v.1.2.2.1
  have c0 := v.1.1.1
  rcases v.2.2.2.2.2.2.2.2 with v9 | ⟨v9, -, a14, aO⟩
  · obtain ⟨n, hn⟩ : ∃ n, n = w 7 0 := ⟨_, rfl⟩
    rw [← hn] at h5 c0
    rw [← hn]
    obtain ⟨hc1, hc2⟩ := p_fc_b n h5
    have hob : ∀ k, k < p_fc n → p_oo w V (p_or n k) ≤ 100000 := fun k hk => p_oo_b (p_or_wf hf hn h5 hk)
    have heb := p_ev_b (w := w) (V := V) (s := p_or n) hob
    have hb100 : ∀ k, k < p_fc n → ∀ j, j < n → p_or n k j < 100 := fun k hk j hj => by
      have := (p_or_al h5 hk).2.1 j hj
      omega
    -- a trial in an order
    have tr : ∀ k I1, k < p_fc n → k9_fx k9_Fe I I1 → k9_Or I1 0 n (p_or n k) → ∃ I2, k9_R S (d + 9) 149 0 [some (k9_r 1 0), some (k9_r 7 0)] [] I1 J = some (some (k9_i (nI (p_oo w V (p_or n k)))), I2, J) ∧ k9_fx k9_Ft I1 I2 := by
      intro k I1 hk hx hO
      obtain ⟨h0, hb, hj⟩ := p_or_al h5 hk
      have hp := k9_fp_x hx k9_Fe_X
      have w1 := k9_vW_c (k9_fp_c hp rfl) v.1
      have l1 := k9_vL_c (k9_fp_c hp rfl) v.2.2.1
      obtain ⟨I2, e2, -, -, x2⟩ := k9_otroll (S := S) (d := d + 1) (J := J) w1.1 hf l1.1 hO hn (fun j hj' => by rw [← hn] at hj' ⊢; exact hb j hj') (fun i j hi hj' e => by rw [← hn] at hi hj'; exact hj i j hi hj' e)
      rw [p_or_e h5 hk] at e2
      exact ⟨I2, e2, x2⟩
    have fin : ∀ I1 x, k9_fx k9_Fe I I1 → I1 1 0 14 = nI (p_ev w V (p_or n) (p_fc n - 1)).1 → k9_Or I1 1 n (p_ev w V (p_or n) (p_fc n - 1)).2 → ∃ I', k9_ok (k9_R S (d + 10) 150 53 [some (k9_r 1 0), some (k9_i x), none] [] I1 J) (fun q => q = (none, I', J)) ∧ k9_Iv I' J w V b ∧ I' 1 0 14 = nI (p_ev w V (p_or n) (p_fc n - 1)).1 ∧ k9_Or I' 1 n (p_ev w V (p_or n) (p_fc n - 1)).2 := by
      intro I1 x hx h14 hO
      have h14' : k9_u I1 1 0 13 1 1 0 14 = nI (p_ev w V (p_or n) (p_fc n - 1)).1 := by simpa [k9_ur] using h14
      have hO' : k9_Or (k9_u I1 1 0 13 1) 1 n (p_ev w V (p_or n) (p_fc n - 1)).2 := ⟨by simpa [k9_ur] using hO.1, hO.2.1, fun k hk => by simpa [k9_ur] using hO.2.2 k hk⟩
      refine ⟨_, k9o_eq k9e_150_53 (k9o_ret rfl), k9_Iv_9 (k9_fp_x (k9_fx_u hx rfl) k9_Fe_X) (Or.inr ⟨by simp [k9_ur], by omega, ?_, ?_⟩) v, h14', hO'⟩
      · rw [← hn]
        exact h14'
      · rw [← hn]
        exact hO'
    have key : ∀ m k I1, k + 1 + m = p_fc n → k9_fx k9_Fe I I1 → k9_Or I1 0 n (p_or n k) → I1 1 0 14 = nI (p_ev w V (p_or n) k).1 → k9_Or I1 1 n (p_ev w V (p_or n) k).2 → ∃ I', k9_ok (k9_R S (d + 10) 150 27 [some (k9_r 1 0), some (k9_i (nI (k + 1))), none] [] I1 J) (fun q => q = (none, I', J)) ∧ k9_Iv I' J w V b ∧ I' 1 0 14 = nI (p_ev w V (p_or n) (p_fc n - 1)).1 ∧ k9_Or I' 1 n (p_ev w V (p_or n) (p_fc n - 1)).2 := by
      intro m
      induction m with
      | zero =>
        intro k I1 hk hx hO h14 hO1
        obtain rfl : k = p_fc n - 1 := by omega
        obtain ⟨I', o, r⟩ := fin I1 (nI (p_fc n - 1 + 1)) hx h14 hO1
        by_cases c : p_fc n = 120
        · exact ⟨I', k9o_eq k9e_150_27 (k9o_T (by rw [n_toInt (by omega)]; omega) o), r⟩
        · have e32 : k9_R S (d + 9) 32 0 [some (k9_r 7 0), none, none, none, none, none] [] I1 J = some (some (k9_i 0), I1, J) := by
            by_cases z : n = 0
            · rw [z] at hO
              exact k9s_32z hO
            · rcases k9s_32 (S := S) (d := d + 8) (J := J) hO (by omega) (hb100 _ (by omega)) with ⟨-, e⟩ | ⟨e, -⟩
              · exact e
              · exact absurd (p_or_la h5 hk) e
          refine ⟨I', k9o_eq k9e_150_27 (k9o_F (by rw [n_toInt (by omega)]; omega) (k9o_eq k9e_150_30 (k9o_call e32 ?_))), r⟩
          simp only [k9_ps_s]
          exact k9o_eq k9e_150_33 (k9o_T (by decide) o)
      | succ m ih =>
        intro k I1 hk hx hO h14 hO1
        have hkn := p_or_nx (n := n) (k := k) h5 (by omega)
        have h1n : 1 ≤ n := by
          refine Nat.pos_of_ne_zero (fun z => ?_)
          subst z
          have : p_fc 0 = 1 := by decide
          omega
        rcases k9s_32 (S := S) (d := d + 8) (J := J) hO h1n (hb100 k (by omega)) with ⟨e, -⟩ | ⟨-, I2, e2, O2, x2⟩
        · exact absurd e hkn.1
        · have O2 : k9_Or I2 0 n (p_or n (k + 1)) := k9_Or_e O2 hkn.2
          have hx2 : k9_fx k9_Fe I I2 := k9_fx_tr hx (k9_Fe_6 (k9_F6_o x2))
          obtain ⟨I3, e3, x3⟩ := tr (k + 1) I2 (by omega) hx2 O2
          have O3 := k9_Or_x x3 rfl (fun _ => rfl) O2
          have hO3 := k9_Or_x x3 rfl (fun _ => rfl) (k9_Or_x x2 rfl (fun _ => rfl) hO1)
          have h143 := (x3 1 0 14 rfl).trans ((x2 1 0 14 rfl).trans h14)
          have hx3 := k9_fx_tr hx2 (k9_Fe_6 (k9_F6_t x3))
          have b1 := heb k (by omega)
          have b2 := hob (k + 1) (by omega)
          by_cases c : p_oo w V (p_or n (k + 1)) < (p_ev w V (p_or n) k).1
          · have ee : p_ev w V (p_or n) (k + 1) = (p_oo w V (p_or n (k + 1)), p_or n (k + 1)) := by rw [p_ev, if_pos c]
            obtain ⟨I4, e4, O4, x4⟩ := k9s_27 (S := S) (d := d + 9) (I := k9_u I3 1 0 14 (nI (p_oo w V (p_or n (k + 1))))) (J := J) (i0 := 1) (i1 := 0) (n := n) (o := p_or n (k + 1)) (by decide) ⟨by simpa [k9_ur] using O3.1, O3.2.1, fun j hj => by simpa [k9_ur] using O3.2.2 j hj⟩
            obtain ⟨I5, o5, r5⟩ := ih (k + 1) I4 (by omega) (k9_fx_tr (k9_fx_u hx3 rfl) (k9_Fe_o x4)) (k9_Or_x x4 rfl (fun _ => rfl) ⟨by simpa [k9_ur] using O3.1, O3.2.1, fun j hj => by simpa [k9_ur] using O3.2.2 j hj⟩) (by rw [x4 1 0 14 rfl, ee]; simp [k9_ur]) (by rw [ee]; exact O4)
            refine ⟨I5, k9o_eq k9e_150_27 (k9o_F (by rw [n_toInt (by omega)]; omega) (k9o_eq k9e_150_30 (k9o_call e2 ?_))), r5⟩
            simp only [k9_ps_s]
            refine k9o_eq k9e_150_33 (k9o_F (by decide) (k9o_eq k9e_150_34 (k9o_call e3 ?_)))
            simp only [k9_ps_s]
            refine k9o_eq k9e_150_38 (k9o_F (by rw [h143, n_toInt (by omega), n_toInt (by omega)]; omega) (k9o_eq k9e_150_43 (k9o_call e4 ?_)))
            simp only [k9_ps_n]
            refine k9o_eq k9e_150_51 ?_
            rw [nI_1]
            exact o5
          · have ee : p_ev w V (p_or n) (k + 1) = p_ev w V (p_or n) k := by rw [p_ev, if_neg c]
            obtain ⟨I5, o5, r5⟩ := ih (k + 1) I3 (by omega) hx3 O3 (by rw [ee]; exact h143) (by rw [ee]; exact hO3)
            refine ⟨I5, k9o_eq k9e_150_27 (k9o_F (by rw [n_toInt (by omega)]; omega) (k9o_eq k9e_150_30 (k9o_call e2 ?_))), r5⟩
            simp only [k9_ps_s]
            refine k9o_eq k9e_150_33 (k9o_F (by decide) (k9o_eq k9e_150_34 (k9o_call e3 ?_)))
            simp only [k9_ps_s]
            refine k9o_eq k9e_150_38 (k9o_T (by rw [h143, n_toInt (by omega), n_toInt (by omega)]; omega) (k9o_eq k9e_150_51 ?_))
            rw [nI_1]
            exact o5
    -- the first order
    have e26 := k9s_26 (S := S) (d := d + 9) (I := I) (J := J) (i0 := 0)
    have O1 : k9_Or (k9_u I 7 0 1 0) 0 0 (fun _ => 0) := k9_Or_0
    obtain ⟨I2, n', o', e30, O2, -, x2, g2⟩ := k9s_30 (S := S) (d := d + 7) (J := J) (m := n) O1 (fun k hk => by omega) (by omega)
    obtain ⟨rfl, g2⟩ := g2 rfl
    have hx1 : k9_fx k9_Fe I (k9_u I 7 0 1 0) := k9_fx_u (k9_fx_rf _ _) rfl
    have hx2 := k9_fx_tr hx1 (k9_Fe_6 (k9_F6_o x2))
    have O2 : k9_Or I2 0 n' (p_or n' 0) := k9_Or_e O2 (fun k hk => by rw [g2 k hk, p_or_0 n' h5 k hk])
    obtain ⟨I3, e27, O3, x3⟩ := k9s_27 (S := S) (d := d + 9) (J := J) (i0 := 1) (i1 := 0) (by decide) O2
    have hx3 := k9_fx_tr hx2 (k9_Fe_o x3)
    have O23 := k9_Or_x x3 rfl (fun _ => rfl) O2
    obtain ⟨I4, e4, x4⟩ := tr 0 I3 (by omega) hx3 O23
    have hx4 := k9_fx_tr hx3 (k9_Fe_6 (k9_F6_t x4))
    have O24 := k9_Or_x x4 rfl (fun _ => rfl) O23
    have O34 := k9_Or_x x4 rfl (fun _ => rfl) O3
    obtain ⟨I5, o5, r5⟩ := key (p_fc n' - 1) 0 (k9_u I4 1 0 14 (nI (p_oo w V (p_or n' 0)))) (by omega) (k9_fx_u hx4 rfl) ⟨by simpa [k9_ur] using O24.1, O24.2.1, fun j hj => by simpa [k9_ur] using O24.2.2 j hj⟩ (by rw [p_ev]; simp [k9_ur]) ⟨by simpa [k9_ur] using O34.1, O34.2.1, fun j hj => by rw [p_ev]; simpa [k9_ur] using O34.2.2 j hj⟩
    refine ⟨I5, k9o_of (k9o_eq k9e_150_0 (k9o_T (by rw [v9]; decide) (k9o_eq k9e_150_4 (k9o_call e26 ?_)))), r5⟩
    simp only [k9_ps_n]
    refine k9o_eq k9e_150_7 ?_
    rw [hx1 3 0 0 rfl, c0]
    refine k9o_call e30 ?_
    simp only [k9_ps_n]
    refine k9o_eq k9e_150_14 (k9o_call e27 ?_)
    simp only [k9_ps_n]
    refine k9o_eq k9e_150_19 (k9o_call e4 ?_)
    simp only [k9_ps_s]
    exact k9o_eq k9e_150_24 o5
  · exact ⟨I, k9o_of (k9o_eq k9e_150_0 (k9o_F (by rw [v9]; decide) (k9o_eq k9e_150_3 (k9o_ret rfl)))), v, a14, aO⟩
end KT31

/-! ORDERS: order, the call -/
section KT32
variable {S : k9_S} {d : Nat} {I I' : k9_I} {J J' : k9_J} {w : Nat → Nat → Nat} {V : (Nat → Int32) → Int32} {b : Nat} {x1 x2 x3 : Int32} {h c : Nat → Nat} {L A f M : Nat}
def k9_Fg (k i p : Nat) : Bool := k9_F7 k i p || Nat.beq k 68 || Nat.beq k 69
theorem k9_Fg_7 {I1 I2 : k9_I} (h : k9_fx k9_F7 I1 I2) : k9_fx k9_Fg I1 I2 := k9_fx_w h (fun k i p e => by
  unfold k9_Fg at e
  exact (Bool.or_eq_false_iff.mp (Bool.or_eq_false_iff.mp e).1).1)
theorem k9_Fg_69 {I1 I2 : k9_I} (h : k9_fx k9_F69 I1 I2) : k9_fx k9_Fg I1 I2 := k9_fx_w h (fun k i p e => by
  unfold k9_Fg at e
  exact (Bool.or_eq_false_iff.mp e).2)
theorem k9_Fg_X {X : Nat → Bool} (hX : X 0 = true) : ∀ k i p, k9_Fg k i p = true → X (v_cl k i p) = true := by
  intro k i p e
  rcases Bool.or_eq_true_iff.mp e with f | f
  · rcases Bool.or_eq_true_iff.mp f with g | g
    · exact k9_F7_X hX k i p g
    · rw [k9_beq_of g]
      exact hX
  · rw [k9_beq_of f]
    exact hX
theorem k9s_207i {Q : k9_A → Prop} {x1 : Int32} (g : ∀ I', (∀ k, k < 6 → I' 69 0 k = nI k) → k9_fx k9_F69 I I' → k9_ok (k9_R S d 207 33 [some (k9_r 12 0), some (k9_i x1), some (k9_i (-1)), some (k9_i 1), none] [] I' J) Q) : k9_ok (k9_R S d 207 17 [some (k9_r 12 0), some (k9_i x1), none, none, none] [] I J) Q := by
  have key : ∀ m k I1, k + m = 6 → (∀ j, j < k → I1 69 0 j = nI j) → k9_fx k9_F69 I I1 → k9_ok (k9_R S d 207 19 [some (k9_r 12 0), some (k9_i x1), some (k9_i (nI k)), none, none] [] I1 J) Q := by
    intro m
    induction m with
    | zero =>
      intro k I1 hk hh hx
      obtain rfl : k = 6 := by omega
      exact k9o_eq k9e_207_19 (k9o_T (by decide) (k9o_eq k9e_207_29 (g I1 hh hx)))
    | succ m ih =>
      intro k I1 hk hh hx
      refine k9o_eq k9e_207_19 (k9o_F (by rw [n_toInt (by omega)]; omega) (k9o_eq k9e_207_22 (k9o_T (by rw [n_toInt (by omega)]; omega) (k9o_eq k9e_207_27 ?_))))
      rw [n_cl (by omega), nI_1]
      refine ih (k + 1) _ (by omega) (fun j hj => ?_) (k9_fx_u hx rfl)
      by_cases e : j = k
      · subst e
        simp [k9_ur]
      · simpa [k9_ur, e] using hh j (by omega)
  rw [k9e_207_17]
  exact key 6 0 I (by omega) (fun j hj => by omega) (k9_fx_rf _ _)
theorem k9s_207c {Q : k9_A → Prop} {x1 x2 x3 : Int32} (g : ∀ I' x4, (∀ k, k < 6 → I' 63 0 k = I 69 0 k) → k9_fx (fun k _ _ => Nat.beq k 63) I I' → k9_ok (k9_R S d 207 50 [some (k9_r 12 0), some (k9_i x1), some (k9_i x2), some (k9_i x3), some (k9_i x4)] [] I' J) Q) : k9_ok (k9_R S d 207 35 [some (k9_r 12 0), some (k9_i x1), some (k9_i x2), some (k9_i x3), none] [] I J) Q := by
  have key : ∀ m k I1, k + m = 6 → (∀ j, j < k → I1 63 0 j = I 69 0 j) → k9_fx (fun k _ _ => Nat.beq k 63) I I1 → k9_ok (k9_R S d 207 37 [some (k9_r 12 0), some (k9_i x1), some (k9_i x2), some (k9_i x3), some (k9_i (nI k))] [] I1 J) Q := by
    intro m
    induction m with
    | zero =>
      intro k I1 hk hh hx
      obtain rfl : k = 6 := by omega
      exact k9o_eq k9e_207_37 (k9o_T (by decide) (g I1 _ hh hx))
    | succ m ih =>
      intro k I1 hk hh hx
      refine k9o_eq k9e_207_37 (k9o_F (by rw [n_toInt (by omega)]; omega) (k9o_eq k9e_207_40 (k9o_T (by rw [n_toInt (by omega)]; omega) (k9o_eq k9e_207_47 (k9o_T (by rw [n_toInt (by omega)]; omega) (k9o_eq k9e_207_48 ?_))))))
      rw [n_cl (by omega), nI_1, hx 69 0 k rfl]
      refine ih (k + 1) _ (by omega) (fun j hj => ?_) (k9_fx_u hx rfl)
      by_cases e : j = k
      · subst e
        simp [k9_ur]
      · simpa [k9_ur, e] using hh j (by omega)
  rw [k9e_207_35]
  exact key 6 0 I (by omega) (fun j hj => by omega) (k9_fx_rf _ _)
theorem k9s_207b {Q : k9_A → Prop} {x1 x2 x3 : Int32} (g : ∀ I' x4, (∀ k, k < 6 → I' 68 0 k = I 69 0 k) → k9_fx (fun k _ _ => Nat.beq k 68) I I' → k9_ok (k9_R S d 207 79 [some (k9_r 12 0), some (k9_i x1), some (k9_i x2), some (k9_i x3), some (k9_i x4)] [] I' J) Q) : k9_ok (k9_R S d 207 66 [some (k9_r 12 0), some (k9_i x1), some (k9_i x2), some (k9_i x3), some (k9_i 0)] [] I J) Q := by
  have key : ∀ m k I1, k + m = 6 → (∀ j, j < k → I1 68 0 j = I 69 0 j) → k9_fx (fun k _ _ => Nat.beq k 68) I I1 → k9_ok (k9_R S d 207 66 [some (k9_r 12 0), some (k9_i x1), some (k9_i x2), some (k9_i x3), some (k9_i (nI k))] [] I1 J) Q := by
    intro m
    induction m with
    | zero =>
      intro k I1 hk hh hx
      obtain rfl : k = 6 := by omega
      exact k9o_eq k9e_207_66 (k9o_T (by decide) (g I1 _ hh hx))
    | succ m ih =>
      intro k I1 hk hh hx
      refine k9o_eq k9e_207_66 (k9o_F (by rw [n_toInt (by omega)]; omega) (k9o_eq k9e_207_69 (k9o_T (by rw [n_toInt (by omega)]; omega) (k9o_eq k9e_207_76 (k9o_T (by rw [n_toInt (by omega)]; omega) (k9o_eq k9e_207_77 ?_))))))
      rw [n_cl (by omega), nI_1, hx 69 0 k rfl]
      refine ih (k + 1) _ (by omega) (fun j hj => ?_) (k9_fx_u hx rfl)
      by_cases e : j = k
      · subst e
        simp [k9_ur]
      · simpa [k9_ur, e] using hh j (by omega)
  exact key 6 0 I (by omega) (fun j hj => by omega) (k9_fx_rf _ _)
/-- the search of the reference -/
theorem k9s_207 {Q : k9_A → Prop} {x1 : Int32} (v : k9_Iv I J w V b) (h5 : w 7 0 ≤ 5) (g : ∀ I', k9_Iv I' J w V b → (∀ k, k < w 7 0 → I' 68 0 k = nI ((p_ev w V (p_or (w 7 0)) (p_fc (w 7 0) - 1)).2 k)) → k9_ok (k9_R S (d + 20) 207 83 [some (k9_r 12 0), some (k9_i x1), some (k9_i (nI (p_ev w V (p_or (w 7 0)) (p_fc (w 7 0) - 1)).1)), some (k9_i 0), none] [] I' J) Q) : k9_ok (k9_R S (d + 20) 207 17 [some (k9_r 12 0), some (k9_i x1), none, none, none] [] I J) Q := by
  have hf := v.1.2.2.1
  have m0 := v.1.2.1.1
  obtain ⟨n, hn⟩ : ∃ n, n = w 7 0 := ⟨_, rfl⟩
  rw [← hn] at h5 m0 g
  obtain ⟨hc1, hc2⟩ := p_fc_b n h5
  have hob : ∀ k, k < p_fc n → p_oo w V (p_or n k) ≤ 100000 := fun k hk => p_oo_b (p_or_wf hf hn h5 hk)
  have heb := p_ev_b (w := w) (V := V) (s := p_or n) hob
  have hb100 : ∀ k, k < p_fc n → ∀ j, j < n → p_or n k j < 100 := fun k hk j hj => by
    have := (p_or_al h5 hk).2.1 j hj
    omega
  -- one order run, and the best one kept
  have one : ∀ k I1, k < p_fc n → k9_fx k9_Fg I I1 → (∀ j, j < n → I1 69 0 j = nI (p_or n k j)) → (0 < k → ∀ j, j < n → I1 68 0 j = nI ((p_ev w V (p_or n) (k - 1)).2 j)) →
      (∀ I2, k9_fx k9_Fg I I2 → (∀ j, j < n → I2 69 0 j = nI (p_or n k j)) → (∀ j, j < n → I2 68 0 j = nI ((p_ev w V (p_or n) k).2 j)) → ∀ x4, k9_ok (k9_R S (d + 20) 207 79 [some (k9_r 12 0), some (k9_i x1), some (k9_i (nI (p_ev w V (p_or n) k).1)), some (k9_i 1), some (k9_i x4)] [] I2 J) Q) →
      k9_ok (k9_R S (d + 20) 207 33 [some (k9_r 12 0), some (k9_i x1), some (k9_i (if k = 0 then -1 else nI (p_ev w V (p_or n) (k - 1)).1)), some (k9_i 1), none] [] I1 J) Q := by
    intro k I1 hk hx h69 h68 g1
    obtain ⟨-, hb, hj⟩ := p_or_al h5 hk
    refine k9o_eq k9e_207_33 (k9o_F (by decide) (k9s_207c (fun I2 x4 h63 x2 => ?_)))
    have hx2 : k9_fx k9_Fg I I2 := k9_fx_tr hx (k9_Fg_7 (k9_F7_q (k9_Fq_63 x2)))
    have i2 : k9_Iv I2 J w V b := k9_Iv_0 (k9_fp_x hx2 (k9_Fg_X rfl)) v
    obtain ⟨I3, e3, m3, x3⟩ := k9_orun (S := S) (d := d + 15) (J := J) (o := p_or n k) (x := -1) i2.1.2.1 hf i2.2.2.1.2 (fun j hj' => by rw [← hn] at hj'; rw [h63 j (by omega)]; exact h69 j hj') (fun j hj' => by rw [← hn] at hj' ⊢; exact hb j hj') (fun i j hi hj' e => by rw [← hn] at hi hj'; exact hj i j hi hj' e)
    have hlen := p_len_b (p_or_wf hf hn h5 hk)
    obtain ⟨I4, e4, k4, x4'⟩ := k9s_191 (S := S) (d := d + 19) (J := J) m3 (by omega) (fun t => p_sh_b t)
    have a45 : I4 12 0 45 = nI (p_oo w V (p_or n k)) := k4.2.1
    have hx4 := k9_fx_tr (k9_fx_tr hx2 (k9_Fg_7 (k9_F7_q (k9_Fq_of x3)))) (k9_Fg_7 (k9_F7_44 x4'))
    have h694 : ∀ j, I4 69 0 j = I1 69 0 j := fun j => (x4' 69 0 j rfl).trans ((x3 69 0 j rfl).trans (x2 69 0 j rfl))
    have h684 : ∀ j, I4 68 0 j = I1 68 0 j := fun j => (x4' 68 0 j rfl).trans ((x3 68 0 j rfl).trans (x2 68 0 j rfl))
    have b1 := hob k hk
    have b2 := heb (k - 1) (by omega)
    refine k9o_eq k9e_207_50 (k9o_call e3 ?_)
    simp only [k9_ps_n]
    refine k9o_eq k9e_207_53 (k9o_call e4 ?_)
    simp only [k9_ps_n]
    have take : p_ev w V (p_or n) k = (p_oo w V (p_or n k), p_or n k) → ∀ x2' : Int32, k9_ok (k9_R S (d + 20) 207 61 [some (k9_r 12 0), some (k9_i x1), some (k9_i x2'), some (k9_i 1), some (k9_i x4)] [] I4 J) Q := by
      intro ee x2'
      refine k9o_eq k9e_207_61 ?_
      rw [a45]
      refine k9s_207b (fun I5 x5 h68' x5' => ?_)
      have := g1 I5 (k9_fx_tr hx4 (k9_fx_w x5' (fun k i p e => by
        unfold k9_Fg at e
        exact (Bool.or_eq_false_iff.mp (Bool.or_eq_false_iff.mp e).1).2))) (fun j hj' => by rw [x5' 69 0 j rfl, h694 j]; exact h69 j hj') (fun j hj' => by rw [h68' j (by omega), h694 j, ee]; exact h69 j hj') x5
      rw [ee] at this
      exact this
    refine k9o_eq k9e_207_55 ?_
    by_cases z : k = 0
    · rw [if_pos z]
      subst z
      exact k9o_T (by decide) (take rfl _)
    · rw [if_neg z]
      obtain ⟨k, rfl⟩ : ∃ k', k = k' + 1 := ⟨k - 1, by omega⟩
      rw [Nat.add_sub_cancel] at b2 h68 ⊢
      refine k9o_F (by rw [n_toInt (by omega)]; omega) (k9o_eq k9e_207_57 ?_)
      by_cases c : p_oo w V (p_or n (k + 1)) < (p_ev w V (p_or n) k).1
      · exact k9o_F (by rw [a45, n_toInt (by omega), n_toInt (by omega)]; omega) (take (by rw [p_ev, if_pos c]) _)
      · have ee : p_ev w V (p_or n) (k + 1) = p_ev w V (p_or n) k := by rw [p_ev, if_neg c]
        have := g1 I4 hx4 (fun j hj' => by rw [h694 j]; exact h69 j hj') (fun j hj' => by rw [h684 j, ee]; exact h68 (by omega) j hj') x4
        rw [ee] at this
        exact k9o_T (by rw [a45, n_toInt (by omega), n_toInt (by omega)]; omega) this
  have key : ∀ m k I1, k + 1 + m = p_fc n → k9_fx k9_Fg I I1 → (∀ j, j < n → I1 69 0 j = nI (p_or n k j)) → (0 < k → ∀ j, j < n → I1 68 0 j = nI ((p_ev w V (p_or n) (k - 1)).2 j)) → k9_ok (k9_R S (d + 20) 207 33 [some (k9_r 12 0), some (k9_i x1), some (k9_i (if k = 0 then -1 else nI (p_ev w V (p_or n) (k - 1)).1)), some (k9_i 1), none] [] I1 J) Q := by
    intro m
    induction m with
    | zero =>
      intro k I1 hk hx h69 h68
      obtain rfl : k = p_fc n - 1 := by omega
      refine one _ I1 (by omega) hx h69 h68 (fun I2 hx2 h692 h682 x4 => ?_)
      have O2 : k9_Om I2 n (p_or n (p_fc n - 1)) := ⟨(hx2 12 0 0 rfl).trans m0, by omega, h692⟩
      have e205 : k9_R S (d + 19) 205 0 [some (k9_r 12 0), none, none, none, none] [] I2 J = some (some (k9_i 0), I2, J) := by
        by_cases z : n = 0
        · rw [z] at O2
          exact k9s_205z O2
        · rcases k9s_205 (S := S) (d := d + 18) (J := J) O2 (by omega) (hb100 _ (by omega)) with ⟨-, e⟩ | ⟨e, -⟩
          · exact e
          · exact absurd (p_or_la h5 hk) e
      refine k9o_eq k9e_207_79 (k9o_call e205 ?_)
      simp only [k9_ps_s]
      exact k9o_eq k9e_207_81 (k9o_eq k9e_207_33 (k9o_T (by decide) (g I2 (k9_Iv_0 (k9_fp_x hx2 (k9_Fg_X rfl)) v) h682)))
    | succ m ih =>
      intro k I1 hk hx h69 h68
      have hkn := p_or_nx (n := n) (k := k) h5 (by omega)
      have h1n : 1 ≤ n := by
        refine Nat.pos_of_ne_zero (fun z => ?_)
        rw [z] at hk
        have : p_fc 0 = 1 := by decide
        omega
      refine one _ I1 (by omega) hx h69 h68 (fun I2 hx2 h692 h682 x4 => ?_)
      have O2 : k9_Om I2 n (p_or n k) := ⟨(hx2 12 0 0 rfl).trans m0, by omega, h692⟩
      rcases k9s_205 (S := S) (d := d + 18) (J := J) O2 h1n (hb100 k (by omega)) with ⟨e, -⟩ | ⟨-, I3, e3, O3, x3⟩
      · exact absurd e hkn.1
      · have o := ih (k + 1) I3 (by omega) (k9_fx_tr hx2 (k9_Fg_69 x3)) (fun j hj => by rw [O3.2.2 j hj, hkn.2 j hj]) (fun _ j hj => by rw [x3 68 0 j rfl, Nat.add_sub_cancel]; exact h682 j hj)
        rw [if_neg (by omega), Nat.add_sub_cancel] at o
        refine k9o_eq k9e_207_79 (k9o_call e3 ?_)
        simp only [k9_ps_s]
        exact k9o_eq k9e_207_81 o
  refine k9s_207i (fun I1 h1 x1' => ?_)
  have o := key (p_fc n - 1) 0 I1 (by omega) (k9_Fg_69 x1') (fun j hj => by rw [h1 j (by omega), p_or_0 n h5 j hj]) (fun z => by omega)
  rw [if_pos rfl] at o
  exact o
theorem t_order (hI : k9_Inv I J) : k9_P S (d + 20) 114 207 [some (k9_r 1 0), some (k9_i x1)] [some (k9_r 12 0), some (k9_i x1), none, none, none] I J k9_Inv := by
  have hI' := hI
  obtain ⟨w, V, b, v⟩ := hI
  have v : k9_Iv I J w V b := v
  have m0 := v.1.2.1.1
  have c0 := v.1.1.1
  have h6 := v.1.2.2.1.1
  refine k9P_of ?_
  by_cases h1 : (-1) ≤ x1.toInt
  · refine k9o_eq k9e_114_0 (k9o_T h1 (k9o_eq k9e_114_5 ?_))
    by_cases h5 : w 7 0 ≤ 5
    · refine k9o_T (by rw [c0, n_toInt (by omega)]; omega) (k9o_eq k9e_114_13 ?_)
      by_cases h2 : x1.toInt < (w 7 0 : Int)
      · refine k9o_T (by rw [c0, n_toInt (by omega)]; omega) (k9o_eq k9e_114_21 ?_)
        obtain ⟨I1, e1, v1, a14, O1⟩ := k9s_150 (S := S) (d := d + 9) v h5
        have m1 := v1.1.2.1.1
        refine k9o_call e1 ?_
        simp only [k9_ps_n]
        have ref : ∀ Q : k9_A → Prop, (∀ I', k9_Iv I' J w V b → (∀ k, k < w 7 0 → I' 68 0 k = nI ((p_ev w V (p_or (w 7 0)) (p_fc (w 7 0) - 1)).2 k)) → k9_ok (k9_R S (d + 20) 207 83 [some (k9_r 12 0), some (k9_i x1), some (k9_i (nI (p_ev w V (p_or (w 7 0)) (p_fc (w 7 0) - 1)).1)), some (k9_i 0), none] [] I' J) Q) → k9_ok (k9_R S (d + 20) 207 0 [some (k9_r 12 0), some (k9_i x1), none, none, none] [] I1 J) Q := fun Q g =>
          k9o_eq k9e_207_0 (k9o_T h1 (k9o_eq k9e_207_5 (k9o_T (by rw [m1, n_toInt (by omega)]; omega) (k9o_eq k9e_207_11 (k9o_T (by rw [m1, n_toInt (by omega)]; omega) (k9s_207 v1 h5 g))))))
        refine k9o_eq k9e_114_23 ?_
        by_cases z : x1.toInt = -1
        · refine k9o_T z (k9o_eq k9e_114_26 (k9o_eq k9e_114_33 (k9o_ret ⟨_, _, _, rfl, ?_⟩)))
          rw [a14]
          exact ref _ (fun I2 v2 h2' => k9o_eq k9e_207_83 (k9o_F (by omega) (k9o_eq k9e_207_85 (k9o_eq k9e_207_91 (k9o_ret ⟨_, _, rfl, k9_Iv_e v2⟩)))))
        · obtain ⟨k, rfl, hk, -⟩ := n_of (x := x1) (by omega)
          rw [n_toInt (by omega)] at h2
          have e25 := k9s_25 (S := S) (d := d + 19) (J := J) O1 (show k < 100 by omega)
          rw [if_pos (by omega)] at e25
          refine k9o_F z (k9o_eq k9e_114_29 (k9o_call e25 ?_))
          simp only [k9_ps_s]
          refine k9o_eq k9e_114_33 (k9o_ret ⟨_, _, _, rfl, ?_⟩)
          refine ref _ (fun I2 v2 h2' => k9o_eq k9e_207_83 (k9o_T (by rw [n_toInt (by omega)]; omega) (k9o_eq k9e_207_87 (k9o_T (by rw [n_toInt (by omega)]; omega) ?_))))
          rw [n_cl (by omega), h2' k (by omega)]
          exact k9o_eq k9e_207_91 (k9o_ret ⟨_, _, rfl, k9_Iv_e v2⟩)
      · refine k9o_F (by rw [c0, n_toInt (by omega)]; omega) (k9o_eq k9e_114_19 (k9o_ret ⟨_, _, _, rfl, ?_⟩))
        exact k9o_eq k9e_207_0 (k9o_T h1 (k9o_eq k9e_207_5 (k9o_T (by rw [m0, n_toInt (by omega)]; omega) (k9o_eq k9e_207_11 (k9o_F (by rw [m0, n_toInt (by omega)]; omega) (k9o_eq k9e_207_15 (k9o_ret ⟨_, _, rfl, hI'⟩)))))))
    · refine k9o_F (by rw [c0, n_toInt (by omega)]; omega) (k9o_eq k9e_114_11 (k9o_ret ⟨_, _, _, rfl, ?_⟩))
      exact k9o_eq k9e_207_0 (k9o_T h1 (k9o_eq k9e_207_5 (k9o_F (by rw [m0, n_toInt (by omega)]; omega) (k9o_eq k9e_207_9 (k9o_ret ⟨_, _, rfl, hI'⟩)))))
  · exact k9o_eq k9e_114_0 (k9o_F h1 (k9o_eq k9e_114_3 (k9o_ret ⟨_, _, _, rfl, k9o_eq k9e_207_0 (k9o_F h1 (k9o_eq k9e_207_3 (k9o_ret ⟨_, _, rfl, hI'⟩)))⟩)))
end KT32

/-! ORDERS: told, the parts (the answers differ: both sides return alone is said) -/
section KT33
variable {S : k9_S} {d : Nat} {I I' : k9_I} {J J' : k9_J} {w : Nat → Nat → Nat} {V : (Nat → Int32) → Int32} {b : Nat} {x1 x2 x3 : Int32} {h c : Nat → Nat} {L A f M : Nat}
theorem k9_otroll0 {n : Nat} {o : Nat → Nat} {i2 : Nat} (hW : k9_Wk I 0 w) (hf : k9_wf w) (hC : k9_CL I V) (hO : k9_Or I i2 n o) (hb : ∀ k, k < n → o k < w 7 0) :
    ∃ (a : Int32) (I2 : k9_I), k9_R S (d + 8) 149 0 [some (k9_r 1 0), some (k9_r 7 i2)] [] I J = some (some (k9_i a), I2, J) ∧ k9_fx k9_Ft I I2 := by
  have ho : ∀ k, k < w 7 0 → (if k < n then o k else 0) < w 7 0 := fun k hk => by
    split
    · exact hb k (by assumption)
    · omega
  obtain ⟨I1, e1, w1, x1⟩ := k9s_16 (S := S) (d := d + 5) (J := J) (i0 := 1) (i1 := 0) (by decide) hW hf hO ho
  have hwf := k9_wf_cm hf ho
  obtain ⟨e10, I2, e2, b2, w2, x2⟩ := k9_troll (S := S) (d := d + 3) (J := J) w1 hwf (k9_CL_t (k9_Ft_w x1) hC)
  have hlen := p_len_b hwf
  have e10' := k9s_10 (S := S) (d := d + 5) (J := J) w1 hwf
  have e61 := k9s_61 (S := S) (d := d + 5) (J := J) (q := 1) b2 (by omega) (by omega) (fun t => p_sh_b t) (by omega)
  rw [if_neg (by decide), if_pos rfl] at e61
  refine ⟨nI (p_oo w V (fun k => if k < n then o k else 0)), I2, k9o_of ?_, k9_fx_tr (k9_Ft_w x1) (k9_Ft_b x2)⟩
  refine k9o_eq k9e_149_0 (k9o_call e1 ?_)
  simp only [k9_ps_n]
  refine k9o_eq k9e_149_8 (k9o_call e10' ?_)
  simp only [k9_ps_s]
  refine k9o_eq k9e_149_17 (k9o_call e2 ?_)
  simp only [k9_ps_n]
  refine k9o_eq k9e_149_18 (k9o_call e61 ?_)
  simp only [k9_ps_s]
  exact k9o_eq k9e_149_22 (k9o_ret rfl)
theorem k9s_28a {n m : Nat} {o : Nat → Nat} {x : Int32} (hO : k9_Or I 0 n o) (hm : ∀ k, k < n → o k < m) (hm6 : m ≤ 6) : ∃ I' n' o', k9_R S (d + 1) 28 0 [some (k9_r 7 0), some (k9_i x), some (k9_i (nI m))] [] I J = some (none, I', J) ∧ k9_Or I' 0 n' o' ∧ (∀ k, k < n' → o' k < m) ∧ k9_fx (k9_Fo 0) I I' := by
  have h100 : ∀ k, k < n → o k < 100 := fun k hk => by
    have := hm k hk
    omega
  by_cases c : x.toInt < 0 ∨ (m : Int) ≤ x.toInt ∨ 6 ≤ n ∨ ∃ k, k < n ∧ (o k : Int) = x.toInt
  · exact ⟨I, n, o, k9s_28x hO h100 hm6 c, hO, hm, k9_fx_rf _ _⟩
  · obtain ⟨y, rfl, hy, -⟩ := n_of (x := x) (by omega)
    have hn : ∀ k, k < n → o k ≠ y := fun k hk z => c (Or.inr (Or.inr (Or.inr ⟨k, hk, by rw [z, n_toInt (by omega)]⟩)))
    have c1 : ¬ (m : Int) ≤ (nI y).toInt := fun z => c (Or.inr (Or.inl z))
    have c2 : ¬ 6 ≤ n := fun z => c (Or.inr (Or.inr (Or.inl z)))
    rw [n_toInt (by omega)] at c1
    refine ⟨_, _, _, k9s_28 hO h100 (by omega) hm6 (by omega) hn, k9_Or_add hO (by omega), fun k hk => ?_, k9_fx_u (k9_fx_u (k9_fx_rf _ _) (k9_Fo_t _ rfl _)) (k9_Fo_t _ rfl _)⟩
    show (if k = n then y else o k) < m
    split
    · omega
    · exact hm k (by omega)
/-- the line of the reference, m of them -/
def k9_Li (I : k9_I) (n m : Nat) (o : Nat → Nat) : Prop := (∀ k, k < m → I 63 0 k = nI (o k)) ∧ (∀ k, k < m → o k < n) ∧ ∀ i j, i < m → j < m → o i = o j → i = j
theorem p_pg {o : Nat → Nat} {n m : Nat} (hb : ∀ k, k < m → o k < n) (hj : ∀ i j, i < m → j < m → o i = o j → i = j) : m ≤ n := by
  have h1 := p_sm_o (fun _ => 1) o n m hb
  rw [p_sm_1, p_sm_c (r' := fun x => p_ot o x m) n (fun k _ => Nat.one_mul _)] at h1
  have := (p_sm_full (fun x => p_ot_1 o x m hj) n).1
  omega
theorem p_ot_g (o : Nat → Nat) (x : Nat) : ∀ m, (∃ k, k < m ∧ o k = x) → 1 ≤ p_ot o x m
  | 0, ⟨k, hk, _⟩ => by omega
  | m + 1, ⟨k, hk, e⟩ => by
    rw [p_ot, p_sm]
    by_cases c : o m = x
    · rw [if_pos c]
      omega
    · have : k ≠ m := fun z => c (z ▸ e)
      have := p_ot_g o x m ⟨k, by omega, e⟩
      rw [p_ot] at this
      omega
theorem p_sm_g {c : Nat → Nat} : ∀ n, (∀ x, x < n → 1 ≤ c x) → n ≤ p_sm c n
  | 0, _ => Nat.zero_le _
  | n + 1, h => by
    have := p_sm_g n (fun x hx => h x (by omega))
    have := h n (by omega)
    rw [p_sm]
    omega
theorem p_full {o : Nat → Nat} {n m : Nat} (hb : ∀ k, k < m → o k < n) (hs : ∀ x, x < n → ∃ k, k < m ∧ o k = x) : n ≤ m := by
  have h1 := p_sm_o (fun _ => 1) o n m hb
  rw [p_sm_1, p_sm_c (r' := fun x => p_ot o x m) n (fun k _ => Nat.one_mul _)] at h1
  have := p_sm_g n (fun x hx => p_ot_g o x m (hs x hx))
  omega
theorem k9_Li_a {n m x : Nat} {o : Nat → Nat} (hL : k9_Li I n m o) (hx : x < n) (hn : ∀ k, k < m → o k ≠ x) : m < n ∧ k9_Li (k9_u I 63 0 m (nI x)) n (m + 1) (fun k => if k = m then x else o k) := by
  have hb : ∀ k, k < m + 1 → (if k = m then x else o k) < n := fun k hk => by
    split
    · exact hx
    · exact hL.2.1 k (by omega)
  have hj : ∀ i j, i < m + 1 → j < m + 1 → (if i = m then x else o i) = (if j = m then x else o j) → i = j := fun i j hi hj e => by
    by_cases c1 : i = m
    · by_cases c2 : j = m
      · omega
      · rw [if_pos c1, if_neg c2] at e
        exact absurd e.symm (hn j (by omega))
    · by_cases c2 : j = m
      · rw [if_neg c1, if_pos c2] at e
        exact absurd e (hn i (by omega))
      · rw [if_neg c1, if_neg c2] at e
        exact hL.2.2 i j (by omega) (by omega) e
  have := p_pg (o := fun k => if k = m then x else o k) hb hj
  refine ⟨by omega, fun k hk => ?_, hb, hj⟩
  by_cases e : k = m
  · simp [k9_ur, e]
  · simpa [k9_ur, e] using hL.1 k (by omega)
/-- the others come behind -/
theorem k9s_210 {n m : Nat} {o : Nat → Nat} (h0 : I 12 0 0 = nI n) (h6 : n ≤ 6) (hL : k9_Li I n m o) : ∃ I' o', k9_R S d 210 0 [some (k9_r 12 0), some (k9_i (nI m)), none, none, none, none] [] I J = some (none, I', J) ∧ k9_Li I' n n o' ∧ k9_fx (fun k _ _ => Nat.beq k 63) I I' := by
  have hmn := p_pg hL.2.1 hL.2.2
  -- is a piece among the first
  have inn : ∀ (Q : k9_A → Prop) m2 j o1 I1, m ≤ m2 → j < n → k9_Li I1 n m2 o1 → k9_fx (fun k _ _ => Nat.beq k 63) I I1 → (∀ k, k < m → o1 k = o k) →
      ((∃ k, k < m ∧ o k = j) → ∀ x5 : Int32, k9_ok (k9_R S d 210 25 [some (k9_r 12 0), some (k9_i (nI m)), some (k9_i (nI m2)), some (k9_i (nI j)), some (k9_i 1), some (k9_i x5)] [] I1 J) Q) →
      ((∀ k, k < m → o k ≠ j) → ∀ x5 : Int32, k9_ok (k9_R S d 210 25 [some (k9_r 12 0), some (k9_i (nI m)), some (k9_i (nI m2)), some (k9_i (nI j)), some (k9_i 0), some (k9_i x5)] [] I1 J) Q) →
      k9_ok (k9_R S d 210 8 [some (k9_r 12 0), some (k9_i (nI m)), some (k9_i (nI m2)), some (k9_i (nI j)), none, none] [] I1 J) Q := by
    intro Q m2 j o1 I1 hm hj hL1 hx hoo g1 g0
    have lp : ∀ k p (f : Int32), p + k = m → (f = 1 ∧ (∃ k, k < p ∧ o k = j)) ∨ (f = 0 ∧ ∀ k, k < p → o k ≠ j) → k9_ok (k9_R S d 210 12 [some (k9_r 12 0), some (k9_i (nI m)), some (k9_i (nI m2)), some (k9_i (nI j)), some (k9_i f), some (k9_i (nI p))] [] I1 J) Q := by
      intro k
      induction k with
      | zero =>
        intro p f hp hf
        obtain rfl : p = m := by omega
        refine k9o_eq k9e_210_12 (k9o_T (by omega) ?_)
        rcases hf with ⟨rfl, e⟩ | ⟨rfl, e⟩
        · exact g1 e _
        · exact g0 e _
      | succ k ih =>
        intro p f hp hf
        have ap := hL1.1 p (by omega)
        have bp := hL1.2.1 p (by omega)
        have op := hoo p (by omega)
        rw [op] at ap bp
        refine k9o_eq k9e_210_12 (k9o_F (by rw [n_toInt (by omega), n_toInt (by omega)]; omega) (k9o_eq k9e_210_15 (k9o_T (by rw [n_toInt (by omega)]; omega) ?_)))
        rw [n_cl (by omega), ap]
        refine k9o_eq k9e_210_19 ?_
        by_cases e : o p = j
        · refine k9o_T (by rw [e]) (k9o_eq k9e_210_21 (k9o_eq k9e_210_23 ?_))
          rw [nI_1]
          exact ih (p + 1) 1 (by omega) (Or.inl ⟨rfl, p, by omega, e⟩)
        · refine k9o_F (by rw [n_toInt (by omega), n_toInt (by omega)]; omega) (k9o_eq k9e_210_23 ?_)
          rw [nI_1]
          refine ih (p + 1) f (by omega) ?_
          rcases hf with ⟨rfl, k, hk, z⟩ | ⟨rfl, z⟩
          · exact Or.inl ⟨rfl, k, by omega, z⟩
          · exact Or.inr ⟨rfl, fun k hk => by
              by_cases c : k = p
              · rw [c]
                exact e
              · exact z k (by omega)⟩
    rw [k9e_210_8]
    exact lp m 0 0 (by omega) (Or.inr ⟨rfl, fun k hk => by omega⟩)
  have key : ∀ k j m2 o1 I1, j + k = n → m ≤ m2 → k9_Li I1 n m2 o1 → k9_fx (fun k _ _ => Nat.beq k 63) I I1 → (∀ k, k < m → o1 k = o k) → (∀ i, i < j → ∃ k, k < m2 ∧ o1 k = i) → (∀ k, m ≤ k → k < m2 → o1 k < j) → ∃ I' o', k9_ok (k9_R S d 210 4 [some (k9_r 12 0), some (k9_i (nI m)), some (k9_i (nI m2)), some (k9_i (nI j)), none, none] [] I1 J) (fun q => q = (none, I', J)) ∧ k9_Li I' n n o' ∧ k9_fx (fun k _ _ => Nat.beq k 63) I I' := by
    intro k
    induction k with
    | zero =>
      intro j m2 o1 I1 hj hm hL1 hx hoo hs hl
      obtain rfl : j = n := by omega
      have a1 := p_pg hL1.2.1 hL1.2.2
      have a2 := p_full hL1.2.1 hs
      obtain rfl : m2 = j := by omega
      exact ⟨I1, o1, k9o_eq k9e_210_4 (k9o_T (by rw [hx 12 0 0 rfl, h0]; omega) (k9o_eq k9e_210_35 (k9o_ret rfl))), hL1, hx⟩
    | succ k ih =>
      intro j m2 o1 I1 hj hm hL1 hx hoo hs hl
      by_cases c : ∃ k, k < m ∧ o k = j
      · obtain ⟨I2, o2, e2, r2⟩ := ih (j + 1) m2 o1 I1 (by omega) hm hL1 hx hoo (fun i hi => by
          by_cases z : i = j
          · obtain ⟨k, hk, e⟩ := c
            exact ⟨k, by omega, by rw [hoo k hk, e, z]⟩
          · exact hs i (by omega)) (fun k h1 h2 => by
          have := hl k h1 h2
          omega)
        refine ⟨I2, o2, k9o_eq k9e_210_4 (k9o_F (by rw [hx 12 0 0 rfl, h0, n_toInt (by omega), n_toInt (by omega)]; omega) (inn _ m2 j o1 I1 hm (by omega) hL1 hx hoo (fun _ x5 => ?_) (fun z x5 => ?_))), r2⟩
        · refine k9o_eq k9e_210_25 (k9o_F (by decide) (k9o_eq k9e_210_33 ?_))
          rw [nI_1]
          exact e2
        · obtain ⟨k, hk, e⟩ := c
          exact absurd e (z k hk)
      · have hne : ∀ k, k < m2 → o1 k ≠ j := fun k hk e => by
          by_cases z : k < m
          · exact c ⟨k, z, by rw [← hoo k z, e]⟩
          · have := hl k (by omega) hk
            omega
        obtain ⟨hlt, hL2⟩ := k9_Li_a hL1 (show j < n by omega) hne
        obtain ⟨I2, o2, e2, r2⟩ := ih (j + 1) (m2 + 1) _ _ (by omega) (by omega) hL2 (k9_fx_u hx rfl) (fun k hk => by
          show (if k = m2 then j else o1 k) = o k
          rw [if_neg (by omega)]
          exact hoo k hk) (fun i hi => by
          by_cases z : i = j
          · exact ⟨m2, by omega, by rw [if_pos rfl, z]⟩
          · obtain ⟨k, hk, e⟩ := hs i (by omega)
            exact ⟨k, by omega, by rw [if_neg (by omega), e]⟩) (fun k h1 h2 => by
          show (if k = m2 then j else o1 k) < j + 1
          split
          · omega
          · have := hl k h1 (by omega)
            omega)
        refine ⟨I2, o2, k9o_eq k9e_210_4 (k9o_F (by rw [hx 12 0 0 rfl, h0, n_toInt (by omega), n_toInt (by omega)]; omega) (inn _ m2 j o1 I1 hm (by omega) hL1 hx hoo (fun z x5 => absurd z c) (fun _ x5 => ?_))), r2⟩
        refine k9o_eq k9e_210_25 (k9o_T (by decide) (k9o_eq k9e_210_27 (k9o_T (by rw [n_toInt (by omega)]; omega) (k9o_eq k9e_210_33 ?_))))
        rw [n_cl (by omega), nI_1, nI_1]
        exact e2
  obtain ⟨I2, o2, e2, r2⟩ := key n 0 m o I (by omega) (Nat.le_refl _) hL (k9_fx_rf _ _) (fun _ _ => rfl) (fun i hi => by omega) (fun k h1 h2 => by omega)
  exact ⟨I2, o2, k9o_of (k9o_eq k9e_210_0 e2), r2⟩
end KT33

/-! ORDERS: told, the call -/
section KT34
variable {S : k9_S} {d : Nat} {I I' : k9_I} {J J' : k9_J} {w : Nat → Nat → Nat} {V : (Nat → Int32) → Int32} {b : Nat} {x1 x2 x3 : Int32} {h c : Nat → Nat} {L A f M : Nat}
theorem k9s_154 {n : Nat} {x : Int32} (h0 : I 12 0 0 = nI n) (h6 : n ≤ 6) : k9_R S (d + 1) 154 0 [some (k9_r 12 0), some (k9_i x)] [] I J = some (some (k9_i (if 0 ≤ x.toInt ∧ x.toInt < (n : Int) then 1 else 0)), I, J) := by
  have e1 := n_pm1 (n := n) (by omega)
  have e0 : (0 : Int32).toInt = 0 := by decide
  refine k9o_of (k9o_eq k9e_154_0 ?_)
  rw [h0]
  by_cases c : 0 ≤ x.toInt ∧ x.toInt < (n : Int)
  · rw [if_pos c]
    refine k9o_call (k9s_153 (S := S) (d := d) (by rw [e0, e1]; omega)) ?_
    simp only [k9_ps_s]
    exact k9o_eq k9e_154_7 (k9o_T (by decide) (k9o_ret rfl))
  · rw [if_neg c]
    refine k9o_call (k9s_153x (S := S) (d := d) (by rw [e0, e1]; omega)) ?_
    simp only [k9_ps_s]
    exact k9o_eq k9e_154_7 (k9o_T (by decide) (k9o_ret rfl))
theorem k9s_209 {s i : Nat} (hs : s < 6) (hi : i < 60) : k9_R S d 209 0 [some (k9_r 12 0), some (k9_i (nI s)), some (k9_i (nI i))] [] I J = some (some (k9_i (J 62 0 (60 * s + i)).toInt32), I, J) := by
  refine k9o_of (k9o_eq k9e_209_0 ?_)
  rw [n_x60, nI_add]
  refine k9o_T (by rw [n_toInt (by omega)]; omega) ?_
  rw [n_cl (by omega)]
  exact k9o_eq k9e_209_8 (k9o_ret rfl)
/-- the line out of a row -/
theorem k9s_211l {Q : k9_A → Prop} {x2 : Int32} {n s z : Nat} (h0 : I 12 0 0 = nI n) (h6 : n ≤ 6) (hs : s < 6) (hz : z ≤ 60) (h61 : I 61 0 s = nI z)
    (g : ∀ m o I', k9_Li I' n m o → k9_fx (fun k _ _ => Nat.beq k 63) I I' → ∀ x4 x5 : Int32, k9_ok (k9_R S (d + 2) 211 61 [some (k9_r 12 0), some (k9_i (nI s)), some (k9_i x2), some (k9_i (nI m)), some (k9_i x4), some (k9_i x5), none, none] [] I' J) Q) :
    k9_ok (k9_R S (d + 2) 211 13 [some (k9_r 12 0), some (k9_i (nI s)), some (k9_i x2), none, none, none, none, none] [] I J) Q := by
  have key : ∀ k i m o I1, i + k = z → k9_Li I1 n m o → k9_fx (fun k _ _ => Nat.beq k 63) I I1 → k9_ok (k9_R S (d + 2) 211 19 [some (k9_r 12 0), some (k9_i (nI s)), some (k9_i x2), some (k9_i (nI m)), some (k9_i 1), some (k9_i (nI i)), none, none] [] I1 J) Q := by
    intro k
    induction k with
    | zero =>
      intro i m o I1 hi hL hx
      obtain rfl : i = z := by omega
      refine k9o_eq k9e_211_19 (k9o_T (by rw [n_toInt (by omega)]; omega) ?_)
      rw [n_cl (by omega), hx 61 0 s rfl, h61]
      exact k9o_eq k9e_211_24 (k9o_T (by omega) (g m o I1 hL hx _ _))
    | succ k ih =>
      intro i m o I1 hi hL hx
      have hmn := p_pg hL.2.1 hL.2.2
      have m1 : I1 12 0 0 = nI n := (hx 12 0 0 rfl).trans h0
      obtain ⟨x, hxx⟩ : ∃ x : Int32, x = (J 62 0 (60 * s + i)).toInt32 := ⟨_, rfl⟩
      have e209 := k9s_209 (S := S) (d := d + 1) (I := I1) (J := J) hs (show i < 60 by omega)
      rw [← hxx] at e209
      have e154 := k9s_154 (S := S) (d := d) (J := J) (x := x) m1 h6
      -- the row's end, or one that is no piece
      have stop : ∀ x6 x7 : Int32, k9_ok (k9_R S (d + 2) 211 51 [some (k9_r 12 0), some (k9_i (nI s)), some (k9_i x2), some (k9_i (nI m)), some (k9_i 0), some (k9_i (nI i)), some (k9_i x6), some (k9_i x7)] [] I1 J) Q := by
        intro x6 x7
        refine k9o_eq k9e_211_51 (k9o_T (by decide) (k9o_eq k9e_211_59 ?_))
        rw [nI_1]
        refine k9o_eq k9e_211_19 (k9o_T (by rw [n_toInt (by omega)]; omega) ?_)
        rw [n_cl (by omega), hx 61 0 s rfl, h61]
        refine k9o_eq k9e_211_24 ?_
        by_cases c : z ≤ i + 1
        · exact k9o_T (by rw [n_toInt (by omega), n_toInt (by omega)]; omega) (g m o I1 hL hx _ _)
        · exact k9o_F (by rw [n_toInt (by omega), n_toInt (by omega)]; omega) (k9o_eq k9e_211_25 (k9o_T (by decide) (g m o I1 hL hx _ _)))
      have lp : ∀ k p (f : Int32), p + k = m → (f = 0 ∨ (f = 1 ∧ (0 ≤ x.toInt ∧ x.toInt < (n : Int)) ∧ ∀ k, k < p → (o k : Int) ≠ x.toInt)) → k9_ok (k9_R S (d + 2) 211 38 [some (k9_r 12 0), some (k9_i (nI s)), some (k9_i x2), some (k9_i (nI m)), some (k9_i f), some (k9_i (nI i)), some (k9_i x), some (k9_i (nI p))] [] I1 J) Q := by
        intro k
        induction k with
        | zero =>
          intro p f hp hf
          obtain rfl : p = m := by omega
          refine k9o_eq k9e_211_38 (k9o_T (by omega) ?_)
          rcases hf with rfl | ⟨rfl, hb, hn⟩
          · exact stop _ _
          · obtain ⟨y, hy, hyb, -⟩ := n_of (x := x) (by omega)
            have hyn : y < n := by omega
            have hne : ∀ k, k < p → o k ≠ y := fun k hk e => hn k hk (by rw [hy, n_toInt (by omega), e])
            obtain ⟨hlt, hL2⟩ := k9_Li_a hL hyn hne
            have o2 := ih (i + 1) (p + 1) _ _ (by omega) hL2 (k9_fx_u hx rfl)
            refine k9o_eq k9e_211_51 (k9o_F (by decide) (k9o_eq k9e_211_53 (k9o_T (by rw [n_toInt (by omega)]; omega) (k9o_eq k9e_211_59 ?_))))
            rw [n_cl (by omega), nI_1, nI_1, hy]
            exact o2
        | succ k ih2 =>
          intro p f hp hf
          have ap := hL.1 p (by omega)
          have bp := hL.2.1 p (by omega)
          refine k9o_eq k9e_211_38 (k9o_F (by rw [n_toInt (by omega), n_toInt (by omega)]; omega) (k9o_eq k9e_211_41 (k9o_T (by rw [n_toInt (by omega)]; omega) ?_)))
          rw [n_cl (by omega), ap]
          refine k9o_eq k9e_211_45 ?_
          by_cases e : (o p : Int) = x.toInt
          · refine k9o_T (by rw [n_toInt (by omega)]; exact e) (k9o_eq k9e_211_47 (k9o_eq k9e_211_49 ?_))
            rw [nI_1]
            exact ih2 (p + 1) 0 (by omega) (Or.inl rfl)
          · refine k9o_F (by rw [n_toInt (by omega)]; exact e) (k9o_eq k9e_211_49 ?_)
            rw [nI_1]
            refine ih2 (p + 1) f (by omega) ?_
            rcases hf with rfl | ⟨rfl, hb, hn⟩
            · exact Or.inl rfl
            · exact Or.inr ⟨rfl, hb, fun k hk => by
                by_cases c : k = p
                · rw [c]
                  exact e
                · exact hn k (by omega)⟩
      refine k9o_eq k9e_211_19 (k9o_T (by rw [n_toInt (by omega)]; omega) ?_)
      rw [n_cl (by omega), hx 61 0 s rfl, h61]
      refine k9o_eq k9e_211_24 (k9o_F (by rw [n_toInt (by omega), n_toInt (by omega)]; omega) (k9o_eq k9e_211_25 (k9o_F (by decide) (k9o_eq k9e_211_27 (k9o_call e209 ?_)))))
      simp only [k9_ps_s]
      refine k9o_eq k9e_211_31 (k9o_call e154 ?_)
      simp only [k9_ps_s]
      refine k9o_eq k9e_211_35 ?_
      refine lp m 0 _ (by omega) ?_
      by_cases c : 0 ≤ x.toInt ∧ x.toInt < (n : Int)
      · rw [if_pos c]
        exact Or.inr ⟨rfl, c, fun k hk => by omega⟩
      · rw [if_neg c]
        exact Or.inl rfl
  rw [k9e_211_13]
  exact key z 0 0 (fun _ => 0) I (by omega) ⟨fun k hk => by omega, fun k hk => by omega, fun i j hi => by omega⟩ (k9_fx_rf _ _)
theorem t_told (hI : k9_Inv I J) : k9_P S (d + 20) 115 211 [some (k9_r 1 0), some (k9_i x1), none, none] [some (k9_r 12 0), some (k9_i x1), none, none, none, none, none, none] I J k9_Inv ∨ ((∃ s z, x1 = nI s ∧ s < 6 ∧ k9_byr I s z) ∧ ∃ (a1 a2 : Int32) (I1 : k9_I) (J1 : k9_J) (I2 : k9_I) (J2 : k9_J), k9_R S (d + 20) 115 0 [some (k9_r 1 0), some (k9_i x1), none, none] [] I J = some (some (k9_i a1), I1, J1) ∧ k9_R S (d + 20) 211 0 [some (k9_r 12 0), some (k9_i x1), none, none, none, none, none, none] [] I1 J1 = some (some (k9_i a2), I2, J2) ∧ k9_Inv I2 J2) := by
  have hI' := hI
  obtain ⟨w, V, b, v⟩ := hI
  have v : k9_Iv I J w V b := v
  have hf := v.1.2.2.1
  have m0 := v.1.2.1.1
  have c0 := v.1.1.1
  have h6 := hf.1
  have hb := v.2.2.2.2.1.1
  have v6 := v.2.2.2.2.2.1
  by_cases h1 : 0 ≤ x1.toInt ∧ x1.toInt ≤ 5
  · obtain ⟨s, rfl, hs, -⟩ := n_of (x := x1) (by omega)
    have hs6 : s < 6 := by omega
    rcases k9_byrs hb (v6.1 s hs6) with ⟨z, hz⟩ | ⟨r, hr⟩
    · refine Or.inr ⟨⟨s, z, rfl, hs6, hz⟩, ?_⟩
      have hz60 := hz.2.2.2.2.2
      obtain ⟨n, hn⟩ : ∃ n, n = w 7 0 := ⟨_, rfl⟩
      rw [← hn] at h6 m0 c0
      -- the class
      have kc : ∀ k i n1 o1 I1, i + k = z → k9_Or I1 0 n1 o1 → (∀ j, j < n1 → o1 j < n) → k9_fx k9_F6 I I1 → ∃ (a : Int32) (I2 : k9_I), k9_ok (k9_R S (d + 20) 115 19 [some (k9_r 1 0), some (k9_i (nI s)), some (k9_r 11 s), some (k9_i (nI i))] [] I1 J) (fun q => q = (some (k9_i a), I2, J)) ∧ k9_fx k9_F6 I I2 := by
        intro k
        induction k with
        | zero =>
          intro i n1 o1 I1 hi hO ho hx
          obtain rfl : i = z := by omega
          obtain ⟨I2, n2, o2, e2, O2, ho2, x2, -⟩ := k9s_30 (S := S) (d := d + 17) (J := J) hO ho h6
          have hx2 := k9_fx_tr hx (k9_F6_o x2)
          have i2 : k9_Iv I2 J w V b := k9_Iv_0 (k9_fp_x hx2 (k9_F6_X rfl)) v
          obtain ⟨a, I3, e3, x3⟩ := k9_otroll0 (S := S) (d := d + 11) (J := J) i2.1.1 hf i2.2.2.1.1 O2 (fun j hj => by rw [← hn]; exact ho2 j hj)
          refine ⟨a, I3, k9o_eq k9e_115_19 (k9o_T (by rw [hx 11 s 3 rfl, hz.2.2.1]; omega) (k9o_eq k9e_115_35 ?_)), k9_fx_tr hx2 (k9_F6_t x3)⟩
          rw [hx 3 0 0 rfl, c0]
          refine k9o_call e2 ?_
          simp only [k9_ps_n]
          refine k9o_eq k9e_115_42 (k9o_call e3 ?_)
          simp only [k9_ps_s]
          exact k9o_eq k9e_115_46 (k9o_ret rfl)
        | succ k ih =>
          intro i n1 o1 I1 hi hO ho hx
          have e95 := k9s_95 (S := S) (d := d + 18) (I := I1) (J := J) (i0 := s) (show i < 60 by omega)
          obtain ⟨I2, n2, o2, e2, O2, ho2, x2⟩ := k9s_28a (S := S) (d := d + 18) (J := J) (x := (J 37 s i).toInt32) hO ho h6
          obtain ⟨a, I3, e3, x3⟩ := ih (i + 1) n2 o2 I2 (by omega) O2 ho2 (k9_fx_tr hx (k9_F6_o x2))
          refine ⟨a, I3, k9o_eq k9e_115_19 (k9o_F (by rw [hx 11 s 3 rfl, hz.2.2.1, n_toInt (by omega), n_toInt (by omega)]; omega) (k9o_eq k9e_115_23 (k9o_call e95 ?_))), x3⟩
          simp only [k9_ps_s]
          refine k9o_eq k9e_115_28 ?_
          rw [hx 3 0 0 rfl, c0]
          refine k9o_call e2 ?_
          simp only [k9_ps_n]
          refine k9o_eq k9e_115_33 ?_
          rw [nI_1]
          exact e3
      have e26 := k9s_26 (S := S) (d := d + 19) (I := I) (J := J) (i0 := 0)
      obtain ⟨a1, I2, o2, x2⟩ := kc z 0 0 (fun _ => 0) (k9_u I 7 0 1 0) (by omega) k9_Or_0 (fun j hj => by omega) (k9_fx_u (k9_fx_rf _ _) rfl)
      have i2 : k9_Iv I2 J w V b := k9_Iv_0 (k9_fp_x x2 (k9_F6_X rfl)) v
      have m2 := i2.1.2.1.1
      rw [← hn] at m2
      have z2 : k9_byr I2 s z := k9_by_t (funext fun p => x2 11 s p rfl) (x2 60 0 s rfl) (x2 61 0 s rfl) hz
      have e91 := k9s_91 (S := S) (d := d + 19) (J := J) hz
      have cls : k9_R S (d + 20) 115 0 [some (k9_r 1 0), some (k9_i (nI s)), none, none] [] I J = some (some (k9_i a1), I2, J) := by
        refine k9o_of ?_
        have e144 : k9_R S (d + 19) 144 0 [some (k9_r 1 0), some (k9_i (nI s))] [] I J = some (some (k9_r 11 s), I, J) := by
          refine k9o_of ?_
          simp (disch := omega) only [k9e_144_0, k9e_144_2, k9e_144_5, k9e_144_9, k9e_144_10, k9e_144_11, k9e_144_11b, Nat.reduceEqDiff, Int.reduceEq, Int.reduceLT, Int.reduceLE, k9_ps_s, k9_ps_n, k9_ur, false_and, and_false, true_and, and_true, true_or, or_true, false_or, or_false, eq_self, ↓reduceIte, not_true_eq_false, not_false_eq_true, n_toInt, n_cl, nI_1, nI_add, n_a0, n_p2, n_p3, n_p4, n_x2, n_x3, n_x4, n_x60, n_x100, n_pm1, k9L_m2, k9L_m1, k9L_0, k9L_1, k9L_2, k9L_3, k9L_4, k9L_5, k9L_6, k9L_7, k9L_8, k9L_9, k9L_10, k9L_20, k9L_23, k9L_24, k9L_30, k9L_40, k9L_50, k9L_60, k9L_99, k9L_100, k9L_120, k9L_255, k9L_999, k9L_1000, k9_bs, k9_ba]
          repeat (first | ((with_reducible refine k9q_T ?_ ?_); · omega) | ((with_reducible refine k9q_F ?_ ?_); · omega) | ((with_reducible refine k9q_Tb ?_ ?_); · omega) | ((with_reducible refine k9q_Fb ?_ ?_); · omega) | simp (disch := omega) only [k9e_144_0, k9e_144_2, k9e_144_5, k9e_144_9, k9e_144_10, k9e_144_11, k9e_144_11b, Nat.reduceEqDiff, Int.reduceEq, Int.reduceLT, Int.reduceLE, k9_ps_s, k9_ps_n, k9_ur, false_and, and_false, true_and, and_true, true_or, or_true, false_or, or_false, eq_self, ↓reduceIte, not_true_eq_false, not_false_eq_true, n_toInt, n_cl, nI_1, nI_add, n_a0, n_p2, n_p3, n_p4, n_x2, n_x3, n_x4, n_x60, n_x100, n_pm1, k9L_m2, k9L_m1, k9L_0, k9L_1, k9L_2, k9L_3, k9L_4, k9L_5, k9L_6, k9L_7, k9L_8, k9L_9, k9L_10, k9L_20, k9L_23, k9L_24, k9L_30, k9L_40, k9L_50, k9L_60, k9L_99, k9L_100, k9L_120, k9L_255, k9L_999, k9L_1000, k9_bs, k9_ba])
          exact k9o_ret rfl
        refine k9o_eq k9e_115_0 (k9o_call e144 ?_)
        simp only [k9_ps_s]
        refine k9o_eq k9e_115_3b (k9o_call e91 ?_)
        simp only [k9_ps_s]
        refine k9o_eq k9e_115_10 (k9o_F (by decide) (k9o_eq k9e_115_14 (k9o_call e26 ?_)))
        simp only [k9_ps_n]
        exact k9o_eq k9e_115_17 o2
      -- the reference
      have ref : k9_ok (k9_R S (d + 20) 211 0 [some (k9_r 12 0), some (k9_i (nI s)), none, none, none, none, none, none] [] I2 J) (fun q => ∃ (a2 : Int32) (I3 : k9_I), q = (some (k9_i a2), I3, J) ∧ k9_Inv I3 J) := by
        have e208 := k9s_208 (S := S) (d := d + 19) (J := J) hs6 z2
        have e156 : k9_R S (d + 19) 156 0 [some (k9_i (nI s))] [] I2 J = some (some (k9_i 1), I2, J) := by
          refine k9o_of ?_
          simp (disch := omega) only [k9e_156_0, k9e_156_4, Nat.reduceEqDiff, Int.reduceEq, Int.reduceLT, Int.reduceLE, k9_ps_s, k9_ps_n, k9_ur, false_and, and_false, true_and, and_true, true_or, or_true, false_or, or_false, eq_self, ↓reduceIte, not_true_eq_false, not_false_eq_true, n_toInt, n_cl, nI_1, nI_add, n_a0, n_p2, n_p3, n_p4, n_x2, n_x3, n_x4, n_x60, n_x100, n_pm1, k9L_m2, k9L_m1, k9L_0, k9L_1, k9L_2, k9L_3, k9L_4, k9L_5, k9L_6, k9L_7, k9L_8, k9L_9, k9L_10, k9L_20, k9L_23, k9L_24, k9L_30, k9L_40, k9L_50, k9L_60, k9L_99, k9L_100, k9L_120, k9L_255, k9L_999, k9L_1000, k9_bs, k9_ba]
          repeat (first | ((with_reducible refine k9q_T ?_ ?_); · omega) | ((with_reducible refine k9q_F ?_ ?_); · omega) | ((with_reducible refine k9q_Tb ?_ ?_); · omega) | ((with_reducible refine k9q_Fb ?_ ?_); · omega) | (refine k9o_call (k9s_153 (by first | omega | (simp (disch := omega) only [n_toInt, n_pm1, k9L_m2, k9L_m1, k9L_0, k9L_1, k9L_2, k9L_3, k9L_4, k9L_5, k9L_6, k9L_7, k9L_8, k9L_9, k9L_10, k9L_20, k9L_23, k9L_24, k9L_30, k9L_40, k9L_50, k9L_60, k9L_99, k9L_100, k9L_120, k9L_255, k9L_999, k9L_1000]; omega))) ?_; simp (disch := omega) only [k9e_156_0, k9e_156_4, Nat.reduceEqDiff, Int.reduceEq, Int.reduceLT, Int.reduceLE, k9_ps_s, k9_ps_n, k9_ur, false_and, and_false, true_and, and_true, true_or, or_true, false_or, or_false, eq_self, ↓reduceIte, not_true_eq_false, not_false_eq_true, n_toInt, n_cl, nI_1, nI_add, n_a0, n_p2, n_p3, n_p4, n_x2, n_x3, n_x4, n_x60, n_x100, n_pm1, k9L_m2, k9L_m1, k9L_0, k9L_1, k9L_2, k9L_3, k9L_4, k9L_5, k9L_6, k9L_7, k9L_8, k9L_9, k9L_10, k9L_20, k9L_23, k9L_24, k9L_30, k9L_40, k9L_50, k9L_60, k9L_99, k9L_100, k9L_120, k9L_255, k9L_999, k9L_1000, k9_bs, k9_ba]) | (refine k9o_call (k9s_153x (by first | omega | (simp (disch := omega) only [n_toInt, n_pm1, k9L_m2, k9L_m1, k9L_0, k9L_1, k9L_2, k9L_3, k9L_4, k9L_5, k9L_6, k9L_7, k9L_8, k9L_9, k9L_10, k9L_20, k9L_23, k9L_24, k9L_30, k9L_40, k9L_50, k9L_60, k9L_99, k9L_100, k9L_120, k9L_255, k9L_999, k9L_1000]; omega))) ?_; simp (disch := omega) only [k9e_156_0, k9e_156_4, Nat.reduceEqDiff, Int.reduceEq, Int.reduceLT, Int.reduceLE, k9_ps_s, k9_ps_n, k9_ur, false_and, and_false, true_and, and_true, true_or, or_true, false_or, or_false, eq_self, ↓reduceIte, not_true_eq_false, not_false_eq_true, n_toInt, n_cl, nI_1, nI_add, n_a0, n_p2, n_p3, n_p4, n_x2, n_x3, n_x4, n_x60, n_x100, n_pm1, k9L_m2, k9L_m1, k9L_0, k9L_1, k9L_2, k9L_3, k9L_4, k9L_5, k9L_6, k9L_7, k9L_8, k9L_9, k9L_10, k9L_20, k9L_23, k9L_24, k9L_30, k9L_40, k9L_50, k9L_60, k9L_99, k9L_100, k9L_120, k9L_255, k9L_999, k9L_1000, k9_bs, k9_ba]) | simp (disch := omega) only [k9e_156_0, k9e_156_4, Nat.reduceEqDiff, Int.reduceEq, Int.reduceLT, Int.reduceLE, k9_ps_s, k9_ps_n, k9_ur, false_and, and_false, true_and, and_true, true_or, or_true, false_or, or_false, eq_self, ↓reduceIte, not_true_eq_false, not_false_eq_true, n_toInt, n_cl, nI_1, nI_add, n_a0, n_p2, n_p3, n_p4, n_x2, n_x3, n_x4, n_x60, n_x100, n_pm1, k9L_m2, k9L_m1, k9L_0, k9L_1, k9L_2, k9L_3, k9L_4, k9L_5, k9L_6, k9L_7, k9L_8, k9L_9, k9L_10, k9L_20, k9L_23, k9L_24, k9L_30, k9L_40, k9L_50, k9L_60, k9L_99, k9L_100, k9L_120, k9L_255, k9L_999, k9L_1000, k9_bs, k9_ba])
          exact k9o_ret rfl
        refine k9o_eq k9e_211_0 (k9o_call e156 ?_)
        simp only [k9_ps_s]
        refine k9o_eq k9e_211_2 (k9o_F (by decide) (k9o_eq k9e_211_5 (k9o_call e208 ?_)))
        simp only [k9_ps_s]
        refine k9o_eq k9e_211_8 (k9o_T (by decide) (k9s_211l m2 h6 hs6 hz60 z2.2.2.2.2.1 (fun m o I3 hL x3 x4 x5 => ?_)))
        obtain ⟨I4, o4, e4, L4, x4'⟩ := k9s_210 (S := S) (d := d + 19) (J := J) ((x3 12 0 0 rfl).trans m2) h6 hL
        have hx4 := k9_fx_tr (k9_Fq_63 x3) (k9_Fq_63 x4')
        have i4 : k9_Iv I4 J w V b := k9_Iv_0 (k9_fp_x hx4 (k9_Fq_X rfl)) i2
        obtain ⟨I5, e5, m5, x5'⟩ := k9_orun (S := S) (d := d + 15) (J := J) (o := o4) (x := -1) i4.1.2.1 hf i4.2.2.1.2 (fun j hj => L4.1 j (by omega)) (fun j hj => by rw [← hn] at hj ⊢; exact L4.2.1 j hj) (fun i j hi hj e => L4.2.2 i j (by omega) (by omega) e)
        have hlen := p_len_b (k9_wf_cm (o := o4) hf (fun j hj => by rw [← hn] at hj ⊢; exact L4.2.1 j hj))
        obtain ⟨I6, e6, k6, x6⟩ := k9s_191 (S := S) (d := d + 19) (J := J) m5 (by omega) (fun t => p_sh_b t)
        have hx6 : k9_fx k9_F7 I2 I6 := k9_fx_tr (k9_fx_tr (k9_F7_q hx4) (k9_F7_q (k9_Fq_of x5'))) (k9_F7_44 x6)
        refine k9o_eq k9e_211_61 (k9o_call e4 ?_)
        simp only [k9_ps_n]
        refine k9o_eq k9e_211_64 (k9o_call e5 ?_)
        simp only [k9_ps_n]
        refine k9o_eq k9e_211_67 (k9o_call e6 ?_)
        simp only [k9_ps_n]
        exact k9o_eq k9e_211_69 (k9o_ret ⟨_, _, rfl, k9_Iv_e (k9_Iv_0 (k9_fp_x hx6 (k9_F7_X rfl)) i2)⟩)
      obtain ⟨q, eq, a2, I3, rfl, i3⟩ := ref
      exact ⟨a1, a2, I2, J, I3, J, cls, eq, i3⟩
    · refine Or.inl (k9P_of ?_)
      have e91 := k9s_91x (S := S) (d := d + 19) (J := J) hr
      have e92 := k9s_92 (S := S) (d := d + 19) (J := J) hr
      have e208 := k9s_208x (S := S) (d := d + 19) (J := J) hs6 hr
      have hneg := k9_nb_r hr
      simp (disch := omega) only [k9e_115_0, k9e_115_3, k9e_115_3b, k9e_115_10, k9e_115_11, k9e_115_13, k9e_144_0, k9e_144_2, k9e_144_5, k9e_144_9, k9e_144_10, k9e_144_11, k9e_144_11b, Nat.reduceEqDiff, Int.reduceEq, Int.reduceLT, Int.reduceLE, k9_ps_s, k9_ps_n, k9_ur, false_and, and_false, true_and, and_true, true_or, or_true, false_or, or_false, eq_self, ↓reduceIte, not_true_eq_false, not_false_eq_true, n_toInt, n_cl, nI_1, nI_add, n_a0, n_p2, n_p3, n_p4, n_x2, n_x3, n_x4, n_x60, n_x100, n_pm1, k9L_m2, k9L_m1, k9L_0, k9L_1, k9L_2, k9L_3, k9L_4, k9L_5, k9L_6, k9L_7, k9L_8, k9L_9, k9L_10, k9L_20, k9L_23, k9L_24, k9L_30, k9L_40, k9L_50, k9L_60, k9L_99, k9L_100, k9L_120, k9L_255, k9L_999, k9L_1000, k9_bs, k9_ba]
      repeat (first | ((with_reducible refine k9q_T ?_ ?_); · omega) | ((with_reducible refine k9q_F ?_ ?_); · omega) | ((with_reducible refine k9q_Tb ?_ ?_); · omega) | ((with_reducible refine k9q_Fb ?_ ?_); · omega) | (refine k9o_call (e91) ?_; simp (disch := omega) only [k9e_115_0, k9e_115_3, k9e_115_3b, k9e_115_10, k9e_115_11, k9e_115_13, k9e_144_0, k9e_144_2, k9e_144_5, k9e_144_9, k9e_144_10, k9e_144_11, k9e_144_11b, Nat.reduceEqDiff, Int.reduceEq, Int.reduceLT, Int.reduceLE, k9_ps_s, k9_ps_n, k9_ur, false_and, and_false, true_and, and_true, true_or, or_true, false_or, or_false, eq_self, ↓reduceIte, not_true_eq_false, not_false_eq_true, n_toInt, n_cl, nI_1, nI_add, n_a0, n_p2, n_p3, n_p4, n_x2, n_x3, n_x4, n_x60, n_x100, n_pm1, k9L_m2, k9L_m1, k9L_0, k9L_1, k9L_2, k9L_3, k9L_4, k9L_5, k9L_6, k9L_7, k9L_8, k9L_9, k9L_10, k9L_20, k9L_23, k9L_24, k9L_30, k9L_40, k9L_50, k9L_60, k9L_99, k9L_100, k9L_120, k9L_255, k9L_999, k9L_1000, k9_bs, k9_ba]) | (refine k9o_call (e92) ?_; simp (disch := omega) only [k9e_115_0, k9e_115_3, k9e_115_3b, k9e_115_10, k9e_115_11, k9e_115_13, k9e_144_0, k9e_144_2, k9e_144_5, k9e_144_9, k9e_144_10, k9e_144_11, k9e_144_11b, Nat.reduceEqDiff, Int.reduceEq, Int.reduceLT, Int.reduceLE, k9_ps_s, k9_ps_n, k9_ur, false_and, and_false, true_and, and_true, true_or, or_true, false_or, or_false, eq_self, ↓reduceIte, not_true_eq_false, not_false_eq_true, n_toInt, n_cl, nI_1, nI_add, n_a0, n_p2, n_p3, n_p4, n_x2, n_x3, n_x4, n_x60, n_x100, n_pm1, k9L_m2, k9L_m1, k9L_0, k9L_1, k9L_2, k9L_3, k9L_4, k9L_5, k9L_6, k9L_7, k9L_8, k9L_9, k9L_10, k9L_20, k9L_23, k9L_24, k9L_30, k9L_40, k9L_50, k9L_60, k9L_99, k9L_100, k9L_120, k9L_255, k9L_999, k9L_1000, k9_bs, k9_ba]) | simp (disch := omega) only [k9e_115_0, k9e_115_3, k9e_115_3b, k9e_115_10, k9e_115_11, k9e_115_13, k9e_144_0, k9e_144_2, k9e_144_5, k9e_144_9, k9e_144_10, k9e_144_11, k9e_144_11b, Nat.reduceEqDiff, Int.reduceEq, Int.reduceLT, Int.reduceLE, k9_ps_s, k9_ps_n, k9_ur, false_and, and_false, true_and, and_true, true_or, or_true, false_or, or_false, eq_self, ↓reduceIte, not_true_eq_false, not_false_eq_true, n_toInt, n_cl, nI_1, nI_add, n_a0, n_p2, n_p3, n_p4, n_x2, n_x3, n_x4, n_x60, n_x100, n_pm1, k9L_m2, k9L_m1, k9L_0, k9L_1, k9L_2, k9L_3, k9L_4, k9L_5, k9L_6, k9L_7, k9L_8, k9L_9, k9L_10, k9L_20, k9L_23, k9L_24, k9L_30, k9L_40, k9L_50, k9L_60, k9L_99, k9L_100, k9L_120, k9L_255, k9L_999, k9L_1000, k9_bs, k9_ba])
      refine k9o_ret ⟨_, _, _, rfl, ?_⟩
      simp (disch := omega) only [k9e_211_0, k9e_211_2, k9e_211_3, k9e_211_5, k9e_211_8, k9e_211_11, k9e_156_0, k9e_156_4, Nat.reduceEqDiff, Int.reduceEq, Int.reduceLT, Int.reduceLE, k9_ps_s, k9_ps_n, k9_ur, false_and, and_false, true_and, and_true, true_or, or_true, false_or, or_false, eq_self, ↓reduceIte, not_true_eq_false, not_false_eq_true, n_toInt, n_cl, nI_1, nI_add, n_a0, n_p2, n_p3, n_p4, n_x2, n_x3, n_x4, n_x60, n_x100, n_pm1, k9L_m2, k9L_m1, k9L_0, k9L_1, k9L_2, k9L_3, k9L_4, k9L_5, k9L_6, k9L_7, k9L_8, k9L_9, k9L_10, k9L_20, k9L_23, k9L_24, k9L_30, k9L_40, k9L_50, k9L_60, k9L_99, k9L_100, k9L_120, k9L_255, k9L_999, k9L_1000, k9_bs, k9_ba]
      repeat (first | ((with_reducible refine k9q_T ?_ ?_); · omega) | ((with_reducible refine k9q_F ?_ ?_); · omega) | ((with_reducible refine k9q_Tb ?_ ?_); · omega) | ((with_reducible refine k9q_Fb ?_ ?_); · omega) | (refine k9o_call (e208) ?_; simp (disch := omega) only [k9e_211_0, k9e_211_2, k9e_211_3, k9e_211_5, k9e_211_8, k9e_211_11, k9e_156_0, k9e_156_4, Nat.reduceEqDiff, Int.reduceEq, Int.reduceLT, Int.reduceLE, k9_ps_s, k9_ps_n, k9_ur, false_and, and_false, true_and, and_true, true_or, or_true, false_or, or_false, eq_self, ↓reduceIte, not_true_eq_false, not_false_eq_true, n_toInt, n_cl, nI_1, nI_add, n_a0, n_p2, n_p3, n_p4, n_x2, n_x3, n_x4, n_x60, n_x100, n_pm1, k9L_m2, k9L_m1, k9L_0, k9L_1, k9L_2, k9L_3, k9L_4, k9L_5, k9L_6, k9L_7, k9L_8, k9L_9, k9L_10, k9L_20, k9L_23, k9L_24, k9L_30, k9L_40, k9L_50, k9L_60, k9L_99, k9L_100, k9L_120, k9L_255, k9L_999, k9L_1000, k9_bs, k9_ba]) | (refine k9o_call (k9s_153 (by first | omega | (simp (disch := omega) only [n_toInt, n_pm1, k9L_m2, k9L_m1, k9L_0, k9L_1, k9L_2, k9L_3, k9L_4, k9L_5, k9L_6, k9L_7, k9L_8, k9L_9, k9L_10, k9L_20, k9L_23, k9L_24, k9L_30, k9L_40, k9L_50, k9L_60, k9L_99, k9L_100, k9L_120, k9L_255, k9L_999, k9L_1000]; omega))) ?_; simp (disch := omega) only [k9e_211_0, k9e_211_2, k9e_211_3, k9e_211_5, k9e_211_8, k9e_211_11, k9e_156_0, k9e_156_4, Nat.reduceEqDiff, Int.reduceEq, Int.reduceLT, Int.reduceLE, k9_ps_s, k9_ps_n, k9_ur, false_and, and_false, true_and, and_true, true_or, or_true, false_or, or_false, eq_self, ↓reduceIte, not_true_eq_false, not_false_eq_true, n_toInt, n_cl, nI_1, nI_add, n_a0, n_p2, n_p3, n_p4, n_x2, n_x3, n_x4, n_x60, n_x100, n_pm1, k9L_m2, k9L_m1, k9L_0, k9L_1, k9L_2, k9L_3, k9L_4, k9L_5, k9L_6, k9L_7, k9L_8, k9L_9, k9L_10, k9L_20, k9L_23, k9L_24, k9L_30, k9L_40, k9L_50, k9L_60, k9L_99, k9L_100, k9L_120, k9L_255, k9L_999, k9L_1000, k9_bs, k9_ba]) | (refine k9o_call (k9s_153x (by first | omega | (simp (disch := omega) only [n_toInt, n_pm1, k9L_m2, k9L_m1, k9L_0, k9L_1, k9L_2, k9L_3, k9L_4, k9L_5, k9L_6, k9L_7, k9L_8, k9L_9, k9L_10, k9L_20, k9L_23, k9L_24, k9L_30, k9L_40, k9L_50, k9L_60, k9L_99, k9L_100, k9L_120, k9L_255, k9L_999, k9L_1000]; omega))) ?_; simp (disch := omega) only [k9e_211_0, k9e_211_2, k9e_211_3, k9e_211_5, k9e_211_8, k9e_211_11, k9e_156_0, k9e_156_4, Nat.reduceEqDiff, Int.reduceEq, Int.reduceLT, Int.reduceLE, k9_ps_s, k9_ps_n, k9_ur, false_and, and_false, true_and, and_true, true_or, or_true, false_or, or_false, eq_self, ↓reduceIte, not_true_eq_false, not_false_eq_true, n_toInt, n_cl, nI_1, nI_add, n_a0, n_p2, n_p3, n_p4, n_x2, n_x3, n_x4, n_x60, n_x100, n_pm1, k9L_m2, k9L_m1, k9L_0, k9L_1, k9L_2, k9L_3, k9L_4, k9L_5, k9L_6, k9L_7, k9L_8, k9L_9, k9L_10, k9L_20, k9L_23, k9L_24, k9L_30, k9L_40, k9L_50, k9L_60, k9L_99, k9L_100, k9L_120, k9L_255, k9L_999, k9L_1000, k9_bs, k9_ba]) | simp (disch := omega) only [k9e_211_0, k9e_211_2, k9e_211_3, k9e_211_5, k9e_211_8, k9e_211_11, k9e_156_0, k9e_156_4, Nat.reduceEqDiff, Int.reduceEq, Int.reduceLT, Int.reduceLE, k9_ps_s, k9_ps_n, k9_ur, false_and, and_false, true_and, and_true, true_or, or_true, false_or, or_false, eq_self, ↓reduceIte, not_true_eq_false, not_false_eq_true, n_toInt, n_cl, nI_1, nI_add, n_a0, n_p2, n_p3, n_p4, n_x2, n_x3, n_x4, n_x60, n_x100, n_pm1, k9L_m2, k9L_m1, k9L_0, k9L_1, k9L_2, k9L_3, k9L_4, k9L_5, k9L_6, k9L_7, k9L_8, k9L_9, k9L_10, k9L_20, k9L_23, k9L_24, k9L_30, k9L_40, k9L_50, k9L_60, k9L_99, k9L_100, k9L_120, k9L_255, k9L_999, k9L_1000, k9_bs, k9_ba])
      exact k9o_ret ⟨_, _, rfl, hI'⟩
  · refine Or.inl (k9P_of ?_)
    repeat' (first | ((with_reducible refine k9q_T ?_ ?_); · omega) | ((with_reducible refine k9q_F ?_ ?_); · omega) | ((with_reducible refine k9q_Tb ?_ ?_); · omega) | ((with_reducible refine k9q_Fb ?_ ?_); · omega) | simp (disch := omega) only [k9e_115_0, k9e_115_3, k9e_115_3b, k9e_144_0, k9e_144_2, k9e_144_5, k9e_144_9, k9e_144_10, k9e_144_11, k9e_144_11b, Nat.reduceEqDiff, Int.reduceEq, Int.reduceLT, Int.reduceLE, k9_ps_s, k9_ps_n, k9_ur, false_and, and_false, true_and, and_true, true_or, or_true, false_or, or_false, eq_self, ↓reduceIte, not_true_eq_false, not_false_eq_true, n_toInt, n_cl, nI_1, nI_add, n_a0, n_p2, n_p3, n_p4, n_x2, n_x3, n_x4, n_x60, n_x100, n_pm1, k9L_m2, k9L_m1, k9L_0, k9L_1, k9L_2, k9L_3, k9L_4, k9L_5, k9L_6, k9L_7, k9L_8, k9L_9, k9L_10, k9L_20, k9L_23, k9L_24, k9L_30, k9L_40, k9L_50, k9L_60, k9L_99, k9L_100, k9L_120, k9L_255, k9L_999, k9L_1000, k9_bs, k9_ba] | (with_reducible refine k9q_if (fun _ => ?_) (fun _ => ?_)) | (with_reducible refine k9q_ifb (fun _ => ?_) (fun _ => ?_)))
    all_goals refine k9o_ret ⟨_, _, _, rfl, ?_⟩
    all_goals repeat' (first | ((with_reducible refine k9q_T ?_ ?_); · omega) | ((with_reducible refine k9q_F ?_ ?_); · omega) | ((with_reducible refine k9q_Tb ?_ ?_); · omega) | ((with_reducible refine k9q_Fb ?_ ?_); · omega) | (refine k9o_call (k9s_153 (by first | omega | (simp (disch := omega) only [n_toInt, n_pm1, k9L_m2, k9L_m1, k9L_0, k9L_1, k9L_2, k9L_3, k9L_4, k9L_5, k9L_6, k9L_7, k9L_8, k9L_9, k9L_10, k9L_20, k9L_23, k9L_24, k9L_30, k9L_40, k9L_50, k9L_60, k9L_99, k9L_100, k9L_120, k9L_255, k9L_999, k9L_1000]; omega))) ?_; simp (disch := omega) only [k9e_211_0, k9e_211_2, k9e_211_3, k9e_156_0, k9e_156_4, Nat.reduceEqDiff, Int.reduceEq, Int.reduceLT, Int.reduceLE, k9_ps_s, k9_ps_n, k9_ur, false_and, and_false, true_and, and_true, true_or, or_true, false_or, or_false, eq_self, ↓reduceIte, not_true_eq_false, not_false_eq_true, n_toInt, n_cl, nI_1, nI_add, n_a0, n_p2, n_p3, n_p4, n_x2, n_x3, n_x4, n_x60, n_x100, n_pm1, k9L_m2, k9L_m1, k9L_0, k9L_1, k9L_2, k9L_3, k9L_4, k9L_5, k9L_6, k9L_7, k9L_8, k9L_9, k9L_10, k9L_20, k9L_23, k9L_24, k9L_30, k9L_40, k9L_50, k9L_60, k9L_99, k9L_100, k9L_120, k9L_255, k9L_999, k9L_1000, k9_bs, k9_ba]) | (refine k9o_call (k9s_153x (by first | omega | (simp (disch := omega) only [n_toInt, n_pm1, k9L_m2, k9L_m1, k9L_0, k9L_1, k9L_2, k9L_3, k9L_4, k9L_5, k9L_6, k9L_7, k9L_8, k9L_9, k9L_10, k9L_20, k9L_23, k9L_24, k9L_30, k9L_40, k9L_50, k9L_60, k9L_99, k9L_100, k9L_120, k9L_255, k9L_999, k9L_1000]; omega))) ?_; simp (disch := omega) only [k9e_211_0, k9e_211_2, k9e_211_3, k9e_156_0, k9e_156_4, Nat.reduceEqDiff, Int.reduceEq, Int.reduceLT, Int.reduceLE, k9_ps_s, k9_ps_n, k9_ur, false_and, and_false, true_and, and_true, true_or, or_true, false_or, or_false, eq_self, ↓reduceIte, not_true_eq_false, not_false_eq_true, n_toInt, n_cl, nI_1, nI_add, n_a0, n_p2, n_p3, n_p4, n_x2, n_x3, n_x4, n_x60, n_x100, n_pm1, k9L_m2, k9L_m1, k9L_0, k9L_1, k9L_2, k9L_3, k9L_4, k9L_5, k9L_6, k9L_7, k9L_8, k9L_9, k9L_10, k9L_20, k9L_23, k9L_24, k9L_30, k9L_40, k9L_50, k9L_60, k9L_99, k9L_100, k9L_120, k9L_255, k9L_999, k9L_1000, k9_bs, k9_ba]) | simp (disch := omega) only [k9e_211_0, k9e_211_2, k9e_211_3, k9e_156_0, k9e_156_4, Nat.reduceEqDiff, Int.reduceEq, Int.reduceLT, Int.reduceLE, k9_ps_s, k9_ps_n, k9_ur, false_and, and_false, true_and, and_true, true_or, or_true, false_or, or_false, eq_self, ↓reduceIte, not_true_eq_false, not_false_eq_true, n_toInt, n_cl, nI_1, nI_add, n_a0, n_p2, n_p3, n_p4, n_x2, n_x3, n_x4, n_x60, n_x100, n_pm1, k9L_m2, k9L_m1, k9L_0, k9L_1, k9L_2, k9L_3, k9L_4, k9L_5, k9L_6, k9L_7, k9L_8, k9L_9, k9L_10, k9L_20, k9L_23, k9L_24, k9L_30, k9L_40, k9L_50, k9L_60, k9L_99, k9L_100, k9L_120, k9L_255, k9L_999, k9L_1000, k9_bs, k9_ba] | (with_reducible refine k9q_if (fun _ => ?_) (fun _ => ?_)) | (with_reducible refine k9q_ifb (fun _ => ?_) (fun _ => ?_)))
    all_goals exact k9o_ret ⟨_, _, rfl, hI'⟩
end KT34

/-! BODIES: act, the class -/
section KT35
variable {S : k9_S} {d : Nat} {I I' : k9_I} {J J' : k9_J} {w : Nat → Nat → Nat} {V : (Nat → Int32) → Int32} {b : Nat} {x1 x2 x3 : Int32} {h c : Nat → Nat} {L A f M : Nat}
def p_tb (k a : Nat) : Nat := k9_nth 0 [1, 10, 11, 2, 20, 0, 0, 0, 0, 30, 0, 0, 0, 41, 40, 0, 0, 0, 50, 0, 0, 0, 0, 60, 70, 0, 0, 0, 0, 80, 0, 81] (4 * k + a)
theorem p_tb_t : ∀ k, k ≤ 7 → ∀ a, a ≤ 3 → k9_tab 83 (4 * k + a) = nI (p_tb k a) := by decide +kernel
theorem p_tb_8 : ∀ a, a ≤ 3 → p_tb 8 a = 0 := by decide
theorem p_ab_8 : ∀ k, k ≤ 8 → p_ab k ≤ 8 := by decide
theorem p_tb_b : ∀ k, k ≤ 8 → ∀ a, a ≤ 3 → p_tb k a ≤ 81 := by decide +kernel
theorem k9s_86 {k a : Nat} (hk : k ≤ 8) (ha : a ≤ 3) : k9_R S d 86 0 [some (k9_i (p_vv k)), some (k9_i (nI a))] [] I J = some (some (k9_i (nI (p_tb k a))), I, J) := by
  refine k9o_of (k9o_eq k9e_86_0 ?_)
  by_cases e : k = 8
  · subst e
    rw [p_tb_8 a ha]
    exact k9o_T (by decide) (k9o_eq k9e_86_18 (k9o_eq k9e_86_19 (k9o_ret rfl)))
  · rw [show p_vv k = nI k from if_neg e]
    refine k9o_F (by rw [n_toInt (by omega)]; omega) (k9o_eq k9e_86_2 (k9o_F (by rw [n_toInt (by omega)]; omega) (k9o_eq k9e_86_5 (k9o_F (by rw [n_toInt (by omega)]; omega) (k9o_eq k9e_86_7 (k9o_F (by rw [n_toInt (by omega)]; omega) (k9o_eq k9e_86_10 ?_)))))))
    rw [show nI k * (4 : Int32) + nI a = nI (4 * k + a) from by rw [show (4 : Int32) = nI 4 from rfl, n_mul, nI_add, Nat.mul_comm]]
    refine k9o_T (by rw [n_toInt (by omega)]; omega) ?_
    rw [n_cl (by omega), p_tb_t k (by omega) a ha]
    exact k9o_eq k9e_86_17 (k9o_eq k9e_86_19 (k9o_ret rfl))
def p_wk : Nat → Nat → Nat → Nat
  | 0, k, _ => k
  | n + 1, k, a => if p_tb k a = 0 then p_wk n (p_ab k) a else k
theorem p_wk_b (a : Nat) : ∀ n k, k ≤ 8 → p_wk n k a ≤ 8
  | 0, _, h => h
  | n + 1, k, h => by
    rw [p_wk]
    split
    · exact p_wk_b a n _ (p_ab_8 k h)
    · exact h
/-- a name noted -/
def k9_nt (I : k9_I) (n : Nat) : k9_I := k9_u (if 0 ≤ (I 10 0 1).toInt ∧ (I 10 0 1).toInt < 24 then k9_u I 36 0 (I 10 0 1).toNatClampNeg (nI n) else I) 10 0 1 (I 10 0 1 + 1)
def k9_tc (I : k9_I) : List Nat → k9_I
  | [] => I
  | n :: l => k9_tc (k9_nt I n) l
theorem k9_tc_a (I : k9_I) (l m : List Nat) : k9_tc I (l ++ m) = k9_tc (k9_tc I l) m := by
  induction l generalizing I with
  | nil => rfl
  | cons n l ih => exact ih _
theorem k9s_87 {n : Nat} : k9_R S d 87 0 [some (k9_r 10 0), some (k9_i (nI n))] [] I J = some (none, k9_nt I n, J) := by
  have e1 : ¬ (0 ≤ (I 10 0 1).toInt ∧ (I 10 0 1).toInt < 24) → k9_nt I n = k9_u I 10 0 1 (I 10 0 1 + 1) := fun c => by
    unfold k9_nt
    rw [if_neg c]
  have e2 : (0 ≤ (I 10 0 1).toInt ∧ (I 10 0 1).toInt < 24) → k9_nt I n = k9_u (k9_u I 36 0 (I 10 0 1).toNatClampNeg (nI n)) 10 0 1 (I 10 0 1 + 1) := fun c => by
    unfold k9_nt
    rw [if_pos c]
  refine k9o_of (k9o_eq k9e_87_0 ?_)
  by_cases c1 : (I 10 0 1).toInt < 0
  · exact k9o_T c1 (k9o_eq k9e_87_13 (k9o_ret (by rw [e1 (by omega)])))
  · refine k9o_F c1 (k9o_eq k9e_87_3 ?_)
    by_cases c2 : 24 ≤ (I 10 0 1).toInt
    · exact k9o_T c2 (k9o_eq k9e_87_13 (k9o_ret (by rw [e1 (by omega)])))
    · refine k9o_F c2 (k9o_eq k9e_87_7 (k9o_T (by omega) (k9o_eq k9e_87_13 (k9o_ret ?_))))
      rw [e2 (by omega)]
      simp [k9_ur]
def k9_ac (I : k9_I) (g : Nat) (x1 : Int32) : Prop := I 10 0 4 = x1 ∧ ∃ b i : Nat, b ≤ 50 ∧ I 10 0 0 = nI b ∧ i < b ∧ x1 = nI i ∧ I 35 0 i = nI g
theorem k9_ac_n {g n : Nat} (hA : k9_ac I g x1) : k9_ac (k9_nt I n) g x1 := by
  obtain ⟨a, b, i, h1, h2, h3, h4, h5⟩ := hA
  unfold k9_nt
  refine ⟨?_, b, i, h1, ?_, h3, h4, ?_⟩
  · split <;> simp [k9_ur, a]
  · split <;> simp [k9_ur, h2]
  · split <;> simp [k9_ur, h5]
theorem k9_ac_c {g : Nat} (l : List Nat) (hA : k9_ac I g x1) : k9_ac (k9_tc I l) g x1 := by
  induction l generalizing I with
  | nil => exact hA
  | cons n l ih => exact ih (k9_ac_n hA)
theorem k9s_78a {g : Nat} (hA : k9_ac I g x1) : k9_R S d 78 0 [some (k9_r 10 0), some (k9_i (I 10 0 4))] [] I J = some (some (k9_i (nI g)), I, J) := by
  obtain ⟨a, b, i, h1, h2, h3, rfl, h5⟩ := hA
  rw [a]
  refine k9o_of (k9o_eq k9e_78_0 (k9o_F (by rw [n_toInt (by omega)]; omega) (k9o_eq k9e_78_2 (k9o_F (by rw [h2, n_toInt (by omega), n_toInt (by omega)]; omega) (k9o_eq k9e_78_6 (k9o_F (by rw [n_toInt (by omega)]; omega) (k9o_eq k9e_78_9 (k9o_T (by rw [n_toInt (by omega)]; omega) ?_))))))))
  rw [n_cl (by omega), h5]
  exact k9o_eq k9e_78_13 (k9o_eq k9e_78_15 (k9o_ret rfl))
/-- a name's body -/
def p_cn (r : Nat → Nat → Int32 → Option (List Nat × Int32)) (g pk nm : Nat) (x1 x3 : Int32) : Option (List Nat × Int32) :=
  if nm = 1 then some ([], x3 + x1)
  else if nm = 2 then (r g 1 x3).bind fun u => (r g 2 1).bind fun v => some (u.1 ++ v.1, u.2 - v.2)
  else if nm = 10 then (r g 0 x3).bind fun u => some (u.1, u.2 * 2)
  else if nm = 11 then some ([], x3 ^^^ x1)
  else if nm = 20 then (r pk 0 x3).bind fun u => some (u.1, u.2 + 3)
  else if nm = 30 then (r pk 1 x3).bind fun u => some (u.1, -u.2)
  else if nm = 40 then (r pk 2 x3).bind fun u => some (u.1, u.2 * 3)
  else if nm = 41 then r pk 1 (x3 + 1)
  else if nm = 50 then (r pk 2 x3).bind fun u => (r g 0 2).bind fun v => some (u.1 ++ v.1, u.2 - v.2)
  else if nm = 60 then (r pk 3 x3).bind fun u => some (u.1, u.2 ^^^ 5)
  else if nm = 70 then (r pk 0 x3).bind fun u => some (u.1, u.2 * 2)
  else if nm = 80 then (r pk 1 x3).bind fun u => (r g 2 2).bind fun v => some (u.1 ++ v.1, u.2 + v.2)
  else if nm = 81 then (r pk 3 x3).bind fun u => some (u.1, u.2 - 1)
  else some ([], 0)
def p_ca (g : Nat) (x1 : Int32) : Nat → Nat → Nat → Int32 → Option (List Nat × Int32)
  | 0, _, _, _ => none
  | f + 1, k, a, x3 => if p_tb (p_wk 8 k a) a = 0 then some ([], 0) else (p_cn (p_ca g x1 f) g (p_ab (p_wk 8 k a)) (p_tb (p_wk 8 k a) a) x1 x3).bind fun u => some (p_tb (p_wk 8 k a) a :: u.1, u.2)
end KT35

/-! BODIES: act, the class's runs -/
section KT36
variable {S : k9_S} {d : Nat} {I I' : k9_I} {J J' : k9_J} {x1 x2 x3 : Int32} {g f a e pk nm : Nat} {u : List Nat × Int32}
def k9a_85 (S : k9_S) (x1 : Int32) (g f : Nat) : Prop := ∀ (d : Nat) (I : k9_I) (J : k9_J) (k a : Nat) (x3 : Int32) (e : Nat) (u : List Nat × Int32), k9_ac I g x1 → k ≤ 8 → a ≤ 3 → e + f ≤ 40 → p_ca g x1 f k a x3 = some u → k9_R S (d + 3 * f) 85 0 [some (k9_r 10 0), some (k9_i (p_vv k)), some (k9_i (nI a)), some (k9_i x3), some (k9_i (nI e)), none, none] [] I J = some (some (k9_i u.2), k9_tc I u.1, J)
theorem k9a_85a (h : k9a_85 S x1 g f) (hA : k9_ac I g x1) (hk : pk ≤ 8) (ha : a ≤ 3) (he : e + f ≤ 40) (hu : p_ca g x1 f pk a x3 = some u) : k9_R S (d + 3 * f + 1) 85 0 [some (k9_r 10 0), some (k9_i (p_vv pk)), some (k9_i (nI a)), some (k9_i x3), some (k9_i (nI e)), none, none] [] I J = some (some (k9_i u.2), k9_tc I u.1, J) := by
  have := h (d + 1) I J pk a x3 e u hA hk ha he hu
  rw [show d + 1 + 3 * f = d + 3 * f + 1 by omega] at this
  exact this
theorem k9a_84 (hg : g ≤ 7) (h : k9a_85 S x1 g f) (hA : k9_ac I g x1) (ha : a ≤ 3) (he : e + f ≤ 40) (hu : p_ca g x1 f g a x3 = some u) : k9_R S (d + 3 * f + 1) 84 0 [some (k9_r 10 0), some (k9_i (nI a)), some (k9_i x3), some (k9_i (nI e))] [] I J = some (some (k9_i u.2), k9_tc I u.1, J) := by
  have h85 := h d I J g a x3 e u hA (by omega) ha he hu
  rw [show p_vv g = nI g from if_neg (by omega)] at h85
  refine k9o_of (k9o_eq k9e_84_0 (k9o_call (k9s_78a hA) ?_))
  simp only [k9_ps_s]
  refine k9o_eq k9e_84_5 (k9o_call h85 ?_)
  simp only [k9_ps_s]
  exact k9o_eq k9e_84_9 (k9o_ret rfl)
theorem k9a_88 (hg : g ≤ 7) (h : k9a_85 S x1 g f) (hA : k9_ac I g x1) (hk : pk ≤ 8) (he : e + f ≤ 40) (hn : nm ≤ 81) (hu : p_cn (p_ca g x1 f) g pk nm x1 x3 = some u) : k9_R S (d + 3 * f + 2) 88 0 [some (k9_r 10 0), some (k9_i (nI nm)), some (k9_i (p_vv pk)), some (k9_i x3), some (k9_i (nI e))] [] I J = some (some (k9_i u.2), k9_tc I u.1, J) := by
  refine k9o_of (k9o_eq k9e_88_0 ?_)
  rw [n_toInt (n := nm) (by omega)]
  unfold p_cn at hu
  by_cases c1 : nm = 1
  · rw [if_pos c1] at hu
    obtain rfl := Option.some.inj hu
    repeat (first | ((with_reducible refine k9q_T ?_ ?_); · omega) | ((with_reducible refine k9q_F ?_ ?_); · omega) | ((with_reducible refine k9q_Tb ?_ ?_); · omega) | ((with_reducible refine k9q_Fb ?_ ?_); · omega))
    refine k9o_eq k9e_88_2 (k9o_ret ?_)
    rw [hA.1]
    rfl
  by_cases c2 : nm = 2
  · rw [if_neg c1, if_pos c2] at hu
    obtain ⟨u1, e1, hu⟩ := Option.bind_eq_some_iff.mp hu
    obtain ⟨u2, e2, hu⟩ := Option.bind_eq_some_iff.mp hu
    obtain rfl := Option.some.inj hu
    repeat (first | ((with_reducible refine k9q_T ?_ ?_); · omega) | ((with_reducible refine k9q_F ?_ ?_); · omega) | ((with_reducible refine k9q_Tb ?_ ?_); · omega) | ((with_reducible refine k9q_Fb ?_ ?_); · omega))
    refine k9o_eq k9e_88_7 (k9o_call (k9a_84 (d := d) (a := 1) hg h hA (by omega) he e1) ?_)
    simp only [k9_ps_s]
    refine k9o_eq k9e_88_12 (k9o_call (k9a_84 (d := d) (a := 2) hg h (k9_ac_c u1.1 hA) (by omega) he e2) ?_)
    simp only [k9_ps_s]
    refine k9o_eq k9e_88_17 (k9o_ret ?_)
    rw [k9_tc_a]
  by_cases c10 : nm = 10
  · rw [if_neg c1, if_neg c2, if_pos c10] at hu
    obtain ⟨u1, e1, hu⟩ := Option.bind_eq_some_iff.mp hu
    obtain rfl := Option.some.inj hu
    repeat (first | ((with_reducible refine k9q_T ?_ ?_); · omega) | ((with_reducible refine k9q_F ?_ ?_); · omega) | ((with_reducible refine k9q_Tb ?_ ?_); · omega) | ((with_reducible refine k9q_Fb ?_ ?_); · omega))
    refine k9o_eq k9e_88_19 (k9o_call (k9a_84 (d := d) (a := 0) hg h hA (by omega) he e1) ?_)
    simp only [k9_ps_s]
    exact k9o_eq k9e_88_24 (k9o_ret rfl)
  by_cases c11 : nm = 11
  · rw [if_neg c1, if_neg c2, if_neg c10, if_pos c11] at hu
    obtain rfl := Option.some.inj hu
    repeat (first | ((with_reducible refine k9q_T ?_ ?_); · omega) | ((with_reducible refine k9q_F ?_ ?_); · omega) | ((with_reducible refine k9q_Tb ?_ ?_); · omega) | ((with_reducible refine k9q_Fb ?_ ?_); · omega))
    refine k9o_eq k9e_88_27 (k9o_ret ?_)
    rw [hA.1]
    rfl
  by_cases c20 : nm = 20
  · rw [if_neg c1, if_neg c2, if_neg c10, if_neg c11, if_pos c20] at hu
    obtain ⟨u1, e1, hu⟩ := Option.bind_eq_some_iff.mp hu
    obtain rfl := Option.some.inj hu
    repeat (first | ((with_reducible refine k9q_T ?_ ?_); · omega) | ((with_reducible refine k9q_F ?_ ?_); · omega) | ((with_reducible refine k9q_Tb ?_ ?_); · omega) | ((with_reducible refine k9q_Fb ?_ ?_); · omega))
    refine k9o_eq k9e_88_32 (k9o_call (k9a_85a (d := d) (a := 0) h hA hk (by omega) he e1) ?_)
    simp only [k9_ps_s]
    exact k9o_eq k9e_88_38 (k9o_ret rfl)
  by_cases c30 : nm = 30
  · rw [if_neg c1, if_neg c2, if_neg c10, if_neg c11, if_neg c20, if_pos c30] at hu
    obtain ⟨u1, e1, hu⟩ := Option.bind_eq_some_iff.mp hu
    obtain rfl := Option.some.inj hu
    repeat (first | ((with_reducible refine k9q_T ?_ ?_); · omega) | ((with_reducible refine k9q_F ?_ ?_); · omega) | ((with_reducible refine k9q_Tb ?_ ?_); · omega) | ((with_reducible refine k9q_Fb ?_ ?_); · omega))
    refine k9o_eq k9e_88_41 (k9o_call (k9a_85a (d := d) (a := 1) h hA hk (by omega) he e1) ?_)
    simp only [k9_ps_s]
    exact k9o_eq k9e_88_47 (k9o_ret rfl)
  by_cases c40 : nm = 40
  · rw [if_neg c1, if_neg c2, if_neg c10, if_neg c11, if_neg c20, if_neg c30, if_pos c40] at hu
    obtain ⟨u1, e1, hu⟩ := Option.bind_eq_some_iff.mp hu
    obtain rfl := Option.some.inj hu
    repeat (first | ((with_reducible refine k9q_T ?_ ?_); · omega) | ((with_reducible refine k9q_F ?_ ?_); · omega) | ((with_reducible refine k9q_Tb ?_ ?_); · omega) | ((with_reducible refine k9q_Fb ?_ ?_); · omega))
    refine k9o_eq k9e_88_49 (k9o_call (k9a_85a (d := d) (a := 2) h hA hk (by omega) he e1) ?_)
    simp only [k9_ps_s]
    exact k9o_eq k9e_88_55 (k9o_ret rfl)
  by_cases c41 : nm = 41
  · rw [if_neg c1, if_neg c2, if_neg c10, if_neg c11, if_neg c20, if_neg c30, if_neg c40, if_pos c41] at hu
    repeat (first | ((with_reducible refine k9q_T ?_ ?_); · omega) | ((with_reducible refine k9q_F ?_ ?_); · omega) | ((with_reducible refine k9q_Tb ?_ ?_); · omega) | ((with_reducible refine k9q_Fb ?_ ?_); · omega))
    refine k9o_eq k9e_88_58 (k9o_call (k9a_85a (d := d) (a := 1) h hA hk (by omega) he hu) ?_)
    simp only [k9_ps_s]
    exact k9o_eq k9e_88_66 (k9o_ret rfl)
  by_cases c50 : nm = 50
  · rw [if_neg c1, if_neg c2, if_neg c10, if_neg c11, if_neg c20, if_neg c30, if_neg c40, if_neg c41, if_pos c50] at hu
    obtain ⟨u1, e1, hu⟩ := Option.bind_eq_some_iff.mp hu
    obtain ⟨u2, e2, hu⟩ := Option.bind_eq_some_iff.mp hu
    obtain rfl := Option.some.inj hu
    repeat (first | ((with_reducible refine k9q_T ?_ ?_); · omega) | ((with_reducible refine k9q_F ?_ ?_); · omega) | ((with_reducible refine k9q_Tb ?_ ?_); · omega) | ((with_reducible refine k9q_Fb ?_ ?_); · omega))
    refine k9o_eq k9e_88_67 (k9o_call (k9a_85a (d := d) (a := 2) h hA hk (by omega) he e1) ?_)
    simp only [k9_ps_s]
    refine k9o_eq k9e_88_73 (k9o_call (k9a_84 (d := d) (a := 0) hg h (k9_ac_c u1.1 hA) (by omega) he e2) ?_)
    simp only [k9_ps_s]
    refine k9o_eq k9e_88_78 (k9o_ret ?_)
    rw [k9_tc_a]
  by_cases c60 : nm = 60
  · rw [if_neg c1, if_neg c2, if_neg c10, if_neg c11, if_neg c20, if_neg c30, if_neg c40, if_neg c41, if_neg c50, if_pos c60] at hu
    obtain ⟨u1, e1, hu⟩ := Option.bind_eq_some_iff.mp hu
    obtain rfl := Option.some.inj hu
    repeat (first | ((with_reducible refine k9q_T ?_ ?_); · omega) | ((with_reducible refine k9q_F ?_ ?_); · omega) | ((with_reducible refine k9q_Tb ?_ ?_); · omega) | ((with_reducible refine k9q_Fb ?_ ?_); · omega))
    refine k9o_eq k9e_88_80 (k9o_call (k9a_85a (d := d) (a := 3) h hA hk (by omega) he e1) ?_)
    simp only [k9_ps_s]
    exact k9o_eq k9e_88_86 (k9o_ret rfl)
  by_cases c70 : nm = 70
  · rw [if_neg c1, if_neg c2, if_neg c10, if_neg c11, if_neg c20, if_neg c30, if_neg c40, if_neg c41, if_neg c50, if_neg c60, if_pos c70] at hu
    obtain ⟨u1, e1, hu⟩ := Option.bind_eq_some_iff.mp hu
    obtain rfl := Option.some.inj hu
    repeat (first | ((with_reducible refine k9q_T ?_ ?_); · omega) | ((with_reducible refine k9q_F ?_ ?_); · omega) | ((with_reducible refine k9q_Tb ?_ ?_); · omega) | ((with_reducible refine k9q_Fb ?_ ?_); · omega))
    refine k9o_eq k9e_88_89 (k9o_call (k9a_85a (d := d) (a := 0) h hA hk (by omega) he e1) ?_)
    simp only [k9_ps_s]
    exact k9o_eq k9e_88_95 (k9o_ret rfl)
  by_cases c80 : nm = 80
  · rw [if_neg c1, if_neg c2, if_neg c10, if_neg c11, if_neg c20, if_neg c30, if_neg c40, if_neg c41, if_neg c50, if_neg c60, if_neg c70, if_pos c80] at hu
    obtain ⟨u1, e1, hu⟩ := Option.bind_eq_some_iff.mp hu
    obtain ⟨u2, e2, hu⟩ := Option.bind_eq_some_iff.mp hu
    obtain rfl := Option.some.inj hu
    repeat (first | ((with_reducible refine k9q_T ?_ ?_); · omega) | ((with_reducible refine k9q_F ?_ ?_); · omega) | ((with_reducible refine k9q_Tb ?_ ?_); · omega) | ((with_reducible refine k9q_Fb ?_ ?_); · omega))
    refine k9o_eq k9e_88_98 (k9o_call (k9a_85a (d := d) (a := 1) h hA hk (by omega) he e1) ?_)
    simp only [k9_ps_s]
    refine k9o_eq k9e_88_104 (k9o_call (k9a_84 (d := d) (a := 2) hg h (k9_ac_c u1.1 hA) (by omega) he e2) ?_)
    simp only [k9_ps_s]
    refine k9o_eq k9e_88_109 (k9o_ret ?_)
    rw [k9_tc_a]
  by_cases c81 : nm = 81
  · rw [if_neg c1, if_neg c2, if_neg c10, if_neg c11, if_neg c20, if_neg c30, if_neg c40, if_neg c41, if_neg c50, if_neg c60, if_neg c70, if_neg c80, if_pos c81] at hu
    obtain ⟨u1, e1, hu⟩ := Option.bind_eq_some_iff.mp hu
    obtain rfl := Option.some.inj hu
    repeat (first | ((with_reducible refine k9q_T ?_ ?_); · omega) | ((with_reducible refine k9q_F ?_ ?_); · omega) | ((with_reducible refine k9q_Tb ?_ ?_); · omega) | ((with_reducible refine k9q_Fb ?_ ?_); · omega))
    refine k9o_eq k9e_88_111 (k9o_call (k9a_85a (d := d) (a := 3) h hA hk (by omega) he e1) ?_)
    simp only [k9_ps_s]
    exact k9o_eq k9e_88_117 (k9o_ret rfl)
  rw [if_neg c1, if_neg c2, if_neg c10, if_neg c11, if_neg c20, if_neg c30, if_neg c40, if_neg c41, if_neg c50, if_neg c60, if_neg c70, if_neg c80, if_neg c81] at hu
  obtain rfl := Option.some.inj hu
  repeat (first | ((with_reducible refine k9q_T ?_ ?_); · omega) | ((with_reducible refine k9q_F ?_ ?_); · omega) | ((with_reducible refine k9q_Tb ?_ ?_); · omega) | ((with_reducible refine k9q_Fb ?_ ?_); · omega))
  exact k9o_eq k9e_88_120 (k9o_ret rfl)
theorem k9a_85_a (hg : g ≤ 7) (f : Nat) : k9a_85 S x1 g f := by
  induction f with
  | zero =>
    intro d I J k a x3 e u hA hk ha he hu
    rw [p_ca] at hu
    cases hu
  | succ f ih =>
    intro d I J k a x3 e u hA hk ha he hu
    rw [show d + 3 * (f + 1) = d + 3 * f + 2 + 1 by omega]
    have key : ∀ n k' i, i + n = 8 → k' ≤ 8 → (∀ x6 : Int32, k9_ok (k9_R S (d + 3 * f + 2 + 1) 85 16 [some (k9_r 10 0), some (k9_i (p_vv k)), some (k9_i (nI a)), some (k9_i x3), some (k9_i (nI e)), some (k9_i (p_vv (p_wk n k' a))), some (k9_i x6)] [] I J) (fun q => q = (some (k9_i u.2), k9_tc I u.1, J))) → k9_ok (k9_R S (d + 3 * f + 2 + 1) 85 4 [some (k9_r 10 0), some (k9_i (p_vv k)), some (k9_i (nI a)), some (k9_i x3), some (k9_i (nI e)), some (k9_i (p_vv k')), some (k9_i (nI i))] [] I J) (fun q => q = (some (k9_i u.2), k9_tc I u.1, J)) := by
      intro n
      induction n with
      | zero =>
        intro k' i hi hk' g
        exact k9o_eq k9e_85_4 (k9o_T (by rw [n_toInt (by omega)]; omega) (g _))
      | succ n ih2 =>
        intro k' i hi hk' g
        refine k9o_eq k9e_85_4 (k9o_F (by rw [n_toInt (by omega)]; omega) (k9o_eq k9e_85_7 (k9o_call (k9s_86 hk' ha) ?_)))
        simp only [k9_ps_s]
        refine k9o_eq k9e_85_10 ?_
        have hb := p_tb_b k' hk' a ha
        by_cases c : p_tb k' a = 0
        · refine k9o_T (by rw [c]; decide) (k9o_eq k9e_85_11 (k9o_call (k9s_80 hk') ?_))
          simp only [k9_ps_s]
          refine k9o_eq k9e_85_13 ?_
          rw [nI_1]
          refine ih2 (p_ab k') (i + 1) (by omega) (p_ab_8 k' hk') (fun x6 => ?_)
          have := g x6
          rw [p_wk, if_pos c] at this
          exact this
        · refine k9o_F (by rw [n_toInt (by omega)]; omega) ?_
          have := g (nI i)
          rw [p_wk, if_neg c] at this
          exact this
    refine k9o_of (k9o_eq k9e_85_0 (key 8 k 0 (by omega) hk (fun x6 => ?_)))
    rw [p_ca] at hu
    have hK := p_wk_b a 8 k hk
    obtain ⟨K, eK⟩ : ∃ K, K = p_wk 8 k a := ⟨_, rfl⟩
    rw [← eK] at hu hK ⊢
    have hb := p_tb_b K hK a ha
    refine k9o_eq k9e_85_16 (k9o_call (k9s_86 hK ha) ?_)
    simp only [k9_ps_s]
    refine k9o_eq k9e_85_19 ?_
    by_cases c : p_tb K a = 0
    · rw [if_pos c] at hu
      obtain rfl := Option.some.inj hu
      exact k9o_T (by rw [c]; decide) (k9o_eq k9e_85_25 (k9o_ret rfl))
    · rw [if_neg c] at hu
      obtain ⟨u1, e1, hu⟩ := Option.bind_eq_some_iff.mp hu
      obtain rfl := Option.some.inj hu
      have e88 := k9a_88 (d := d) (I := k9_nt I (p_tb K a)) (J := J) (e := e + 1) hg ih (k9_ac_n hA) (p_ab_8 K hK) (by omega) hb e1
      refine k9o_F (by rw [n_toInt (by omega)]; omega) (k9o_eq k9e_85_22 (k9o_T (by rw [n_toInt (by omega)]; omega) (k9o_eq k9e_85_27 (k9o_call k9s_87 ?_))))
      simp only [k9_ps_n]
      refine k9o_eq k9e_85_30 (k9o_call (k9s_80 hK) ?_)
      simp only [k9_ps_s]
      refine k9o_eq k9e_85_34 ?_
      rw [nI_1]
      refine k9o_call e88 ?_
      simp only [k9_ps_s]
      exact k9o_eq k9e_85_39 (k9o_ret rfl)
end KT36

/-! BODIES: act, the reference's runs -/
section KT37
variable {S : k9_S} {d : Nat} {I I' : k9_I} {J J' : k9_J} {x1 x2 x3 : Int32} {g f a e i n t k : Nat} {u : List Nat × Int32}
def k9_nr (I : k9_I) (n t : Nat) : k9_I := k9_u (if t < 24 then k9_u I 59 0 t (nI n) else I) 12 0 33 (nI (t + 1))
def k9_tr : List Nat → k9_I → Nat → k9_I
  | [], I, _ => I
  | n :: l, I, t => k9_tr l (k9_nr I n t) (t + 1)
theorem k9_tr_a (l m : List Nat) (I : k9_I) (t : Nat) : k9_tr (l ++ m) I t = k9_tr m (k9_tr l I t) (t + l.length) := by
  induction l generalizing I t with
  | nil => rfl
  | cons n l ih =>
    show k9_tr (l ++ m) (k9_nr I n t) (t + 1) = k9_tr m (k9_tr l (k9_nr I n t) (t + 1)) (t + (l.length + 1))
    rw [ih, show t + 1 + l.length = t + (l.length + 1) by omega]
def k9_mc (I : k9_I) (g i t : Nat) : Prop := I 58 0 i = nI g ∧ I 12 0 33 = nI t
theorem k9_mc_n (h : k9_mc I g i t) : k9_mc (k9_nr I n t) g i (t + 1) := by
  unfold k9_nr
  refine ⟨?_, by simp [k9_ur]⟩
  split <;> simp [k9_ur, h.1]
theorem k9_mc_r (l : List Nat) (h : k9_mc I g i t) : k9_mc (k9_tr l I t) g i (t + l.length) := by
  induction l generalizing I t with
  | nil => exact h
  | cons n l ih =>
    have := ih (k9_mc_n (n := n) h)
    rw [show t + 1 + l.length = t + (l.length + 1) by omega] at this
    exact this
theorem k9s_230 (h : I 12 0 33 = nI t) (ht : t ≤ 1000) : k9_R S d 230 0 [some (k9_r 12 0), some (k9_i (nI n))] [] I J = some (none, k9_nr I n t, J) := by
  refine k9o_of (k9o_eq k9e_230_0 ?_)
  rw [h]
  by_cases c : t < 24
  · refine k9o_F (by rw [n_toInt (by omega)]; omega) (k9o_eq k9e_230_4 ?_)
    rw [h]
    refine k9o_T (by rw [n_toInt (by omega)]; omega) (k9o_eq k9e_230_10 (k9o_ret ?_))
    unfold k9_nr
    rw [if_pos c, n_cl (by omega), show (k9_u I 59 0 t (nI n)) 12 0 33 = I 12 0 33 from rfl, h, nI_1]
  · refine k9o_T (by rw [n_toInt (by omega)]; omega) (k9o_eq k9e_230_10 (k9o_ret ?_))
    unfold k9_nr
    rw [if_neg c, h, nI_1]
def p_rn (r : Nat → Nat → Int32 → Option (List Nat × Int32)) (g : Nat) (x1 : Int32) (a k : Nat) (x3 : Int32) : Option (List Nat × Int32) :=
  if a = 0 then (if k = 0 then some ([1], x3 + x1) else if k = 1 then (r 0 0 x3).bind fun u => some (20 :: u.1, u.2 + 3) else if k = 6 then (r 0 0 x3).bind fun u => some (70 :: u.1, u.2 * 2) else r 0 (p_am k) x3)
  else if a = 1 then (if k = 0 then (r 0 g x3).bind fun u => some (10 :: u.1, u.2 * 2) else if k = 2 then (r 1 0 x3).bind fun u => some (30 :: u.1, -u.2) else if k = 3 then (r 1 2 (x3 + 1)).bind fun u => some (41 :: u.1, u.2) else if k = 7 then (r 1 4 x3).bind fun u => (r 2 g 2).bind fun v => some (80 :: (u.1 ++ v.1), u.2 + v.2) else r 1 (p_am k) x3)
  else if a = 2 then (if k = 0 then some ([11], x3 ^^^ x1) else if k = 3 then (r 2 2 x3).bind fun u => some (40 :: u.1, u.2 * 3) else if k = 4 then (r 2 1 x3).bind fun u => (r 0 g 2).bind fun v => some (50 :: (u.1 ++ v.1), u.2 - v.2) else r 2 (p_am k) x3)
  else (if k = 0 then (r 1 g x3).bind fun u => (r 2 g 1).bind fun v => some (2 :: (u.1 ++ v.1), u.2 - v.2) else if k = 5 then (r 3 3 x3).bind fun u => some (60 :: u.1, u.2 ^^^ 5) else if k = 7 then (r 3 4 x3).bind fun u => some (81 :: u.1, u.2 - 1) else r 3 (p_am k) x3)
def p_ra (g : Nat) (x1 : Int32) : Nat → Nat → Nat → Int32 → Option (List Nat × Int32)
  | 0, _, _, _ => none
  | f + 1, a, k, x3 => p_rn (p_ra g x1 f) g x1 a k x3
def k9_rq (S : k9_S) (g i f : Nat) : Prop := ∀ (d : Nat) (I : k9_I) (J : k9_J) (a k t : Nat) (x3 : Int32) (u : List Nat × Int32), k9_mc I g i t → k ≤ 7 → a ≤ 3 → p_ra g (nI i) f a k x3 = some u → t + u.1.length ≤ 1000 → k9_R S (d + f) (231 + a) 0 (some (k9_r 12 0) :: some (k9_i (nI i)) :: some (k9_i (nI k)) :: some (k9_i x3) :: (if a = 0 then [] else [none])) [] I J = some (some (k9_i u.2), k9_tr u.1 I t, J)
theorem p_am_7 : ∀ k, k ≤ 7 → p_am k ≤ 7 := by decide
theorem k9_r231 (hg : g ≤ 7) (hi : i < 50) (h : k9_rq S g i f) (hM : k9_mc I g i t) (hk : k ≤ 7) (hu : p_rn (p_ra g (nI i) f) g (nI i) 0 k x3 = some u) (hl : t + u.1.length ≤ 1000) : k9_R S (d + f + 1) 231 0 [some (k9_r 12 0), some (k9_i (nI i)), some (k9_i (nI k)), some (k9_i x3)] [] I J = some (some (k9_i u.2), k9_tr u.1 I t, J) := by
  refine k9o_of (k9o_eq k9e_231_0 ?_)
  rw [n_toInt (n := k) (by omega)]
  rw [p_rn, if_pos (show (0 : Nat) = 0 from rfl)] at hu
  by_cases c0 : k = 0
  · rw [if_pos c0] at hu
    obtain rfl := Option.some.inj hu
    simp only [List.length_cons, List.length_nil] at hl
    repeat (first | ((with_reducible refine k9q_T ?_ ?_); · omega) | ((with_reducible refine k9q_F ?_ ?_); · omega) | ((with_reducible refine k9q_Tb ?_ ?_); · omega) | ((with_reducible refine k9q_Fb ?_ ?_); · omega))
    refine k9o_eq k9e_231_2 (k9o_call (k9s_230 (n := 1) hM.2 (by omega)) ?_)
    simp only [k9_ps_n]
    exact k9o_eq k9e_231_5 (k9o_ret rfl)
  by_cases c1 : k = 1
  · rw [if_neg c0, if_pos c1] at hu
    obtain ⟨u1, e1, hu⟩ := Option.bind_eq_some_iff.mp hu
    obtain rfl := Option.some.inj hu
    simp only [List.length_cons, List.length_append] at hl
    have r1 : k9_R S (d + f) 231 0 [some (k9_r 12 0), some (k9_i (nI i)), some (k9_i (nI 0)), some (k9_i x3)] [] (k9_nr I 20 t) J = some (some (k9_i u1.2), k9_tr u1.1 (k9_nr I 20 t) (t + 1), J) := h d (k9_nr I 20 t) J 0 0 (t + 1) x3 u1 (k9_mc_n hM) (by omega) (by omega) e1 (by omega)
    have m1 := (k9_mc_n (n := 20) hM).1
    repeat (first | ((with_reducible refine k9q_T ?_ ?_); · omega) | ((with_reducible refine k9q_F ?_ ?_); · omega) | ((with_reducible refine k9q_Tb ?_ ?_); · omega) | ((with_reducible refine k9q_Fb ?_ ?_); · omega))
    refine k9o_eq k9e_231_9 (k9o_call (k9s_230 (n := 20) hM.2 (by omega)) ?_)
    simp only [k9_ps_n]
    refine k9o_eq k9e_231_12 (k9o_call r1 ?_)
    simp only [k9_ps_s]
    exact k9o_eq k9e_231_17 (k9o_ret rfl)
  by_cases c6 : k = 6
  · rw [if_neg c0, if_neg c1, if_pos c6] at hu
    obtain ⟨u1, e1, hu⟩ := Option.bind_eq_some_iff.mp hu
    obtain rfl := Option.some.inj hu
    simp only [List.length_cons, List.length_append] at hl
    have r1 : k9_R S (d + f) 231 0 [some (k9_r 12 0), some (k9_i (nI i)), some (k9_i (nI 0)), some (k9_i x3)] [] (k9_nr I 70 t) J = some (some (k9_i u1.2), k9_tr u1.1 (k9_nr I 70 t) (t + 1), J) := h d (k9_nr I 70 t) J 0 0 (t + 1) x3 u1 (k9_mc_n hM) (by omega) (by omega) e1 (by omega)
    have m1 := (k9_mc_n (n := 70) hM).1
    repeat (first | ((with_reducible refine k9q_T ?_ ?_); · omega) | ((with_reducible refine k9q_F ?_ ?_); · omega) | ((with_reducible refine k9q_Tb ?_ ?_); · omega) | ((with_reducible refine k9q_Fb ?_ ?_); · omega))
    refine k9o_eq k9e_231_20 (k9o_call (k9s_230 (n := 70) hM.2 (by omega)) ?_)
    simp only [k9_ps_n]
    refine k9o_eq k9e_231_23 (k9o_call r1 ?_)
    simp only [k9_ps_s]
    exact k9o_eq k9e_231_28 (k9o_ret rfl)
  rw [if_neg c0, if_neg c1, if_neg c6] at hu
  have ham := p_am_7 k hk
  have r1 : k9_R S (d + f) 231 0 [some (k9_r 12 0), some (k9_i (nI i)), some (k9_i (nI (p_am k))), some (k9_i x3)] [] I J = some (some (k9_i u.2), k9_tr u.1 I t, J) := h d I J 0 (p_am k) t x3 u hM (by omega) (by omega) hu hl
  repeat' (first | ((with_reducible refine k9q_T ?_ ?_); · omega) | ((with_reducible refine k9q_F ?_ ?_); · omega) | (with_reducible refine k9q_if (fun _ => ?_) (fun _ => ?_)))
  all_goals refine k9o_eq k9e_231_31 (k9o_call (k9s_229 hk) ?_)
  all_goals simp only [k9_ps_s]
  all_goals refine k9o_eq k9e_231_35 (k9o_call r1 ?_)
  all_goals simp only [k9_ps_s]
  all_goals exact k9o_eq k9e_231_37 (k9o_ret rfl)
theorem k9_r232 (hg : g ≤ 7) (hi : i < 50) (h : k9_rq S g i f) (hM : k9_mc I g i t) (hk : k ≤ 7) (hu : p_rn (p_ra g (nI i) f) g (nI i) 1 k x3 = some u) (hl : t + u.1.length ≤ 1000) : k9_R S (d + f + 1) 232 0 [some (k9_r 12 0), some (k9_i (nI i)), some (k9_i (nI k)), some (k9_i x3), none] [] I J = some (some (k9_i u.2), k9_tr u.1 I t, J) := by
  refine k9o_of (k9o_eq k9e_232_0 ?_)
  rw [n_toInt (n := k) (by omega)]
  rw [p_rn, if_neg (show ¬ (1 : Nat) = 0 by decide), if_pos (show (1 : Nat) = 1 from rfl)] at hu
  by_cases c0 : k = 0
  · rw [if_pos c0] at hu
    obtain ⟨u1, e1, hu⟩ := Option.bind_eq_some_iff.mp hu
    obtain rfl := Option.some.inj hu
    simp only [List.length_cons, List.length_append] at hl
    have r1 : k9_R S (d + f) 231 0 [some (k9_r 12 0), some (k9_i (nI i)), some (k9_i (nI g)), some (k9_i x3)] [] (k9_nr I 10 t) J = some (some (k9_i u1.2), k9_tr u1.1 (k9_nr I 10 t) (t + 1), J) := h d (k9_nr I 10 t) J 0 g (t + 1) x3 u1 (k9_mc_n hM) (by omega) (by omega) e1 (by omega)
    have m1 := (k9_mc_n (n := 10) hM).1
    repeat (first | ((with_reducible refine k9q_T ?_ ?_); · omega) | ((with_reducible refine k9q_F ?_ ?_); · omega) | ((with_reducible refine k9q_Tb ?_ ?_); · omega) | ((with_reducible refine k9q_Fb ?_ ?_); · omega))
    refine k9o_eq k9e_232_2 (k9o_call (k9s_230 (n := 10) hM.2 (by omega)) ?_)
    simp only [k9_ps_n]
    refine k9o_eq k9e_232_5 (k9o_T (by rw [n_toInt (by omega)]; omega) ?_)
    rw [n_cl (by omega), m1]
    refine k9o_eq k9e_232_11 (k9o_call r1 ?_)
    simp only [k9_ps_s]
    exact k9o_eq k9e_232_13 (k9o_ret rfl)
  by_cases c2 : k = 2
  · rw [if_neg c0, if_pos c2] at hu
    obtain ⟨u1, e1, hu⟩ := Option.bind_eq_some_iff.mp hu
    obtain rfl := Option.some.inj hu
    simp only [List.length_cons, List.length_append] at hl
    have r1 : k9_R S (d + f) 232 0 [some (k9_r 12 0), some (k9_i (nI i)), some (k9_i (nI 0)), some (k9_i x3), none] [] (k9_nr I 30 t) J = some (some (k9_i u1.2), k9_tr u1.1 (k9_nr I 30 t) (t + 1), J) := h d (k9_nr I 30 t) J 1 0 (t + 1) x3 u1 (k9_mc_n hM) (by omega) (by omega) e1 (by omega)
    have m1 := (k9_mc_n (n := 30) hM).1
    repeat (first | ((with_reducible refine k9q_T ?_ ?_); · omega) | ((with_reducible refine k9q_F ?_ ?_); · omega) | ((with_reducible refine k9q_Tb ?_ ?_); · omega) | ((with_reducible refine k9q_Fb ?_ ?_); · omega))
    refine k9o_eq k9e_232_16 (k9o_call (k9s_230 (n := 30) hM.2 (by omega)) ?_)
    simp only [k9_ps_n]
    refine k9o_eq k9e_232_19 (k9o_call r1 ?_)
    simp only [k9_ps_s]
    exact k9o_eq k9e_232_24 (k9o_ret rfl)
  by_cases c3 : k = 3
  · rw [if_neg c0, if_neg c2, if_pos c3] at hu
    obtain ⟨u1, e1, hu⟩ := Option.bind_eq_some_iff.mp hu
    obtain rfl := Option.some.inj hu
    simp only [List.length_cons, List.length_append] at hl
    have r1 : k9_R S (d + f) 232 0 [some (k9_r 12 0), some (k9_i (nI i)), some (k9_i (nI 2)), some (k9_i (x3 + 1)), none] [] (k9_nr I 41 t) J = some (some (k9_i u1.2), k9_tr u1.1 (k9_nr I 41 t) (t + 1), J) := h d (k9_nr I 41 t) J 1 2 (t + 1) (x3 + 1) u1 (k9_mc_n hM) (by omega) (by omega) e1 (by omega)
    have m1 := (k9_mc_n (n := 41) hM).1
    repeat (first | ((with_reducible refine k9q_T ?_ ?_); · omega) | ((with_reducible refine k9q_F ?_ ?_); · omega) | ((with_reducible refine k9q_Tb ?_ ?_); · omega) | ((with_reducible refine k9q_Fb ?_ ?_); · omega))
    refine k9o_eq k9e_232_26 (k9o_call (k9s_230 (n := 41) hM.2 (by omega)) ?_)
    simp only [k9_ps_n]
    refine k9o_eq k9e_232_29 (k9o_call r1 ?_)
    simp only [k9_ps_s]
    exact k9o_eq k9e_232_36 (k9o_ret rfl)
  by_cases c7 : k = 7
  · rw [if_neg c0, if_neg c2, if_neg c3, if_pos c7] at hu
    obtain ⟨u1, e1, hu⟩ := Option.bind_eq_some_iff.mp hu
    obtain ⟨u2, e2, hu⟩ := Option.bind_eq_some_iff.mp hu
    obtain rfl := Option.some.inj hu
    simp only [List.length_cons, List.length_append] at hl
    have r1 : k9_R S (d + f) 232 0 [some (k9_r 12 0), some (k9_i (nI i)), some (k9_i (nI 4)), some (k9_i x3), none] [] (k9_nr I 80 t) J = some (some (k9_i u1.2), k9_tr u1.1 (k9_nr I 80 t) (t + 1), J) := h d (k9_nr I 80 t) J 1 4 (t + 1) x3 u1 (k9_mc_n hM) (by omega) (by omega) e1 (by omega)
    have r2 : k9_R S (d + f) 233 0 [some (k9_r 12 0), some (k9_i (nI i)), some (k9_i (nI g)), some (k9_i 2), none] [] (k9_tr u1.1 (k9_nr I 80 t) (t + 1)) J = some (some (k9_i u2.2), k9_tr u2.1 (k9_tr u1.1 (k9_nr I 80 t) (t + 1)) (t + 1 + u1.1.length), J) := h d (k9_tr u1.1 (k9_nr I 80 t) (t + 1)) J 2 g (t + 1 + u1.1.length) 2 u2 (k9_mc_r u1.1 (k9_mc_n hM)) (by omega) (by omega) e2 (by omega)
    have m1 := (k9_mc_n (n := 80) hM).1
    repeat (first | ((with_reducible refine k9q_T ?_ ?_); · omega) | ((with_reducible refine k9q_F ?_ ?_); · omega) | ((with_reducible refine k9q_Tb ?_ ?_); · omega) | ((with_reducible refine k9q_Fb ?_ ?_); · omega))
    refine k9o_eq k9e_232_37 (k9o_call (k9s_230 (n := 80) hM.2 (by omega)) ?_)
    simp only [k9_ps_n]
    refine k9o_eq k9e_232_40 (k9o_call r1 ?_)
    simp only [k9_ps_s]
    have m2 := (k9_mc_r u1.1 (k9_mc_n (n := 80) hM)).1
    refine k9o_eq k9e_232_45 (k9o_T (by rw [n_toInt (by omega)]; omega) ?_)
    rw [n_cl (by omega), m2]
    refine k9o_eq k9e_232_53 (k9o_call r2 ?_)
    simp only [k9_ps_s]
    refine k9o_eq k9e_232_55 (k9o_ret ?_)
    rw [show k9_tr (80 :: (u1.1 ++ u2.1)) I t = k9_tr (u1.1 ++ u2.1) (k9_nr I 80 t) (t + 1) from rfl, k9_tr_a]
  rw [if_neg c0, if_neg c2, if_neg c3, if_neg c7] at hu
  have ham := p_am_7 k hk
  have r1 : k9_R S (d + f) 232 0 [some (k9_r 12 0), some (k9_i (nI i)), some (k9_i (nI (p_am k))), some (k9_i x3), none] [] I J = some (some (k9_i u.2), k9_tr u.1 I t, J) := h d I J 1 (p_am k) t x3 u hM (by omega) (by omega) hu hl
  repeat' (first | ((with_reducible refine k9q_T ?_ ?_); · omega) | ((with_reducible refine k9q_F ?_ ?_); · omega) | (with_reducible refine k9q_if (fun _ => ?_) (fun _ => ?_)))
  all_goals refine k9o_eq k9e_232_57 (k9o_call (k9s_229 hk) ?_)
  all_goals simp only [k9_ps_s]
  all_goals refine k9o_eq k9e_232_61 (k9o_call r1 ?_)
  all_goals simp only [k9_ps_s]
  all_goals exact k9o_eq k9e_232_63 (k9o_ret rfl)
theorem k9_r233 (hg : g ≤ 7) (hi : i < 50) (h : k9_rq S g i f) (hM : k9_mc I g i t) (hk : k ≤ 7) (hu : p_rn (p_ra g (nI i) f) g (nI i) 2 k x3 = some u) (hl : t + u.1.length ≤ 1000) : k9_R S (d + f + 1) 233 0 [some (k9_r 12 0), some (k9_i (nI i)), some (k9_i (nI k)), some (k9_i x3), none] [] I J = some (some (k9_i u.2), k9_tr u.1 I t, J) := by
  refine k9o_of (k9o_eq k9e_233_0 ?_)
  rw [n_toInt (n := k) (by omega)]
  rw [p_rn, if_neg (show ¬ (2 : Nat) = 0 by decide), if_neg (show ¬ (2 : Nat) = 1 by decide), if_pos (show (2 : Nat) = 2 from rfl)] at hu
  by_cases c0 : k = 0
  · rw [if_pos c0] at hu
    obtain rfl := Option.some.inj hu
    simp only [List.length_cons, List.length_nil] at hl
    repeat (first | ((with_reducible refine k9q_T ?_ ?_); · omega) | ((with_reducible refine k9q_F ?_ ?_); · omega) | ((with_reducible refine k9q_Tb ?_ ?_); · omega) | ((with_reducible refine k9q_Fb ?_ ?_); · omega))
    refine k9o_eq k9e_233_2 (k9o_call (k9s_230 (n := 11) hM.2 (by omega)) ?_)
    simp only [k9_ps_n]
    exact k9o_eq k9e_233_5 (k9o_ret rfl)
  by_cases c3 : k = 3
  · rw [if_neg c0, if_pos c3] at hu
    obtain ⟨u1, e1, hu⟩ := Option.bind_eq_some_iff.mp hu
    obtain rfl := Option.some.inj hu
    simp only [List.length_cons, List.length_append] at hl
    have r1 : k9_R S (d + f) 233 0 [some (k9_r 12 0), some (k9_i (nI i)), some (k9_i (nI 2)), some (k9_i x3), none] [] (k9_nr I 40 t) J = some (some (k9_i u1.2), k9_tr u1.1 (k9_nr I 40 t) (t + 1), J) := h d (k9_nr I 40 t) J 2 2 (t + 1) x3 u1 (k9_mc_n hM) (by omega) (by omega) e1 (by omega)
    have m1 := (k9_mc_n (n := 40) hM).1
    repeat (first | ((with_reducible refine k9q_T ?_ ?_); · omega) | ((with_reducible refine k9q_F ?_ ?_); · omega) | ((with_reducible refine k9q_Tb ?_ ?_); · omega) | ((with_reducible refine k9q_Fb ?_ ?_); · omega))
    refine k9o_eq k9e_233_9 (k9o_call (k9s_230 (n := 40) hM.2 (by omega)) ?_)
    simp only [k9_ps_n]
    refine k9o_eq k9e_233_12 (k9o_call r1 ?_)
    simp only [k9_ps_s]
    exact k9o_eq k9e_233_17 (k9o_ret rfl)
  by_cases c4 : k = 4
  · rw [if_neg c0, if_neg c3, if_pos c4] at hu
    obtain ⟨u1, e1, hu⟩ := Option.bind_eq_some_iff.mp hu
    obtain ⟨u2, e2, hu⟩ := Option.bind_eq_some_iff.mp hu
    obtain rfl := Option.some.inj hu
    simp only [List.length_cons, List.length_append] at hl
    have r1 : k9_R S (d + f) 233 0 [some (k9_r 12 0), some (k9_i (nI i)), some (k9_i (nI 1)), some (k9_i x3), none] [] (k9_nr I 50 t) J = some (some (k9_i u1.2), k9_tr u1.1 (k9_nr I 50 t) (t + 1), J) := h d (k9_nr I 50 t) J 2 1 (t + 1) x3 u1 (k9_mc_n hM) (by omega) (by omega) e1 (by omega)
    have r2 : k9_R S (d + f) 231 0 [some (k9_r 12 0), some (k9_i (nI i)), some (k9_i (nI g)), some (k9_i 2)] [] (k9_tr u1.1 (k9_nr I 50 t) (t + 1)) J = some (some (k9_i u2.2), k9_tr u2.1 (k9_tr u1.1 (k9_nr I 50 t) (t + 1)) (t + 1 + u1.1.length), J) := h d (k9_tr u1.1 (k9_nr I 50 t) (t + 1)) J 0 g (t + 1 + u1.1.length) 2 u2 (k9_mc_r u1.1 (k9_mc_n hM)) (by omega) (by omega) e2 (by omega)
    have m1 := (k9_mc_n (n := 50) hM).1
    repeat (first | ((with_reducible refine k9q_T ?_ ?_); · omega) | ((with_reducible refine k9q_F ?_ ?_); · omega) | ((with_reducible refine k9q_Tb ?_ ?_); · omega) | ((with_reducible refine k9q_Fb ?_ ?_); · omega))
    refine k9o_eq k9e_233_20 (k9o_call (k9s_230 (n := 50) hM.2 (by omega)) ?_)
    simp only [k9_ps_n]
    refine k9o_eq k9e_233_23 (k9o_call r1 ?_)
    simp only [k9_ps_s]
    have m2 := (k9_mc_r u1.1 (k9_mc_n (n := 50) hM)).1
    refine k9o_eq k9e_233_28 (k9o_T (by rw [n_toInt (by omega)]; omega) ?_)
    rw [n_cl (by omega), m2]
    refine k9o_eq k9e_233_36 (k9o_call r2 ?_)
    simp only [k9_ps_s]
    refine k9o_eq k9e_233_38 (k9o_ret ?_)
    rw [show k9_tr (50 :: (u1.1 ++ u2.1)) I t = k9_tr (u1.1 ++ u2.1) (k9_nr I 50 t) (t + 1) from rfl, k9_tr_a]
  rw [if_neg c0, if_neg c3, if_neg c4] at hu
  have ham := p_am_7 k hk
  have r1 : k9_R S (d + f) 233 0 [some (k9_r 12 0), some (k9_i (nI i)), some (k9_i (nI (p_am k))), some (k9_i x3), none] [] I J = some (some (k9_i u.2), k9_tr u.1 I t, J) := h d I J 2 (p_am k) t x3 u hM (by omega) (by omega) hu hl
  repeat' (first | ((with_reducible refine k9q_T ?_ ?_); · omega) | ((with_reducible refine k9q_F ?_ ?_); · omega) | (with_reducible refine k9q_if (fun _ => ?_) (fun _ => ?_)))
  all_goals refine k9o_eq k9e_233_40 (k9o_call (k9s_229 hk) ?_)
  all_goals simp only [k9_ps_s]
  all_goals refine k9o_eq k9e_233_44 (k9o_call r1 ?_)
  all_goals simp only [k9_ps_s]
  all_goals exact k9o_eq k9e_233_46 (k9o_ret rfl)
theorem k9_r234 (hg : g ≤ 7) (hi : i < 50) (h : k9_rq S g i f) (hM : k9_mc I g i t) (hk : k ≤ 7) (hu : p_rn (p_ra g (nI i) f) g (nI i) 3 k x3 = some u) (hl : t + u.1.length ≤ 1000) : k9_R S (d + f + 1) 234 0 [some (k9_r 12 0), some (k9_i (nI i)), some (k9_i (nI k)), some (k9_i x3), none] [] I J = some (some (k9_i u.2), k9_tr u.1 I t, J) := by
  refine k9o_of (k9o_eq k9e_234_0 ?_)
  rw [n_toInt (n := k) (by omega)]
  rw [p_rn, if_neg (show ¬ (3 : Nat) = 0 by decide), if_neg (show ¬ (3 : Nat) = 1 by decide), if_neg (show ¬ (3 : Nat) = 2 by decide)] at hu
  by_cases c0 : k = 0
  · rw [if_pos c0] at hu
    obtain ⟨u1, e1, hu⟩ := Option.bind_eq_some_iff.mp hu
    obtain ⟨u2, e2, hu⟩ := Option.bind_eq_some_iff.mp hu
    obtain rfl := Option.some.inj hu
    simp only [List.length_cons, List.length_append] at hl
    have r1 : k9_R S (d + f) 232 0 [some (k9_r 12 0), some (k9_i (nI i)), some (k9_i (nI g)), some (k9_i x3), none] [] (k9_nr I 2 t) J = some (some (k9_i u1.2), k9_tr u1.1 (k9_nr I 2 t) (t + 1), J) := h d (k9_nr I 2 t) J 1 g (t + 1) x3 u1 (k9_mc_n hM) (by omega) (by omega) e1 (by omega)
    have r2 : k9_R S (d + f) 233 0 [some (k9_r 12 0), some (k9_i (nI i)), some (k9_i (nI g)), some (k9_i 1), none] [] (k9_tr u1.1 (k9_nr I 2 t) (t + 1)) J = some (some (k9_i u2.2), k9_tr u2.1 (k9_tr u1.1 (k9_nr I 2 t) (t + 1)) (t + 1 + u1.1.length), J) := h d (k9_tr u1.1 (k9_nr I 2 t) (t + 1)) J 2 g (t + 1 + u1.1.length) 1 u2 (k9_mc_r u1.1 (k9_mc_n hM)) (by omega) (by omega) e2 (by omega)
    have m1 := (k9_mc_n (n := 2) hM).1
    repeat (first | ((with_reducible refine k9q_T ?_ ?_); · omega) | ((with_reducible refine k9q_F ?_ ?_); · omega) | ((with_reducible refine k9q_Tb ?_ ?_); · omega) | ((with_reducible refine k9q_Fb ?_ ?_); · omega))
    refine k9o_eq k9e_234_2 (k9o_call (k9s_230 (n := 2) hM.2 (by omega)) ?_)
    simp only [k9_ps_n]
    refine k9o_eq k9e_234_5 (k9o_T (by rw [n_toInt (by omega)]; omega) ?_)
    rw [n_cl (by omega), m1]
    refine k9o_eq k9e_234_11 (k9o_call r1 ?_)
    simp only [k9_ps_s]
    have m2 := (k9_mc_r u1.1 (k9_mc_n (n := 2) hM)).1
    refine k9o_eq k9e_234_13 (k9o_T (by rw [n_toInt (by omega)]; omega) ?_)
    rw [n_cl (by omega), m2]
    refine k9o_eq k9e_234_21 (k9o_call r2 ?_)
    simp only [k9_ps_s]
    refine k9o_eq k9e_234_23 (k9o_ret ?_)
    rw [show k9_tr (2 :: (u1.1 ++ u2.1)) I t = k9_tr (u1.1 ++ u2.1) (k9_nr I 2 t) (t + 1) from rfl, k9_tr_a]
  by_cases c5 : k = 5
  · rw [if_neg c0, if_pos c5] at hu
    obtain ⟨u1, e1, hu⟩ := Option.bind_eq_some_iff.mp hu
    obtain rfl := Option.some.inj hu
    simp only [List.length_cons, List.length_append] at hl
    have r1 : k9_R S (d + f) 234 0 [some (k9_r 12 0), some (k9_i (nI i)), some (k9_i (nI 3)), some (k9_i x3), none] [] (k9_nr I 60 t) J = some (some (k9_i u1.2), k9_tr u1.1 (k9_nr I 60 t) (t + 1), J) := h d (k9_nr I 60 t) J 3 3 (t + 1) x3 u1 (k9_mc_n hM) (by omega) (by omega) e1 (by omega)
    have m1 := (k9_mc_n (n := 60) hM).1
    repeat (first | ((with_reducible refine k9q_T ?_ ?_); · omega) | ((with_reducible refine k9q_F ?_ ?_); · omega) | ((with_reducible refine k9q_Tb ?_ ?_); · omega) | ((with_reducible refine k9q_Fb ?_ ?_); · omega))
    refine k9o_eq k9e_234_25 (k9o_call (k9s_230 (n := 60) hM.2 (by omega)) ?_)
    simp only [k9_ps_n]
    refine k9o_eq k9e_234_28 (k9o_call r1 ?_)
    simp only [k9_ps_s]
    exact k9o_eq k9e_234_33 (k9o_ret rfl)
  by_cases c7 : k = 7
  · rw [if_neg c0, if_neg c5, if_pos c7] at hu
    obtain ⟨u1, e1, hu⟩ := Option.bind_eq_some_iff.mp hu
    obtain rfl := Option.some.inj hu
    simp only [List.length_cons, List.length_append] at hl
    have r1 : k9_R S (d + f) 234 0 [some (k9_r 12 0), some (k9_i (nI i)), some (k9_i (nI 4)), some (k9_i x3), none] [] (k9_nr I 81 t) J = some (some (k9_i u1.2), k9_tr u1.1 (k9_nr I 81 t) (t + 1), J) := h d (k9_nr I 81 t) J 3 4 (t + 1) x3 u1 (k9_mc_n hM) (by omega) (by omega) e1 (by omega)
    have m1 := (k9_mc_n (n := 81) hM).1
    repeat (first | ((with_reducible refine k9q_T ?_ ?_); · omega) | ((with_reducible refine k9q_F ?_ ?_); · omega) | ((with_reducible refine k9q_Tb ?_ ?_); · omega) | ((with_reducible refine k9q_Fb ?_ ?_); · omega))
    refine k9o_eq k9e_234_36 (k9o_call (k9s_230 (n := 81) hM.2 (by omega)) ?_)
    simp only [k9_ps_n]
    refine k9o_eq k9e_234_39 (k9o_call r1 ?_)
    simp only [k9_ps_s]
    exact k9o_eq k9e_234_44 (k9o_ret rfl)
  rw [if_neg c0, if_neg c5, if_neg c7] at hu
  have ham := p_am_7 k hk
  have r1 : k9_R S (d + f) 234 0 [some (k9_r 12 0), some (k9_i (nI i)), some (k9_i (nI (p_am k))), some (k9_i x3), none] [] I J = some (some (k9_i u.2), k9_tr u.1 I t, J) := h d I J 3 (p_am k) t x3 u hM (by omega) (by omega) hu hl
  repeat' (first | ((with_reducible refine k9q_T ?_ ?_); · omega) | ((with_reducible refine k9q_F ?_ ?_); · omega) | (with_reducible refine k9q_if (fun _ => ?_) (fun _ => ?_)))
  all_goals refine k9o_eq k9e_234_47 (k9o_call (k9s_229 hk) ?_)
  all_goals simp only [k9_ps_s]
  all_goals refine k9o_eq k9e_234_51 (k9o_call r1 ?_)
  all_goals simp only [k9_ps_s]
  all_goals exact k9o_eq k9e_234_53 (k9o_ret rfl)
theorem k9_rq_a (hg : g ≤ 7) (hi : i < 50) (f : Nat) : k9_rq S g i f := by
  induction f with
  | zero =>
    intro d I J a k t x3 u hM hk ha hu hl
    rw [p_ra] at hu
    cases hu
  | succ f ih =>
    intro d I J a k t x3 u hM hk ha hu hl
    rw [p_ra] at hu
    obtain rfl | rfl | rfl | rfl : a = 0 ∨ a = 1 ∨ a = 2 ∨ a = 3 := by omega
    · exact k9_r231 hg hi ih hM hk hu hl
    · exact k9_r232 hg hi ih hM hk hu hl
    · exact k9_r233 hg hi ih hM hk hu hl
    · exact k9_r234 hg hi ih hM hk hu hl
end KT37
