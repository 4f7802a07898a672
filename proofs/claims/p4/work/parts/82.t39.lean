/-! PIECES FROM A ROW: the loops -/
section KT39
variable {S : k9_S} {d : Nat} {I I' : k9_I} {J J' : k9_J} {w : Nat → Nat → Nat} {V : (Nat → Int32) → Int32} {x1 x2 x3 : Int32} {s z y b v t i n : Nat} {q : Nat → Int32}
abbrev k9_pcc (z n y : Nat) (q : Nat → Int32) : Prop := y + 3 ≤ z ∧ n < 6 ∧ (1 ≤ (q y).toInt ∧ (q y).toInt ≤ 99) ∧ (1 ≤ (q (y + 1)).toInt ∧ (q (y + 1)).toInt ≤ 9) ∧ 0 ≤ (q (y + 2)).toInt ∧ (q (y + 2)).toInt ≤ 60
def p_pw (z i : Nat) (q : Nat → Int32) : Nat → Nat → (Nat → Nat → Nat) → Nat × (Nat → Nat → Nat)
  | 0, c, w => (c, w)
  | k + 1, c, w => if k9_pcc z (w 7 0) (i + 3 * c) q then p_pw z i q k (c + 1) (p_add w (q (i + 3 * c)).toInt.toNat (q (i + 3 * c + 1)).toInt.toNat (q (i + 3 * c + 2)).toInt.toNat) else (c, w)
theorem p_pw_c (z i : Nat) (q : Nat → Int32) (k c : Nat) (w : Nat → Nat → Nat) : c ≤ (p_pw z i q k c w).1 ∧ ((p_pw z i q k c w).1 = c → (p_pw z i q k c w).2 = w) := by
  induction k generalizing c w with
  | zero => exact ⟨Nat.le_refl _, fun _ => rfl⟩
  | succ k ih =>
    rw [p_pw]
    by_cases e : k9_pcc z (w 7 0) (i + 3 * c) q
    · rw [if_pos e]
      have h := ih (c + 1) (p_add w (q (i + 3 * c)).toInt.toNat (q (i + 3 * c + 1)).toInt.toNat (q (i + 3 * c + 2)).toInt.toNat)
      exact ⟨by omega, fun z => by omega⟩
    · rw [if_neg e]
      exact ⟨Nat.le_refl _, fun _ => rfl⟩
theorem p_pw_w (z i : Nat) (q : Nat → Int32) (k c : Nat) (w : Nat → Nat → Nat) (hf : k9_wf w) (h9 : ∀ p, p < w 7 0 → w 1 p ≤ 9) : k9_wf (p_pw z i q k c w).2 ∧ (∀ p, p < (p_pw z i q k c w).2 7 0 → (p_pw z i q k c w).2 1 p ≤ 9) ∧ w 7 0 ≤ (p_pw z i q k c w).2 7 0 := by
  induction k generalizing c w with
  | zero => exact ⟨hf, h9, Nat.le_refl _⟩
  | succ k ih =>
    rw [p_pw]
    by_cases e : k9_pcc z (w 7 0) (i + 3 * c) q
    · rw [if_pos e]
      obtain ⟨e1, e2, e3, e4, e5⟩ := e
      obtain ⟨b', hb'⟩ : ∃ b', b' = (q (i + 3 * c)).toInt.toNat := ⟨_, rfl⟩
      obtain ⟨v', hv'⟩ : ∃ v', v' = (q (i + 3 * c + 1)).toInt.toNat := ⟨_, rfl⟩
      obtain ⟨t', ht'⟩ : ∃ t', t' = (q (i + 3 * c + 2)).toInt.toNat := ⟨_, rfl⟩
      rw [← hb', ← hv', ← ht']
      have h := ih (c + 1) _ (k9_wf_add (b := b') (v := v') (s := t') hf e2 (by omega) (by omega) (by omega)) (fun p hp => by
        have hp : p < w 7 0 + 1 := hp
        by_cases e : p = w 7 0
        · simp [p_add, e]; omega
        · have := h9 p (by omega)
          simpa [p_add, e] using this)
      refine ⟨h.1, h.2.1, Nat.le_trans ?_ h.2.2⟩
      simp [p_add]
    · rw [if_neg e]
      exact ⟨hf, h9, Nat.le_refl _⟩
theorem n_tn {x : Int32} (h : 0 ≤ x.toInt) : x = nI x.toInt.toNat := by
  obtain ⟨n, rfl, h1, h2⟩ := n_of h
  rw [n_toInt (by omega)]
  rfl
def k9_pu (I : k9_I) (n b v t : Nat) : k9_I := k9_u (k9_u (c_add I 0 n b v t) 1 0 12 0) 1 0 13 0
theorem k9s_146T (hW : k9_Wk I 0 w) (hz : I 11 s 3 = nI z) (h60 : z ≤ 60) (hy : k9_pcc z (w 7 0) y q) (hq : q = fun p => (J 37 s p).toInt32) : k9_R S (d + 2) 146 0 [some (k9_r 1 0), some (k9_r 11 s), some (k9_i (nI y)), none, none, none] [] I J = some (some (k9_i 1), k9_pu I (w 7 0) (q y).toInt.toNat (q (y + 1)).toInt.toNat (q (y + 2)).toInt.toNat, J) := by
  obtain ⟨h1, h2, h3, h4, h5⟩ := hy
  have ea := k9s_95 (S := S) (d := d) (I := I) (J := J) (i0 := s) (i := y) (by omega)
  have eb := k9s_95 (S := S) (d := d) (I := I) (J := J) (i0 := s) (i := y + 1) (by omega)
  have ec := k9s_95 (S := S) (d := d) (I := I) (J := J) (i0 := s) (i := y + 2) (by omega)
  rw [show (J 37 s y).toInt32 = q y by rw [hq], n_tn (x := q y) (by omega)] at ea
  rw [show (J 37 s (y + 1)).toInt32 = q (y + 1) by rw [hq], n_tn (x := q (y + 1)) (by omega)] at eb
  rw [show (J 37 s (y + 2)).toInt32 = q (y + 2) by rw [hq], n_tn (x := q (y + 2)) (by omega)] at ec
  obtain ⟨b, hb⟩ : ∃ b, b = (q y).toInt.toNat := ⟨_, rfl⟩
  obtain ⟨v, hv⟩ : ∃ v, v = (q (y + 1)).toInt.toNat := ⟨_, rfl⟩
  obtain ⟨t, ht⟩ : ∃ t, t = (q (y + 2)).toInt.toNat := ⟨_, rfl⟩
  rw [← hb] at ea ⊢
  rw [← hv] at eb ⊢
  rw [← ht] at ec ⊢
  have e3 : (nI z - 3).toInt = (z : Int) - 3 := pk_sub_toInt (a := z) (b := 3) (by omega) (by omega)
  have e8 := k9s_8 (S := S) (d := d + 1) (J := J) (i0 := 0) (b := b) (v := v) (s := t) hW.1 h2
  have e147 : ∀ K : k9_I, k9_R S (d + 1) 147 0 [some (k9_r 1 0)] [] K J = some (none, k9_u (k9_u K 1 0 12 0) 1 0 13 0, J) := by
    intro K
    refine k9o_of ?_
    simp (disch := omega) only [k9e_147_0, Nat.reduceEqDiff, Int.reduceEq, Int.reduceLT, Int.reduceLE, k9_ps_s, k9_ps_n, k9_ur, false_and, and_false, true_and, and_true, true_or, or_true, false_or, or_false, eq_self, ↓reduceIte, not_true_eq_false, not_false_eq_true, n_toInt, n_cl, nI_1, nI_add, n_a0, n_p2, n_p3, n_p4, n_x2, n_x3, n_x4, n_x60, n_x100, n_pm1, k9L_m2, k9L_m1, k9L_0, k9L_1, k9L_2, k9L_3, k9L_4, k9L_5, k9L_6, k9L_7, k9L_8, k9L_9, k9L_10, k9L_20, k9L_23, k9L_24, k9L_30, k9L_40, k9L_50, k9L_60, k9L_99, k9L_100, k9L_120, k9L_255, k9L_999, k9L_1000, k9_bs, k9_ba]
    repeat (first | ((with_reducible refine k9q_T ?_ ?_); · omega) | ((with_reducible refine k9q_F ?_ ?_); · omega) | ((with_reducible refine k9q_Tb ?_ ?_); · omega) | ((with_reducible refine k9q_Fb ?_ ?_); · omega) | simp (disch := omega) only [k9e_147_0, Nat.reduceEqDiff, Int.reduceEq, Int.reduceLT, Int.reduceLE, k9_ps_s, k9_ps_n, k9_ur, false_and, and_false, true_and, and_true, true_or, or_true, false_or, or_false, eq_self, ↓reduceIte, not_true_eq_false, not_false_eq_true, n_toInt, n_cl, nI_1, nI_add, n_a0, n_p2, n_p3, n_p4, n_x2, n_x3, n_x4, n_x60, n_x100, n_pm1, k9L_m2, k9L_m1, k9L_0, k9L_1, k9L_2, k9L_3, k9L_4, k9L_5, k9L_6, k9L_7, k9L_8, k9L_9, k9L_10, k9L_20, k9L_23, k9L_24, k9L_30, k9L_40, k9L_50, k9L_60, k9L_99, k9L_100, k9L_120, k9L_255, k9L_999, k9L_1000, k9_bs, k9_ba])
    exact k9o_ret rfl
  refine k9o_of (k9o_eq k9e_146_0 (k9o_F (by rw [n_toInt (by omega)]; omega) (k9o_eq k9e_146_2 (k9o_F (by rw [hz, e3, n_toInt (by omega)]; omega) (k9o_eq k9e_146_8 (k9o_T (by rw [hW.1, n_toInt (by omega)]; omega) (k9o_eq k9e_146_16 (k9o_call ea ?_))))))))
  simp only [k9_ps_s]
  refine k9o_eq k9e_146_19 ?_
  rw [nI_1]
  refine k9o_call eb ?_
  simp only [k9_ps_s]
  refine k9o_eq k9e_146_25 ?_
  rw [n_p2]
  refine k9o_call ec ?_
  simp only [k9_ps_s]
  refine k9o_eq k9e_146_31 (k9o_call (k9s_0 (q := 0) (by omega) (by rw [n_toInt (by omega)]; show ((1 : Nat) : Int) ≤ _ ∧ _ ≤ ((99 : Nat) : Int); omega)) ?_)
  simp only [k9_ps_s]
  refine k9o_eq k9e_146_35 (k9o_F (by decide) (k9o_eq k9e_146_36 (k9o_call (k9s_0 (q := 1) (by omega) (by rw [n_toInt (by omega)]; show ((1 : Nat) : Int) ≤ _ ∧ _ ≤ ((9 : Nat) : Int); omega)) ?_)))
  simp only [k9_ps_s]
  refine k9o_eq k9e_146_39 (k9o_F (by decide) (k9o_eq k9e_146_40 (k9o_call (k9s_0 (q := 2) (by omega) (by rw [n_toInt (by omega)]; show ((0 : Nat) : Int) ≤ _ ∧ _ ≤ ((60 : Nat) : Int); omega)) ?_)))
  simp only [k9_ps_s]
  refine k9o_eq k9e_146_43 (k9o_F (by decide) (k9o_eq k9e_146_46 (k9o_call e8 ?_)))
  simp only [k9_ps_n]
  refine k9o_eq k9e_146_53 (k9o_call (e147 _) ?_)
  simp only [k9_ps_n]
  exact k9o_eq k9e_146_55 (k9o_ret rfl)
theorem k9s_146X (hz : I 11 s 3 = nI z) (h60 : z ≤ 60) (hx : x2.toInt < 0 ∨ (z : Int) - 3 < x2.toInt) : k9_R S d 146 0 [some (k9_r 1 0), some (k9_r 11 s), some (k9_i x2), none, none, none] [] I J = some (some (k9_i 0), I, J) := by
  have e3 : (nI z - 3).toInt = (z : Int) - 3 := pk_sub_toInt (a := z) (b := 3) (by omega) (by omega)
  refine k9o_of (k9o_eq k9e_146_0 ?_)
  by_cases c : x2.toInt < 0
  · exact k9o_T c (k9o_eq k9e_146_14 (k9o_ret rfl))
  · exact k9o_F c (k9o_eq k9e_146_2 (k9o_T (by rw [hz, e3]; omega) (k9o_eq k9e_146_14 (k9o_ret rfl))))
theorem k9s_146F (hW : k9_Wk I 0 w) (h6 : w 7 0 ≤ 6) (hz : I 11 s 3 = nI z) (h60 : z ≤ 60) (hi : y < 1000) (hy : ¬ k9_pcc z (w 7 0) y q) (hq : q = fun p => (J 37 s p).toInt32) : k9_R S (d + 2) 146 0 [some (k9_r 1 0), some (k9_r 11 s), some (k9_i (nI y)), none, none, none] [] I J = some (some (k9_i 0), I, J) := by
  by_cases c1 : y + 3 ≤ z
  · have e3 : (nI z - 3).toInt = (z : Int) - 3 := pk_sub_toInt (a := z) (b := 3) (by omega) (by omega)
    refine k9o_of (k9o_eq k9e_146_0 (k9o_F (by rw [n_toInt (by omega)]; omega) (k9o_eq k9e_146_2 (k9o_F (by rw [hz, e3, n_toInt (by omega)]; omega) (k9o_eq k9e_146_8 ?_)))))
    by_cases c2 : w 7 0 < 6
    · have ea := k9s_95 (S := S) (d := d) (I := I) (J := J) (i0 := s) (i := y) (by omega)
      have eb := k9s_95 (S := S) (d := d) (I := I) (J := J) (i0 := s) (i := y + 1) (by omega)
      have ec := k9s_95 (S := S) (d := d) (I := I) (J := J) (i0 := s) (i := y + 2) (by omega)
      rw [show (J 37 s y).toInt32 = q y by rw [hq]] at ea
      rw [show (J 37 s (y + 1)).toInt32 = q (y + 1) by rw [hq]] at eb
      rw [show (J 37 s (y + 2)).toInt32 = q (y + 2) by rw [hq]] at ec
      refine k9o_T (by rw [hW.1, n_toInt (by omega)]; omega) (k9o_eq k9e_146_16 (k9o_call ea ?_))
      simp only [k9_ps_s]
      refine k9o_eq k9e_146_19 ?_
      rw [nI_1]
      refine k9o_call eb ?_
      simp only [k9_ps_s]
      refine k9o_eq k9e_146_25 ?_
      rw [n_p2]
      refine k9o_call ec ?_
      simp only [k9_ps_s]
      refine k9o_eq k9e_146_31 ?_
      by_cases c3 : 1 ≤ (q y).toInt ∧ (q y).toInt ≤ 99
      · refine k9o_call (k9s_0 (q := 0) (by omega) c3) ?_
        simp only [k9_ps_s]
        refine k9o_eq k9e_146_35 (k9o_F (by decide) (k9o_eq k9e_146_36 ?_))
        by_cases c4 : 1 ≤ (q (y + 1)).toInt ∧ (q (y + 1)).toInt ≤ 9
        · refine k9o_call (k9s_0 (q := 1) (by omega) c4) ?_
          simp only [k9_ps_s]
          refine k9o_eq k9e_146_39 (k9o_F (by decide) (k9o_eq k9e_146_40 ?_))
          have c5 : ¬ (0 ≤ (q (y + 2)).toInt ∧ (q (y + 2)).toInt ≤ 60) := fun c5 => hy ⟨c1, c2, c3, c4, c5⟩
          refine k9o_call (k9s_0x (q := 2) (by omega) c5) ?_
          simp only [k9_ps_s]
          exact k9o_eq k9e_146_43 (k9o_T (by decide) (k9o_eq k9e_146_44 (k9o_ret rfl)))
        · refine k9o_call (k9s_0x (q := 1) (by omega) c4) ?_
          simp only [k9_ps_s]
          exact k9o_eq k9e_146_39 (k9o_T (by decide) (k9o_eq k9e_146_44 (k9o_ret rfl)))
      · refine k9o_call (k9s_0x (q := 0) (by omega) c3) ?_
        simp only [k9_ps_s]
        exact k9o_eq k9e_146_35 (k9o_T (by decide) (k9o_eq k9e_146_44 (k9o_ret rfl)))
    · exact k9o_F (by rw [hW.1, n_toInt (by omega)]; omega) (k9o_eq k9e_146_14 (k9o_ret rfl))
  · exact k9s_146X hz h60 (by rw [n_toInt (by omega)]; omega)
def k9_Fpc (k i p : Nat) : Bool := ((Nat.beq k 3 || Nat.beq k 20 || Nat.beq k 21 || Nat.beq k 22 || Nat.beq k 23) && Nat.beq i 0) || (Nat.beq k 1 && (Nat.beq p 12 || Nat.beq p 13))
theorem k9_pu_x : k9_fx k9_Fpc I (k9_pu I n b v t) := by
  unfold k9_pu c_add
  exact k9_fx_u (k9_fx_u (k9_fx_u (k9_fx_u (k9_fx_u (k9_fx_u (k9_fx_u (k9_fx_rf _ _) rfl) rfl) rfl) rfl) rfl) rfl) rfl
theorem k9_pcC (h60 : z ≤ 60) (hi : i < 500) (hn : n ≤ 6) (hq : q = fun p => (J 37 s p).toInt32) : ∀ k c w I1, c + k = n → k9_Wk I1 0 w → w 7 0 ≤ 6 → I1 11 s 3 = nI z → ∃ I2, k9_R S (d + 3) 100 26 [some (k9_r 1 0), some (k9_i x1), some (k9_i (nI i)), some (k9_i (nI n)), some (k9_r 11 s), some (k9_i (nI c))] [] I1 J = some (some (k9_i (nI (p_pw z i q k c w).1)), I2, J) ∧ k9_Wk I2 0 (p_pw z i q k c w).2 ∧ k9_fx k9_Fpc I1 I2 ∧ ((p_pw z i q k c w).1 = c → I2 = I1) ∧ (c < (p_pw z i q k c w).1 → I2 1 0 12 = 0 ∧ I2 1 0 13 = 0) := by
  intro k
  induction k with
  | zero =>
    intro c w I1 hc hW h6 hz
    obtain rfl : c = n := by omega
    refine ⟨I1, k9o_of (k9o_eq k9e_100_26 (k9o_T (by omega) (k9o_eq k9e_100_40 (k9o_ret rfl)))), hW, k9_fx_rf _ _, fun _ => rfl, fun h => ?_⟩
    exact absurd h (Nat.lt_irrefl _)
  | succ k ih =>
    intro c w I1 hc hW h6 hz
    have ex : nI i + 3 * nI c = nI (i + 3 * c) := by rw [n_x3, nI_add]
    rw [p_pw]
    by_cases e : k9_pcc z (w 7 0) (i + 3 * c) q
    · rw [if_pos e]
      have e146 := k9s_146T (S := S) (d := d) (J := J) hW hz h60 e hq
      obtain ⟨b, hb⟩ : ∃ b, b = (q (i + 3 * c)).toInt.toNat := ⟨_, rfl⟩
      obtain ⟨v, hv⟩ : ∃ v, v = (q (i + 3 * c + 1)).toInt.toNat := ⟨_, rfl⟩
      obtain ⟨t, ht⟩ : ∃ t, t = (q (i + 3 * c + 2)).toInt.toNat := ⟨_, rfl⟩
      rw [← hb, ← hv, ← ht] at e146 ⊢
      have px : k9_fx k9_Fpc I1 (k9_pu I1 (w 7 0) b v t) := k9_pu_x
      have hW2 : k9_Wk (k9_pu I1 (w 7 0) b v t) 0 (p_add w b v t) := by
        unfold k9_pu
        exact k9_Wk_u rfl (k9_Wk_u rfl (k9_Wk_add hW))
      obtain ⟨I2, e2, W2, x2, f2, g2⟩ := ih (c + 1) (p_add w b v t) (k9_pu I1 (w 7 0) b v t) (by omega) hW2 (by have := e.2.1; simp [p_add]; omega) ((px 11 s 3 rfl).trans hz)
      have hle := (p_pw_c z i q k (c + 1) (p_add w b v t)).1
      refine ⟨I2, ?_, W2, k9_fx_tr px x2, fun h => by omega, fun _ => ?_⟩
      · refine k9o_of (k9o_eq k9e_100_26 (k9o_F (by rw [n_toInt (by omega), n_toInt (by omega)]; omega) (k9o_eq k9e_100_29 ?_)))
        rw [ex]
        refine k9o_call e146 ?_
        simp only [k9_ps_s]
        refine k9o_eq k9e_100_37 (k9o_F (by decide) (k9o_eq k9e_100_38 ?_))
        rw [nI_1]
        exact k9o_to e2 rfl
      · by_cases c2 : (p_pw z i q k (c + 1) (p_add w b v t)).1 = c + 1
        · rw [f2 c2]
          exact ⟨by simp [k9_pu, k9_ur], by simp [k9_pu, k9_ur]⟩
        · exact g2 (by omega)
    · rw [if_neg e]
      have e146 := k9s_146F (S := S) (d := d) (J := J) hW h6 hz h60 (show i + 3 * c < 1000 by omega) e hq
      refine ⟨I1, ?_, hW, k9_fx_rf _ _, fun _ => rfl, fun h => absurd h (Nat.lt_irrefl _)⟩
      refine k9o_of (k9o_eq k9e_100_26 (k9o_F (by rw [n_toInt (by omega), n_toInt (by omega)]; omega) (k9o_eq k9e_100_29 ?_)))
      rw [ex]
      refine k9o_call e146 ?_
      simp only [k9_ps_s]
      exact k9o_eq k9e_100_37 (k9o_T (by decide) (k9o_eq k9e_100_40 (k9o_ret rfl)))
theorem l_3 : (3 : Int64).toInt = 3 := by decide
theorem l_w6 {x y : Int32} (hy : 0 ≤ y.toInt ∧ y.toInt ≤ 10) : (x.toInt64 + 3 * y.toInt64).toInt = x.toInt + 3 * y.toInt := by
  have h1 := n_rng x
  rw [Int64.toInt_add, Int64.toInt_mul, Int32.toInt_toInt64, Int32.toInt_toInt64, l_3, Int.bmod_def, Int.bmod_def]
  split <;> split <;> omega
theorem l_p3 {x : Int64} {a : Int} (h : x.toInt = a) (h1 : -10000000000 ≤ a ∧ a ≤ 10000000000) : (x + 3).toInt = a + 3 := by
  rw [Int64.toInt_add, h, l_3, Int.bmod_def]
  split <;> omega
theorem l_32 {x : Int64} {n : Nat} (h : x.toInt = (n : Int)) (hn : n < 1000000) : x.toInt32 = nI n := by
  apply n_ext
  rw [n_toInt (by omega), Int64.toInt_toInt32, h, Int.bmod_def]
  split <;> omega
theorem k9s_157 (hn : I 12 0 0 = nI n) (h6 : n < 6) : k9_R S d 157 0 [some (k9_r 12 0), some (k9_i (nI b)), some (k9_i (nI v)), some (k9_i (nI t))] [] I J = some (some (k9_i (nI n)), m_add I n b v t, J) := by
  refine k9o_of ?_
  simp (disch := omega) only [k9e_157_0, k9e_157_6, k9e_157_12, k9e_157_18, k9e_157_24, Nat.reduceEqDiff, Int.reduceEq, Int.reduceLT, Int.reduceLE, k9_ps_s, k9_ps_n, k9_ur, false_and, and_false, true_and, and_true, true_or, or_true, false_or, or_false, eq_self, ↓reduceIte, not_true_eq_false, not_false_eq_true, n_toInt, n_cl, nI_1, nI_add, n_a0, n_p2, n_p3, n_p4, n_x2, n_x3, n_x4, n_x60, n_x100, n_pm1, k9L_m2, k9L_m1, k9L_0, k9L_1, k9L_2, k9L_3, k9L_4, k9L_5, k9L_6, k9L_7, k9L_8, k9L_9, k9L_10, k9L_20, k9L_23, k9L_24, k9L_30, k9L_40, k9L_50, k9L_60, k9L_99, k9L_100, k9L_120, k9L_255, k9L_999, k9L_1000, k9_bs, k9_ba, hn]
  repeat (first | ((with_reducible refine k9q_T ?_ ?_); · omega) | ((with_reducible refine k9q_F ?_ ?_); · omega) | ((with_reducible refine k9q_Tb ?_ ?_); · omega) | ((with_reducible refine k9q_Fb ?_ ?_); · omega) | simp (disch := omega) only [k9e_157_0, k9e_157_6, k9e_157_12, k9e_157_18, k9e_157_24, Nat.reduceEqDiff, Int.reduceEq, Int.reduceLT, Int.reduceLE, k9_ps_s, k9_ps_n, k9_ur, false_and, and_false, true_and, and_true, true_or, or_true, false_or, or_false, eq_self, ↓reduceIte, not_true_eq_false, not_false_eq_true, n_toInt, n_cl, nI_1, nI_add, n_a0, n_p2, n_p3, n_p4, n_x2, n_x3, n_x4, n_x60, n_x100, n_pm1, k9L_m2, k9L_m1, k9L_0, k9L_1, k9L_2, k9L_3, k9L_4, k9L_5, k9L_6, k9L_7, k9L_8, k9L_9, k9L_10, k9L_20, k9L_23, k9L_24, k9L_30, k9L_40, k9L_50, k9L_60, k9L_99, k9L_100, k9L_120, k9L_255, k9L_999, k9L_1000, k9_bs, k9_ba, hn])
  exact k9o_ret rfl
def k9_Fpm (k i p : Nat) : Bool := Nat.beq i 0 && ((Nat.beq k 40 || Nat.beq k 41 || Nat.beq k 42 || Nat.beq k 43) || (Nat.beq k 12 && Nat.beq p 0))
theorem m_add_x : k9_fx k9_Fpm I (m_add I n b v t) := by
  unfold m_add
  exact k9_fx_u (k9_fx_u (k9_fx_u (k9_fx_u (k9_fx_u (k9_fx_rf _ _) rfl) rfl) rfl) rfl) rfl
theorem k9_pcM (hs : s < 6) (h60 : z ≤ 60) (hi : i < 500) (hn : n ≤ 6) (hq : ∀ p, p < 60 → (J 62 0 (60 * s + p)).toInt32 = q p) : ∀ k c w I1, c + k = n → k9_Wm I1 w → w 7 0 ≤ 6 → I1 61 0 s = nI z → ∃ I2, k9_R S (d + 3) 159 29 [some (k9_r 12 0), some (k9_i (nI s)), some (k9_i (nI i)), some (k9_i (nI n)), some (k9_i (nI c)), some (k9_i (nI c)), none, none, none] [] I1 J = some (some (k9_i (nI (p_pw z i q k c w).1)), I2, J) ∧ k9_Wm I2 (p_pw z i q k c w).2 ∧ k9_fx k9_Fpm I1 I2 ∧ ((p_pw z i q k c w).1 = c → I2 = I1) := by
  intro k
  induction k with
  | zero =>
    intro c w I1 hc hW h6 hz
    obtain rfl : c = n := by omega
    exact ⟨I1, k9o_of (k9o_eq k9e_159_29 (k9o_T (by omega) (k9o_eq k9e_159_125 (k9o_ret rfl)))), hW, k9_fx_rf _ _, fun _ => rfl⟩
  | succ k ih =>
    intro c w I1 hc hW h6 hz
    have hM := hW.1
    obtain ⟨L6, hL6⟩ : ∃ L6, L6 = (nI i).toInt64 + 3 * (nI c).toInt64 := ⟨_, rfl⟩
    have t6 : L6.toInt = ((i + 3 * c : Nat) : Int) := by
      rw [hL6, l_w6 (by rw [n_toInt (by omega)]; omega), n_toInt (by omega), n_toInt (by omega)]
      omega
    have t32 := l_32 t6 (by omega)
    have t63 : (L6 + 3).toInt = ((i + 3 * c : Nat) : Int) + 3 := l_p3 t6 (by omega)
    have l0 : (0 : Int64).toInt = 0 := by decide
    have st : ∀ {Q : k9_A → Prop}, k9_ok (k9_R S (d + 3) 159 44 [some (k9_r 12 0), some (k9_i (nI s)), some (k9_i (nI i)), some (k9_i (nI n)), some (k9_i (nI c)), some (k9_i (nI c)), some (k9_l L6), none, none] [] I1 J) Q → k9_ok (k9_R S (d + 3) 159 29 [some (k9_r 12 0), some (k9_i (nI s)), some (k9_i (nI i)), some (k9_i (nI n)), some (k9_i (nI c)), some (k9_i (nI c)), none, none, none] [] I1 J) Q := by
      intro Q g
      refine k9o_eq k9e_159_29 (k9o_F (by rw [n_toInt (by omega), n_toInt (by omega)]; omega) (k9o_eq k9e_159_32 ?_))
      rw [← hL6]
      exact k9o_F (by rw [lg_neg, t6, l0]; omega) g
    have out : ∀ (ix : Nat) {Q : k9_A → Prop} (x8 : Option k9_v), Q (some (k9_i (nI c)), I1, J) → k9_ok (k9_R S (d + 3) 159 58 [some (k9_r 12 0), some (k9_i (nI s)), some (k9_i (nI i)), some (k9_i (nI n)), some (k9_i (nI c)), some (k9_i (nI c)), some (k9_l L6), none, none] [] I1 J) Q := by
      intro ix Q x8 g
      exact k9o_eq k9e_159_58 (k9o_ret g)
    rw [p_pw]
    by_cases e1 : i + 3 * c + 3 ≤ z
    · have st1 : ∀ {Q : k9_A → Prop}, k9_ok (k9_R S (d + 3) 159 54 [some (k9_r 12 0), some (k9_i (nI s)), some (k9_i (nI i)), some (k9_i (nI n)), some (k9_i (nI c)), some (k9_i (nI c)), some (k9_l L6), none, none] [] I1 J) Q → k9_ok (k9_R S (d + 3) 159 29 [some (k9_r 12 0), some (k9_i (nI s)), some (k9_i (nI i)), some (k9_i (nI n)), some (k9_i (nI c)), some (k9_i (nI c)), none, none, none] [] I1 J) Q := by
        intro Q g
        refine st (k9o_eq k9e_159_44 (k9o_T (by rw [n_toInt (by omega)]; omega) ?_))
        rw [n_cl (by omega), hz]
        exact k9o_eq k9e_159_51 (k9o_F (by rw [lg_pos, t63, Int32.toInt_toInt64, n_toInt (by omega)]; omega) g)
      by_cases e2 : w 7 0 < 6
      · have et : (60 : Int32) * nI s + nI (i + 3 * c) = nI (60 * s + (i + 3 * c)) := by rw [n_x60, nI_add]
        obtain ⟨y, hy⟩ : ∃ y, y = i + 3 * c := ⟨_, rfl⟩
        rw [← hy] at t32 et e1 ⊢
        have y1 : 60 * s + y + 1 = 60 * s + (y + 1) := by omega
        have y2 : 60 * s + y + 2 = 60 * s + (y + 2) := by omega
        have qa := hq y (by omega)
        have qb := hq (y + 1) (by omega)
        have qc := hq (y + 2) (by omega)
        have st2 : ∀ {Q : k9_A → Prop}, k9_ok (k9_R S (d + 3) 159 71 [some (k9_r 12 0), some (k9_i (nI s)), some (k9_i (nI i)), some (k9_i (nI n)), some (k9_i (nI c)), some (k9_i (nI c)), some (k9_l L6), none, some (k9_i (nI (60 * s + y)))] [k9_l (J 62 0 (60 * s + y))] I1 J) Q → k9_ok (k9_R S (d + 3) 159 29 [some (k9_r 12 0), some (k9_i (nI s)), some (k9_i (nI i)), some (k9_i (nI n)), some (k9_i (nI c)), some (k9_i (nI c)), none, none, none] [] I1 J) Q := by
          intro Q g
          refine st1 (k9o_eq k9e_159_54 (k9o_F (by rw [hM, n_toInt (by omega)]; omega) (k9o_eq k9e_159_60 ?_)))
          rw [t32, et]
          refine k9o_T (by rw [n_toInt (by omega)]; omega) ?_
          rw [n_cl (by omega)]
          exact g
        by_cases e3 : 1 ≤ (q y).toInt ∧ (q y).toInt ≤ 99
        · have st3 : ∀ {Q : k9_A → Prop}, k9_ok (k9_R S (d + 3) 159 82 [some (k9_r 12 0), some (k9_i (nI s)), some (k9_i (nI i)), some (k9_i (nI n)), some (k9_i (nI c)), some (k9_i (nI c)), some (k9_l L6), none, some (k9_i (nI (60 * s + y)))] [k9_l (J 62 0 (60 * s + (y + 1)))] I1 J) Q → k9_ok (k9_R S (d + 3) 159 29 [some (k9_r 12 0), some (k9_i (nI s)), some (k9_i (nI i)), some (k9_i (nI n)), some (k9_i (nI c)), some (k9_i (nI c)), none, none, none] [] I1 J) Q := by
            intro Q g
            refine st2 (k9o_eq k9e_159_71 ?_)
            rw [qa]
            refine k9o_call (k9s_153 e3) ?_
            simp only [k9_ps_s]
            refine k9o_eq k9e_159_75 (k9o_F (by decide) (k9o_eq k9e_159_76 ?_))
            rw [nI_1, y1]
            refine k9o_T (by rw [n_toInt (by omega)]; omega) ?_
            rw [n_cl (by omega)]
            exact g
          by_cases e4 : 1 ≤ (q (y + 1)).toInt ∧ (q (y + 1)).toInt ≤ 9
          · have st4 : ∀ {Q : k9_A → Prop}, k9_ok (k9_R S (d + 3) 159 93 [some (k9_r 12 0), some (k9_i (nI s)), some (k9_i (nI i)), some (k9_i (nI n)), some (k9_i (nI c)), some (k9_i (nI c)), some (k9_l L6), none, some (k9_i (nI (60 * s + y)))] [k9_l (J 62 0 (60 * s + (y + 2)))] I1 J) Q → k9_ok (k9_R S (d + 3) 159 29 [some (k9_r 12 0), some (k9_i (nI s)), some (k9_i (nI i)), some (k9_i (nI n)), some (k9_i (nI c)), some (k9_i (nI c)), none, none, none] [] I1 J) Q := by
              intro Q g
              refine st3 (k9o_eq k9e_159_82 ?_)
              rw [qb]
              refine k9o_call (k9s_153 e4) ?_
              simp only [k9_ps_s]
              refine k9o_eq k9e_159_86 (k9o_F (by decide) (k9o_eq k9e_159_87 ?_))
              rw [n_p2, y2]
              refine k9o_T (by rw [n_toInt (by omega)]; omega) ?_
              rw [n_cl (by omega)]
              exact g
            by_cases e5 : 0 ≤ (q (y + 2)).toInt ∧ (q (y + 2)).toInt ≤ 60
            · rw [if_pos ⟨e1, e2, e3, e4, e5⟩]
              rw [n_tn (x := q y) (by omega)] at qa
              rw [n_tn (x := q (y + 1)) (by omega)] at qb
              have qc' := qc
              rw [n_tn (x := q (y + 2)) (by omega)] at qc'
              obtain ⟨b, hb⟩ : ∃ b, b = (q y).toInt.toNat := ⟨_, rfl⟩
              obtain ⟨v, hv⟩ : ∃ v, v = (q (y + 1)).toInt.toNat := ⟨_, rfl⟩
              obtain ⟨t, ht⟩ : ∃ t, t = (q (y + 2)).toInt.toNat := ⟨_, rfl⟩
              rw [← hb] at qa ⊢
              rw [← hv] at qb ⊢
              rw [← ht] at qc' ⊢
              have mx : k9_fx k9_Fpm I1 (m_add I1 (w 7 0) b v t) := m_add_x
              obtain ⟨I2, r2, W2, x2, f2⟩ := ih (c + 1) (p_add w b v t) (m_add I1 (w 7 0) b v t) (by omega) (k9_Wm_add hW) (by simp [p_add]; omega) ((mx 61 0 s rfl).trans hz)
              have hle := (p_pw_c z i q k (c + 1) (p_add w b v t)).1
              refine ⟨I2, ?_, W2, k9_fx_tr mx x2, fun h => by omega⟩
              refine k9o_of (st4 (k9o_eq k9e_159_93 ?_))
              rw [qc]
              refine k9o_call (k9s_153 e5) ?_
              simp only [k9_ps_s]
              refine k9o_eq k9e_159_97 (k9o_F (by decide) (k9o_eq k9e_159_100 (k9o_T (by rw [n_toInt (by omega)]; omega) ?_)))
              rw [n_cl (by omega)]
              refine k9o_eq k9e_159_105 ?_
              rw [nI_1, y1, qa]
              refine k9o_T (by rw [n_toInt (by omega)]; omega) ?_
              rw [n_cl (by omega)]
              refine k9o_eq k9e_159_112 ?_
              rw [n_p2, y2, qb]
              refine k9o_T (by rw [n_toInt (by omega)]; omega) ?_
              rw [n_cl (by omega)]
              refine k9o_eq k9e_159_119 ?_
              rw [qc']
              refine k9o_call (k9s_157 hM e2) ?_
              simp only [k9_ps_s]
              refine k9o_eq k9e_159_121 ?_
              rw [nI_1]
              exact k9o_to r2 rfl
            · rw [if_neg (fun h => e5 h.2.2.2.2)]
              refine ⟨I1, k9o_of (st4 (k9o_eq k9e_159_93 ?_)), hW, k9_fx_rf _ _, fun _ => rfl⟩
              rw [qc]
              refine k9o_call (k9s_153x e5) ?_
              simp only [k9_ps_s]
              exact k9o_eq k9e_159_97 (k9o_T (by decide) (k9o_eq k9e_159_98 (k9o_ret rfl)))
          · rw [if_neg (fun h => e4 h.2.2.2.1)]
            refine ⟨I1, k9o_of (st3 (k9o_eq k9e_159_82 ?_)), hW, k9_fx_rf _ _, fun _ => rfl⟩
            rw [qb]
            refine k9o_call (k9s_153x e4) ?_
            simp only [k9_ps_s]
            exact k9o_eq k9e_159_86 (k9o_T (by decide) (k9o_eq k9e_159_98 (k9o_ret rfl)))
        · rw [if_neg (fun h => e3 h.2.2.1)]
          refine ⟨I1, k9o_of (st2 (k9o_eq k9e_159_71 ?_)), hW, k9_fx_rf _ _, fun _ => rfl⟩
          rw [qa]
          refine k9o_call (k9s_153x e3) ?_
          simp only [k9_ps_s]
          exact k9o_eq k9e_159_75 (k9o_T (by decide) (k9o_eq k9e_159_98 (k9o_ret rfl)))
      · rw [if_neg (fun h => e2 h.2.1)]
        exact ⟨I1, k9o_of (st1 (k9o_eq k9e_159_54 (k9o_T (by rw [hM, n_toInt (by omega)]; omega) (out 0 none rfl)))), hW, k9_fx_rf _ _, fun _ => rfl⟩
    · rw [if_neg (fun h => e1 h.1)]
      refine ⟨I1, k9o_of (st (k9o_eq k9e_159_44 (k9o_T (by rw [n_toInt (by omega)]; omega) ?_))), hW, k9_fx_rf _ _, fun _ => rfl⟩
      rw [n_cl (by omega), hz]
      exact k9o_eq k9e_159_51 (k9o_T (by rw [lg_pos, t63, Int32.toInt_toInt64, n_toInt (by omega)]; omega) (out 0 none rfl))
end KT39
