/-! LIES: where -/
section KT27
variable {S : k9_S} {d : Nat} {I I' : k9_I} {J J' : k9_J} {w : Nat → Nat → Nat} {V : (Nat → Int32) → Int32} {b : Nat} {x1 x2 x3 : Int32} {h c : Nat → Nat} {L A f M : Nat}
def p_wo (n a i : Nat) : Nat → Nat := fun k => if k < n then p_ld a i k else 0
def p_wg (w : Nat → Nat → Nat) (V : (Nat → Int32) → Int32) (q : Nat) (o : Nat → Nat) : Nat := if q = 2 then (p_sd (p_sh (p_cm w o) (p_tt (p_cm w o)) V) (p_len (p_cm w o) + 1)).1 else p_oo w V o
theorem p_oo_b {o : Nat → Nat} (hf : k9_wf (p_cm w o)) : p_oo w V o ≤ 100000 := by
  have := p_len_b hf
  have := (p_of_b (h := p_sh (p_cm w o) (p_tt (p_cm w o)) V) (fun t => p_sh_b t) (fun t => p_ct_b (Nat.min_le_right t (p_len (p_cm w o)))) (p_len (p_cm w o) + 1)).2.1
  unfold p_oo
  omega
theorem p_wg_b {o : Nat → Nat} {q : Nat} (hf : k9_wf (p_cm w o)) : p_wg w V q o ≤ 100000 := by
  unfold p_wg
  split
  · have := (p_sd_b (p_sh (p_cm w o) (p_tt (p_cm w o)) V) (p_len (p_cm w o) + 1)).1
    have := p_len_b hf
    omega
  · exact p_oo_b hf
def p_aw (g : Nat → Nat) : Nat → Nat × Nat
  | 0 => (0, 0)
  | k + 1 => if k = 0 ∨ g k < (p_aw g k).2 then (k, g k) else p_aw g k
theorem p_aw_b {g : Nat → Nat} {N m : Nat} (h : ∀ k, k < m → g k ≤ N) : ∀ k, k ≤ m → (p_aw g k).1 ≤ k ∧ (p_aw g k).2 ≤ N
  | 0, _ => ⟨Nat.le_refl _, Nat.zero_le _⟩
  | k + 1, hk => by
    have := p_aw_b h k (by omega)
    have := h k (by omega)
    rw [p_aw]
    split
    · exact ⟨Nat.le_succ k, h k (by omega)⟩
    · exact ⟨by omega, by omega⟩
/-- of the class: trial and an order -/
def k9_F6 (k i p : Nat) : Bool := k9_Ft k i p || k9_Fo 0 k i p
theorem k9_F6_t {I1 I2 : k9_I} (h : k9_fx k9_Ft I1 I2) : k9_fx k9_F6 I1 I2 := k9_fx_w h (fun k i p e => by
  unfold k9_F6 at e
  exact (Bool.or_eq_false_iff.mp e).1)
theorem k9_F6_o {I1 I2 : k9_I} (h : k9_fx (k9_Fo 0) I1 I2) : k9_fx k9_F6 I1 I2 := k9_fx_w h (fun k i p e => by
  unfold k9_F6 at e
  exact (Bool.or_eq_false_iff.mp e).2)
theorem k9_F6_X {X : Nat → Bool} (hX : X 0 = true) : ∀ k i p, k9_F6 k i p = true → X (v_cl k i p) = true := by
  intro k i p e
  rcases Bool.or_eq_true_iff.mp e with f | f
  · exact k9_Ft_X hX k i p f
  · clear e
    simp only [k9_Fo, Bool.or_eq_true, Bool.and_eq_true] at f
    obtain ⟨f, e0⟩ := f
    have e0 := k9_beq_of e0
    subst e0
    rcases f with f | f <;> (rw [k9_beq_of f]; exact hX)
/-- of the reference: runs and looks -/
def k9_F7 (k i p : Nat) : Bool := k9_Fq k i p || k9_F44 k i p
theorem k9_F7_q {I1 I2 : k9_I} (h : k9_fx k9_Fq I1 I2) : k9_fx k9_F7 I1 I2 := k9_fx_w h (fun k i p e => by
  unfold k9_F7 at e
  exact (Bool.or_eq_false_iff.mp e).1)
theorem k9_F7_44 {I1 I2 : k9_I} (h : k9_fx k9_F44 I1 I2) : k9_fx k9_F7 I1 I2 := k9_fx_w h (fun k i p e => by
  unfold k9_F7 at e
  exact (Bool.or_eq_false_iff.mp e).2)
theorem k9_F7_X {X : Nat → Bool} (hX : X 0 = true) : ∀ k i p, k9_F7 k i p = true → X (v_cl k i p) = true := by
  intro k i p e
  rcases Bool.or_eq_true_iff.mp e with e | e
  · exact k9_Fq_X hX k i p e
  · exact k9_F44_X hX k i p e
theorem k9s_212l {Q : k9_A → Prop} {x1 x3 x4 : Int32} {n a pl : Nat} (h6 : n ≤ 6) (ha : a < n) (hpl : pl < n) (h0 : I 12 0 0 = nI n)
    (g : ∀ I', (∀ k, k < n → I' 63 0 k = nI (p_ld a pl k)) → k9_fx (fun k _ _ => Nat.beq k 63) I I' → ∀ x6 x7 : Int32, k9_ok (k9_R S d 212 79 [some (k9_r 12 0), some (k9_i x1), some (k9_i (nI a)), some (k9_i x3), some (k9_i x4), some (k9_i (nI pl)), some (k9_i x6), some (k9_i x7)] [] I' J) Q) :
    k9_ok (k9_R S d 212 43 [some (k9_r 12 0), some (k9_i x1), some (k9_i (nI a)), some (k9_i x3), some (k9_i x4), some (k9_i (nI pl)), none, none] [] I J) Q := by
  have key : ∀ k j m I1, j + k = n → m = p_ln a pl j → (∀ k, k < m → I1 63 0 k = nI (p_ld a pl k)) → k9_fx (fun k _ _ => Nat.beq k 63) I I1 → k9_ok (k9_R S d 212 47 [some (k9_r 12 0), some (k9_i x1), some (k9_i (nI a)), some (k9_i x3), some (k9_i x4), some (k9_i (nI pl)), some (k9_i (nI m)), some (k9_i (nI j))] [] I1 J) Q := by
    intro k
    induction k with
    | zero =>
      intro j m I1 hj hm hh hx
      obtain rfl : j = n := by omega
      have hm6 : m ≤ j := by
        rw [hm]
        unfold p_ln p_lr
        repeat' split
        all_goals omega
      refine k9o_eq k9e_212_47 (k9o_T (by rw [hx 12 0 0 rfl, h0]; omega) (k9o_eq k9e_212_71 ?_))
      by_cases e : m = pl
      · refine k9o_T (by rw [n_toInt (by omega), n_toInt (by omega)]; omega) (k9o_eq k9e_212_74 (k9o_T (by rw [n_toInt (by omega)]; omega) ?_))
        rw [n_cl (by omega)]
        refine g _ (fun k hk => ?_) (k9_fx_u hx rfl) _ _
        have hm' : m + 1 = j := by
          rw [hm] at e ⊢
          unfold p_ln p_lr at e ⊢
          repeat' split at e
          all_goals repeat' split
          all_goals omega
        by_cases c : k = m
        · subst c
          simp [k9_ur, p_ld, e]
        · simpa [k9_ur, c] using hh k (by omega)
      · refine k9o_F (by rw [n_toInt (by omega), n_toInt (by omega)]; omega) (g _ (fun k hk => hh k ?_) hx _ _)
        rw [hm] at e ⊢
        unfold p_ln p_lr at e ⊢
        repeat' split at e
        all_goals repeat' split
        all_goals omega
    | succ k ih =>
      intro j m I1 hj hm hh hx
      have hm6 : m ≤ j + 1 := by
        rw [hm]
        unfold p_ln p_lr
        repeat' split
        all_goals omega
      refine k9o_eq k9e_212_47 (k9o_F (by rw [hx 12 0 0 rfl, h0, n_toInt (by omega), n_toInt (by omega)]; omega) (k9o_eq k9e_212_51 ?_))
      have two : ∀ m2 I2, m2 = p_lr a j + (if pl ≤ p_lr a j then 1 else 0) → (∀ k, k < m2 → I2 63 0 k = nI (p_ld a pl k)) → k9_fx (fun k _ _ => Nat.beq k 63) I I2 → k9_ok (k9_R S d 212 60 [some (k9_r 12 0), some (k9_i x1), some (k9_i (nI a)), some (k9_i x3), some (k9_i x4), some (k9_i (nI pl)), some (k9_i (nI m2)), some (k9_i (nI j))] [] I2 J) Q := by
        intro m2 I2 hm2 hh2 hx2
        have hm26 : m2 ≤ j + 1 := by
          rw [hm2]
          unfold p_lr
          repeat' split
          all_goals omega
        by_cases e : j = a
        · have hl : m2 = p_ln a pl (j + 1) := by
            rw [hm2]
            unfold p_ln p_lr
            rw [Nat.add_sub_cancel]
            repeat' split
            all_goals omega
          refine k9o_eq k9e_212_60 (k9o_T (by rw [n_toInt (by omega), n_toInt (by omega)]; omega) (k9o_eq k9e_212_69 ?_))
          rw [nI_1]
          exact ih (j + 1) m2 I2 (by omega) hl hh2 hx2
        · have hl : m2 + 1 = p_ln a pl (j + 1) := by
            rw [hm2]
            unfold p_ln p_lr
            rw [Nat.add_sub_cancel]
            repeat' split
            all_goals omega
          have hn26 : m2 < 6 := by
            rw [hm2]
            unfold p_lr
            repeat' split
            all_goals omega
          refine k9o_eq k9e_212_60 (k9o_F (by rw [n_toInt (by omega), n_toInt (by omega)]; omega) (k9o_eq k9e_212_63 (k9o_T (by rw [n_toInt (by omega)]; omega) (k9o_eq k9e_212_69 ?_))))
          rw [n_cl (by omega), nI_1, nI_1]
          refine ih (j + 1) (m2 + 1) _ (by omega) hl (fun k hk => ?_) (k9_fx_u hx2 rfl)
          by_cases c : k = m2
          · subst c
            have : p_ld a pl k = j := by
              rw [hm2]
              unfold p_ld p_lr
              repeat' split
              all_goals omega
            simp [k9_ur, this]
          · simpa [k9_ur, c] using hh2 k (by omega)
      by_cases e : m = pl
      · have hl : m + 1 = p_lr a j + (if pl ≤ p_lr a j then 1 else 0) := by
          rw [hm] at e ⊢
          unfold p_ln p_lr at e ⊢
          repeat' split at e
          all_goals repeat' split
          all_goals omega
        refine k9o_T (by rw [n_toInt (by omega), n_toInt (by omega)]; omega) (k9o_eq k9e_212_54 (k9o_T (by rw [n_toInt (by omega)]; omega) ?_))
        rw [n_cl (by omega), nI_1]
        refine two _ _ hl (fun k hk => ?_) (k9_fx_u hx rfl)
        by_cases c : k = m
        · subst c
          simp [k9_ur, p_ld, e]
        · simpa [k9_ur, c] using hh k (by omega)
      · have hl : m = p_lr a j + (if pl ≤ p_lr a j then 1 else 0) := by
          rw [hm] at e ⊢
          unfold p_ln p_lr at e ⊢
          repeat' split at e
          all_goals repeat' split
          all_goals omega
        exact k9o_F (by rw [n_toInt (by omega), n_toInt (by omega)]; omega) (two _ _ hl hh hx)
  rw [k9e_212_43]
  exact key n 0 0 I (by omega) (by rw [p_ln, if_pos rfl]) (fun k hk => by omega) (k9_fx_rf _ _)
theorem t_where (hI : k9_Inv I J) : k9_P S (d + 20) 116 212 [some (k9_r 1 0), some (k9_i x1), none, none, none, none, none] [some (k9_r 12 0), some (k9_i x1), none, none, none, none, none, none] I J k9_Inv := by
  have hI' := hI
  obtain ⟨w, V, b, v⟩ := hI
  have v : k9_Iv I J w V b := v
  have hf := v.1.2.2.1
  have h6 := hf.1
  have m0 := v.1.2.1.1
  have c0 := v.1.1.1
  have hwm := v.1.2.1.2.2.2.2
  refine k9P_of ?_
  by_cases h1 : 0 ≤ x1.toInt ∧ x1.toInt ≤ 2
  · obtain ⟨q, rfl, hq, -⟩ := n_of (x := x1) (by omega)
    by_cases h0 : w 7 0 = 0
    · repeat' (first | ((with_reducible refine k9q_T ?_ ?_); · omega) | ((with_reducible refine k9q_F ?_ ?_); · omega) | ((with_reducible refine k9q_Tb ?_ ?_); · omega) | ((with_reducible refine k9q_Fb ?_ ?_); · omega) | simp (disch := omega) only [k9e_116_0, k9e_116_2, k9e_116_5, k9e_116_7, k9e_116_12, Nat.reduceEqDiff, Int.reduceEq, Int.reduceLT, Int.reduceLE, k9_ps_s, k9_ps_n, k9_ur, false_and, and_false, true_and, and_true, true_or, or_true, false_or, or_false, eq_self, ↓reduceIte, not_true_eq_false, not_false_eq_true, n_toInt, n_cl, nI_1, nI_add, n_a0, n_p2, n_p3, n_p4, n_x2, n_x3, n_x4, n_x60, n_x100, n_pm1, k9L_m2, k9L_m1, k9L_0, k9L_1, k9L_2, k9L_3, k9L_4, k9L_5, k9L_6, k9L_7, k9L_8, k9L_9, k9L_10, k9L_20, k9L_23, k9L_24, k9L_30, k9L_40, k9L_50, k9L_60, k9L_99, k9L_100, k9L_120, k9L_255, k9L_999, k9L_1000, k9_bs, k9_ba, c0, h0] | (with_reducible refine k9q_if (fun _ => ?_) (fun _ => ?_)) | (with_reducible refine k9q_ifb (fun _ => ?_) (fun _ => ?_)))
      all_goals refine k9o_ret ⟨_, _, _, rfl, ?_⟩
      all_goals repeat' (first | ((with_reducible refine k9q_T ?_ ?_); · omega) | ((with_reducible refine k9q_F ?_ ?_); · omega) | ((with_reducible refine k9q_Tb ?_ ?_); · omega) | ((with_reducible refine k9q_Fb ?_ ?_); · omega) | (refine k9o_call (k9s_153 (by first | omega | (simp (disch := omega) only [n_toInt, n_pm1, k9L_m2, k9L_m1, k9L_0, k9L_1, k9L_2, k9L_3, k9L_4, k9L_5, k9L_6, k9L_7, k9L_8, k9L_9, k9L_10, k9L_20, k9L_23, k9L_24, k9L_30, k9L_40, k9L_50, k9L_60, k9L_99, k9L_100, k9L_120, k9L_255, k9L_999, k9L_1000]; omega))) ?_; simp (disch := omega) only [k9e_212_0, k9e_212_4, k9e_212_5, k9e_212_7, k9e_212_10, Nat.reduceEqDiff, Int.reduceEq, Int.reduceLT, Int.reduceLE, k9_ps_s, k9_ps_n, k9_ur, false_and, and_false, true_and, and_true, true_or, or_true, false_or, or_false, eq_self, ↓reduceIte, not_true_eq_false, not_false_eq_true, n_toInt, n_cl, nI_1, nI_add, n_a0, n_p2, n_p3, n_p4, n_x2, n_x3, n_x4, n_x60, n_x100, n_pm1, k9L_m2, k9L_m1, k9L_0, k9L_1, k9L_2, k9L_3, k9L_4, k9L_5, k9L_6, k9L_7, k9L_8, k9L_9, k9L_10, k9L_20, k9L_23, k9L_24, k9L_30, k9L_40, k9L_50, k9L_60, k9L_99, k9L_100, k9L_120, k9L_255, k9L_999, k9L_1000, k9_bs, k9_ba, m0, h0]) | (refine k9o_call (k9s_153x (by first | omega | (simp (disch := omega) only [n_toInt, n_pm1, k9L_m2, k9L_m1, k9L_0, k9L_1, k9L_2, k9L_3, k9L_4, k9L_5, k9L_6, k9L_7, k9L_8, k9L_9, k9L_10, k9L_20, k9L_23, k9L_24, k9L_30, k9L_40, k9L_50, k9L_60, k9L_99, k9L_100, k9L_120, k9L_255, k9L_999, k9L_1000]; omega))) ?_; simp (disch := omega) only [k9e_212_0, k9e_212_4, k9e_212_5, k9e_212_7, k9e_212_10, Nat.reduceEqDiff, Int.reduceEq, Int.reduceLT, Int.reduceLE, k9_ps_s, k9_ps_n, k9_ur, false_and, and_false, true_and, and_true, true_or, or_true, false_or, or_false, eq_self, ↓reduceIte, not_true_eq_false, not_false_eq_true, n_toInt, n_cl, nI_1, nI_add, n_a0, n_p2, n_p3, n_p4, n_x2, n_x3, n_x4, n_x60, n_x100, n_pm1, k9L_m2, k9L_m1, k9L_0, k9L_1, k9L_2, k9L_3, k9L_4, k9L_5, k9L_6, k9L_7, k9L_8, k9L_9, k9L_10, k9L_20, k9L_23, k9L_24, k9L_30, k9L_40, k9L_50, k9L_60, k9L_99, k9L_100, k9L_120, k9L_255, k9L_999, k9L_1000, k9_bs, k9_ba, m0, h0]) | simp (disch := omega) only [k9e_212_0, k9e_212_4, k9e_212_5, k9e_212_7, k9e_212_10, Nat.reduceEqDiff, Int.reduceEq, Int.reduceLT, Int.reduceLE, k9_ps_s, k9_ps_n, k9_ur, false_and, and_false, true_and, and_true, true_or, or_true, false_or, or_false, eq_self, ↓reduceIte, not_true_eq_false, not_false_eq_true, n_toInt, n_cl, nI_1, nI_add, n_a0, n_p2, n_p3, n_p4, n_x2, n_x3, n_x4, n_x60, n_x100, n_pm1, k9L_m2, k9L_m1, k9L_0, k9L_1, k9L_2, k9L_3, k9L_4, k9L_5, k9L_6, k9L_7, k9L_8, k9L_9, k9L_10, k9L_20, k9L_23, k9L_24, k9L_30, k9L_40, k9L_50, k9L_60, k9L_99, k9L_100, k9L_120, k9L_255, k9L_999, k9L_1000, k9_bs, k9_ba, m0, h0] | (with_reducible refine k9q_if (fun _ => ?_) (fun _ => ?_)) | (with_reducible refine k9q_ifb (fun _ => ?_) (fun _ => ?_)))
      all_goals exact k9o_ret ⟨_, _, rfl, hI'⟩
    · obtain ⟨n, hn⟩ : ∃ n, n = w 7 0 := ⟨_, rfl⟩
      rw [← hn] at h0 h6 m0 c0 hwm
      obtain ⟨a, ha⟩ : ∃ a, a = p_lg (w 0) n := ⟨_, rfl⟩
      have han : a < n := by
        rw [ha]
        exact (p_lg_le (w 0) n).2 (by omega)
      obtain ⟨g, hg⟩ : ∃ g : Nat → Nat, g = fun i => p_wg w V q (p_wo n a i) := ⟨_, rfl⟩
      have hgu : ∀ i, g i = p_wg w V q (p_wo n a i) := fun i => by rw [hg]
      have hob : ∀ i, i < n → ∀ k, k < n → p_wo n a i k < n := fun i hi k hk => by
        rw [p_wo, if_pos hk]
        exact p_ld_b han hi hk
      have hoj : ∀ i, i < n → ∀ k j, k < n → j < n → p_wo n a i k = p_wo n a i j → k = j := fun i hi k j hk hj e => by
        rw [p_wo, p_wo, if_pos hk, if_pos hj] at e
        exact p_ld_j han hi hk hj e
      have hwf : ∀ i, i < n → k9_wf (p_cm w (p_wo n a i)) := fun i hi => k9_wf_cm hf (fun k hk => by rw [← hn] at hk ⊢; exact hob i hi k hk)
      have hgb : ∀ i, i < n → g i ≤ 100000 := fun i hi => by rw [hgu]; exact p_wg_b (hwf i hi)
      have hab := p_aw_b hgb
      -- the class
      have kc : ∀ k i I1, i + k = n → k9_fx k9_F6 I I1 → ∃ I2, k9_ok (k9_R S (d + 20) 116 20 [some (k9_r 1 0), some (k9_i (nI q)), some (k9_i (nI (p_aw g i).1)), some (k9_i (nI (p_aw g i).2)), some (k9_i (nI i)), none, none] [] I1 J) (fun q' => q' = (some (k9_i (nI (if q = 1 then (p_aw g n).2 else (p_aw g n).1))), I2, J)) ∧ k9_fx k9_F6 I I2 := by
        intro k
        induction k with
        | zero =>
          intro i I1 hi hx
          obtain rfl : i = n := by omega
          refine ⟨I1, k9o_eq k9e_116_20 (k9o_T (by rw [hx 3 0 0 rfl, c0]; omega) (k9o_eq k9e_116_68 ?_)), hx⟩
          by_cases e : q = 1
          · rw [if_pos e]
            exact k9o_T (by rw [n_toInt (by omega)]; omega) (k9o_eq k9e_116_71 (k9o_eq k9e_116_74 (k9o_ret rfl)))
          · rw [if_neg e]
            exact k9o_F (by rw [n_toInt (by omega)]; omega) (k9o_eq k9e_116_73 (k9o_eq k9e_116_74 (k9o_ret rfl)))
        | succ k ih =>
          intro i I1 hi hx
          have hin : i < n := by omega
          have i1 : k9_Iv I1 J w V b := k9_Iv_0 (k9_fp_x hx (k9_F6_X rfl)) v
          have e14 := k9s_14 (S := S) (d := d + 19) (J := J) i1.1.1 hf (by omega)
          obtain ⟨I2, n', o', e31, O2, hn', ho', x2⟩ := k9s_31 (S := S) (d := d + 17) (I := I1) (J := J) (i0 := 0) (m := n) (b := a) (pl := i) h6 han hin
          subst hn'
          have hoo : (fun k => if k < n' then o' k else 0) = p_wo n' a i := funext fun k => by
            rw [p_wo]
            split
            · exact ho' k (by assumption)
            · rfl
          have i2 : k9_Iv I2 J w V b := k9_Iv_0 (k9_fp_x (k9_fx_tr hx (k9_F6_o x2)) (k9_F6_X rfl)) v
          obtain ⟨I3, e3, b3, w3, x3⟩ := k9_otroll (S := S) (d := d + 11) (J := J) i2.1.1 hf i2.2.2.1.1 O2 hn (fun k hk => by rw [← hn] at hk ⊢; rw [ho' k hk]; exact p_ld_b han hin hk) (fun k j hk hj e => by rw [← hn] at hk hj; rw [ho' k hk, ho' j hj] at e; exact p_ld_j han hin hk hj e)
          rw [hoo] at e3 b3 w3
          have hx3 := k9_fx_tr (k9_fx_tr hx (k9_F6_o x2)) (k9_F6_t x3)
          obtain ⟨I4, o4, x4⟩ := ih (i + 1) I3 (by omega) hx3
          have hg4 := hgb i hin
          have hb4 := hab i (by omega)
          have hlen := p_len_b (hwf i hin)
          refine ⟨I4, k9o_eq k9e_116_20 (k9o_F (by rw [hx 3 0 0 rfl, c0, n_toInt (by omega), n_toInt (by omega)]; omega) (k9o_eq k9e_116_26 (k9o_call e14 ?_))), x4⟩
          simp only [k9_ps_s]
          rw [← hn, ← ha]
          refine k9o_eq k9e_116_32 ?_
          rw [hx 3 0 0 rfl, c0]
          refine k9o_call e31 ?_
          simp only [k9_ps_n]
          refine k9o_eq k9e_116_38 (k9o_call e3 ?_)
          simp only [k9_ps_s]
          have fin : ∀ x5 : Int32, k9_ok (k9_R S (d + 20) 116 56 [some (k9_r 1 0), some (k9_i (nI q)), some (k9_i (nI (p_aw g i).1)), some (k9_i (nI (p_aw g i).2)), some (k9_i (nI i)), some (k9_i x5), none] [k9_i (nI (g i))] I3 J) (fun q' => q' = (some (k9_i (nI (if q = 1 then (p_aw g n').2 else (p_aw g n').1))), I4, J)) := by
            intro x5
            rw [p_aw] at o4
            refine k9o_eq k9e_116_56 ?_
            by_cases z : i = 0
            · rw [if_pos (Or.inl z)] at o4
              refine k9o_T (by rw [n_toInt (by omega)]; omega) (k9o_eq k9e_116_62 (k9o_eq k9e_116_66 ?_))
              rw [nI_1]
              exact o4
            · refine k9o_F (by rw [n_toInt (by omega)]; omega) (k9o_eq k9e_116_59 ?_)
              by_cases c : g i < (p_aw g i).2
              · rw [if_pos (Or.inr c)] at o4
                refine k9o_F (by rw [n_toInt (by omega), n_toInt (by omega)]; omega) (k9o_eq k9e_116_62 (k9o_eq k9e_116_66 ?_))
                rw [nI_1]
                exact o4
              · rw [if_neg (by omega)] at o4
                refine k9o_T (by rw [n_toInt (by omega), n_toInt (by omega)]; omega) (k9o_eq k9e_116_66 ?_)
                rw [nI_1]
                exact o4
          refine k9o_eq k9e_116_42 ?_
          have hgi := hgu i
          by_cases e2 : q = 2
          · rw [p_wg, if_pos e2] at hgi
            have e10 := k9s_10 (S := S) (d := d + 17) (J := J) w3 (hwf i hin)
            have e60 := k9s_60 (S := S) (d := d + 18) (J := J) (q := 0) b3 (x := nI (p_len (p_cm w (p_wo n' a i)))) (N := p_len (p_cm w (p_wo n' a i)) + 1) (by rw [n_toInt (by omega)]; omega) (by omega) (by omega) (by omega) (fun t => p_sh_b t) (by omega)
            rw [if_pos rfl, ← hgi] at e60
            refine k9o_T (by rw [n_toInt (by omega)]; omega) (k9o_eq k9e_116_46 (k9o_call e10 ?_))
            simp only [k9_ps_s]
            refine k9o_eq k9e_116_53 (k9o_call e60 ?_)
            simp only [k9_ps_s]
            exact k9o_eq k9e_116_54 (fin _)
          · rw [p_wg, if_neg e2] at hgi
            rw [← hgi]
            exact k9o_F (by rw [n_toInt (by omega)]; omega) (k9o_eq k9e_116_55 (fin _))
      obtain ⟨I2, o2, x2⟩ := kc n 0 I (by omega) (k9_fx_rf _ _)
      have i2 : k9_Iv I2 J w V b := k9_Iv_0 (k9_fp_x x2 (k9_F6_X rfl)) v
      have m20 := i2.1.2.1.1
      rw [← hn] at m20
      simp (disch := omega) only [k9e_116_0, k9e_116_2, k9e_116_5, k9e_116_7, k9e_116_12, k9e_116_14, Nat.reduceEqDiff, Int.reduceEq, Int.reduceLT, Int.reduceLE, k9_ps_s, k9_ps_n, k9_ur, false_and, and_false, true_and, and_true, true_or, or_true, false_or, or_false, eq_self, ↓reduceIte, not_true_eq_false, not_false_eq_true, n_toInt, n_cl, nI_1, nI_add, n_a0, n_p2, n_p3, n_p4, n_x2, n_x3, n_x4, n_x60, n_x100, n_pm1, k9L_m2, k9L_m1, k9L_0, k9L_1, k9L_2, k9L_3, k9L_4, k9L_5, k9L_6, k9L_7, k9L_8, k9L_9, k9L_10, k9L_20, k9L_23, k9L_24, k9L_30, k9L_40, k9L_50, k9L_60, k9L_99, k9L_100, k9L_120, k9L_255, k9L_999, k9L_1000, k9_bs, k9_ba, c0]
      repeat (first | ((with_reducible refine k9q_T ?_ ?_); · omega) | ((with_reducible refine k9q_F ?_ ?_); · omega) | ((with_reducible refine k9q_Tb ?_ ?_); · omega) | ((with_reducible refine k9q_Fb ?_ ?_); · omega) | simp (disch := omega) only [k9e_116_0, k9e_116_2, k9e_116_5, k9e_116_7, k9e_116_12, k9e_116_14, Nat.reduceEqDiff, Int.reduceEq, Int.reduceLT, Int.reduceLE, k9_ps_s, k9_ps_n, k9_ur, false_and, and_false, true_and, and_true, true_or, or_true, false_or, or_false, eq_self, ↓reduceIte, not_true_eq_false, not_false_eq_true, n_toInt, n_cl, nI_1, nI_add, n_a0, n_p2, n_p3, n_p4, n_x2, n_x3, n_x4, n_x60, n_x100, n_pm1, k9L_m2, k9L_m1, k9L_0, k9L_1, k9L_2, k9L_3, k9L_4, k9L_5, k9L_6, k9L_7, k9L_8, k9L_9, k9L_10, k9L_20, k9L_23, k9L_24, k9L_30, k9L_40, k9L_50, k9L_60, k9L_99, k9L_100, k9L_120, k9L_255, k9L_999, k9L_1000, k9_bs, k9_ba, c0])
      obtain ⟨q1, c1, rfl⟩ := o2
      refine k9o_to c1 ⟨_, _, _, rfl, ?_⟩
      -- the reference
      have km : ∀ k i I3, i + k = n → k9_fx k9_F7 I2 I3 → k9_ok (k9_R S (d + 20) 212 39 [some (k9_r 12 0), some (k9_i (nI q)), some (k9_i (nI a)), some (k9_i (nI (p_aw g i).1)), some (k9_i (if i = 0 then -1 else nI (p_aw g i).2)), some (k9_i (nI i)), none, none] [] I3 J) (fun q' => ∃ I4 J4, q' = (some (k9_i (nI (if q = 1 then (p_aw g n).2 else (p_aw g n).1))), I4, J4) ∧ k9_Inv I4 J4) := by
        intro k
        induction k with
        | zero =>
          intro i I3 hi hx
          obtain rfl : i = n := by omega
          have i3 := k9_Iv_e (k9_Iv_0 (k9_fp_x hx (k9_F7_X rfl)) i2)
          rw [if_neg h0]
          refine k9o_eq k9e_212_39 (k9o_T (by rw [hx 12 0 0 rfl, m20]; omega) (k9o_eq k9e_212_105 ?_))
          by_cases e : q = 1
          · rw [if_pos e]
            exact k9o_T (by rw [n_toInt (by omega)]; omega) (k9o_eq k9e_212_108 (k9o_eq k9e_212_111 (k9o_ret ⟨_, _, rfl, i3⟩)))
          · rw [if_neg e]
            exact k9o_F (by rw [n_toInt (by omega)]; omega) (k9o_eq k9e_212_110 (k9o_eq k9e_212_111 (k9o_ret ⟨_, _, rfl, i3⟩)))
        | succ k ih =>
          intro i I3 hi hx
          have hin : i < n := by omega
          have hg4 := hgb i hin
          have hb4 := hab i (by omega)
          have hlen := p_len_b (hwf i hin)
          refine k9o_eq k9e_212_39 (k9o_F (by rw [hx 12 0 0 rfl, m20, n_toInt (by omega), n_toInt (by omega)]; omega) (k9s_212l h6 han hin ((hx 12 0 0 rfl).trans m20) (fun I4 h4 x4 x6 x7 => ?_)))
          have i4 : k9_Iv I4 J w V b := k9_Iv_0 (k9_fp_x (k9_fx_tr hx (k9_F7_q (k9_Fq_63 x4))) (k9_F7_X rfl)) i2
          obtain ⟨I5, e5, m5, x5⟩ := k9_orun (S := S) (d := d + 15) (J := J) (o := p_wo n a i) (x := -1) i4.1.2.1 hf i4.2.2.1.2 (fun k hk => by rw [← hn] at hk; rw [h4 k hk, p_wo, if_pos hk]) (fun k hk => by rw [← hn] at hk ⊢; exact hob i hin k hk) (fun k j hk hj e => by rw [← hn] at hk hj; exact hoj i hin k j hk hj e)
          obtain ⟨I6, e6, k6, x6'⟩ := k9s_191 (S := S) (d := d + 19) (J := J) m5 (by omega) (fun t => p_sh_b t)
          have hx6 := k9_fx_tr (k9_fx_tr (k9_fx_tr hx (k9_F7_q (k9_Fq_63 x4))) (k9_F7_q (k9_Fq_of x5))) (k9_F7_44 x6')
          have o7 := ih (i + 1) I6 (by omega) hx6
          refine k9o_eq k9e_212_79 (k9o_call e5 ?_)
          simp only [k9_ps_n]
          refine k9o_eq k9e_212_82 (k9o_call e6 ?_)
          simp only [k9_ps_n]
          have fin : k9_ok (k9_R S (d + 20) 212 92 [some (k9_r 12 0), some (k9_i (nI q)), some (k9_i (nI a)), some (k9_i (nI (p_aw g i).1)), some (k9_i (if i = 0 then -1 else nI (p_aw g i).2)), some (k9_i (nI i)), some (k9_i x6), some (k9_i x7)] [k9_i (nI (g i))] I6 J) (fun q' => ∃ I4 J4, q' = (some (k9_i (nI (if q = 1 then (p_aw g n).2 else (p_aw g n).1))), I4, J4) ∧ k9_Inv I4 J4) := by
            rw [if_neg (show ¬ i + 1 = 0 by omega), p_aw] at o7
            refine k9o_eq k9e_212_92 ?_
            by_cases z : i = 0
            · rw [if_pos (Or.inl z)] at o7
              rw [if_pos z]
              refine k9o_T (by decide) (k9o_eq k9e_212_99 (k9o_eq k9e_212_103 ?_))
              rw [nI_1]
              exact o7
            · rw [if_neg z]
              refine k9o_F (by rw [n_toInt (by omega)]; omega) (k9o_eq k9e_212_95 ?_)
              by_cases c : g i < (p_aw g i).2
              · rw [if_pos (Or.inr c)] at o7
                refine k9o_T (by rw [n_toInt (by omega), n_toInt (by omega)]; omega) (k9o_eq k9e_212_99 (k9o_eq k9e_212_103 ?_))
                rw [nI_1]
                exact o7
              · rw [if_neg (by omega)] at o7
                refine k9o_F (by rw [n_toInt (by omega), n_toInt (by omega)]; omega) (k9o_eq k9e_212_98 (k9o_eq k9e_212_103 ?_))
                rw [nI_1]
                exact o7
          refine k9o_eq k9e_212_84 ?_
          have hgi := hgu i
          by_cases e2 : q = 2
          · rw [p_wg, if_pos e2] at hgi
            refine k9o_T (by rw [n_toInt (by omega)]; omega) (k9o_eq k9e_212_87 ?_)
            rw [k6.2.2.2.1, ← hgi]
            exact fin
          · rw [p_wg, if_neg e2] at hgi
            refine k9o_F (by rw [n_toInt (by omega)]; omega) (k9o_eq k9e_212_90 ?_)
            rw [k6.2.1]
            have hgi : g i = (p_of (p_sh (p_cm w (p_wo n a i)) (p_tt (p_cm w (p_wo n a i))) V) (fun t => p_ct (p_len (p_cm w (p_wo n a i))) (min t (p_len (p_cm w (p_wo n a i))))) (p_len (p_cm w (p_wo n a i)) + 1)).2.1 := hgi
            rw [← hgi]
            exact fin
      have kl : ∀ k j, j + k = n → 1 ≤ j → k9_ok (k9_R S (d + 20) 212 16 [some (k9_r 12 0), some (k9_i (nI q)), some (k9_i (nI (p_lg (w 0) j))), some (k9_i (nI j)), none, none, none, none] [] I2 J) (fun q' => ∃ I4 J4, q' = (some (k9_i (nI (if q = 1 then (p_aw g n).2 else (p_aw g n).1))), I4, J4) ∧ k9_Inv I4 J4) := by
        intro k
        induction k with
        | zero =>
          intro j hj h1j
          obtain rfl : j = n := by omega
          have o := km j 0 I2 (by omega) (k9_fx_rf _ _)
          rw [if_pos rfl] at o
          refine k9o_eq k9e_212_16 (k9o_T (by rw [m20]; omega) (k9o_eq k9e_212_33 ?_))
          rw [← ha]
          exact o
        | succ k ih =>
          intro j hj h1j
          have o := ih (j + 1) (by omega) (by omega)
          have hl := (p_lg_le (w 0) j).2 h1j
          have wm := i2.1.2.1.2.2.2.2
          have aj := (wm j (by omega)).1
          have al := (wm (p_lg (w 0) j) (by omega)).1
          have bj := (hf.2.2.2.2 j (by omega)).2.1
          have bl := (hf.2.2.2.2 (p_lg (w 0) j) (by omega)).2.1
          rw [p_lg, if_neg (by omega)] at o
          refine k9o_eq k9e_212_16 (k9o_F (by rw [m20, n_toInt (by omega), n_toInt (by omega)]; omega) (k9o_eq k9e_212_20 (k9o_T (by rw [n_toInt (by omega)]; omega) (k9o_eq k9e_212_24 (k9o_T (by rw [n_toInt (by omega)]; omega) ?_)))))
          rw [n_cl (by omega), n_cl (by omega), aj, al]
          refine k9o_eq k9e_212_28 ?_
          by_cases c : w 0 (p_lg (w 0) j) < w 0 j
          · rw [if_pos c] at o
            refine k9o_F (by rw [n_toInt (by omega), n_toInt (by omega)]; omega) (k9o_eq k9e_212_29 (k9o_eq k9e_212_31 ?_))
            rw [nI_1]
            exact o
          · rw [if_neg c] at o
            refine k9o_T (by rw [n_toInt (by omega), n_toInt (by omega)]; omega) (k9o_eq k9e_212_31 ?_)
            rw [nI_1]
            exact o
      simp (disch := omega) only [k9e_212_0, k9e_212_4, k9e_212_5, k9e_212_7, k9e_212_10, k9e_212_12, Nat.reduceEqDiff, Int.reduceEq, Int.reduceLT, Int.reduceLE, k9_ps_s, k9_ps_n, k9_ur, false_and, and_false, true_and, and_true, true_or, or_true, false_or, or_false, eq_self, ↓reduceIte, not_true_eq_false, not_false_eq_true, n_toInt, n_cl, nI_1, nI_add, n_a0, n_p2, n_p3, n_p4, n_x2, n_x3, n_x4, n_x60, n_x100, n_pm1, k9L_m2, k9L_m1, k9L_0, k9L_1, k9L_2, k9L_3, k9L_4, k9L_5, k9L_6, k9L_7, k9L_8, k9L_9, k9L_10, k9L_20, k9L_23, k9L_24, k9L_30, k9L_40, k9L_50, k9L_60, k9L_99, k9L_100, k9L_120, k9L_255, k9L_999, k9L_1000, k9_bs, k9_ba, m20]
      repeat (first | ((with_reducible refine k9q_T ?_ ?_); · omega) | ((with_reducible refine k9q_F ?_ ?_); · omega) | ((with_reducible refine k9q_Tb ?_ ?_); · omega) | ((with_reducible refine k9q_Fb ?_ ?_); · omega) | (refine k9o_call (k9s_153 (by first | omega | (simp (disch := omega) only [n_toInt, n_pm1, k9L_m2, k9L_m1, k9L_0, k9L_1, k9L_2, k9L_3, k9L_4, k9L_5, k9L_6, k9L_7, k9L_8, k9L_9, k9L_10, k9L_20, k9L_23, k9L_24, k9L_30, k9L_40, k9L_50, k9L_60, k9L_99, k9L_100, k9L_120, k9L_255, k9L_999, k9L_1000]; omega))) ?_; simp (disch := omega) only [k9e_212_0, k9e_212_4, k9e_212_5, k9e_212_7, k9e_212_10, k9e_212_12, Nat.reduceEqDiff, Int.reduceEq, Int.reduceLT, Int.reduceLE, k9_ps_s, k9_ps_n, k9_ur, false_and, and_false, true_and, and_true, true_or, or_true, false_or, or_false, eq_self, ↓reduceIte, not_true_eq_false, not_false_eq_true, n_toInt, n_cl, nI_1, nI_add, n_a0, n_p2, n_p3, n_p4, n_x2, n_x3, n_x4, n_x60, n_x100, n_pm1, k9L_m2, k9L_m1, k9L_0, k9L_1, k9L_2, k9L_3, k9L_4, k9L_5, k9L_6, k9L_7, k9L_8, k9L_9, k9L_10, k9L_20, k9L_23, k9L_24, k9L_30, k9L_40, k9L_50, k9L_60, k9L_99, k9L_100, k9L_120, k9L_255, k9L_999, k9L_1000, k9_bs, k9_ba, m20]) | (refine k9o_call (k9s_153x (by first | omega | (simp (disch := omega) only [n_toInt, n_pm1, k9L_m2, k9L_m1, k9L_0, k9L_1, k9L_2, k9L_3, k9L_4, k9L_5, k9L_6, k9L_7, k9L_8, k9L_9, k9L_10, k9L_20, k9L_23, k9L_24, k9L_30, k9L_40, k9L_50, k9L_60, k9L_99, k9L_100, k9L_120, k9L_255, k9L_999, k9L_1000]; omega))) ?_; simp (disch := omega) only [k9e_212_0, k9e_212_4, k9e_212_5, k9e_212_7, k9e_212_10, k9e_212_12, Nat.reduceEqDiff, Int.reduceEq, Int.reduceLT, Int.reduceLE, k9_ps_s, k9_ps_n, k9_ur, false_and, and_false, true_and, and_true, true_or, or_true, false_or, or_false, eq_self, ↓reduceIte, not_true_eq_false, not_false_eq_true, n_toInt, n_cl, nI_1, nI_add, n_a0, n_p2, n_p3, n_p4, n_x2, n_x3, n_x4, n_x60, n_x100, n_pm1, k9L_m2, k9L_m1, k9L_0, k9L_1, k9L_2, k9L_3, k9L_4, k9L_5, k9L_6, k9L_7, k9L_8, k9L_9, k9L_10, k9L_20, k9L_23, k9L_24, k9L_30, k9L_40, k9L_50, k9L_60, k9L_99, k9L_100, k9L_120, k9L_255, k9L_999, k9L_1000, k9_bs, k9_ba, m20]) | simp (disch := omega) only [k9e_212_0, k9e_212_4, k9e_212_5, k9e_212_7, k9e_212_10, k9e_212_12, Nat.reduceEqDiff, Int.reduceEq, Int.reduceLT, Int.reduceLE, k9_ps_s, k9_ps_n, k9_ur, false_and, and_false, true_and, and_true, true_or, or_true, false_or, or_false, eq_self, ↓reduceIte, not_true_eq_false, not_false_eq_true, n_toInt, n_cl, nI_1, nI_add, n_a0, n_p2, n_p3, n_p4, n_x2, n_x3, n_x4, n_x60, n_x100, n_pm1, k9L_m2, k9L_m1, k9L_0, k9L_1, k9L_2, k9L_3, k9L_4, k9L_5, k9L_6, k9L_7, k9L_8, k9L_9, k9L_10, k9L_20, k9L_23, k9L_24, k9L_30, k9L_40, k9L_50, k9L_60, k9L_99, k9L_100, k9L_120, k9L_255, k9L_999, k9L_1000, k9_bs, k9_ba, m20])
      exact kl (n - 1) 1 (by omega) (by omega)
  · repeat' (first | ((with_reducible refine k9q_T ?_ ?_); · omega) | ((with_reducible refine k9q_F ?_ ?_); · omega) | ((with_reducible refine k9q_Tb ?_ ?_); · omega) | ((with_reducible refine k9q_Fb ?_ ?_); · omega) | simp (disch := omega) only [k9e_116_0, k9e_116_2, k9e_116_5, Nat.reduceEqDiff, Int.reduceEq, Int.reduceLT, Int.reduceLE, k9_ps_s, k9_ps_n, k9_ur, false_and, and_false, true_and, and_true, true_or, or_true, false_or, or_false, eq_self, ↓reduceIte, not_true_eq_false, not_false_eq_true, n_toInt, n_cl, nI_1, nI_add, n_a0, n_p2, n_p3, n_p4, n_x2, n_x3, n_x4, n_x60, n_x100, n_pm1, k9L_m2, k9L_m1, k9L_0, k9L_1, k9L_2, k9L_3, k9L_4, k9L_5, k9L_6, k9L_7, k9L_8, k9L_9, k9L_10, k9L_20, k9L_23, k9L_24, k9L_30, k9L_40, k9L_50, k9L_60, k9L_99, k9L_100, k9L_120, k9L_255, k9L_999, k9L_1000, k9_bs, k9_ba] | (with_reducible refine k9q_if (fun _ => ?_) (fun _ => ?_)) | (with_reducible refine k9q_ifb (fun _ => ?_) (fun _ => ?_)))
    all_goals refine k9o_ret ⟨_, _, _, rfl, ?_⟩
    all_goals repeat' (first | ((with_reducible refine k9q_T ?_ ?_); · omega) | ((with_reducible refine k9q_F ?_ ?_); · omega) | ((with_reducible refine k9q_Tb ?_ ?_); · omega) | ((with_reducible refine k9q_Fb ?_ ?_); · omega) | (refine k9o_call (k9s_153 (by first | omega | (simp (disch := omega) only [n_toInt, n_pm1, k9L_m2, k9L_m1, k9L_0, k9L_1, k9L_2, k9L_3, k9L_4, k9L_5, k9L_6, k9L_7, k9L_8, k9L_9, k9L_10, k9L_20, k9L_23, k9L_24, k9L_30, k9L_40, k9L_50, k9L_60, k9L_99, k9L_100, k9L_120, k9L_255, k9L_999, k9L_1000]; omega))) ?_; simp (disch := omega) only [k9e_212_0, k9e_212_4, k9e_212_5, Nat.reduceEqDiff, Int.reduceEq, Int.reduceLT, Int.reduceLE, k9_ps_s, k9_ps_n, k9_ur, false_and, and_false, true_and, and_true, true_or, or_true, false_or, or_false, eq_self, ↓reduceIte, not_true_eq_false, not_false_eq_true, n_toInt, n_cl, nI_1, nI_add, n_a0, n_p2, n_p3, n_p4, n_x2, n_x3, n_x4, n_x60, n_x100, n_pm1, k9L_m2, k9L_m1, k9L_0, k9L_1, k9L_2, k9L_3, k9L_4, k9L_5, k9L_6, k9L_7, k9L_8, k9L_9, k9L_10, k9L_20, k9L_23, k9L_24, k9L_30, k9L_40, k9L_50, k9L_60, k9L_99, k9L_100, k9L_120, k9L_255, k9L_999, k9L_1000, k9_bs, k9_ba]) | (refine k9o_call (k9s_153x (by first | omega | (simp (disch := omega) only [n_toInt, n_pm1, k9L_m2, k9L_m1, k9L_0, k9L_1, k9L_2, k9L_3, k9L_4, k9L_5, k9L_6, k9L_7, k9L_8, k9L_9, k9L_10, k9L_20, k9L_23, k9L_24, k9L_30, k9L_40, k9L_50, k9L_60, k9L_99, k9L_100, k9L_120, k9L_255, k9L_999, k9L_1000]; omega))) ?_; simp (disch := omega) only [k9e_212_0, k9e_212_4, k9e_212_5, Nat.reduceEqDiff, Int.reduceEq, Int.reduceLT, Int.reduceLE, k9_ps_s, k9_ps_n, k9_ur, false_and, and_false, true_and, and_true, true_or, or_true, false_or, or_false, eq_self, ↓reduceIte, not_true_eq_false, not_false_eq_true, n_toInt, n_cl, nI_1, nI_add, n_a0, n_p2, n_p3, n_p4, n_x2, n_x3, n_x4, n_x60, n_x100, n_pm1, k9L_m2, k9L_m1, k9L_0, k9L_1, k9L_2, k9L_3, k9L_4, k9L_5, k9L_6, k9L_7, k9L_8, k9L_9, k9L_10, k9L_20, k9L_23, k9L_24, k9L_30, k9L_40, k9L_50, k9L_60, k9L_99, k9L_100, k9L_120, k9L_255, k9L_999, k9L_1000, k9_bs, k9_ba]) | simp (disch := omega) only [k9e_212_0, k9e_212_4, k9e_212_5, Nat.reduceEqDiff, Int.reduceEq, Int.reduceLT, Int.reduceLE, k9_ps_s, k9_ps_n, k9_ur, false_and, and_false, true_and, and_true, true_or, or_true, false_or, or_false, eq_self, ↓reduceIte, not_true_eq_false, not_false_eq_true, n_toInt, n_cl, nI_1, nI_add, n_a0, n_p2, n_p3, n_p4, n_x2, n_x3, n_x4, n_x60, n_x100, n_pm1, k9L_m2, k9L_m1, k9L_0, k9L_1, k9L_2, k9L_3, k9L_4, k9L_5, k9L_6, k9L_7, k9L_8, k9L_9, k9L_10, k9L_20, k9L_23, k9L_24, k9L_30, k9L_40, k9L_50, k9L_60, k9L_99, k9L_100, k9L_120, k9L_255, k9L_999, k9L_1000, k9_bs, k9_ba] | (with_reducible refine k9q_if (fun _ => ?_) (fun _ => ?_)) | (with_reducible refine k9q_ifb (fun _ => ?_) (fun _ => ?_)))
    all_goals exact k9o_ret ⟨_, _, rfl, hI'⟩
end KT27
