/-! DRAWN -/
section KT25
variable {S : k9_S} {d : Nat} {I I' : k9_I} {J J' : k9_J} {w : Nat → Nat → Nat} {V : (Nat → Int32) → Int32} {b : Nat} {x1 x2 x3 x4 : Int32}
def p_zz (n : Nat) (z : Int32) : Nat → Int32
  | 0 => z
  | i + 1 => p_z (p_zz n z i) n
def p_dl (w : Nat → Nat → Nat) (z : Int32) : Nat → Nat
  | 0 => 0
  | i + 1 => p_dl w z i + p_len (p_dw w (p_zz (w 7 0) z i) (w 7 0))
def p_di (w : Nat → Nat → Nat) (V : (Nat → Int32) → Int32) (u : Nat) : Int32 := p_dd (p_sh w (p_tt w) V) u (p_len w - 1) 1
def p_de (w : Nat → Nat → Nat) (V : (Nat → Int32) → Int32) (z : Int32) (u : Nat) : Nat → Nat
  | 0 => 0
  | i + 1 => p_de w V z u i + if p_di (p_dw w (p_zz (w 7 0) z i) (w 7 0)) V u = -2 then 0 else 1
def k9_F5 (n k i p : Nat) : Bool := k9_Fq k i p || Nat.beq k 71 || (Nat.beq k 41 && Nat.beq i 0 && Nat.blt p n)
theorem k9_F5_q {n : Nat} {I1 I2 : k9_I} (h : k9_fx k9_Fq I1 I2) : k9_fx (k9_F5 n) I1 I2 := k9_fx_w h (fun k i p e => by
  unfold k9_F5 at e
  exact (Bool.or_eq_false_iff.mp (Bool.or_eq_false_iff.mp e).1).1)
theorem k9_F5_t {n p : Nat} (h : p < n) : k9_F5 n 41 0 p = true := by
  unfold k9_F5
  have : Nat.blt p n = true := Nat.ble_eq.mpr h
  rw [this]
  rfl
theorem t_drawn (hI : k9_Inv I J) : k9_P S (d + 20) 125 222 [some (k9_r 1 0), some (k9_i x1), some (k9_i x2), some (k9_i x3), some (k9_i x4), none, none, none, none] [some (k9_r 12 0), some (k9_i x1), some (k9_i x2), some (k9_i x3), some (k9_i x4), none, none, none, none, none, none] I J k9_Inv := by
  have hI' := hI
  obtain ⟨w, V, b, v⟩ := hI
  have v : k9_Iv I J w V b := v
  have hf := v.1.2.2.1
  have hv9 := v.1.2.2.2
  have h6 := hf.1
  refine k9P_of ?_
  by_cases h1 : 1 ≤ x2.toInt ∧ x2.toInt ≤ 30
  · by_cases h2 : 1 ≤ x3.toInt ∧ x3.toInt ≤ 999
    · by_cases h3 : 0 ≤ x4.toInt ∧ x4.toInt ≤ 1
      · obtain ⟨n, rfl, hn, -⟩ := n_of (x := x2) (by omega)
        obtain ⟨u, rfl, hu, -⟩ := n_of (x := x3) (by omega)
        obtain ⟨q, rfl, hq, -⟩ := n_of (x := x4) (by omega)
        have hwf : ∀ z, k9_wf (p_dw w z (w 7 0)) := fun z => k9_wf_dw hf hv9
        have dlb : ∀ i, p_dl w x1 i ≤ 954 * i := by
          intro i
          induction i with
          | zero => exact Nat.le_refl _
          | succ i ih =>
            have := p_len_b (hwf (p_zz (w 7 0) x1 i))
            rw [p_dl]
            omega
        have deb : ∀ i, p_de w V x1 u i ≤ i := by
          intro i
          induction i with
          | zero => exact Nat.le_refl _
          | succ i ih =>
            rw [p_de]
            split <;> omega
        have kc : ∀ k i I1, i + k = n → k9_fx k9_Ft I I1 → ∃ I2, k9_ok (k9_R S (d + 20) 125 27 [some (k9_r 1 0), some (k9_i x1), some (k9_i (nI n)), some (k9_i (nI u)), some (k9_i (nI q)), some (k9_i (p_zz (w 7 0) x1 i)), some (k9_i (nI (p_dl w x1 i))), some (k9_i (nI (if q = 0 then 0 else p_de w V x1 u i))), some (k9_i (nI i))] [] I1 J) (fun q' => q' = (some (k9_i (nI (if q = 0 then p_dl w x1 n else p_de w V x1 u n))), I2, J)) ∧ k9_fx k9_Ft I I2 := by
          intro k
          induction k with
          | zero =>
            intro i I1 hi hx
            obtain rfl : i = n := by omega
            refine ⟨I1, k9o_eq k9e_125_27 (k9o_T (by rw [n_toInt (by omega)]; omega) (k9o_eq k9e_125_77 ?_)), hx⟩
            by_cases h0 : q = 0
            · rw [if_pos h0, if_pos h0]
              exact k9o_T (by rw [n_toInt (by omega)]; omega) (k9o_eq k9e_125_79 (k9o_eq k9e_125_82 (k9o_ret rfl)))
            · rw [if_neg h0, if_neg h0]
              exact k9o_F (by rw [n_toInt (by omega)]; omega) (k9o_eq k9e_125_81 (k9o_eq k9e_125_82 (k9o_ret rfl)))
          | succ k ih =>
            intro i I1 hi hx
            have i1 : k9_Iv I1 J w V b := k9_Iv_0 (k9_fp_x hx (k9_Ft_X rfl)) v
            obtain ⟨I2, e2, w2, x2⟩ := k9s_15 (S := S) (d := d + 17) (I := I1) (J := J) (i0 := 1) (i1 := 0) (by decide) i1.1.1 hf
            obtain ⟨I3, e3, w3, x3⟩ := k9s_19 (S := S) (d := d + 19) (J := J) (z := p_zz (w 7 0) x1 i) w2 hf hv9
            have hx3 := k9_fx_tr hx (k9_fx_tr (k9_Ft_w x2) (k9_Ft_w x3))
            have hwi := hwf (p_zz (w 7 0) x1 i)
            have e10 := k9s_10 (S := S) (d := d + 17) (J := J) w3 hwi
            have hlen := p_len_b hwi
            have b1 := dlb i
            have b2 := deb i
            by_cases h0 : q = 0
            · obtain ⟨I4, o4, x4⟩ := ih (i + 1) I3 (by omega) hx3
              refine ⟨I4, k9o_eq k9e_125_27 (k9o_F (by rw [n_toInt (by omega), n_toInt (by omega)]; omega) (k9o_eq k9e_125_30 (k9o_call e2 ?_))), x4⟩
              simp only [k9_ps_n]
              refine k9o_eq k9e_125_37 (k9o_call e3 ?_)
              simp only [k9_ps_s]
              refine k9o_eq k9e_125_42 (k9o_call e10 ?_)
              simp only [k9_ps_s]
              refine k9o_eq k9e_125_48 (k9o_F (by rw [n_toInt (by omega)]; omega) (k9o_eq k9e_125_75 ?_))
              rw [nI_add, nI_1]
              rw [if_pos h0] at o4 ⊢
              exact o4
            · obtain ⟨-, I4, e4, b4, w4, x4⟩ := k9_troll (S := S) (d := d + 15) (J := J) w3 hwi (k9_CL_t hx3 v.2.2.1.1)
              have hx4 := k9_fx_tr hx3 (k9_Ft_b x4)
              have e64 := k9s_64 (S := S) (d := d + 19) (J := J) (x := u) b4 (by omega) (by omega) (fun t => p_sh_b t) (by omega) (by omega)
              obtain ⟨I5, o5, x5⟩ := ih (i + 1) I4 (by omega) hx4
              refine ⟨I5, k9o_eq k9e_125_27 (k9o_F (by rw [n_toInt (by omega), n_toInt (by omega)]; omega) (k9o_eq k9e_125_30 (k9o_call e2 ?_))), x5⟩
              simp only [k9_ps_n]
              refine k9o_eq k9e_125_37 (k9o_call e3 ?_)
              simp only [k9_ps_s]
              refine k9o_eq k9e_125_42 (k9o_call e10 ?_)
              simp only [k9_ps_s]
              refine k9o_eq k9e_125_48 (k9o_T (by rw [n_toInt (by omega)]; omega) (k9o_eq k9e_125_53 (k9o_call e10 ?_)))
              simp only [k9_ps_s]
              refine k9o_eq k9e_125_62 (k9o_call e4 ?_)
              simp only [k9_ps_n]
              refine k9o_eq k9e_125_63 (k9o_call e64 ?_)
              simp only [k9_ps_s]
              refine k9o_eq k9e_125_68 ?_
              rw [if_neg h0] at o5 ⊢
              rw [p_de] at o5
              by_cases c : p_di (p_dw w (p_zz (w 7 0) x1 i) (w 7 0)) V u = -2
              · rw [if_pos c] at o5
                have c' : p_dd (p_sh (p_dw w (p_zz (w 7 0) x1 i) (w 7 0)) (p_tt (p_dw w (p_zz (w 7 0) x1 i) (w 7 0))) V) u (p_len (p_dw w (p_zz (w 7 0) x1 i) (w 7 0)) - 1) 1 = -2 := c
                refine k9o_T (by rw [c']; decide) (k9o_eq k9e_125_70 (k9o_eq k9e_125_73 (k9o_eq k9e_125_75 ?_)))
                rw [nI_add, nI_1, n_a0]
                exact o5
              · rw [if_neg c] at o5
                refine k9o_F (fun y => c (n_ext (by rw [p_di, y]; decide))) (k9o_eq k9e_125_72 (k9o_eq k9e_125_73 (k9o_eq k9e_125_75 ?_)))
                rw [nI_add, nI_1, nI_1]
                exact o5
        obtain ⟨I1, o1, x1'⟩ := kc n 0 I (by omega) (k9_fx_rf _ _)
        have i1 : k9_Iv I1 J w V b := k9_Iv_0 (k9_fp_x x1' (k9_Ft_X rfl)) v
        obtain ⟨m0, m1, m2, m3, m4⟩ := i1.1.2.1
        simp (disch := omega) only [k9e_125_0, k9e_125_3, k9e_125_6, k9e_125_9, k9e_125_12, k9e_125_14, k9e_125_17, k9e_125_19, Nat.reduceEqDiff, Int.reduceEq, Int.reduceLT, Int.reduceLE, k9_ps_s, k9_ps_n, k9_ur, false_and, and_false, true_and, and_true, true_or, or_true, false_or, or_false, eq_self, ↓reduceIte, not_true_eq_false, not_false_eq_true, n_toInt, n_cl, nI_1, nI_add, n_a0, n_p2, n_p3, n_p4, n_x2, n_x3, n_x4, n_x60, n_x100, n_pm1, k9L_m2, k9L_m1, k9L_0, k9L_1, k9L_2, k9L_3, k9L_4, k9L_5, k9L_6, k9L_7, k9L_8, k9L_9, k9L_10, k9L_20, k9L_23, k9L_24, k9L_30, k9L_40, k9L_50, k9L_60, k9L_99, k9L_100, k9L_120, k9L_255, k9L_999, k9L_1000, k9_bs, k9_ba]
        repeat (first | ((with_reducible refine k9q_T ?_ ?_); · omega) | ((with_reducible refine k9q_F ?_ ?_); · omega) | ((with_reducible refine k9q_Tb ?_ ?_); · omega) | ((with_reducible refine k9q_Fb ?_ ?_); · omega) | simp (disch := omega) only [k9e_125_0, k9e_125_3, k9e_125_6, k9e_125_9, k9e_125_12, k9e_125_14, k9e_125_17, k9e_125_19, Nat.reduceEqDiff, Int.reduceEq, Int.reduceLT, Int.reduceLE, k9_ps_s, k9_ps_n, k9_ur, false_and, and_false, true_and, and_true, true_or, or_true, false_or, or_false, eq_self, ↓reduceIte, not_true_eq_false, not_false_eq_true, n_toInt, n_cl, nI_1, nI_add, n_a0, n_p2, n_p3, n_p4, n_x2, n_x3, n_x4, n_x60, n_x100, n_pm1, k9L_m2, k9L_m1, k9L_0, k9L_1, k9L_2, k9L_3, k9L_4, k9L_5, k9L_6, k9L_7, k9L_8, k9L_9, k9L_10, k9L_20, k9L_23, k9L_24, k9L_30, k9L_40, k9L_50, k9L_60, k9L_99, k9L_100, k9L_120, k9L_255, k9L_999, k9L_1000, k9_bs, k9_ba])
        rw [show (if q = 0 then 0 else p_de w V x1 u 0) = 0 by split <;> rfl] at o1
        obtain ⟨q1, c1, rfl⟩ := o1
        refine k9o_to c1 ⟨_, _, _, rfl, ?_⟩
        -- the reference: its own speeds kept
        have own : ∀ (Q : k9_A → Prop), (∀ I2, (∀ p, p < w 7 0 → I2 71 0 p = nI (w 1 p)) → k9_fx (k9_F5 (w 7 0)) I1 I2 → (∀ p, I2 41 0 p = I1 41 0 p) → k9_ok (k9_R S (d + 20) 222 39 [some (k9_r 12 0), some (k9_i x1), some (k9_i (nI n)), some (k9_i (nI u)), some (k9_i (nI q)), some (k9_i x1), some (k9_i 0), some (k9_i 0), some (k9_i (nI (w 7 0))), none, none] [] I2 J) Q) → k9_ok (k9_R S (d + 20) 222 25 [some (k9_r 12 0), some (k9_i x1), some (k9_i (nI n)), some (k9_i (nI u)), some (k9_i (nI q)), some (k9_i x1), some (k9_i 0), some (k9_i 0), some (k9_i 0), none, none] [] I1 J) Q := by
          intro Q g
          have key : ∀ k p I2, p + k = w 7 0 → (∀ p', p' < p → I2 71 0 p' = nI (w 1 p')) → k9_fx (fun k _ _ => Nat.beq k 71) I1 I2 → k9_ok (k9_R S (d + 20) 222 25 [some (k9_r 12 0), some (k9_i x1), some (k9_i (nI n)), some (k9_i (nI u)), some (k9_i (nI q)), some (k9_i x1), some (k9_i 0), some (k9_i 0), some (k9_i (nI p)), none, none] [] I2 J) Q := by
            intro k
            induction k with
            | zero =>
              intro p I2 hp h hx
              obtain rfl : p = w 7 0 := by omega
              refine k9o_eq k9e_222_25 (k9o_T (by rw [hx 12 0 0 rfl, m0]; omega) (g I2 h (k9_fx_w hx (fun k i p e => ?_)) (fun p => hx 41 0 p rfl)))
              unfold k9_F5 at e
              exact (Bool.or_eq_false_iff.mp (Bool.or_eq_false_iff.mp e).1).2
            | succ k ih =>
              intro p I2 hp h hx
              have a := (hx 41 0 p rfl).trans (m4 p (by omega)).2.1
              refine k9o_eq k9e_222_25 (k9o_F (by rw [hx 12 0 0 rfl, m0, n_toInt (by omega), n_toInt (by omega)]; omega) (k9o_eq k9e_222_29 (k9o_T (by rw [n_toInt (by omega)]; omega) (k9o_eq k9e_222_36 (k9o_T (by rw [n_toInt (by omega)]; omega) (k9o_eq k9e_222_37 ?_))))))
              rw [n_cl (by omega), nI_1, a]
              refine ih (p + 1) _ (by omega) (fun p' hp' => ?_) (k9_fx_u hx rfl)
              by_cases e : p' = p
              · simp [k9_ur, e]
              · simpa [k9_ur, e] using h p' (by omega)
          exact key (w 7 0) 0 I1 (by omega) (fun p hp => by omega) (k9_fx_rf _ _)
        -- the draws of one wait
        have drw : ∀ (Q : k9_A → Prop) (z : Int32) (a6 a7 a8 : Int32) (I2 : k9_I), (∀ p, p < w 7 0 → I2 71 0 p = nI (w 1 p)) → k9_fx (k9_F5 (w 7 0)) I1 I2 → (∀ I3, (∀ p, p < w 7 0 → I3 71 0 p = nI (w 1 p)) → k9_fx (k9_F5 (w 7 0)) I1 I3 → k9_Wm I3 (p_dw w z (w 7 0)) → k9_ok (k9_R S (d + 20) 222 93 [some (k9_r 12 0), some (k9_i x1), some (k9_i (nI n)), some (k9_i (nI u)), some (k9_i (nI q)), some (k9_i (p_z z (w 7 0))), some (k9_i a6), some (k9_i a7), some (k9_i a8), some (k9_i (nI (w 7 0))), none] [] I3 J) Q) → k9_ok (k9_R S (d + 20) 222 46 [some (k9_r 12 0), some (k9_i x1), some (k9_i (nI n)), some (k9_i (nI u)), some (k9_i (nI q)), some (k9_i z), some (k9_i a6), some (k9_i a7), some (k9_i a8), some (k9_i 0), none] [] I2 J) Q := by
          intro Q z a6 a7 a8 I2 h71 hx g
          have key : ∀ k p I3, p + k = w 7 0 → (∀ p, p < w 7 0 → I3 71 0 p = nI (w 1 p)) → k9_fx (k9_F5 (w 7 0)) I1 I3 → (∀ p', p' < p → I3 41 0 p' = nI (p_dv (p_hw (p_z z (p' + 1))) (w 1 p'))) → k9_ok (k9_R S (d + 20) 222 46 [some (k9_r 12 0), some (k9_i x1), some (k9_i (nI n)), some (k9_i (nI u)), some (k9_i (nI q)), some (k9_i (p_z z p)), some (k9_i a6), some (k9_i a7), some (k9_i a8), some (k9_i (nI p)), none] [] I3 J) Q := by
            intro k
            induction k with
            | zero =>
              intro p I3 hp h hx3 h41
              obtain rfl : p = w 7 0 := by omega
              refine k9o_eq k9e_222_46 (k9o_T (by rw [hx3 12 0 0 rfl, m0]; omega) (g I3 h hx3 ⟨?_, ?_, ?_, ?_, fun p' hp' => ?_⟩))
              · exact (hx3 12 0 0 rfl).trans m0
              · exact (hx3 44 0 0 rfl).trans m1
              · exact (hx3 44 0 1 rfl).trans m2
              · exact (hx3 44 0 2 rfl).trans m3
              · have hp2 : p' < w 7 0 := hp'
                obtain ⟨b0, b1, b2, b3⟩ := m4 p' hp2
                refine ⟨(hx3 40 0 p' rfl).trans b0, ?_, (hx3 42 0 p' rfl).trans b2, (hx3 43 0 p' rfl).trans b3⟩
                rw [h41 p' hp2, p_dw, if_pos ⟨rfl, hp2⟩]
            | succ k ih =>
              intro p I3 hp h hx3 h41
              have hp7 : p < w 7 0 := by omega
              have a71 := h p hp7
              have b9 := hv9 p hp7
              have step : ∀ sv : Nat, sv = p_dv (p_hw (p_z z (p + 1))) (w 1 p) → k9_ok (k9_R S (d + 20) 222 46 [some (k9_r 12 0), some (k9_i x1), some (k9_i (nI n)), some (k9_i (nI u)), some (k9_i (nI q)), some (k9_i (p_z z (p + 1))), some (k9_i a6), some (k9_i a7), some (k9_i a8), some (k9_i (nI (p + 1))), none] [] (k9_u I3 41 0 p (nI sv)) J) Q := by
                intro sv hsv
                refine ih (p + 1) _ (by omega) (fun p' hp' => by simpa [k9_ur] using h p' hp') (k9_fx_u hx3 (k9_F5_t hp7)) (fun p' hp' => ?_)
                by_cases e : p' = p
                · subst e
                  simp [k9_ur, hsv]
                · simpa [k9_ur, e] using h41 p' (by omega)
              refine k9o_eq k9e_222_46 (k9o_F (by rw [hx3 12 0 0 rfl, m0, n_toInt (by omega), n_toInt (by omega)]; omega) (k9o_eq k9e_222_50 (k9o_eq k9e_222_59 (k9o_eq k9e_222_61 ?_))))
              have hz : p_z z (p + 1) = p_z z p * 1103515245 + 12345 := rfl
              by_cases e0 : (p_hw (p_z z (p + 1))).toInt = 0
              · have s := step (max 1 (w 1 p / 2)) (by simp [p_dv, e0])
                refine k9o_T e0 (k9o_eq k9e_222_67 (k9o_T (by rw [n_toInt (by omega)]; omega) ?_))
                rw [n_cl (by omega), a71]
                refine k9o_eq k9e_222_72 ?_
                rw [show (2 : Int32) = nI 2 from rfl, n_div (by omega) (by omega) (by omega)]
                refine k9o_eq k9e_222_74 ?_
                rw [show (1 : Int32) = nI 1 from rfl, n_max (by omega) (by omega)]
                refine k9o_eq k9e_222_90 (k9o_T (by rw [n_toInt (by omega)]; omega) ?_)
                rw [n_cl (by omega)]
                refine k9o_eq k9e_222_91 ?_
                rw [show nI p + 1 = nI (p + 1) from nI_1 p]
                exact s
              · by_cases e3 : (p_hw (p_z z (p + 1))).toInt = 3
                · have s := step (w 1 p * 2) (by simp [p_dv, e0, e3])
                  refine k9o_F e0 (k9o_eq k9e_222_76 (k9o_T e3 (k9o_eq k9e_222_79 (k9o_T (by rw [n_toInt (by omega)]; omega) ?_))))
                  rw [n_cl (by omega), a71]
                  refine k9o_eq k9e_222_84 ?_
                  rw [n_x2, Nat.mul_comm]
                  refine k9o_eq k9e_222_90 (k9o_T (by rw [n_toInt (by omega)]; omega) ?_)
                  rw [n_cl (by omega)]
                  refine k9o_eq k9e_222_91 ?_
                  rw [nI_1]
                  exact s
                · have s := step (w 1 p) (by simp [p_dv, e0, e3])
                  refine k9o_F e0 (k9o_eq k9e_222_76 (k9o_F e3 (k9o_eq k9e_222_86 (k9o_T (by rw [n_toInt (by omega)]; omega) ?_))))
                  rw [n_cl (by omega), a71]
                  refine k9o_eq k9e_222_90 (k9o_T (by rw [n_toInt (by omega)]; omega) ?_)
                  rw [n_cl (by omega)]
                  refine k9o_eq k9e_222_91 ?_
                  rw [nI_1]
                  exact s
          exact key (w 7 0) 0 I2 (by omega) h71 hx (fun p hp => by omega)
        -- the speeds laid back
        have bck : ∀ I2, (∀ p, p < w 7 0 → I2 71 0 p = nI (w 1 p)) → k9_fx (k9_F5 (w 7 0)) I1 I2 → ∀ a5 : Int32, k9_ok (k9_R S (d + 20) 222 108 [some (k9_r 12 0), some (k9_i x1), some (k9_i (nI n)), some (k9_i (nI u)), some (k9_i (nI q)), some (k9_i a5), some (k9_i (nI (p_dl w x1 n))), some (k9_i (nI (p_de w V x1 u n))), some (k9_i (nI n)), none, none] [] I2 J) (fun q' => ∃ I3 J3, q' = (some (k9_i (nI (if q = 0 then p_dl w x1 n else p_de w V x1 u n))), I3, J3) ∧ k9_Inv I3 J3) := by
          intro I2 h71 hx a5
          have key : ∀ k p I3, p + k = w 7 0 → (∀ p, p < w 7 0 → I3 71 0 p = nI (w 1 p)) → k9_fx (k9_F5 (w 7 0)) I1 I3 → (∀ p', p' < p → I3 41 0 p' = I1 41 0 p') → k9_ok (k9_R S (d + 20) 222 110 [some (k9_r 12 0), some (k9_i x1), some (k9_i (nI n)), some (k9_i (nI u)), some (k9_i (nI q)), some (k9_i a5), some (k9_i (nI (p_dl w x1 n))), some (k9_i (nI (p_de w V x1 u n))), some (k9_i (nI p)), none, none] [] I3 J) (fun q' => ∃ I3 J3, q' = (some (k9_i (nI (if q = 0 then p_dl w x1 n else p_de w V x1 u n))), I3, J3) ∧ k9_Inv I3 J3) := by
            intro k
            induction k with
            | zero =>
              intro p I3 hp h hx3 h41
              obtain rfl : p = w 7 0 := by omega
              have hfp : k9_fp (k9_Xs []) I1 I3 := by
                intro k i p' e
                by_cases c : k = 41 ∧ i = 0 ∧ p' < w 7 0
                · obtain ⟨rfl, rfl, hp'⟩ := c
                  exact h41 p' hp'
                · refine hx3 k i p' ?_
                  unfold k9_F5
                  have e41 : (Nat.beq k 41 && Nat.beq i 0 && Nat.blt p' (w 7 0)) = false := by
                    cases hb : (Nat.beq k 41 && Nat.beq i 0 && Nat.blt p' (w 7 0)) with
                    | false => rfl
                    | true =>
                      simp only [Bool.and_eq_true] at hb
                      exact absurd ⟨k9_beq_of hb.1.1, k9_beq_of hb.1.2, Nat.ble_eq.mp hb.2⟩ c
                  rw [e41, Bool.or_false]
                  cases hq : k9_Fq k i p' with
                  | true =>
                    have hx := k9_Fq_X (X := k9_Xs []) rfl k i p' hq
                    rw [hx] at e
                    cases e
                  | false =>
                    cases h71' : Nat.beq k 71 with
                    | true =>
                      rw [k9_beq_of h71'] at e
                      have e' : k9_Xs [] 0 = false := e
                      exact absurd e' (by decide)
                    | false => rfl
              have fin := k9_Iv_e (k9_Iv_0 hfp i1)
              refine k9o_eq k9e_222_110 (k9o_T (by rw [hx3 12 0 0 rfl, m0]; omega) (k9o_eq k9e_222_124 ?_))
              by_cases h0 : q = 0
              · rw [if_pos h0]
                exact k9o_T (by rw [n_toInt (by omega)]; omega) (k9o_eq k9e_222_126 (k9o_eq k9e_222_129 (k9o_ret ⟨_, _, rfl, fin⟩)))
              · rw [if_neg h0]
                exact k9o_F (by rw [n_toInt (by omega)]; omega) (k9o_eq k9e_222_128 (k9o_eq k9e_222_129 (k9o_ret ⟨_, _, rfl, fin⟩)))
            | succ k ih =>
              intro p I3 hp h hx3 h41
              have hp7 : p < w 7 0 := by omega
              have a71 := h p hp7
              refine k9o_eq k9e_222_110 (k9o_F (by rw [hx3 12 0 0 rfl, m0, n_toInt (by omega), n_toInt (by omega)]; omega) (k9o_eq k9e_222_114 (k9o_T (by rw [n_toInt (by omega)]; omega) (k9o_eq k9e_222_121 (k9o_T (by rw [n_toInt (by omega)]; omega) (k9o_eq k9e_222_122 ?_))))))
              rw [n_cl (by omega), nI_1, a71]
              refine ih (p + 1) _ (by omega) (fun p' hp' => by simpa [k9_ur] using h p' hp') (k9_fx_u hx3 (k9_F5_t hp7)) (fun p' hp' => ?_)
              by_cases e : p' = p
              · subst e
                simp [k9_ur, (m4 p' hp7).2.1]
              · simpa [k9_ur, e] using h41 p' (by omega)
          rw [k9e_222_108]
          exact key (w 7 0) 0 I2 (by omega) h71 hx (fun p hp => by omega)
        have km : ∀ k i I2, i + k = n → (∀ p, p < w 7 0 → I2 71 0 p = nI (w 1 p)) → k9_fx (k9_F5 (w 7 0)) I1 I2 → k9_ok (k9_R S (d + 20) 222 41 [some (k9_r 12 0), some (k9_i x1), some (k9_i (nI n)), some (k9_i (nI u)), some (k9_i (nI q)), some (k9_i (p_zz (w 7 0) x1 i)), some (k9_i (nI (p_dl w x1 i))), some (k9_i (nI (p_de w V x1 u i))), some (k9_i (nI i)), none, none] [] I2 J) (fun q' => ∃ I3 J3, q' = (some (k9_i (nI (if q = 0 then p_dl w x1 n else p_de w V x1 u n))), I3, J3) ∧ k9_Inv I3 J3) := by
          intro k
          induction k with
          | zero =>
            intro i I2 hi h71 hx
            obtain rfl : i = n := by omega
            exact k9o_eq k9e_222_41 (k9o_T (by rw [n_toInt (by omega)]; omega) (bck I2 h71 hx _))
          | succ k ih =>
            intro i I2 hi h71 hx
            have hwi := hwf (p_zz (w 7 0) x1 i)
            have hlen := p_len_b hwi
            have b1 := dlb i
            have b2 := deb i
            refine k9o_eq k9e_222_41 (k9o_F (by rw [n_toInt (by omega), n_toInt (by omega)]; omega) (k9o_eq k9e_222_44 (drw _ _ _ _ _ I2 h71 hx (fun I3 h3 x3 hM3 => ?_))))
            have hV3 : k9_ML I3 V := k9_ML_x x3 ⟨rfl, rfl, fun _ => rfl, fun _ => rfl, fun _ => rfl, fun _ => rfl⟩ i1.2.2.1.2
            obtain ⟨I4, e4, r4, x4⟩ := k9s_190 (S := S) (d := d + 14) (J := J) hM3 hwi hV3
            have e201 := k9s_201 (S := S) (d := d + 19) (J := J) (x := u) r4 (by omega) (fun t => p_sh_b t) (by omega) (by omega)
            have o5 := ih (i + 1) I4 (by omega) (fun p hp => (x4 71 0 p rfl).trans (h3 p hp)) (k9_fx_tr x3 (k9_F5_q x4))
            refine k9o_eq k9e_222_93 (k9o_call e4 ?_)
            simp only [k9_ps_n]
            refine k9o_eq k9e_222_95 (k9o_call e201 ?_)
            simp only [k9_ps_s]
            rw [r4.1, nI_add]
            refine k9o_eq k9e_222_103 ?_
            rw [p_de] at o5
            by_cases c : p_di (p_dw w (p_zz (w 7 0) x1 i) (w 7 0)) V u = -2
            · rw [if_pos c] at o5
              have c' : p_dd (p_sh (p_dw w (p_zz (w 7 0) x1 i) (w 7 0)) (p_tt (p_dw w (p_zz (w 7 0) x1 i) (w 7 0))) V) u (p_len (p_dw w (p_zz (w 7 0) x1 i) (w 7 0)) - 1) 1 = -2 := c
              refine k9o_T (by rw [c']; decide) (k9o_eq k9e_222_106 ?_)
              rw [nI_1]
              exact o5
            · rw [if_neg c] at o5
              refine k9o_F (fun y => c (n_ext (by rw [p_di, y]; decide))) (k9o_eq k9e_222_105 (k9o_eq k9e_222_106 ?_))
              rw [nI_1, nI_1]
              exact o5
        simp (disch := omega) only [k9e_222_0, k9e_222_4, k9e_222_5, k9e_222_9, k9e_222_10, k9e_222_14, k9e_222_15, k9e_222_17, Nat.reduceEqDiff, Int.reduceEq, Int.reduceLT, Int.reduceLE, k9_ps_s, k9_ps_n, k9_ur, false_and, and_false, true_and, and_true, true_or, or_true, false_or, or_false, eq_self, ↓reduceIte, not_true_eq_false, not_false_eq_true, n_toInt, n_cl, nI_1, nI_add, n_a0, n_p2, n_p3, n_p4, n_x2, n_x3, n_x4, n_x60, n_x100, n_pm1, k9L_m2, k9L_m1, k9L_0, k9L_1, k9L_2, k9L_3, k9L_4, k9L_5, k9L_6, k9L_7, k9L_8, k9L_9, k9L_10, k9L_20, k9L_23, k9L_24, k9L_30, k9L_40, k9L_50, k9L_60, k9L_99, k9L_100, k9L_120, k9L_255, k9L_999, k9L_1000, k9_bs, k9_ba]
        repeat (first | ((with_reducible refine k9q_T ?_ ?_); · omega) | ((with_reducible refine k9q_F ?_ ?_); · omega) | ((with_reducible refine k9q_Tb ?_ ?_); · omega) | ((with_reducible refine k9q_Fb ?_ ?_); · omega) | (refine k9o_call (k9s_153 (by first | omega | (simp (disch := omega) only [n_toInt, n_pm1, k9L_m2, k9L_m1, k9L_0, k9L_1, k9L_2, k9L_3, k9L_4, k9L_5, k9L_6, k9L_7, k9L_8, k9L_9, k9L_10, k9L_20, k9L_23, k9L_24, k9L_30, k9L_40, k9L_50, k9L_60, k9L_99, k9L_100, k9L_120, k9L_255, k9L_999, k9L_1000]; omega))) ?_; simp (disch := omega) only [k9e_222_0, k9e_222_4, k9e_222_5, k9e_222_9, k9e_222_10, k9e_222_14, k9e_222_15, k9e_222_17, Nat.reduceEqDiff, Int.reduceEq, Int.reduceLT, Int.reduceLE, k9_ps_s, k9_ps_n, k9_ur, false_and, and_false, true_and, and_true, true_or, or_true, false_or, or_false, eq_self, ↓reduceIte, not_true_eq_false, not_false_eq_true, n_toInt, n_cl, nI_1, nI_add, n_a0, n_p2, n_p3, n_p4, n_x2, n_x3, n_x4, n_x60, n_x100, n_pm1, k9L_m2, k9L_m1, k9L_0, k9L_1, k9L_2, k9L_3, k9L_4, k9L_5, k9L_6, k9L_7, k9L_8, k9L_9, k9L_10, k9L_20, k9L_23, k9L_24, k9L_30, k9L_40, k9L_50, k9L_60, k9L_99, k9L_100, k9L_120, k9L_255, k9L_999, k9L_1000, k9_bs, k9_ba]) | (refine k9o_call (k9s_153x (by first | omega | (simp (disch := omega) only [n_toInt, n_pm1, k9L_m2, k9L_m1, k9L_0, k9L_1, k9L_2, k9L_3, k9L_4, k9L_5, k9L_6, k9L_7, k9L_8, k9L_9, k9L_10, k9L_20, k9L_23, k9L_24, k9L_30, k9L_40, k9L_50, k9L_60, k9L_99, k9L_100, k9L_120, k9L_255, k9L_999, k9L_1000]; omega))) ?_; simp (disch := omega) only [k9e_222_0, k9e_222_4, k9e_222_5, k9e_222_9, k9e_222_10, k9e_222_14, k9e_222_15, k9e_222_17, Nat.reduceEqDiff, Int.reduceEq, Int.reduceLT, Int.reduceLE, k9_ps_s, k9_ps_n, k9_ur, false_and, and_false, true_and, and_true, true_or, or_true, false_or, or_false, eq_self, ↓reduceIte, not_true_eq_false, not_false_eq_true, n_toInt, n_cl, nI_1, nI_add, n_a0, n_p2, n_p3, n_p4, n_x2, n_x3, n_x4, n_x60, n_x100, n_pm1, k9L_m2, k9L_m1, k9L_0, k9L_1, k9L_2, k9L_3, k9L_4, k9L_5, k9L_6, k9L_7, k9L_8, k9L_9, k9L_10, k9L_20, k9L_23, k9L_24, k9L_30, k9L_40, k9L_50, k9L_60, k9L_99, k9L_100, k9L_120, k9L_255, k9L_999, k9L_1000, k9_bs, k9_ba]) | simp (disch := omega) only [k9e_222_0, k9e_222_4, k9e_222_5, k9e_222_9, k9e_222_10, k9e_222_14, k9e_222_15, k9e_222_17, Nat.reduceEqDiff, Int.reduceEq, Int.reduceLT, Int.reduceLE, k9_ps_s, k9_ps_n, k9_ur, false_and, and_false, true_and, and_true, true_or, or_true, false_or, or_false, eq_self, ↓reduceIte, not_true_eq_false, not_false_eq_true, n_toInt, n_cl, nI_1, nI_add, n_a0, n_p2, n_p3, n_p4, n_x2, n_x3, n_x4, n_x60, n_x100, n_pm1, k9L_m2, k9L_m1, k9L_0, k9L_1, k9L_2, k9L_3, k9L_4, k9L_5, k9L_6, k9L_7, k9L_8, k9L_9, k9L_10, k9L_20, k9L_23, k9L_24, k9L_30, k9L_40, k9L_50, k9L_60, k9L_99, k9L_100, k9L_120, k9L_255, k9L_999, k9L_1000, k9_bs, k9_ba])
        refine own _ (fun I2 h71 hx h41 => ?_)
        refine k9o_eq k9e_222_39 ?_
        exact km n 0 I2 (by omega) h71 hx
      · repeat' (first | ((with_reducible refine k9q_T ?_ ?_); · omega) | ((with_reducible refine k9q_F ?_ ?_); · omega) | ((with_reducible refine k9q_Tb ?_ ?_); · omega) | ((with_reducible refine k9q_Fb ?_ ?_); · omega) | simp (disch := omega) only [k9e_125_0, k9e_125_3, k9e_125_6, k9e_125_9, k9e_125_12, k9e_125_14, k9e_125_17, Nat.reduceEqDiff, Int.reduceEq, Int.reduceLT, Int.reduceLE, k9_ps_s, k9_ps_n, k9_ur, false_and, and_false, true_and, and_true, true_or, or_true, false_or, or_false, eq_self, ↓reduceIte, not_true_eq_false, not_false_eq_true, n_toInt, n_cl, nI_1, nI_add, n_a0, n_p2, n_p3, n_p4, n_x2, n_x3, n_x4, n_x60, n_x100, n_pm1, k9L_m2, k9L_m1, k9L_0, k9L_1, k9L_2, k9L_3, k9L_4, k9L_5, k9L_6, k9L_7, k9L_8, k9L_9, k9L_10, k9L_20, k9L_23, k9L_24, k9L_30, k9L_40, k9L_50, k9L_60, k9L_99, k9L_100, k9L_120, k9L_255, k9L_999, k9L_1000, k9_bs, k9_ba] | (with_reducible refine k9q_if (fun _ => ?_) (fun _ => ?_)) | (with_reducible refine k9q_ifb (fun _ => ?_) (fun _ => ?_)))
        all_goals refine k9o_ret ⟨_, _, _, rfl, ?_⟩
        all_goals repeat' (first | ((with_reducible refine k9q_T ?_ ?_); · omega) | ((with_reducible refine k9q_F ?_ ?_); · omega) | ((with_reducible refine k9q_Tb ?_ ?_); · omega) | ((with_reducible refine k9q_Fb ?_ ?_); · omega) | (refine k9o_call (k9s_153 (by first | omega | (simp (disch := omega) only [n_toInt, n_pm1, k9L_m2, k9L_m1, k9L_0, k9L_1, k9L_2, k9L_3, k9L_4, k9L_5, k9L_6, k9L_7, k9L_8, k9L_9, k9L_10, k9L_20, k9L_23, k9L_24, k9L_30, k9L_40, k9L_50, k9L_60, k9L_99, k9L_100, k9L_120, k9L_255, k9L_999, k9L_1000]; omega))) ?_; simp (disch := omega) only [k9e_222_0, k9e_222_4, k9e_222_5, k9e_222_9, k9e_222_10, k9e_222_14, k9e_222_15, Nat.reduceEqDiff, Int.reduceEq, Int.reduceLT, Int.reduceLE, k9_ps_s, k9_ps_n, k9_ur, false_and, and_false, true_and, and_true, true_or, or_true, false_or, or_false, eq_self, ↓reduceIte, not_true_eq_false, not_false_eq_true, n_toInt, n_cl, nI_1, nI_add, n_a0, n_p2, n_p3, n_p4, n_x2, n_x3, n_x4, n_x60, n_x100, n_pm1, k9L_m2, k9L_m1, k9L_0, k9L_1, k9L_2, k9L_3, k9L_4, k9L_5, k9L_6, k9L_7, k9L_8, k9L_9, k9L_10, k9L_20, k9L_23, k9L_24, k9L_30, k9L_40, k9L_50, k9L_60, k9L_99, k9L_100, k9L_120, k9L_255, k9L_999, k9L_1000, k9_bs, k9_ba]) | (refine k9o_call (k9s_153x (by first | omega | (simp (disch := omega) only [n_toInt, n_pm1, k9L_m2, k9L_m1, k9L_0, k9L_1, k9L_2, k9L_3, k9L_4, k9L_5, k9L_6, k9L_7, k9L_8, k9L_9, k9L_10, k9L_20, k9L_23, k9L_24, k9L_30, k9L_40, k9L_50, k9L_60, k9L_99, k9L_100, k9L_120, k9L_255, k9L_999, k9L_1000]; omega))) ?_; simp (disch := omega) only [k9e_222_0, k9e_222_4, k9e_222_5, k9e_222_9, k9e_222_10, k9e_222_14, k9e_222_15, Nat.reduceEqDiff, Int.reduceEq, Int.reduceLT, Int.reduceLE, k9_ps_s, k9_ps_n, k9_ur, false_and, and_false, true_and, and_true, true_or, or_true, false_or, or_false, eq_self, ↓reduceIte, not_true_eq_false, not_false_eq_true, n_toInt, n_cl, nI_1, nI_add, n_a0, n_p2, n_p3, n_p4, n_x2, n_x3, n_x4, n_x60, n_x100, n_pm1, k9L_m2, k9L_m1, k9L_0, k9L_1, k9L_2, k9L_3, k9L_4, k9L_5, k9L_6, k9L_7, k9L_8, k9L_9, k9L_10, k9L_20, k9L_23, k9L_24, k9L_30, k9L_40, k9L_50, k9L_60, k9L_99, k9L_100, k9L_120, k9L_255, k9L_999, k9L_1000, k9_bs, k9_ba]) | simp (disch := omega) only [k9e_222_0, k9e_222_4, k9e_222_5, k9e_222_9, k9e_222_10, k9e_222_14, k9e_222_15, Nat.reduceEqDiff, Int.reduceEq, Int.reduceLT, Int.reduceLE, k9_ps_s, k9_ps_n, k9_ur, false_and, and_false, true_and, and_true, true_or, or_true, false_or, or_false, eq_self, ↓reduceIte, not_true_eq_false, not_false_eq_true, n_toInt, n_cl, nI_1, nI_add, n_a0, n_p2, n_p3, n_p4, n_x2, n_x3, n_x4, n_x60, n_x100, n_pm1, k9L_m2, k9L_m1, k9L_0, k9L_1, k9L_2, k9L_3, k9L_4, k9L_5, k9L_6, k9L_7, k9L_8, k9L_9, k9L_10, k9L_20, k9L_23, k9L_24, k9L_30, k9L_40, k9L_50, k9L_60, k9L_99, k9L_100, k9L_120, k9L_255, k9L_999, k9L_1000, k9_bs, k9_ba] | (with_reducible refine k9q_if (fun _ => ?_) (fun _ => ?_)) | (with_reducible refine k9q_ifb (fun _ => ?_) (fun _ => ?_)))
        all_goals exact k9o_ret ⟨_, _, rfl, hI'⟩
    · repeat' (first | ((with_reducible refine k9q_T ?_ ?_); · omega) | ((with_reducible refine k9q_F ?_ ?_); · omega) | ((with_reducible refine k9q_Tb ?_ ?_); · omega) | ((with_reducible refine k9q_Fb ?_ ?_); · omega) | simp (disch := omega) only [k9e_125_0, k9e_125_3, k9e_125_6, k9e_125_9, k9e_125_12, k9e_125_14, k9e_125_17, Nat.reduceEqDiff, Int.reduceEq, Int.reduceLT, Int.reduceLE, k9_ps_s, k9_ps_n, k9_ur, false_and, and_false, true_and, and_true, true_or, or_true, false_or, or_false, eq_self, ↓reduceIte, not_true_eq_false, not_false_eq_true, n_toInt, n_cl, nI_1, nI_add, n_a0, n_p2, n_p3, n_p4, n_x2, n_x3, n_x4, n_x60, n_x100, n_pm1, k9L_m2, k9L_m1, k9L_0, k9L_1, k9L_2, k9L_3, k9L_4, k9L_5, k9L_6, k9L_7, k9L_8, k9L_9, k9L_10, k9L_20, k9L_23, k9L_24, k9L_30, k9L_40, k9L_50, k9L_60, k9L_99, k9L_100, k9L_120, k9L_255, k9L_999, k9L_1000, k9_bs, k9_ba] | (with_reducible refine k9q_if (fun _ => ?_) (fun _ => ?_)) | (with_reducible refine k9q_ifb (fun _ => ?_) (fun _ => ?_)))
      all_goals refine k9o_ret ⟨_, _, _, rfl, ?_⟩
      all_goals repeat' (first | ((with_reducible refine k9q_T ?_ ?_); · omega) | ((with_reducible refine k9q_F ?_ ?_); · omega) | ((with_reducible refine k9q_Tb ?_ ?_); · omega) | ((with_reducible refine k9q_Fb ?_ ?_); · omega) | (refine k9o_call (k9s_153 (by first | omega | (simp (disch := omega) only [n_toInt, n_pm1, k9L_m2, k9L_m1, k9L_0, k9L_1, k9L_2, k9L_3, k9L_4, k9L_5, k9L_6, k9L_7, k9L_8, k9L_9, k9L_10, k9L_20, k9L_23, k9L_24, k9L_30, k9L_40, k9L_50, k9L_60, k9L_99, k9L_100, k9L_120, k9L_255, k9L_999, k9L_1000]; omega))) ?_; simp (disch := omega) only [k9e_222_0, k9e_222_4, k9e_222_5, k9e_222_9, k9e_222_10, k9e_222_14, k9e_222_15, Nat.reduceEqDiff, Int.reduceEq, Int.reduceLT, Int.reduceLE, k9_ps_s, k9_ps_n, k9_ur, false_and, and_false, true_and, and_true, true_or, or_true, false_or, or_false, eq_self, ↓reduceIte, not_true_eq_false, not_false_eq_true, n_toInt, n_cl, nI_1, nI_add, n_a0, n_p2, n_p3, n_p4, n_x2, n_x3, n_x4, n_x60, n_x100, n_pm1, k9L_m2, k9L_m1, k9L_0, k9L_1, k9L_2, k9L_3, k9L_4, k9L_5, k9L_6, k9L_7, k9L_8, k9L_9, k9L_10, k9L_20, k9L_23, k9L_24, k9L_30, k9L_40, k9L_50, k9L_60, k9L_99, k9L_100, k9L_120, k9L_255, k9L_999, k9L_1000, k9_bs, k9_ba]) | (refine k9o_call (k9s_153x (by first | omega | (simp (disch := omega) only [n_toInt, n_pm1, k9L_m2, k9L_m1, k9L_0, k9L_1, k9L_2, k9L_3, k9L_4, k9L_5, k9L_6, k9L_7, k9L_8, k9L_9, k9L_10, k9L_20, k9L_23, k9L_24, k9L_30, k9L_40, k9L_50, k9L_60, k9L_99, k9L_100, k9L_120, k9L_255, k9L_999, k9L_1000]; omega))) ?_; simp (disch := omega) only [k9e_222_0, k9e_222_4, k9e_222_5, k9e_222_9, k9e_222_10, k9e_222_14, k9e_222_15, Nat.reduceEqDiff, Int.reduceEq, Int.reduceLT, Int.reduceLE, k9_ps_s, k9_ps_n, k9_ur, false_and, and_false, true_and, and_true, true_or, or_true, false_or, or_false, eq_self, ↓reduceIte, not_true_eq_false, not_false_eq_true, n_toInt, n_cl, nI_1, nI_add, n_a0, n_p2, n_p3, n_p4, n_x2, n_x3, n_x4, n_x60, n_x100, n_pm1, k9L_m2, k9L_m1, k9L_0, k9L_1, k9L_2, k9L_3, k9L_4, k9L_5, k9L_6, k9L_7, k9L_8, k9L_9, k9L_10, k9L_20, k9L_23, k9L_24, k9L_30, k9L_40, k9L_50, k9L_60, k9L_99, k9L_100, k9L_120, k9L_255, k9L_999, k9L_1000, k9_bs, k9_ba]) | simp (disch := omega) only [k9e_222_0, k9e_222_4, k9e_222_5, k9e_222_9, k9e_222_10, k9e_222_14, k9e_222_15, Nat.reduceEqDiff, Int.reduceEq, Int.reduceLT, Int.reduceLE, k9_ps_s, k9_ps_n, k9_ur, false_and, and_false, true_and, and_true, true_or, or_true, false_or, or_false, eq_self, ↓reduceIte, not_true_eq_false, not_false_eq_true, n_toInt, n_cl, nI_1, nI_add, n_a0, n_p2, n_p3, n_p4, n_x2, n_x3, n_x4, n_x60, n_x100, n_pm1, k9L_m2, k9L_m1, k9L_0, k9L_1, k9L_2, k9L_3, k9L_4, k9L_5, k9L_6, k9L_7, k9L_8, k9L_9, k9L_10, k9L_20, k9L_23, k9L_24, k9L_30, k9L_40, k9L_50, k9L_60, k9L_99, k9L_100, k9L_120, k9L_255, k9L_999, k9L_1000, k9_bs, k9_ba] | (with_reducible refine k9q_if (fun _ => ?_) (fun _ => ?_)) | (with_reducible refine k9q_ifb (fun _ => ?_) (fun _ => ?_)))
      all_goals exact k9o_ret ⟨_, _, rfl, hI'⟩
  · repeat' (first | ((with_reducible refine k9q_T ?_ ?_); · omega) | ((with_reducible refine k9q_F ?_ ?_); · omega) | ((with_reducible refine k9q_Tb ?_ ?_); · omega) | ((with_reducible refine k9q_Fb ?_ ?_); · omega) | simp (disch := omega) only [k9e_125_0, k9e_125_3, k9e_125_6, k9e_125_9, k9e_125_12, k9e_125_14, k9e_125_17, Nat.reduceEqDiff, Int.reduceEq, Int.reduceLT, Int.reduceLE, k9_ps_s, k9_ps_n, k9_ur, false_and, and_false, true_and, and_true, true_or, or_true, false_or, or_false, eq_self, ↓reduceIte, not_true_eq_false, not_false_eq_true, n_toInt, n_cl, nI_1, nI_add, n_a0, n_p2, n_p3, n_p4, n_x2, n_x3, n_x4, n_x60, n_x100, n_pm1, k9L_m2, k9L_m1, k9L_0, k9L_1, k9L_2, k9L_3, k9L_4, k9L_5, k9L_6, k9L_7, k9L_8, k9L_9, k9L_10, k9L_20, k9L_23, k9L_24, k9L_30, k9L_40, k9L_50, k9L_60, k9L_99, k9L_100, k9L_120, k9L_255, k9L_999, k9L_1000, k9_bs, k9_ba] | (with_reducible refine k9q_if (fun _ => ?_) (fun _ => ?_)) | (with_reducible refine k9q_ifb (fun _ => ?_) (fun _ => ?_)))
    all_goals refine k9o_ret ⟨_, _, _, rfl, ?_⟩
    all_goals repeat' (first | ((with_reducible refine k9q_T ?_ ?_); · omega) | ((with_reducible refine k9q_F ?_ ?_); · omega) | ((with_reducible refine k9q_Tb ?_ ?_); · omega) | ((with_reducible refine k9q_Fb ?_ ?_); · omega) | (refine k9o_call (k9s_153 (by first | omega | (simp (disch := omega) only [n_toInt, n_pm1, k9L_m2, k9L_m1, k9L_0, k9L_1, k9L_2, k9L_3, k9L_4, k9L_5, k9L_6, k9L_7, k9L_8, k9L_9, k9L_10, k9L_20, k9L_23, k9L_24, k9L_30, k9L_40, k9L_50, k9L_60, k9L_99, k9L_100, k9L_120, k9L_255, k9L_999, k9L_1000]; omega))) ?_; simp (disch := omega) only [k9e_222_0, k9e_222_4, k9e_222_5, k9e_222_9, k9e_222_10, k9e_222_14, k9e_222_15, Nat.reduceEqDiff, Int.reduceEq, Int.reduceLT, Int.reduceLE, k9_ps_s, k9_ps_n, k9_ur, false_and, and_false, true_and, and_true, true_or, or_true, false_or, or_false, eq_self, ↓reduceIte, not_true_eq_false, not_false_eq_true, n_toInt, n_cl, nI_1, nI_add, n_a0, n_p2, n_p3, n_p4, n_x2, n_x3, n_x4, n_x60, n_x100, n_pm1, k9L_m2, k9L_m1, k9L_0, k9L_1, k9L_2, k9L_3, k9L_4, k9L_5, k9L_6, k9L_7, k9L_8, k9L_9, k9L_10, k9L_20, k9L_23, k9L_24, k9L_30, k9L_40, k9L_50, k9L_60, k9L_99, k9L_100, k9L_120, k9L_255, k9L_999, k9L_1000, k9_bs, k9_ba]) | (refine k9o_call (k9s_153x (by first | omega | (simp (disch := omega) only [n_toInt, n_pm1, k9L_m2, k9L_m1, k9L_0, k9L_1, k9L_2, k9L_3, k9L_4, k9L_5, k9L_6, k9L_7, k9L_8, k9L_9, k9L_10, k9L_20, k9L_23, k9L_24, k9L_30, k9L_40, k9L_50, k9L_60, k9L_99, k9L_100, k9L_120, k9L_255, k9L_999, k9L_1000]; omega))) ?_; simp (disch := omega) only [k9e_222_0, k9e_222_4, k9e_222_5, k9e_222_9, k9e_222_10, k9e_222_14, k9e_222_15, Nat.reduceEqDiff, Int.reduceEq, Int.reduceLT, Int.reduceLE, k9_ps_s, k9_ps_n, k9_ur, false_and, and_false, true_and, and_true, true_or, or_true, false_or, or_false, eq_self, ↓reduceIte, not_true_eq_false, not_false_eq_true, n_toInt, n_cl, nI_1, nI_add, n_a0, n_p2, n_p3, n_p4, n_x2, n_x3, n_x4, n_x60, n_x100, n_pm1, k9L_m2, k9L_m1, k9L_0, k9L_1, k9L_2, k9L_3, k9L_4, k9L_5, k9L_6, k9L_7, k9L_8, k9L_9, k9L_10, k9L_20, k9L_23, k9L_24, k9L_30, k9L_40, k9L_50, k9L_60, k9L_99, k9L_100, k9L_120, k9L_255, k9L_999, k9L_1000, k9_bs, k9_ba]) | simp (disch := omega) only [k9e_222_0, k9e_222_4, k9e_222_5, k9e_222_9, k9e_222_10, k9e_222_14, k9e_222_15, Nat.reduceEqDiff, Int.reduceEq, Int.reduceLT, Int.reduceLE, k9_ps_s, k9_ps_n, k9_ur, false_and, and_false, true_and, and_true, true_or, or_true, false_or, or_false, eq_self, ↓reduceIte, not_true_eq_false, not_false_eq_true, n_toInt, n_cl, nI_1, nI_add, n_a0, n_p2, n_p3, n_p4, n_x2, n_x3, n_x4, n_x60, n_x100, n_pm1, k9L_m2, k9L_m1, k9L_0, k9L_1, k9L_2, k9L_3, k9L_4, k9L_5, k9L_6, k9L_7, k9L_8, k9L_9, k9L_10, k9L_20, k9L_23, k9L_24, k9L_30, k9L_40, k9L_50, k9L_60, k9L_99, k9L_100, k9L_120, k9L_255, k9L_999, k9L_1000, k9_bs, k9_ba] | (with_reducible refine k9q_if (fun _ => ?_) (fun _ => ?_)) | (with_reducible refine k9q_ifb (fun _ => ?_) (fun _ => ?_)))
    all_goals exact k9o_ret ⟨_, _, rfl, hI'⟩
end KT25
