/-! BAR.roll -/
section KR
variable {S : k9_S} {d : Nat} {I : k9_I} {J : k9_J} {i0 i1 i2 : Nat} {w : Nat → Nat → Nat} {V : (Nat → Int32) → Int32}
def k9_Fl (k _ p : Nat) : Bool := Nat.beq k 29 || (Nat.beq k 6 && Nat.beq p 5)
/-- the law's text has the values V -/
def k9_CL (I : k9_I) (V : (Nat → Int32) → Int32) : Prop :=
  (∀ (S : k9_S) (d : Nat) (J : k9_J) (I' : k9_I) (i : Nat) (a : Int32), I' 6 0 0 = I 6 0 0 → I' 6 0 1 = I 6 0 1 → I' 6 0 3 = I 6 0 3 → I' 28 0 = I 28 0 →
    ∃ I'', k9_R S (d + 3) 48 0 [some (k9_r 6 0), some (k9_r 4 i), some (k9_i a), none, none, none] [] I' J = some (some (k9_i (V (fun k => if k < 4 then I' 4 i (k + 1) else if k = 4 then a else I' 4 i 5))), I'', J) ∧ k9_fx k9_Fl I' I'') ∧
  (I 6 0 0 = 0 ∨ I 6 0 0 = 1) ∧
  (I 6 0 0 = 0 → ∀ e e' : Nat → Int32, (∀ k, k ≠ 4 → e k = e' k) → V e = V e')
theorem k9_CL_fx {I' : k9_I} (h : k9_CL I V) (e0 : I' 6 0 0 = I 6 0 0) (e1 : I' 6 0 1 = I 6 0 1) (e3 : I' 6 0 3 = I 6 0 3) (e28 : I' 28 0 = I 28 0) : k9_CL I' V := by
  obtain ⟨h1, h2, h3⟩ := h
  refine ⟨fun S d J I1 i a g0 g1 g3 g28 => h1 S d J I1 i a (g0.trans e0) (g1.trans e1) (g3.trans e3) (g28.trans e28), ?_, ?_⟩
  · rw [e0]; exact h2
  · rw [e0]; exact h3
def k9_Fb (i0 : Nat) (k i p : Nat) : Bool := ((Nat.beq k 4 || Nat.beq k 24 || Nat.beq k 25 || (Nat.beq k 2 && (Nat.beq p 4 || Nat.beq p 5))) && Nat.beq i i0) || k9_Fl k i p
/-- whether what is shown hangs on the second ahead -/
def p_lb (w : Nat → Nat → Nat) (l : Int32) : Prop := w 6 0 = 1 ∨ 0 < w 5 0 ∨ (w 4 0 = 4 ∧ l = 1)
theorem p_sn_nlb {l : Int32} {T : Nat → Nat} (hb : l = 0 ∨ l = 1) (h : ¬ p_lb w l) (hV : l = 0 → ∀ e e' : Nat → Int32, (∀ k, k ≠ 4 → e k = e' k) → V e = V e') (t a a' : Nat) : p_sn w T V t a = p_sn w T V t a' := by
  unfold p_lb at h
  have h1 : ¬ w 6 0 = 1 := fun z => h (Or.inl z)
  have h2 : ¬ 0 < w 5 0 := fun z => h (Or.inr (Or.inl z))
  have h3 : p_rw w T V t a = p_rw w T V t a' := by
    unfold p_rw
    by_cases h4 : w 4 0 = 4
    · rw [if_pos h4, if_pos h4]
      have h5 : l = 0 := by
        rcases hb with h5 | h5
        · exact h5
        · exact absurd (Or.inr (Or.inr ⟨h4, h5⟩)) h
      refine hV h5 _ _ (fun k hk => ?_)
      simp only [p_env, if_neg hk]
    · rw [if_neg h4, if_neg h4]
  unfold p_sn p_li p_ne
  rw [h3]
  simp [h1, h2]
theorem k9_Wl_fx {F : Nat → Nat → Nat → Bool} {I' : k9_I} {D : Nat} (h : k9_fx F I I') (e : ∀ p, F 4 i0 p = false) (hl : k9_Wl I i0 w D) : k9_Wl I' i0 w D := by
  obtain ⟨a5, a6, a7, a8, a9, a10, a11, a12, a13⟩ := hl
  exact ⟨(h _ _ _ (e _)).trans a5, (h _ _ _ (e _)).trans a6, (h _ _ _ (e _)).trans a7, fun z => (h _ _ _ (e _)).trans (a8 z), (h _ _ _ (e _)).trans a9, (h _ _ _ (e _)).trans a10, (h _ _ _ (e _)).trans a11, (h _ _ _ (e _)).trans a12, (h _ _ _ (e _)).trans a13⟩
theorem k9_Wc_fx {F : Nat → Nat → Nat → Bool} {I' : k9_I} {t : Nat} (h : k9_fx F I I') (e : ∀ p, F 4 i0 p = false) (hl : k9_Wc I i0 w t) : k9_Wc I' i0 w t := by
  obtain ⟨a5, a6, a7, a8, a9⟩ := hl
  exact ⟨(h _ _ _ (e _)).trans a5, (h _ _ _ (e _)).trans a6, (h _ _ _ (e _)).trans a7, (h _ _ _ (e _)).trans a8, (h _ _ _ (e _)).trans a9⟩
theorem k9_Fb_w1 {I1 I2 : k9_I} (h : k9_fx (k9_Fk i0) I1 I2) : k9_fx (k9_Fb i0) I1 I2 := k9_fx_w h (fun k i p e => by
  unfold k9_Fb at e
  unfold k9_Fk
  cases h1 : Nat.beq k 4 <;> cases h2 : Nat.beq i i0 <;> simp_all)
theorem k9_Fb_w2 {I1 I2 : k9_I} (h : k9_fx k9_Fl I1 I2) : k9_fx (k9_Fb i0) I1 I2 := k9_fx_w h (fun k i p e => by
  unfold k9_Fb at e
  cases h1 : k9_Fl k i p <;> simp_all)
theorem k9_Fb_t {k : Nat} (p : Nat) (h : (Nat.beq k 4 || Nat.beq k 24 || Nat.beq k 25 || (Nat.beq k 2 && (Nat.beq p 4 || Nat.beq p 5))) = true) : k9_Fb i0 k i0 p = true := by
  unfold k9_Fb
  rw [h, k9_beq_self]
  rfl
theorem k9_Wk_Fb {I' : k9_I} (h : k9_fx (k9_Fb i0) I I') (hW : k9_Wk I i1 w) : k9_Wk I' i1 w := k9_Wk_fx h (fun p => ⟨rfl, rfl, rfl, rfl, rfl⟩) hW
theorem k9_CL_Fb {I' : k9_I} (h : k9_fx (k9_Fb i0) I I') (hC : k9_CL I V) : k9_CL I' V :=
  k9_CL_fx hC (h 6 0 0 rfl) (h 6 0 1 rfl) (h 6 0 3 rfl) (k9_fx_row h 28 0 (fun _ => rfl))
/-- a bar as it stands once it is rolled from f up to L -/
def k9_Ro (I : k9_I) (i : Nat) (w : Nat → Nat → Nat) (V : (Nat → Int32) → Int32) (f L : Nat) : Prop :=
  I 2 i 4 = nI (p_len w) ∧ I 2 i 5 = nI (p_tt w 0) ∧ ∀ t, f ≤ t → t < L → I 25 i t = nI (p_sh w (p_tt w) V t) ∧ I 24 i t = nI (p_co w t)
theorem k9s_54 {f L : Nat} {x : Int32} (hW : k9_Wk I i0 w) (hf : k9_wf w) (hC : k9_CL I V) (hx : x.toInt = (L : Int) - 1) (hL : L ≤ 1000) (hfl : f ≤ 1000) (hlb : f = 0 ∨ ¬ p_lb w (I 6 0 0)) : ∃ I', k9_R S (d + 4) 54 0 [some (k9_r 2 i0), some (k9_r 6 0), some (k9_i (nI f)), some (k9_i x), none, none, none] [] I J = some (none, I', J) ∧ k9_Ro I' i0 w V f L ∧ k9_fx (k9_Fb i0) I I' := by
  have h6 := hf.1
  have hb := hC.2.1
  have hV := hC.2.2
  have key : ∀ k t a I1, t + k = max f L → f ≤ t → a ≤ 100 → p_sn w (p_tt w) V t a = p_sh w (p_tt w) V t → (∃ D, D ≤ p_dn w t ∧ k9_Wl I1 i0 w D) → k9_Ro I1 i0 w V f t → k9_fx (k9_Fb i0) I I1 →
      k9_ok (k9_R S (d + 4) 54 21 [some (k9_r 2 i0), some (k9_r 6 0), some (k9_i (nI f)), some (k9_i x), some (k9_i (nI a)), some (k9_i (nI t)), none] [] I1 J) (fun q => ∃ I', q = (none, I', J) ∧ k9_Ro I' i0 w V f L ∧ k9_fx (k9_Fb i0) I I') := by
    intro k
    induction k with
    | zero =>
      intro t a I1 hk hft ha he hl hR hfx
      refine k9o_eq k9e_54_21 ?_
      simp (disch := omega) only [k9e_54_0, k9e_54_4, k9e_54_9, k9e_54_15, k9e_54_24, k9e_54_27, k9e_54_33, k9e_54_38, k9e_54_43, k9e_54_44, k9e_54_50, k9e_54_55, k9e_54_63, k9e_54_68, k9e_54_70, Nat.reduceEqDiff, Int.reduceEq, Int.reduceLT, Int.reduceLE, k9_ps_s, k9_ps_n, k9_ur, false_and, and_false, true_and, and_true, true_or, or_true, false_or, or_false, eq_self, ↓reduceIte, not_true_eq_false, not_false_eq_true, n_toInt, n_cl, nI_1, nI_add, n_a0, n_p2, n_p3, n_p4, n_x2, n_x3, n_x4, n_x60, n_x100, n_pm1, k9L_m2, k9L_m1, k9L_0, k9L_1, k9L_2, k9L_3, k9L_4, k9L_5, k9L_6, k9L_7, k9L_8, k9L_9, k9L_10, k9L_20, k9L_23, k9L_24, k9L_30, k9L_40, k9L_50, k9L_60, k9L_99, k9L_100, k9L_120, k9L_255, k9L_999, k9L_1000, k9_bs, k9_ba]
      repeat (first | ((with_reducible refine k9q_T ?_ ?_); · omega) | ((with_reducible refine k9q_F ?_ ?_); · omega) | ((with_reducible refine k9q_Tb ?_ ?_); · omega) | ((with_reducible refine k9q_Fb ?_ ?_); · omega) | simp (disch := omega) only [k9e_54_0, k9e_54_4, k9e_54_9, k9e_54_15, k9e_54_24, k9e_54_27, k9e_54_33, k9e_54_38, k9e_54_43, k9e_54_44, k9e_54_50, k9e_54_55, k9e_54_63, k9e_54_68, k9e_54_70, Nat.reduceEqDiff, Int.reduceEq, Int.reduceLT, Int.reduceLE, k9_ps_s, k9_ps_n, k9_ur, false_and, and_false, true_and, and_true, true_or, or_true, false_or, or_false, eq_self, ↓reduceIte, not_true_eq_false, not_false_eq_true, n_toInt, n_cl, nI_1, nI_add, n_a0, n_p2, n_p3, n_p4, n_x2, n_x3, n_x4, n_x60, n_x100, n_pm1, k9L_m2, k9L_m1, k9L_0, k9L_1, k9L_2, k9L_3, k9L_4, k9L_5, k9L_6, k9L_7, k9L_8, k9L_9, k9L_10, k9L_20, k9L_23, k9L_24, k9L_30, k9L_40, k9L_50, k9L_60, k9L_99, k9L_100, k9L_120, k9L_255, k9L_999, k9L_1000, k9_bs, k9_ba])
      exact k9o_ret ⟨_, rfl, ⟨hR.1, hR.2.1, fun t' h1 h2 => hR.2.2 t' h1 (by omega)⟩, hfx⟩
    | succ k ih =>
      intro t a I1 hk hft ha he hl hR hfx
      obtain ⟨D, hD, hl⟩ := hl
      have hW1 := k9_Wk_Fb hfx hW
      have hC1 := k9_CL_Fb hfx hC
      obtain ⟨I2, e2, l2, c2, x2⟩ := k9s_21 (S := S) (d := d + 1) (J := J) hW1 hf hl hD (by omega)
      have hfx2 := k9_fx_tr hfx (k9_Fb_w1 x2)
      have hW2 := k9_Wk_Fb hfx2 hW
      have hC2 := k9_CL_Fb hfx2 hC
      obtain ⟨c20, c21, c22, c23, c24⟩ := c2
      have hm : I2 3 i0 1 = nI (w 4 0) := hW2.2.1
      have hm4 := hf.2.1
      -- what comes behind the raw cent
      have rest : ∀ (v : Int32) (I3 : k9_I), v = p_rw w (p_tt w) V t a → k9_fx k9_Fl I2 I3 → k9_ok (k9_R S (d + 4) 54 50 [some (k9_r 2 i0), some (k9_r 6 0), some (k9_i (nI f)), some (k9_i x), some (k9_i (nI a)), some (k9_i (nI t)), none] [k9_i v] I3 J) (fun q => ∃ I', q = (none, I', J) ∧ k9_Ro I' i0 w V f L ∧ k9_fx (k9_Fb i0) I I') := by
        intro v I3 hv x3
        have hfx3 := k9_fx_tr hfx2 (k9_Fb_w2 x3)
        have hW3 := k9_Wk_Fb hfx3 hW
        have hs : p_li w (p_cl v) a = p_sh w (p_tt w) V t := by rw [hv, ← he, p_sn]
        have h55 := k9s_55 (S := S) (d := d + 3) (J := J) (x := v) hW3 hf ha
        rw [hs] at h55
        have hc3 : I3 4 i0 0 = nI (p_co w t) := (x3 4 i0 0 rfl).trans c20
        have l3 := k9_Wl_fx x3 (fun _ => rfl) l2
        simp (disch := omega) only [k9e_54_0, k9e_54_4, k9e_54_9, k9e_54_15, k9e_54_24, k9e_54_27, k9e_54_33, k9e_54_38, k9e_54_43, k9e_54_44, k9e_54_50, k9e_54_55, k9e_54_63, k9e_54_68, k9e_54_70, Nat.reduceEqDiff, Int.reduceEq, Int.reduceLT, Int.reduceLE, k9_ps_s, k9_ps_n, k9_ur, false_and, and_false, true_and, and_true, true_or, or_true, false_or, or_false, eq_self, ↓reduceIte, not_true_eq_false, not_false_eq_true, n_toInt, n_cl, nI_1, nI_add, n_a0, n_p2, n_p3, n_p4, n_x2, n_x3, n_x4, n_x60, n_x100, n_pm1, k9L_m2, k9L_m1, k9L_0, k9L_1, k9L_2, k9L_3, k9L_4, k9L_5, k9L_6, k9L_7, k9L_8, k9L_9, k9L_10, k9L_20, k9L_23, k9L_24, k9L_30, k9L_40, k9L_50, k9L_60, k9L_99, k9L_100, k9L_120, k9L_255, k9L_999, k9L_1000, k9_bs, k9_ba, hc3]
        repeat (first | ((with_reducible refine k9q_T ?_ ?_); · omega) | ((with_reducible refine k9q_F ?_ ?_); · omega) | ((with_reducible refine k9q_Tb ?_ ?_); · omega) | ((with_reducible refine k9q_Fb ?_ ?_); · omega) | (refine k9o_call (h55) ?_; simp (disch := omega) only [k9e_54_0, k9e_54_4, k9e_54_9, k9e_54_15, k9e_54_24, k9e_54_27, k9e_54_33, k9e_54_38, k9e_54_43, k9e_54_44, k9e_54_50, k9e_54_55, k9e_54_63, k9e_54_68, k9e_54_70, Nat.reduceEqDiff, Int.reduceEq, Int.reduceLT, Int.reduceLE, k9_ps_s, k9_ps_n, k9_ur, false_and, and_false, true_and, and_true, true_or, or_true, false_or, or_false, eq_self, ↓reduceIte, not_true_eq_false, not_false_eq_true, n_toInt, n_cl, nI_1, nI_add, n_a0, n_p2, n_p3, n_p4, n_x2, n_x3, n_x4, n_x60, n_x100, n_pm1, k9L_m2, k9L_m1, k9L_0, k9L_1, k9L_2, k9L_3, k9L_4, k9L_5, k9L_6, k9L_7, k9L_8, k9L_9, k9L_10, k9L_20, k9L_23, k9L_24, k9L_30, k9L_40, k9L_50, k9L_60, k9L_99, k9L_100, k9L_120, k9L_255, k9L_999, k9L_1000, k9_bs, k9_ba, hc3]) | simp (disch := omega) only [k9e_54_0, k9e_54_4, k9e_54_9, k9e_54_15, k9e_54_24, k9e_54_27, k9e_54_33, k9e_54_38, k9e_54_43, k9e_54_44, k9e_54_50, k9e_54_55, k9e_54_63, k9e_54_68, k9e_54_70, Nat.reduceEqDiff, Int.reduceEq, Int.reduceLT, Int.reduceLE, k9_ps_s, k9_ps_n, k9_ur, false_and, and_false, true_and, and_true, true_or, or_true, false_or, or_false, eq_self, ↓reduceIte, not_true_eq_false, not_false_eq_true, n_toInt, n_cl, nI_1, nI_add, n_a0, n_p2, n_p3, n_p4, n_x2, n_x3, n_x4, n_x60, n_x100, n_pm1, k9L_m2, k9L_m1, k9L_0, k9L_1, k9L_2, k9L_3, k9L_4, k9L_5, k9L_6, k9L_7, k9L_8, k9L_9, k9L_10, k9L_20, k9L_23, k9L_24, k9L_30, k9L_40, k9L_50, k9L_60, k9L_99, k9L_100, k9L_120, k9L_255, k9L_999, k9L_1000, k9_bs, k9_ba, hc3])
        refine ih (t + 1) (p_sh w (p_tt w) V t) _ (by omega) (by omega) (p_sh_b t) rfl ⟨p_dn w t, p_dn_mono (Nat.le_succ t), ?_⟩ ?_ ?_
        · obtain ⟨a5, a6, a7, a8, a9, a10, a11, a12, a13⟩ := l3
          unfold k9_Wl
          simp (disch := omega) only [k9_ur, Nat.reduceEqDiff, false_and, and_false, true_and, and_true, eq_self, ↓reduceIte, a5, a6, a7, a9, a10, a11, a12, a13]
          exact a8
        · have r3 : k9_Ro I3 i0 w V f t := ⟨(x3 _ _ _ rfl).trans ((x2 _ _ _ rfl).trans hR.1), (x3 _ _ _ rfl).trans ((x2 _ _ _ rfl).trans hR.2.1), fun t' h1 h2 => ⟨(x3 _ _ _ rfl).trans ((x2 _ _ _ rfl).trans (hR.2.2 t' h1 h2).1), (x3 _ _ _ rfl).trans ((x2 _ _ _ rfl).trans (hR.2.2 t' h1 h2).2)⟩⟩
          refine ⟨?_, ?_, fun t' h1 h2 => ?_⟩
          · simp (disch := omega) only [k9_ur, Nat.reduceEqDiff, false_and, ↓reduceIte]
            exact r3.1
          · simp (disch := omega) only [k9_ur, Nat.reduceEqDiff, false_and, ↓reduceIte]
            exact r3.2.1
          · simp (disch := omega) only [k9_ur, Nat.reduceEqDiff, false_and, true_and, ↓reduceIte, eq_self]
            by_cases e : t' = t
            · subst e
              simp
            · rw [if_neg e, if_neg e]
              exact r3.2.2 t' h1 (by omega)
        · exact k9_fx_u (k9_fx_u hfx3 (k9_Fb_t _ rfl)) (k9_Fb_t _ rfl)
      refine k9o_eq k9e_54_21 ?_
      by_cases h4 : w 4 0 = 4
      · obtain ⟨I3, e3, x3⟩ := hC2.1 S d J I2 i0 (nI a) rfl rfl rfl rfl
        have hv : V (fun k => if k < 4 then I2 4 i0 (k + 1) else if k = 4 then nI a else I2 4 i0 5) = p_rw w (p_tt w) V t a := by
          rw [p_rw, if_pos h4]
          congr 1
          funext k
          unfold p_env
          by_cases h : k < 4
          · rw [if_pos h, if_pos h]
            have h : k = 0 ∨ k = 1 ∨ k = 2 ∨ k = 3 := by omega
            rcases h with rfl | rfl | rfl | rfl
            · exact c21
            · exact c22
            · exact c23
            · exact c24
          · rw [if_neg h, if_neg h, l2.1]
        have rr := rest _ I3 hv x3
        simp (disch := omega) only [k9e_54_0, k9e_54_4, k9e_54_9, k9e_54_15, k9e_54_24, k9e_54_27, k9e_54_33, k9e_54_38, k9e_54_43, k9e_54_44, k9e_54_50, k9e_54_55, k9e_54_63, k9e_54_68, k9e_54_70, Nat.reduceEqDiff, Int.reduceEq, Int.reduceLT, Int.reduceLE, k9_ps_s, k9_ps_n, k9_ur, false_and, and_false, true_and, and_true, true_or, or_true, false_or, or_false, eq_self, ↓reduceIte, not_true_eq_false, not_false_eq_true, n_toInt, n_cl, nI_1, nI_add, n_a0, n_p2, n_p3, n_p4, n_x2, n_x3, n_x4, n_x60, n_x100, n_pm1, k9L_m2, k9L_m1, k9L_0, k9L_1, k9L_2, k9L_3, k9L_4, k9L_5, k9L_6, k9L_7, k9L_8, k9L_9, k9L_10, k9L_20, k9L_23, k9L_24, k9L_30, k9L_40, k9L_50, k9L_60, k9L_99, k9L_100, k9L_120, k9L_255, k9L_999, k9L_1000, k9_bs, k9_ba, hm]
        repeat (first | ((with_reducible refine k9q_T ?_ ?_); · omega) | ((with_reducible refine k9q_F ?_ ?_); · omega) | ((with_reducible refine k9q_Tb ?_ ?_); · omega) | ((with_reducible refine k9q_Fb ?_ ?_); · omega))
        refine k9o_call e2 ?_
        simp (disch := omega) only [k9e_54_0, k9e_54_4, k9e_54_9, k9e_54_15, k9e_54_24, k9e_54_27, k9e_54_33, k9e_54_38, k9e_54_43, k9e_54_44, k9e_54_50, k9e_54_55, k9e_54_63, k9e_54_68, k9e_54_70, Nat.reduceEqDiff, Int.reduceEq, Int.reduceLT, Int.reduceLE, k9_ps_s, k9_ps_n, k9_ur, false_and, and_false, true_and, and_true, true_or, or_true, false_or, or_false, eq_self, ↓reduceIte, not_true_eq_false, not_false_eq_true, n_toInt, n_cl, nI_1, nI_add, n_a0, n_p2, n_p3, n_p4, n_x2, n_x3, n_x4, n_x60, n_x100, n_pm1, k9L_m2, k9L_m1, k9L_0, k9L_1, k9L_2, k9L_3, k9L_4, k9L_5, k9L_6, k9L_7, k9L_8, k9L_9, k9L_10, k9L_20, k9L_23, k9L_24, k9L_30, k9L_40, k9L_50, k9L_60, k9L_99, k9L_100, k9L_120, k9L_255, k9L_999, k9L_1000, k9_bs, k9_ba, hm]
        repeat (first | ((with_reducible refine k9q_T ?_ ?_); · omega) | ((with_reducible refine k9q_F ?_ ?_); · omega) | ((with_reducible refine k9q_Tb ?_ ?_); · omega) | ((with_reducible refine k9q_Fb ?_ ?_); · omega))
        refine k9o_call e3 ?_
        simp only [k9_ps_s]
        refine k9o_eq k9e_54_43 ?_
        exact rr
      · have rr := rest _ I2 (show nI (p_ce w (p_tt w) t (w 4 0)) = _ by rw [p_rw, if_neg h4]) (k9_fx_rf _ _)
        simp (disch := omega) only [k9e_54_0, k9e_54_4, k9e_54_9, k9e_54_15, k9e_54_24, k9e_54_27, k9e_54_33, k9e_54_38, k9e_54_43, k9e_54_44, k9e_54_50, k9e_54_55, k9e_54_63, k9e_54_68, k9e_54_70, Nat.reduceEqDiff, Int.reduceEq, Int.reduceLT, Int.reduceLE, k9_ps_s, k9_ps_n, k9_ur, false_and, and_false, true_and, and_true, true_or, or_true, false_or, or_false, eq_self, ↓reduceIte, not_true_eq_false, not_false_eq_true, n_toInt, n_cl, nI_1, nI_add, n_a0, n_p2, n_p3, n_p4, n_x2, n_x3, n_x4, n_x60, n_x100, n_pm1, k9L_m2, k9L_m1, k9L_0, k9L_1, k9L_2, k9L_3, k9L_4, k9L_5, k9L_6, k9L_7, k9L_8, k9L_9, k9L_10, k9L_20, k9L_23, k9L_24, k9L_30, k9L_40, k9L_50, k9L_60, k9L_99, k9L_100, k9L_120, k9L_255, k9L_999, k9L_1000, k9_bs, k9_ba, hm]
        repeat (first | ((with_reducible refine k9q_T ?_ ?_); · omega) | ((with_reducible refine k9q_F ?_ ?_); · omega) | ((with_reducible refine k9q_Tb ?_ ?_); · omega) | ((with_reducible refine k9q_Fb ?_ ?_); · omega))
        refine k9o_call e2 ?_
        simp (disch := omega) only [k9e_54_0, k9e_54_4, k9e_54_9, k9e_54_15, k9e_54_24, k9e_54_27, k9e_54_33, k9e_54_38, k9e_54_43, k9e_54_44, k9e_54_50, k9e_54_55, k9e_54_63, k9e_54_68, k9e_54_70, Nat.reduceEqDiff, Int.reduceEq, Int.reduceLT, Int.reduceLE, k9_ps_s, k9_ps_n, k9_ur, false_and, and_false, true_and, and_true, true_or, or_true, false_or, or_false, eq_self, ↓reduceIte, not_true_eq_false, not_false_eq_true, n_toInt, n_cl, nI_1, nI_add, n_a0, n_p2, n_p3, n_p4, n_x2, n_x3, n_x4, n_x60, n_x100, n_pm1, k9L_m2, k9L_m1, k9L_0, k9L_1, k9L_2, k9L_3, k9L_4, k9L_5, k9L_6, k9L_7, k9L_8, k9L_9, k9L_10, k9L_20, k9L_23, k9L_24, k9L_30, k9L_40, k9L_50, k9L_60, k9L_99, k9L_100, k9L_120, k9L_255, k9L_999, k9L_1000, k9_bs, k9_ba, hm]
        repeat (first | ((with_reducible refine k9q_T ?_ ?_); · omega) | ((with_reducible refine k9q_F ?_ ?_); · omega) | ((with_reducible refine k9q_Tb ?_ ?_); · omega) | ((with_reducible refine k9q_Fb ?_ ?_); · omega))
        refine k9o_call (k9s_22 (by omega) ⟨c20, c21, c22, c23, c24⟩) ?_
        simp only [k9_ps_s]
        exact rr
  obtain ⟨I1, e1, l1, x1⟩ := k9s_20 (S := S) (d := d) (I := k9_u (k9_u I 2 i0 4 (nI (p_len w))) 2 i0 5 (nI (p_tt w 0))) (J := J) (i0 := i0) (i1 := i0) (w := w) (by repeat (first | exact hW | apply k9_Wk_u rfl)) hf
  have hfx1 : k9_fx (k9_Fb i0) I I1 := k9_fx_tr (k9_fx_u (k9_fx_u (k9_fx_rf _ _) (k9_Fb_t _ rfl)) (k9_Fb_t _ rfl)) (k9_Fb_w1 x1)
  obtain ⟨q, e, I', rfl, h⟩ := key (max f L - f) f 0 I1 (by omega) (Nat.le_refl _) (Nat.zero_le _) (by
    rcases hlb with rfl | hlb
    · rfl
    · cases f with
      | zero => rfl
      | succ t => exact p_sn_nlb hb hlb hV _ _ _) ⟨0, Nat.zero_le _, l1⟩ ⟨(x1 _ _ _ rfl).trans (by simp [k9_ur]), (x1 _ _ _ rfl).trans (by simp [k9_ur]), fun t h1 h2 => by omega⟩ hfx1
  refine ⟨I', k9o_of ?_, h⟩
  simp (disch := omega) only [k9e_54_0, k9e_54_4, k9e_54_9, k9e_54_15, k9e_54_24, k9e_54_27, k9e_54_33, k9e_54_38, k9e_54_43, k9e_54_44, k9e_54_50, k9e_54_55, k9e_54_63, k9e_54_68, k9e_54_70, Nat.reduceEqDiff, Int.reduceEq, Int.reduceLT, Int.reduceLE, k9_ps_s, k9_ps_n, k9_ur, false_and, and_false, true_and, and_true, true_or, or_true, false_or, or_false, eq_self, ↓reduceIte, not_true_eq_false, not_false_eq_true, n_toInt, n_cl, nI_1, nI_add, n_a0, n_p2, n_p3, n_p4, n_x2, n_x3, n_x4, n_x60, n_x100, n_pm1, k9L_m2, k9L_m1, k9L_0, k9L_1, k9L_2, k9L_3, k9L_4, k9L_5, k9L_6, k9L_7, k9L_8, k9L_9, k9L_10, k9L_20, k9L_23, k9L_24, k9L_30, k9L_40, k9L_50, k9L_60, k9L_99, k9L_100, k9L_120, k9L_255, k9L_999, k9L_1000, k9_bs, k9_ba]
  repeat (first | ((with_reducible refine k9q_T ?_ ?_); · omega) | ((with_reducible refine k9q_F ?_ ?_); · omega) | ((with_reducible refine k9q_Tb ?_ ?_); · omega) | ((with_reducible refine k9q_Fb ?_ ?_); · omega) | (refine k9o_call (k9s_10 hW hf) ?_; simp (disch := omega) only [k9e_54_0, k9e_54_4, k9e_54_9, k9e_54_15, k9e_54_24, k9e_54_27, k9e_54_33, k9e_54_38, k9e_54_43, k9e_54_44, k9e_54_50, k9e_54_55, k9e_54_63, k9e_54_68, k9e_54_70, Nat.reduceEqDiff, Int.reduceEq, Int.reduceLT, Int.reduceLE, k9_ps_s, k9_ps_n, k9_ur, false_and, and_false, true_and, and_true, true_or, or_true, false_or, or_false, eq_self, ↓reduceIte, not_true_eq_false, not_false_eq_true, n_toInt, n_cl, nI_1, nI_add, n_a0, n_p2, n_p3, n_p4, n_x2, n_x3, n_x4, n_x60, n_x100, n_pm1, k9L_m2, k9L_m1, k9L_0, k9L_1, k9L_2, k9L_3, k9L_4, k9L_5, k9L_6, k9L_7, k9L_8, k9L_9, k9L_10, k9L_20, k9L_23, k9L_24, k9L_30, k9L_40, k9L_50, k9L_60, k9L_99, k9L_100, k9L_120, k9L_255, k9L_999, k9L_1000, k9_bs, k9_ba]) | (refine k9o_call (k9s_11 (by repeat (first | exact hW | apply k9_Wk_u rfl)) hf) ?_; simp (disch := omega) only [k9e_54_0, k9e_54_4, k9e_54_9, k9e_54_15, k9e_54_24, k9e_54_27, k9e_54_33, k9e_54_38, k9e_54_43, k9e_54_44, k9e_54_50, k9e_54_55, k9e_54_63, k9e_54_68, k9e_54_70, Nat.reduceEqDiff, Int.reduceEq, Int.reduceLT, Int.reduceLE, k9_ps_s, k9_ps_n, k9_ur, false_and, and_false, true_and, and_true, true_or, or_true, false_or, or_false, eq_self, ↓reduceIte, not_true_eq_false, not_false_eq_true, n_toInt, n_cl, nI_1, nI_add, n_a0, n_p2, n_p3, n_p4, n_x2, n_x3, n_x4, n_x60, n_x100, n_pm1, k9L_m2, k9L_m1, k9L_0, k9L_1, k9L_2, k9L_3, k9L_4, k9L_5, k9L_6, k9L_7, k9L_8, k9L_9, k9L_10, k9L_20, k9L_23, k9L_24, k9L_30, k9L_40, k9L_50, k9L_60, k9L_99, k9L_100, k9L_120, k9L_255, k9L_999, k9L_1000, k9_bs, k9_ba]) | (refine k9o_call (e1) ?_; simp (disch := omega) only [k9e_54_0, k9e_54_4, k9e_54_9, k9e_54_15, k9e_54_24, k9e_54_27, k9e_54_33, k9e_54_38, k9e_54_43, k9e_54_44, k9e_54_50, k9e_54_55, k9e_54_63, k9e_54_68, k9e_54_70, Nat.reduceEqDiff, Int.reduceEq, Int.reduceLT, Int.reduceLE, k9_ps_s, k9_ps_n, k9_ur, false_and, and_false, true_and, and_true, true_or, or_true, false_or, or_false, eq_self, ↓reduceIte, not_true_eq_false, not_false_eq_true, n_toInt, n_cl, nI_1, nI_add, n_a0, n_p2, n_p3, n_p4, n_x2, n_x3, n_x4, n_x60, n_x100, n_pm1, k9L_m2, k9L_m1, k9L_0, k9L_1, k9L_2, k9L_3, k9L_4, k9L_5, k9L_6, k9L_7, k9L_8, k9L_9, k9L_10, k9L_20, k9L_23, k9L_24, k9L_30, k9L_40, k9L_50, k9L_60, k9L_99, k9L_100, k9L_120, k9L_255, k9L_999, k9L_1000, k9_bs, k9_ba]) | simp (disch := omega) only [k9e_54_0, k9e_54_4, k9e_54_9, k9e_54_15, k9e_54_24, k9e_54_27, k9e_54_33, k9e_54_38, k9e_54_43, k9e_54_44, k9e_54_50, k9e_54_55, k9e_54_63, k9e_54_68, k9e_54_70, Nat.reduceEqDiff, Int.reduceEq, Int.reduceLT, Int.reduceLE, k9_ps_s, k9_ps_n, k9_ur, false_and, and_false, true_and, and_true, true_or, or_true, false_or, or_false, eq_self, ↓reduceIte, not_true_eq_false, not_false_eq_true, n_toInt, n_cl, nI_1, nI_add, n_a0, n_p2, n_p3, n_p4, n_x2, n_x3, n_x4, n_x60, n_x100, n_pm1, k9L_m2, k9L_m1, k9L_0, k9L_1, k9L_2, k9L_3, k9L_4, k9L_5, k9L_6, k9L_7, k9L_8, k9L_9, k9L_10, k9L_20, k9L_23, k9L_24, k9L_30, k9L_40, k9L_50, k9L_60, k9L_99, k9L_100, k9L_120, k9L_255, k9L_999, k9L_1000, k9_bs, k9_ba])
  rw [show (0 : Int32) = nI 0 from rfl, n_max (by omega) (by omega), Nat.max_eq_right (Nat.zero_le _)]
  exact k9o_to e rfl
end KR
