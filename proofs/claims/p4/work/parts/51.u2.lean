/-! THE REFERENCE: runs, second by second -/
section KU2
variable {S : k9_S} {d : Nat} {I I' : k9_I} {J J' : k9_J} {w w0 : Nat → Nat → Nat} {V : (Nat → Int32) → Int32} {o : Nat → Nat}
theorem n_c0 : Int32.toNatClampNeg 0 = 0 := by decide
theorem n_c1 : Int32.toNatClampNeg 1 = 1 := by decide
theorem n_c2 : Int32.toNatClampNeg 2 = 2 := by decide
theorem n_c3 : Int32.toNatClampNeg 3 = 3 := by decide
theorem n_c4 : Int32.toNatClampNeg 4 = 4 := by decide
theorem n_c5 : Int32.toNatClampNeg 5 = 5 := by decide
theorem n_c6 : Int32.toNatClampNeg 6 = 6 := by decide
theorem n_c7 : Int32.toNatClampNeg 7 = 7 := by decide
theorem n_c8 : Int32.toNatClampNeg 8 = 8 := by decide
theorem n_c9 : Int32.toNatClampNeg 9 = 9 := by decide
theorem p_sm_mono {r : Nat → Nat} {a b : Nat} (h : a ≤ b) : p_sm r a ≤ p_sm r b := by
  induction h with
  | refl => exact Nat.le_refl _
  | step _ ih => exact Nat.le_trans ih (Nat.le_add_right _ _)
theorem p_cs_le (w : Nat → Nat → Nat) (t : Nat) : ∀ i, p_cs w t i ≤ p_sm (w 0) i
  | 0 => Nat.le_refl _
  | i + 1 => by
    have h := p_cs_le w t i
    have hm : min (w 0 i) (w 1 i * (t - p_st w i - w 2 i)) ≤ w 0 i := Nat.min_le_left _ _
    rw [p_cs, p_sm]
    split <;> omega
theorem p_co_le (w : Nat → Nat → Nat) (t : Nat) : p_co w t ≤ p_tt w 0 := by
  rw [← (p_cs_n w t).1]
  exact p_cs_le w t _
theorem p_ce_b (w : Nat → Nat → Nat) (t m : Nat) : p_ce w (p_tt w) t m ≤ 100 := by
  have g1 := (p_dn_sp w t).1
  unfold p_ce
  repeat' split
  · exact p_ct_b (p_sm_mono g1)
  · exact p_ct_b (p_co_le w t)
  · exact p_ct_b g1
  · exact p_ct_b (Nat.min_le_right _ _)
theorem p_cl_n {c : Nat} (h : c ≤ 100) : p_cl (nI c) = c := by
  unfold p_cl
  rw [n_toInt (by omega), if_neg (by omega), if_neg (by omega)]
  omega
def k9_Fr (k _ p : Nat) : Bool := Nat.beq k 54 || Nat.beq k 64 || Nat.beq k 65 || Nat.beq k 66 || Nat.beq k 67 || Nat.beq k 70 || (Nat.beq k 12 && Nat.beq p 39)
/-- what the reference has once it has run: whole, come, times, shown up to a second -/
def k9_Rn (I : k9_I) (w : Nat → Nat → Nat) (V : (Nat → Int32) → Int32) (M : Nat) : Prop := I 12 0 39 = nI (p_len w) ∧ ∀ t, t < M → I 64 0 t = nI (p_co w t) ∧ I 66 0 t = nI (p_ct (p_len w) (min t (p_len w))) ∧ I 67 0 t = nI (p_sh w (p_tt w) V t)
theorem k9s_188t {L1 : Int32} {Q : k9_A → Prop} {x a b c1 c2 c3 c4 : Int32} {l t c : Nat} (hf : k9_wf w) (hl : l ≤ 100) (hc : c ≤ 100) (h1 : I 44 0 1 = nI (w 5 0)) (h2 : I 44 0 2 = nI (w 6 0))
    (g : k9_ok (k9_R S d 188 198 [some (k9_r 12 0), some (k9_i x), some (k9_i a), some (k9_i b), some (k9_i (nI l)), some (k9_i (nI t)), some (k9_i c1), some (k9_i c2), some (k9_i c3), some (k9_i c4), some (k9_i (nI (p_li w c l))), none] [] I J) Q) :
    k9_ok (k9_R S d 188 173 [some (k9_r 12 0), some (k9_i x), some (k9_i a), some (k9_i b), some (k9_i (nI l)), some (k9_i (nI t)), some (k9_i c1), some (k9_i c2), some (k9_i c3), some (k9_i c4), some (k9_i L1), none] [k9_i (nI c)] I J) Q := by
  have h5 := hf.2.2.1
  have h7 := hf.2.2.2.1
  have k2 : ∀ e : Nat, e ≤ 100 → e = p_ne w c l → k9_ok (k9_R S d 188 184 [some (k9_r 12 0), some (k9_i x), some (k9_i a), some (k9_i b), some (k9_i (nI l)), some (k9_i (nI t)), some (k9_i c1), some (k9_i c2), some (k9_i c3), some (k9_i c4), some (k9_i (nI e)), none] [] I J) Q := by
    intro e he hee
    refine k9o_eq k9e_188_184 ?_
    rw [p_li, ← hee] at g
    by_cases h0 : 0 < w 5 0
    · refine k9o_F (by rw [h1, n_toInt (by omega)]; omega) (k9o_eq k9e_188_189 ?_)
      rw [h1, nI_add, n_min (a := e) (b := l + w 5 0) (by omega) (by omega)]
      by_cases h3 : l + w 5 0 < e
      · rw [if_pos ⟨h0, h3⟩] at g
        rw [Nat.min_eq_right (by omega)]
        exact g
      · rw [if_neg (fun z => h3 z.2)] at g
        rw [Nat.min_eq_left (by omega)]
        exact g
    · rw [if_neg (fun z => h0 z.1)] at g
      refine k9o_T (by rw [h1, n_toInt (by omega)]; omega) ?_
      exact g
  refine k9o_eq k9e_188_173 ?_
  by_cases h3 : w 6 0 = 1
  · refine k9o_T (by rw [h2, n_toInt (by omega)]; omega) (k9o_eq k9e_188_180 ?_)
    rw [n_max (a := c) (b := l) (by omega) (by omega)]
    refine k2 _ (by omega) ?_
    rw [p_ne]
    by_cases h4 : c < l
    · rw [if_pos ⟨h3, h4⟩]
      omega
    · rw [if_neg (fun z => h4 z.2)]
      omega
  · refine k9o_F (by rw [h2, n_toInt (by omega)]; omega) ?_
    exact k2 c hc (by rw [p_ne, if_neg (fun z => h3 z.1)])
/-- per cent are kept -/
theorem k9s_188k {Q : k9_A → Prop} {x a b c1 c2 c3 c4 c5 : Int32} {l t : Nat}
    (g : ∀ I', (∀ k, k < 4 → I' 70 0 k = I 65 0 k) → k9_fx (fun k _ _ => Nat.beq k 70) I I' → k9_ok (k9_R S d 188 34 [some (k9_r 12 0), some (k9_i x), some (k9_i a), some (k9_i b), some (k9_i (nI l)), some (k9_i (nI t + 1)), none, none, none, none, none, none] [] I' J) Q) :
    k9_ok (k9_R S d 188 210 [some (k9_r 12 0), some (k9_i x), some (k9_i a), some (k9_i b), some (k9_i (nI l)), some (k9_i (nI t)), some (k9_i c1), some (k9_i c2), some (k9_i c3), some (k9_i c4), some (k9_i c5), some (k9_i 0)] [] I J) Q := by
  have key : ∀ n i I1, i + n = 4 → (∀ k, k < i → I1 70 0 k = I 65 0 k) → k9_fx (fun k _ _ => Nat.beq k 70) I I1 → k9_ok (k9_R S d 188 210 [some (k9_r 12 0), some (k9_i x), some (k9_i a), some (k9_i b), some (k9_i (nI l)), some (k9_i (nI t)), some (k9_i c1), some (k9_i c2), some (k9_i c3), some (k9_i c4), some (k9_i c5), some (k9_i (nI i))] [] I1 J) Q := by
    intro n
    induction n with
    | zero =>
      intro i I1 hi h hx
      obtain rfl : i = 4 := by omega
      refine k9o_eq k9e_188_210 (k9o_T (by decide) (k9o_eq k9e_188_223b ?_))
      exact g I1 h hx
    | succ n ih =>
      intro i I1 hi h hx
      refine k9o_eq k9e_188_210 (k9o_F (by rw [n_toInt (by omega)]; omega) (k9o_eq k9e_188_213 (k9o_T (by rw [n_toInt (by omega)]; omega) (k9o_eq k9e_188_220 (k9o_T (by rw [n_toInt (by omega)]; omega) (k9o_eq k9e_188_221 ?_))))))
      rw [n_cl (by omega), nI_1]
      refine ih (i + 1) _ (by omega) (fun k hk => ?_) (k9_fx_u hx rfl)
      by_cases e : k = i
      · subst e
        simp [k9_ur]
        exact hx 65 0 k rfl
      · simpa [k9_ur, e] using h k (by omega)
  exact key 4 0 I (by omega) (fun k hk => by omega) (k9_fx_rf _ _)
theorem k9s_188 {x : Int32} (hM : k9_Wm I w0) (hf : k9_wf w0) (hL : k9_Ln I w0 o) (hV : k9_ML I V) (hw : w = p_cm w0 o) (hp : ∀ k, k < 3 → p_tt w k = p_tt w0 k) :
    ∃ I', k9_R S (d + 4) 188 0 [some (k9_r 12 0), some (k9_i x), none, none, none, none, none, none, none, none, none, none] [] I J = some (none, I', J) ∧ k9_Rn I' w V 1000 ∧ (∀ c, c < 1000 → x = nI c → ∀ k, k < 4 → I' 70 0 k = nI (p_ce w (p_tt w) c k)) ∧ k9_fx k9_Fr I I' := by
  have hwf : k9_wf w := by rw [hw]; exact k9_wf_cm hf (fun k hk => (hL k hk).2)
  have h6 := hf.1
  have h7 : w 7 0 = w0 7 0 := by rw [hw]; rfl
  have hm4 := hwf.2.1
  have hw4 : w0 4 0 = w 4 0 := by rw [hw]; rfl
  have hw5 : w0 5 0 = w 5 0 := by rw [hw]; rfl
  have hw6 : w0 6 0 = w 6 0 := by rw [hw]; rfl
  obtain ⟨T0, T1, T2⟩ := p_tt_b hwf
  have key : ∀ n t l I1, t + n = 1000 → l ≤ 100 → p_sn w (p_tt w) V t l = p_sh w (p_tt w) V t → k9_Rn I1 w V t → (∀ c, c < t → x = nI c → ∀ k, k < 4 → I1 70 0 k = nI (p_ce w (p_tt w) c k)) → k9_fx k9_Fr I I1 →
      k9_ok (k9_R S (d + 4) 188 34 [some (k9_r 12 0), some (k9_i x), some (k9_i (nI (p_tt w 0))), some (k9_i (nI (p_tt w 1))), some (k9_i (nI l)), some (k9_i (nI t)), none, none, none, none, none, none] [] I1 J) (fun q => ∃ I', q = (none, I', J) ∧ k9_Rn I' w V 1000 ∧ (∀ c, c < 1000 → x = nI c → ∀ k, k < 4 → I' 70 0 k = nI (p_ce w (p_tt w) c k)) ∧ k9_fx k9_Fr I I') := by
    intro n
    induction n with
    | zero =>
      intro t l I1 ht hl hs hR hK hx
      obtain rfl : t = 1000 := by omega
      refine k9o_eq k9e_188_34 (k9o_T (by decide) (k9o_eq k9e_188_225 ?_))
      exact k9o_ret ⟨I1, rfl, hR, hK, hx⟩
    | succ n ih =>
      intro t l I1 ht hl hs hR hK hx
      have hM1 : k9_Wm I1 w0 := k9_Wm_t hM (hx 12 0 0 rfl) (funext fun p => hx 44 0 p rfl) (funext fun p => hx 40 0 p rfl) (funext fun p => hx 41 0 p rfl) (funext fun p => hx 42 0 p rfl) (funext fun p => hx 43 0 p rfl)
      have hL1 : k9_Ln I1 w0 o := fun i hi => ⟨(hx 63 0 i rfl).trans (hL i hi).1, (hL i hi).2⟩
      have g1 := (p_dn_sp w t).1
      have b3 := p_sm3_b hwf g1
      have bc := p_co_b hwf t
      refine k9o_eq k9e_188_34 (k9o_F (by rw [n_toInt (by omega)]; omega) (k9o_eq k9e_188_37 ?_))
      refine k9s_188b (d := d + 3) hM1 hf hL1 (by omega) ?_
      rw [← hw]
      have i39 : I1 12 0 39 = nI (p_tt w 2) := hR.1
      have i0 : I1 12 0 0 = nI (w0 7 0) := hM1.1
      have mn : (if nI (p_tt w 2) < nI t then nI (p_tt w 2) else nI t) = nI (min t (p_tt w 2)) := n_min (a := t) (b := p_tt w 2) (by omega) (by omega)
      simp (disch := omega) only [k9e_188_110, k9e_188_115, k9e_188_121, k9e_188_122, k9e_188_128, k9e_188_129, k9e_188_136, k9e_188_137, k9e_188_147, k9e_188_148, Nat.reduceEqDiff, Int.reduceEq, Int.reduceLT, Int.reduceLE, k9_ps_s, k9_ps_n, k9_ur, false_and, and_false, true_and, and_true, true_or, or_true, false_or, or_false, eq_self, ↓reduceIte, not_true_eq_false, not_false_eq_true, n_toInt, n_cl, nI_1, nI_add, n_a0, n_p2, n_p3, n_p4, n_x2, n_x3, n_x4, n_x60, n_x100, n_pm1, k9L_m2, k9L_m1, k9L_0, k9L_1, k9L_2, k9L_3, k9L_4, k9L_5, k9L_6, k9L_7, k9L_8, k9L_9, k9L_10, k9L_20, k9L_23, k9L_24, k9L_30, k9L_40, k9L_50, k9L_60, k9L_99, k9L_100, k9L_120, k9L_255, k9L_999, k9L_1000, k9_bs, k9_ba, i39, i0, mn, n_c0, n_c1, n_c2, n_c3]
      repeat (first | ((with_reducible refine k9q_T ?_ ?_); · omega) | ((with_reducible refine k9q_F ?_ ?_); · omega) | ((with_reducible refine k9q_Tb ?_ ?_); · omega) | ((with_reducible refine k9q_Fb ?_ ?_); · omega) | (refine k9o_call (k9s_186 (by omega) (by omega)) ?_; simp (disch := omega) only [k9e_188_110, k9e_188_115, k9e_188_121, k9e_188_122, k9e_188_128, k9e_188_129, k9e_188_136, k9e_188_137, k9e_188_147, k9e_188_148, Nat.reduceEqDiff, Int.reduceEq, Int.reduceLT, Int.reduceLE, k9_ps_s, k9_ps_n, k9_ur, false_and, and_false, true_and, and_true, true_or, or_true, false_or, or_false, eq_self, ↓reduceIte, not_true_eq_false, not_false_eq_true, n_toInt, n_cl, nI_1, nI_add, n_a0, n_p2, n_p3, n_p4, n_x2, n_x3, n_x4, n_x60, n_x100, n_pm1, k9L_m2, k9L_m1, k9L_0, k9L_1, k9L_2, k9L_3, k9L_4, k9L_5, k9L_6, k9L_7, k9L_8, k9L_9, k9L_10, k9L_20, k9L_23, k9L_24, k9L_30, k9L_40, k9L_50, k9L_60, k9L_99, k9L_100, k9L_120, k9L_255, k9L_999, k9L_1000, k9_bs, k9_ba, i39, i0, mn, n_c0, n_c1, n_c2, n_c3]) | simp (disch := omega) only [k9e_188_110, k9e_188_115, k9e_188_121, k9e_188_122, k9e_188_128, k9e_188_129, k9e_188_136, k9e_188_137, k9e_188_147, k9e_188_148, Nat.reduceEqDiff, Int.reduceEq, Int.reduceLT, Int.reduceLE, k9_ps_s, k9_ps_n, k9_ur, false_and, and_false, true_and, and_true, true_or, or_true, false_or, or_false, eq_self, ↓reduceIte, not_true_eq_false, not_false_eq_true, n_toInt, n_cl, nI_1, nI_add, n_a0, n_p2, n_p3, n_p4, n_x2, n_x3, n_x4, n_x60, n_x100, n_pm1, k9L_m2, k9L_m1, k9L_0, k9L_1, k9L_2, k9L_3, k9L_4, k9L_5, k9L_6, k9L_7, k9L_8, k9L_9, k9L_10, k9L_20, k9L_23, k9L_24, k9L_30, k9L_40, k9L_50, k9L_60, k9L_99, k9L_100, k9L_120, k9L_255, k9L_999, k9L_1000, k9_bs, k9_ba, i39, i0, mn, n_c0, n_c1, n_c2, n_c3])
      -- the memory with all per cent
      obtain ⟨M, hMM⟩ : ∃ M, M = k9_u (k9_u (k9_u (k9_u (k9_u (k9_u I1 64 0 t (nI (p_co w t))) 65 0 0 (nI (p_ct (p_tt w 1) (p_sm (w 3) (p_dn w t))))) 65 0 1 (nI (p_ct (p_tt w 0) (p_co w t)))) 65 0 2 (nI (p_ct (w0 7 0) (p_dn w t)))) 65 0 3 (nI (p_ct (p_tt w 2) (min t (p_tt w 2))))) 66 0 t (nI (p_ct (p_tt w 2) (min t (p_tt w 2)))) := ⟨_, rfl⟩
      rw [← hMM]
      have M65 : ∀ k, k < 4 → M 65 0 k = nI (p_ce w (p_tt w) t k) := by
        intro k hk
        have hk4 : k = 0 ∨ k = 1 ∨ k = 2 ∨ k = 3 := by omega
        rcases hk4 with rfl | rfl | rfl | rfl
        all_goals
          rw [hMM]
          simp only [k9_ur, Nat.reduceEqDiff, false_and, and_false, true_and, and_true, ↓reduceIte]
        · rfl
        · rfl
        · rw [← h7]
          rfl
        · rfl
      have xM : k9_fx k9_Fr I M := by
        rw [hMM]
        exact k9_fx_u (k9_fx_u (k9_fx_u (k9_fx_u (k9_fx_u (k9_fx_u hx rfl) rfl) rfl) rfl) rfl) rfl
      have M64 : M 64 0 t = nI (p_co w t) := by rw [hMM]; simp [k9_ur]
      have M66 : M 66 0 t = nI (p_ct (p_len w) (min t (p_len w))) := by rw [hMM]; simp [k9_ur]; rfl
      have Mo : ∀ t', t' < t → M 64 0 t' = I1 64 0 t' ∧ M 66 0 t' = I1 66 0 t' ∧ M 67 0 t' = I1 67 0 t' := by
        intro t' h'
        have z : ¬ t' = t := by omega
        rw [hMM]
        simp only [k9_ur, Nat.reduceEqDiff, false_and, and_false, true_and, z, ↓reduceIte]
      have M70 : ∀ k, M 70 0 k = I1 70 0 k := by intro k; rw [hMM]; simp [k9_ur]
      have M39 : M 12 0 39 = nI (p_len w) := by rw [hMM]; simp [k9_ur]; exact i39
      -- behind the raw per cent
      have rest : ∀ (c : Nat) (I3 : k9_I) (L1 : Int32), c = p_cl (p_rw w (p_tt w) V t l) → c ≤ 100 → k9_fx k9_Fn M I3 → k9_ok (k9_R S (d + 4) 188 173 [some (k9_r 12 0), some (k9_i x), some (k9_i (nI (p_tt w 0))), some (k9_i (nI (p_tt w 1))), some (k9_i (nI l)), some (k9_i (nI t)), some (k9_i (nI (p_co w t))), some (k9_i (nI (p_sm (w 3) (p_dn w t)))), some (k9_i (nI (p_dn w t))), some (k9_i (nI (p_len w))), some (k9_i L1), none] [k9_i (nI c)] I3 J) (fun q => ∃ I', q = (none, I', J) ∧ k9_Rn I' w V 1000 ∧ (∀ c, c < 1000 → x = nI c → ∀ k, k < 4 → I' 70 0 k = nI (p_ce w (p_tt w) c k)) ∧ k9_fx k9_Fr I I') := by
        intro c I3 L1 hc hc1 x3
        have h44 : ∀ p, I3 44 0 p = I 44 0 p := fun p => (x3 44 0 p rfl).trans (xM 44 0 p rfl)
        refine k9s_188t hwf hl hc1 ((h44 1).trans (hM.2.2.1.trans (by rw [hw5]))) ((h44 2).trans (hM.2.2.2.1.trans (by rw [hw6]))) ?_
        have hsh : p_li w c l = p_sh w (p_tt w) V t := by rw [hc, ← hs, p_sn]
        rw [hsh]
        refine k9o_eq k9e_188_198 (k9o_T (by rw [n_toInt (by omega)]; omega) ?_)
        rw [n_cl (by omega)]
        have R4 : ∀ I4 : k9_I, (∀ k p, (Nat.beq k 70) = false → I4 k 0 p = k9_u I3 67 0 t (nI (p_sh w (p_tt w) V t)) k 0 p) → k9_Rn I4 w V (t + 1) := by
          intro I4 h4
          refine ⟨?_, fun t' ht' => ?_⟩
          · rw [h4 _ _ rfl]
            simp only [k9_ur, Nat.reduceEqDiff, false_and, ↓reduceIte]
            exact (x3 _ _ _ rfl).trans M39
          · rw [h4 _ _ rfl, h4 _ _ rfl, h4 _ _ rfl]
            simp only [k9_ur, Nat.reduceEqDiff, false_and, true_and, ↓reduceIte]
            rw [x3 64 0 t' rfl, x3 66 0 t' rfl, x3 67 0 t' rfl]
            by_cases e : t' = t
            · subst e
              simp only [↓reduceIte]
              exact ⟨M64, M66, trivial⟩
            · rw [if_neg e, (Mo t' (by omega)).1, (Mo t' (by omega)).2.1, (Mo t' (by omega)).2.2]
              exact hR.2 t' (by omega)
        have x4 : k9_fx k9_Fr I (k9_u I3 67 0 t (nI (p_sh w (p_tt w) V t))) := by
          refine k9_fx_u (k9_fx_tr xM (k9_fx_w x3 (fun k i p e => ?_))) rfl
          simp only [k9_Fr, Bool.or_eq_false_iff] at e
          exact e.1.1.1.1.1.1
        refine k9o_eq k9e_188_203 ?_
        by_cases hxt : x = nI t
        · refine k9o_T (by rw [hxt]) (k9o_eq k9e_188_208 ?_)
          refine k9s_188k ?_
          intro I5 h5 x5
          rw [nI_1]
          refine ih (t + 1) _ I5 (by omega) (p_sh_b t) rfl (R4 I5 (fun k p e => x5 k 0 p e)) (fun c' hc' hxc k hk => ?_) (k9_fx_tr x4 (k9_fx_w x5 (fun k i p e => ?_)))
          · have : c' = t := (n_inj (by omega) (by omega)).mp (hxc.symm.trans hxt)
            subst this
            rw [h5 k hk]
            simp only [k9_ur, Nat.reduceEqDiff, false_and, ↓reduceIte]
            exact (x3 65 0 k rfl).trans (M65 k hk)
          · simp only [k9_Fr, Bool.or_eq_false_iff] at e
            exact e.1.2
        · refine k9o_F (by rw [n_toInt (by omega)]; exact fun z => hxt (n_ext (by rw [n_toInt (by omega)]; exact z.symm))) (k9o_eq k9e_188_223 ?_)
          rw [nI_1]
          refine ih (t + 1) _ _ (by omega) (p_sh_b t) rfl (R4 _ (fun k p _ => rfl)) (fun c' hc' hxc k hk => ?_) x4
          have hcne : c' ≠ t := fun z => hxt (by rw [hxc, z])
          simp only [k9_ur, Nat.reduceEqDiff, false_and, ↓reduceIte]
          rw [x3 70 0 k rfl, M70]
          exact hK c' (by omega) hxc k hk
      have h440 : M 44 0 0 = nI (w 4 0) := (xM 44 0 0 rfl).trans (hM.2.1.trans (by rw [hw4]))
      refine k9o_eq k9e_188_156 ?_
      by_cases h4 : w 4 0 = 4
      · refine k9o_T (by rw [h440, n_toInt (by omega)]; omega) (k9o_eq k9e_188_162 ?_)
        obtain ⟨I3, e3, x3⟩ := hV S d J M (nI l) (xM 12 0 8 rfl) (xM 12 0 9 rfl) (funext fun p => xM 46 0 p rfl) (funext fun p => xM 47 0 p rfl) (funext fun p => xM 48 0 p rfl) (funext fun p => xM 49 0 p rfl) (fun k hk => ⟨_, p_ce_b w t k, M65 k hk⟩)
        refine k9o_call e3 ?_
        simp only [k9_ps_s]
        refine k9o_eq k9e_188_165 ?_
        refine rest _ I3 _ ?_ (p_cl_b _) x3
        rw [p_rw, if_pos h4]
        congr 2
        funext k
        unfold p_env
        by_cases hk : k < 4
        · rw [if_pos hk, if_pos hk, M65 k hk]
        · rw [if_neg hk, if_neg hk]
          by_cases hk4 : k = 4
          · rw [if_pos hk4, if_pos hk4]
          · rw [if_neg hk4, if_neg hk4, xM 12 0 0 rfl, hM.1, h7]
      · refine k9o_F (by rw [h440, n_toInt (by omega)]; omega) (k9o_eq k9e_188_166 ?_)
        refine k9o_T (by rw [h440, n_toInt (by omega)]; omega) ?_
        rw [h440, n_cl (by omega), M65 _ (by omega)]
        refine rest _ M _ ?_ (p_ce_b _ _ _) (k9_fx_rf _ _)
        rw [p_rw, if_neg h4, p_cl_n (p_ce_b _ _ _)]
  have e185 := k9s_185 (S := S) (d := d + 2) (I := I) (J := J) hM hf
  have hx0 : k9_fx k9_Fr I (k9_u I 12 0 39 (nI (p_len w0))) := k9_fx_u (k9_fx_rf _ _) rfl
  have hlen : p_len w0 = p_len w := (hp 2 (by omega)).symm
  have e0 : p_sm (w0 0) (w0 7 0) = p_tt w 0 := (hp 0 (by omega)).symm
  have e1 : p_sm (w0 3) (w0 7 0) = p_tt w 1 := (hp 1 (by omega)).symm
  obtain ⟨q, e, I', rfl, h⟩ := key 1000 0 0 (k9_u I 12 0 39 (nI (p_len w0))) (by omega) (by omega) rfl ⟨by rw [hlen]; simp [k9_ur], fun t ht => by omega⟩ (fun c hc => by omega) hx0
  refine ⟨I', k9o_of ?_, h⟩
  rw [k9e_188_0]
  refine k9s_188a hM hf ?_
  refine k9o_eq k9e_188_26 (k9o_call e185 ?_)
  simp only [k9_ps_s]
  refine k9o_eq k9e_188_29 ?_
  rw [e0, e1]
  exact k9o_to e rfl
end KU2
