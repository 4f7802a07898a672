/-! ORDERS: order, the call -/
section KT32
variable {S : k9_S} {d : Nat} {I I' : k9_I} {J J' : k9_J} {w : Nat → Nat → Nat} {V : (Nat → Int32) → Int32} {b : Nat} {x1 x2 x3 : Int32} {h c : Nat → Nat} {L A f M : Nat}
def k9_Fg (k i p : Nat) : Bool := k9_F7 k i p || Nat.beq k 68 || Nat.beq k 69
theorem k9_Fg_7 {I1 I2 : k9_I} (h : k9_fx k9_F7 I1 I2) : k9_fx k9_Fg I1 I2 := k9_fx_w h (fun k i p e => by
  unfold k9_Fg at e
  exact (Bool.or_eq_false_iff.mp (Bool.or_eq_false_iff.mp e).1).1)
theorem k9_Fg_69 {I1 I2 : k9_I} (h : k9_fx k9_F69 I1 I2) : k9_fx k9_Fg I1 I2 := k9_fx_w h (fun k i p e => by
  unfold k9_Fg at e
  exact (Bool.or_eq_false_iff.mp e).2)
theorem k9_Fg_X {X : Nat → Bool} (hX : X 0 = true) : ∀ k i p, k9_Fg k i p = true → X (v_cl k i p) = true := by
  intro k i p e
  rcases Bool.or_eq_true_iff.mp e with f | f
  · rcases Bool.or_eq_true_iff.mp f with g | g
    · exact k9_F7_X hX k i p g
    · rw [k9_beq_of g]
      exact hX
  · rw [k9_beq_of f]
    exact hX
theorem k9s_207i {Q : k9_A → Prop} {x1 : Int32} (g : ∀ I', (∀ k, k < 6 → I' 69 0 k = nI k) → k9_fx k9_F69 I I' → k9_ok (k9_R S d 207 33 [some (k9_r 12 0), some (k9_i x1), some (k9_i (-1)), some (k9_i 1), none] [] I' J) Q) : k9_ok (k9_R S d 207 17 [some (k9_r 12 0), some (k9_i x1), none, none, none] [] I J) Q := by
  have key : ∀ m k I1, k + m = 6 → (∀ j, j < k → I1 69 0 j = nI j) → k9_fx k9_F69 I I1 → k9_ok (k9_R S d 207 19 [some (k9_r 12 0), some (k9_i x1), some (k9_i (nI k)), none, none] [] I1 J) Q := by
    intro m
    induction m with
    | zero =>
      intro k I1 hk hh hx
      obtain rfl : k = 6 := by omega
      exact k9o_eq k9e_207_19 (k9o_T (by decide) (k9o_eq k9e_207_29 (g I1 hh hx)))
    | succ m ih =>
      intro k I1 hk hh hx
      refine k9o_eq k9e_207_19 (k9o_F (by rw [n_toInt (by omega)]; omega) (k9o_eq k9e_207_22 (k9o_T (by rw [n_toInt (by omega)]; omega) (k9o_eq k9e_207_27 ?_))))
      rw [n_cl (by omega), nI_1]
      refine ih (k + 1) _ (by omega) (fun j hj => ?_) (k9_fx_u hx rfl)
      by_cases e : j = k
      · subst e
        simp [k9_ur]
      · simpa [k9_ur, e] using hh j (by omega)
  rw [k9e_207_17]
  exact key 6 0 I (by omega) (fun j hj => by omega) (k9_fx_rf _ _)
theorem k9s_207c {Q : k9_A → Prop} {x1 x2 x3 : Int32} (g : ∀ I' x4, (∀ k, k < 6 → I' 63 0 k = I 69 0 k) → k9_fx (fun k _ _ => Nat.beq k 63) I I' → k9_ok (k9_R S d 207 50 [some (k9_r 12 0), some (k9_i x1), some (k9_i x2), some (k9_i x3), some (k9_i x4)] [] I' J) Q) : k9_ok (k9_R S d 207 35 [some (k9_r 12 0), some (k9_i x1), some (k9_i x2), some (k9_i x3), none] [] I J) Q := by
  have key : ∀ m k I1, k + m = 6 → (∀ j, j < k → I1 63 0 j = I 69 0 j) → k9_fx (fun k _ _ => Nat.beq k 63) I I1 → k9_ok (k9_R S d 207 37 [some (k9_r 12 0), some (k9_i x1), some (k9_i x2), some (k9_i x3), some (k9_i (nI k))] [] I1 J) Q := by
    intro m
    induction m with
    | zero =>
      intro k I1 hk hh hx
      obtain rfl : k = 6 := by omega
      exact k9o_eq k9e_207_37 (k9o_T (by decide) (g I1 _ hh hx))
    | succ m ih =>
      intro k I1 hk hh hx
      refine k9o_eq k9e_207_37 (k9o_F (by rw [n_toInt (by omega)]; omega) (k9o_eq k9e_207_40 (k9o_T (by rw [n_toInt (by omega)]; omega) (k9o_eq k9e_207_47 (k9o_T (by rw [n_toInt (by omega)]; omega) (k9o_eq k9e_207_48 ?_))))))
      rw [n_cl (by omega), nI_1, hx 69 0 k rfl]
      refine ih (k + 1) _ (by omega) (fun j hj => ?_) (k9_fx_u hx rfl)
      by_cases e : j = k
      · subst e
        simp [k9_ur]
      · simpa [k9_ur, e] using hh j (by omega)
  rw [k9e_207_35]
  exact key 6 0 I (by omega) (fun j hj => by omega) (k9_fx_rf _ _)
theorem k9s_207b {Q : k9_A → Prop} {x1 x2 x3 : Int32} (g : ∀ I' x4, (∀ k, k < 6 → I' 68 0 k = I 69 0 k) → k9_fx (fun k _ _ => Nat.beq k 68) I I' → k9_ok (k9_R S d 207 79 [some (k9_r 12 0), some (k9_i x1), some (k9_i x2), some (k9_i x3), some (k9_i x4)] [] I' J) Q) : k9_ok (k9_R S d 207 66 [some (k9_r 12 0), some (k9_i x1), some (k9_i x2), some (k9_i x3), some (k9_i 0)] [] I J) Q := by
  have key : ∀ m k I1, k + m = 6 → (∀ j, j < k → I1 68 0 j = I 69 0 j) → k9_fx (fun k _ _ => Nat.beq k 68) I I1 → k9_ok (k9_R S d 207 66 [some (k9_r 12 0), some (k9_i x1), some (k9_i x2), some (k9_i x3), some (k9_i (nI k))] [] I1 J) Q := by
    intro m
    induction m with
    | zero =>
      intro k I1 hk hh hx
      obtain rfl : k = 6 := by omega
      exact k9o_eq k9e_207_66 (k9o_T (by decide) (g I1 _ hh hx))
    | succ m ih =>
      intro k I1 hk hh hx
      refine k9o_eq k9e_207_66 (k9o_F (by rw [n_toInt (by omega)]; omega) (k9o_eq k9e_207_69 (k9o_T (by rw [n_toInt (by omega)]; omega) (k9o_eq k9e_207_76 (k9o_T (by rw [n_toInt (by omega)]; omega) (k9o_eq k9e_207_77 ?_))))))
      rw [n_cl (by omega), nI_1, hx 69 0 k rfl]
      refine ih (k + 1) _ (by omega) (fun j hj => ?_) (k9_fx_u hx rfl)
      by_cases e : j = k
      · subst e
        simp [k9_ur]
      · simpa [k9_ur, e] using hh j (by omega)
  exact key 6 0 I (by omega) (fun j hj => by omega) (k9_fx_rf _ _)
/-- the search of the reference -/
theorem k9s_207 {Q : k9_A → Prop} {x1 : Int32} (v : k9_Iv I J w V b) (h5 : w 7 0 ≤ 5) (g : ∀ I', k9_Iv I' J w V b → (∀ k, k < w 7 0 → I' 68 0 k = nI ((p_ev w V (p_or (w 7 0)) (p_fc (w 7 0) - 1)).2 k)) → k9_ok (k9_R S (d + 20) 207 83 [some (k9_r 12 0), some (k9_i x1), some (k9_i (nI (p_ev w V (p_or (w 7 0)) (p_fc (w 7 0) - 1)).1)), some (k9_i 0), none] [] I' J) Q) : k9_ok (k9_R S (d + 20) 207 17 [some (k9_r 12 0), some (k9_i x1), none, none, none] [] I J) Q := by
  have hf := v.1.2.2.1
  have m0 := v.1.2.1.1
  obtain ⟨n, hn⟩ : ∃ n, n = w 7 0 := ⟨_, rfl⟩
  rw [← hn] at h5 m0 g
  obtain ⟨hc1, hc2⟩ := p_fc_b n h5
  have hob : ∀ k, k < p_fc n → p_oo w V (p_or n k) ≤ 100000 := fun k hk => p_oo_b (p_or_wf hf hn h5 hk)
  have heb := p_ev_b (w := w) (V := V) (s := p_or n) hob
  have hb100 : ∀ k, k < p_fc n → ∀ j, j < n → p_or n k j < 100 := fun k hk j hj => by
    have := (p_or_al h5 hk).2.1 j hj
    omega
  -- one order run, and the best one kept
  have one : ∀ k I1, k < p_fc n → k9_fx k9_Fg I I1 → (∀ j, j < n → I1 69 0 j = nI (p_or n k j)) → (0 < k → ∀ j, j < n → I1 68 0 j = nI ((p_ev w V (p_or n) (k - 1)).2 j)) →
      (∀ I2, k9_fx k9_Fg I I2 → (∀ j, j < n → I2 69 0 j = nI (p_or n k j)) → (∀ j, j < n → I2 68 0 j = nI ((p_ev w V (p_or n) k).2 j)) → ∀ x4, k9_ok (k9_R S (d + 20) 207 79 [some (k9_r 12 0), some (k9_i x1), some (k9_i (nI (p_ev w V (p_or n) k).1)), some (k9_i 1), some (k9_i x4)] [] I2 J) Q) →
      k9_ok (k9_R S (d + 20) 207 33 [some (k9_r 12 0), some (k9_i x1), some (k9_i (if k = 0 then -1 else nI (p_ev w V (p_or n) (k - 1)).1)), some (k9_i 1), none] [] I1 J) Q := by
    intro k I1 hk hx h69 h68 g1
    obtain ⟨-, hb, hj⟩ := p_or_al h5 hk
    refine k9o_eq k9e_207_33 (k9o_F (by decide) (k9s_207c (fun I2 x4 h63 x2 => ?_)))
    have hx2 : k9_fx k9_Fg I I2 := k9_fx_tr hx (k9_Fg_7 (k9_F7_q (k9_Fq_63 x2)))
    have i2 : k9_Iv I2 J w V b := k9_Iv_0 (k9_fp_x hx2 (k9_Fg_X rfl)) v
    obtain ⟨I3, e3, m3, x3⟩ := k9_orun (S := S) (d := d + 15) (J := J) (o := p_or n k) (x := -1) i2.1.2.1 hf i2.2.2.1.2 (fun j hj' => by rw [← hn] at hj'; rw [h63 j (by omega)]; exact h69 j hj') (fun j hj' => by rw [← hn] at hj' ⊢; exact hb j hj') (fun i j hi hj' e => by rw [← hn] at hi hj'; exact hj i j hi hj' e)
    have hlen := p_len_b (p_or_wf hf hn h5 hk)
    obtain ⟨I4, e4, k4, x4'⟩ := k9s_191 (S := S) (d := d + 19) (J := J) m3 (by omega) (fun t => p_sh_b t)
    have a45 : I4 12 0 45 = nI (p_oo w V (p_or n k)) := k4.2.1
    have hx4 := k9_fx_tr (k9_fx_tr hx2 (k9_Fg_7 (k9_F7_q (k9_Fq_of x3)))) (k9_Fg_7 (k9_F7_44 x4'))
    have h694 : ∀ j, I4 69 0 j = I1 69 0 j := fun j => (x4' 69 0 j rfl).trans ((x3 69 0 j rfl).trans (x2 69 0 j rfl))
    have h684 : ∀ j, I4 68 0 j = I1 68 0 j := fun j => (x4' 68 0 j rfl).trans ((x3 68 0 j rfl).trans (x2 68 0 j rfl))
    have b1 := hob k hk
    have b2 := heb (k - 1) (by omega)
    refine k9o_eq k9e_207_50 (k9o_call e3 ?_)
    simp only [k9_ps_n]
    refine k9o_eq k9e_207_53 (k9o_call e4 ?_)
    simp only [k9_ps_n]
    have take : p_ev w V (p_or n) k = (p_oo w V (p_or n k), p_or n k) → ∀ x2' : Int32, k9_ok (k9_R S (d + 20) 207 61 [some (k9_r 12 0), some (k9_i x1), some (k9_i x2'), some (k9_i 1), some (k9_i x4)] [] I4 J) Q := by
      intro ee x2'
      refine k9o_eq k9e_207_61 ?_
      rw [a45]
      refine k9s_207b (fun I5 x5 h68' x5' => ?_)
      have := g1 I5 (k9_fx_tr hx4 (k9_fx_w x5' (fun k i p e => by
        unfold k9_Fg at e
        exact (Bool.or_eq_false_iff.mp (Bool.or_eq_false_iff.mp e).1).2))) (fun j hj' => by rw [x5' 69 0 j rfl, h694 j]; exact h69 j hj') (fun j hj' => by rw [h68' j (by omega), h694 j, ee]; exact h69 j hj') x5
      rw [ee] at this
      exact this
    refine k9o_eq k9e_207_55 ?_
    by_cases z : k = 0
    · rw [if_pos z]
      subst z
      exact k9o_T (by decide) (take rfl _)
    · rw [if_neg z]
      obtain ⟨k, rfl⟩ : ∃ k', k = k' + 1 := ⟨k - 1, by omega⟩
      rw [Nat.add_sub_cancel] at b2 h68 ⊢
      refine k9o_F (by rw [n_toInt (by omega)]; omega) (k9o_eq k9e_207_57 ?_)
      by_cases c : p_oo w V (p_or n (k + 1)) < (p_ev w V (p_or n) k).1
      · exact k9o_F (by rw [a45, n_toInt (by omega), n_toInt (by omega)]; omega) (take (by rw [p_ev, if_pos c]) _)
      · have ee : p_ev w V (p_or n) (k + 1) = p_ev w V (p_or n) k := by rw [p_ev, if_neg c]
        have := g1 I4 hx4 (fun j hj' => by rw [h694 j]; exact h69 j hj') (fun j hj' => by rw [h684 j, ee]; exact h68 (by omega) j hj') x4
        rw [ee] at this
        exact k9o_T (by rw [a45, n_toInt (by omega), n_toInt (by omega)]; omega) this
  have key : ∀ m k I1, k + 1 + m = p_fc n → k9_fx k9_Fg I I1 → (∀ j, j < n → I1 69 0 j = nI (p_or n k j)) → (0 < k → ∀ j, j < n → I1 68 0 j = nI ((p_ev w V (p_or n) (k - 1)).2 j)) → k9_ok (k9_R S (d + 20) 207 33 [some (k9_r 12 0), some (k9_i x1), some (k9_i (if k = 0 then -1 else nI (p_ev w V (p_or n) (k - 1)).1)), some (k9_i 1), none] [] I1 J) Q := by
    intro m
    induction m with
    | zero =>
      intro k I1 hk hx h69 h68
      obtain rfl : k = p_fc n - 1 := by omega
      refine one _ I1 (by omega) hx h69 h68 (fun I2 hx2 h692 h682 x4 => ?_)
      have O2 : k9_Om I2 n (p_or n (p_fc n - 1)) := ⟨(hx2 12 0 0 rfl).trans m0, by omega, h692⟩
      have e205 : k9_R S (d + 19) 205 0 [some (k9_r 12 0), none, none, none, none] [] I2 J = some (some (k9_i 0), I2, J) := by
        by_cases z : n = 0
        · rw [z] at O2
          exact k9s_205z O2
        · rcases k9s_205 (S := S) (d := d + 18) (J := J) O2 (by omega) (hb100 _ (by omega)) with ⟨-, e⟩ | ⟨e, -⟩
          · exact e
          · exact absurd (p_or_la h5 hk) e
      refine k9o_eq k9e_207_79 (k9o_call e205 ?_)
      simp only [k9_ps_s]
      exact k9o_eq k9e_207_81 (k9o_eq k9e_207_33 (k9o_T (by decide) (g I2 (k9_Iv_0 (k9_fp_x hx2 (k9_Fg_X rfl)) v) h682)))
    | succ m ih =>
      intro k I1 hk hx h69 h68
      have hkn := p_or_nx (n := n) (k := k) h5 (by omega)
      have h1n : 1 ≤ n := by
        refine Nat.pos_of_ne_zero (fun z => ?_)
        rw [z] at hk
        have : p_fc 0 = 1 := by decide
        omega
      refine one _ I1 (by omega) hx h69 h68 (fun I2 hx2 h692 h682 x4 => ?_)
      have O2 : k9_Om I2 n (p_or n k) := ⟨(hx2 12 0 0 rfl).trans m0, by omega, h692⟩
      rcases k9s_205 (S := S) (d := d + 18) (J := J) O2 h1n (hb100 k (by omega)) with ⟨e, -⟩ | ⟨-, I3, e3, O3, x3⟩
      · exact absurd e hkn.1
      · have o := ih (k + 1) I3 (by omega) (k9_fx_tr hx2 (k9_Fg_69 x3)) (fun j hj => by rw [O3.2.2 j hj, hkn.2 j hj]) (fun _ j hj => by rw [x3 68 0 j rfl, Nat.add_sub_cancel]; exact h682 j hj)
        rw [if_neg (by omega), Nat.add_sub_cancel] at o
        refine k9o_eq k9e_207_79 (k9o_call e3 ?_)
        simp only [k9_ps_s]
        exact k9o_eq k9e_207_81 o
  refine k9s_207i (fun I1 h1 x1' => ?_)
  have o := key (p_fc n - 1) 0 I1 (by omega) (k9_Fg_69 x1') (fun j hj => by rw [h1 j (by omega), p_or_0 n h5 j hj]) (fun z => by omega)
  rw [if_pos rfl] at o
  exact o
theorem t_order (hI : k9_Inv I J) : k9_P S (d + 20) 114 207 [some (k9_r 1 0), some (k9_i x1)] [some (k9_r 12 0), some (k9_i x1), none, none, none] I J k9_Inv := by
  have hI' := hI
  obtain ⟨w, V, b, v⟩ := hI
  have v : k9_Iv I J w V b := v
  have m0 := v.1.2.1.1
  have c0 := v.1.1.1
  have h6 := v.1.2.2.1.1
  refine k9P_of ?_
  by_cases h1 : (-1) ≤ x1.toInt
  · refine k9o_eq k9e_114_0 (k9o_T h1 (k9o_eq k9e_114_5 ?_))
    by_cases h5 : w 7 0 ≤ 5
    · refine k9o_T (by rw [c0, n_toInt (by omega)]; omega) (k9o_eq k9e_114_13 ?_)
      by_cases h2 : x1.toInt < (w 7 0 : Int)
      · refine k9o_T (by rw [c0, n_toInt (by omega)]; omega) (k9o_eq k9e_114_21 ?_)
        obtain ⟨I1, e1, v1, a14, O1⟩ := k9s_150 (S := S) (d := d + 9) v h5
        have m1 := v1.1.2.1.1
        refine k9o_call e1 ?_
        simp only [k9_ps_n]
        have ref : ∀ Q : k9_A → Prop, (∀ I', k9_Iv I' J w V b → (∀ k, k < w 7 0 → I' 68 0 k = nI ((p_ev w V (p_or (w 7 0)) (p_fc (w 7 0) - 1)).2 k)) → k9_ok (k9_R S (d + 20) 207 83 [some (k9_r 12 0), some (k9_i x1), some (k9_i (nI (p_ev w V (p_or (w 7 0)) (p_fc (w 7 0) - 1)).1)), some (k9_i 0), none] [] I' J) Q) → k9_ok (k9_R S (d + 20) 207 0 [some (k9_r 12 0), some (k9_i x1), none, none, none] [] I1 J) Q := fun Q g =>
          k9o_eq k9e_207_0 (k9o_T h1 (k9o_eq k9e_207_5 (k9o_T (by rw [m1, n_toInt (by omega)]; omega) (k9o_eq k9e_207_11 (k9o_T (by rw [m1, n_toInt (by omega)]; omega) (k9s_207 v1 h5 g))))))
        refine k9o_eq k9e_114_23 ?_
        by_cases z : x1.toInt = -1
        · refine k9o_T z (k9o_eq k9e_114_26 (k9o_eq k9e_114_33 (k9o_ret ⟨_, _, _, rfl, ?_⟩)))
          rw [a14]
          exact ref _ (fun I2 v2 h2' => k9o_eq k9e_207_83 (k9o_F (by omega) (k9o_eq k9e_207_85 (k9o_eq k9e_207_91 (k9o_ret ⟨_, _, rfl, k9_Iv_e v2⟩)))))
        · obtain ⟨k, rfl, hk, -⟩ := n_of (x := x1) (by omega)
          rw [n_toInt (by omega)] at h2
          have e25 := k9s_25 (S := S) (d := d + 19) (J := J) O1 (show k < 100 by omega)
          rw [if_pos (by omega)] at e25
          refine k9o_F z (k9o_eq k9e_114_29 (k9o_call e25 ?_))
          simp only [k9_ps_s]
          refine k9o_eq k9e_114_33 (k9o_ret ⟨_, _, _, rfl, ?_⟩)
          refine ref _ (fun I2 v2 h2' => k9o_eq k9e_207_83 (k9o_T (by rw [n_toInt (by omega)]; omega) (k9o_eq k9e_207_87 (k9o_T (by rw [n_toInt (by omega)]; omega) ?_))))
          rw [n_cl (by omega), h2' k (by omega)]
          exact k9o_eq k9e_207_91 (k9o_ret ⟨_, _, rfl, k9_Iv_e v2⟩)
      · refine k9o_F (by rw [c0, n_toInt (by omega)]; omega) (k9o_eq k9e_114_19 (k9o_ret ⟨_, _, _, rfl, ?_⟩))
        exact k9o_eq k9e_207_0 (k9o_T h1 (k9o_eq k9e_207_5 (k9o_T (by rw [m0, n_toInt (by omega)]; omega) (k9o_eq k9e_207_11 (k9o_F (by rw [m0, n_toInt (by omega)]; omega) (k9o_eq k9e_207_15 (k9o_ret ⟨_, _, rfl, hI'⟩)))))))
    · refine k9o_F (by rw [c0, n_toInt (by omega)]; omega) (k9o_eq k9e_114_11 (k9o_ret ⟨_, _, _, rfl, ?_⟩))
      exact k9o_eq k9e_207_0 (k9o_T h1 (k9o_eq k9e_207_5 (k9o_F (by rw [m0, n_toInt (by omega)]; omega) (k9o_eq k9e_207_9 (k9o_ret ⟨_, _, rfl, hI'⟩)))))
  · exact k9o_eq k9e_114_0 (k9o_F h1 (k9o_eq k9e_114_3 (k9o_ret ⟨_, _, _, rfl, k9o_eq k9e_207_0 (k9o_F h1 (k9o_eq k9e_207_3 (k9o_ret ⟨_, _, rfl, hI'⟩)))⟩)))
end KT32
