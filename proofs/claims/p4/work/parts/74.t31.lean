/-! ORDERS: the evenest -/
section KT31
variable {S : k9_S} {d : Nat} {I I' : k9_I} {J J' : k9_J} {w : Nat → Nat → Nat} {V : (Nat → Int32) → Int32} {b : Nat} {x1 x2 x3 : Int32} {h c : Nat → Nat} {L A f M : Nat}
theorem k9s_150 (v : k9_Iv I J w V b) (h5 : w 7 0 ≤ 5) : ∃ I', k9_R S (d + 10) 150 0 [some (k9_r 1 0), none, none] [] I J = some (none, I', J) ∧ k9_Iv I' J w V b ∧ I' 1 0 14 = nI (p_ev w V (p_or (w 7 0)) (p_fc (w 7 0) - 1)).1 ∧ k9_Or I' 1 (w 7 0) (p_ev w V (p_or (w 7 0)) (p_fc (w 7 0) - 1)).2 := by
  have hf := v.1.2.2.1
  have c0 := v.1.1.1
  rcases v.2.2.2.2.2.2.2.2 with v9 | ⟨v9, -, a14, aO⟩
  · obtain ⟨n, hn⟩ : ∃ n, n = w 7 0 := ⟨_, rfl⟩
    rw [← hn] at h5 c0
    rw [← hn]
    obtain ⟨hc1, hc2⟩ := p_fc_b n h5
    have hob : ∀ k, k < p_fc n → p_oo w V (p_or n k) ≤ 100000 := fun k hk => p_oo_b (p_or_wf hf hn h5 hk)
    have heb := p_ev_b (w := w) (V := V) (s := p_or n) hob
    have hb100 : ∀ k, k < p_fc n → ∀ j, j < n → p_or n k j < 100 := fun k hk j hj => by
      have := (p_or_al h5 hk).2.1 j hj
      omega
    -- a trial in an order
    have tr : ∀ k I1, k < p_fc n → k9_fx k9_Fe I I1 → k9_Or I1 0 n (p_or n k) → ∃ I2, k9_R S (d + 9) 149 0 [some (k9_r 1 0), some (k9_r 7 0)] [] I1 J = some (some (k9_i (nI (p_oo w V (p_or n k)))), I2, J) ∧ k9_fx k9_Ft I1 I2 := by
      intro k I1 hk hx hO
      obtain ⟨h0, hb, hj⟩ := p_or_al h5 hk
      have hp := k9_fp_x hx k9_Fe_X
      have w1 := k9_vW_c (k9_fp_c hp rfl) v.1
      have l1 := k9_vL_c (k9_fp_c hp rfl) v.2.2.1
      obtain ⟨I2, e2, -, -, x2⟩ := k9_otroll (S := S) (d := d + 1) (J := J) w1.1 hf l1.1 hO hn (fun j hj' => by rw [← hn] at hj' ⊢; exact hb j hj') (fun i j hi hj' e => by rw [← hn] at hi hj'; exact hj i j hi hj' e)
      rw [p_or_e h5 hk] at e2
      exact ⟨I2, e2, x2⟩
    have fin : ∀ I1 x, k9_fx k9_Fe I I1 → I1 1 0 14 = nI (p_ev w V (p_or n) (p_fc n - 1)).1 → k9_Or I1 1 n (p_ev w V (p_or n) (p_fc n - 1)).2 → ∃ I', k9_ok (k9_R S (d + 10) 150 53 [some (k9_r 1 0), some (k9_i x), none] [] I1 J) (fun q => q = (none, I', J)) ∧ k9_Iv I' J w V b ∧ I' 1 0 14 = nI (p_ev w V (p_or n) (p_fc n - 1)).1 ∧ k9_Or I' 1 n (p_ev w V (p_or n) (p_fc n - 1)).2 := by
      intro I1 x hx h14 hO
      have h14' : k9_u I1 1 0 13 1 1 0 14 = nI (p_ev w V (p_or n) (p_fc n - 1)).1 := by simpa [k9_ur] using h14
      have hO' : k9_Or (k9_u I1 1 0 13 1) 1 n (p_ev w V (p_or n) (p_fc n - 1)).2 := ⟨by simpa [k9_ur] using hO.1, hO.2.1, fun k hk => by simpa [k9_ur] using hO.2.2 k hk⟩
      refine ⟨_, k9o_eq k9e_150_53 (k9o_ret rfl), k9_Iv_9 (k9_fp_x (k9_fx_u hx rfl) k9_Fe_X) (Or.inr ⟨by simp [k9_ur], by omega, ?_, ?_⟩) v, h14', hO'⟩
      · rw [← hn]
        exact h14'
      · rw [← hn]
        exact hO'
    have key : ∀ m k I1, k + 1 + m = p_fc n → k9_fx k9_Fe I I1 → k9_Or I1 0 n (p_or n k) → I1 1 0 14 = nI (p_ev w V (p_or n) k).1 → k9_Or I1 1 n (p_ev w V (p_or n) k).2 → ∃ I', k9_ok (k9_R S (d + 10) 150 27 [some (k9_r 1 0), some (k9_i (nI (k + 1))), none] [] I1 J) (fun q => q = (none, I', J)) ∧ k9_Iv I' J w V b ∧ I' 1 0 14 = nI (p_ev w V (p_or n) (p_fc n - 1)).1 ∧ k9_Or I' 1 n (p_ev w V (p_or n) (p_fc n - 1)).2 := by
      intro m
      induction m with
      | zero =>
        intro k I1 hk hx hO h14 hO1
        obtain rfl : k = p_fc n - 1 := by omega
        obtain ⟨I', o, r⟩ := fin I1 (nI (p_fc n - 1 + 1)) hx h14 hO1
        by_cases c : p_fc n = 120
        · exact ⟨I', k9o_eq k9e_150_27 (k9o_T (by rw [n_toInt (by omega)]; omega) o), r⟩
        · have e32 : k9_R S (d + 9) 32 0 [some (k9_r 7 0), none, none, none, none, none] [] I1 J = some (some (k9_i 0), I1, J) := by
            by_cases z : n = 0
            · rw [z] at hO
              exact k9s_32z hO
            · rcases k9s_32 (S := S) (d := d + 8) (J := J) hO (by omega) (hb100 _ (by omega)) with ⟨-, e⟩ | ⟨e, -⟩
              · exact e
              · exact absurd (p_or_la h5 hk) e
          refine ⟨I', k9o_eq k9e_150_27 (k9o_F (by rw [n_toInt (by omega)]; omega) (k9o_eq k9e_150_30 (k9o_call e32 ?_))), r⟩
          simp only [k9_ps_s]
          exact k9o_eq k9e_150_33 (k9o_T (by decide) o)
      | succ m ih =>
        intro k I1 hk hx hO h14 hO1
        have hkn := p_or_nx (n := n) (k := k) h5 (by omega)
        have h1n : 1 ≤ n := by
          refine Nat.pos_of_ne_zero (fun z => ?_)
          subst z
          have : p_fc 0 = 1 := by decide
          omega
        rcases k9s_32 (S := S) (d := d + 8) (J := J) hO h1n (hb100 k (by omega)) with ⟨e, -⟩ | ⟨-, I2, e2, O2, x2⟩
        · exact absurd e hkn.1
        · have O2 : k9_Or I2 0 n (p_or n (k + 1)) := k9_Or_e O2 hkn.2
          have hx2 : k9_fx k9_Fe I I2 := k9_fx_tr hx (k9_Fe_6 (k9_F6_o x2))
          obtain ⟨I3, e3, x3⟩ := tr (k + 1) I2 (by omega) hx2 O2
          have O3 := k9_Or_x x3 rfl (fun _ => rfl) O2
          have hO3 := k9_Or_x x3 rfl (fun _ => rfl) (k9_Or_x x2 rfl (fun _ => rfl) hO1)
          have h143 := (x3 1 0 14 rfl).trans ((x2 1 0 14 rfl).trans h14)
          have hx3 := k9_fx_tr hx2 (k9_Fe_6 (k9_F6_t x3))
          have b1 := heb k (by omega)
          have b2 := hob (k + 1) (by omega)
          by_cases c : p_oo w V (p_or n (k + 1)) < (p_ev w V (p_or n) k).1
          · have ee : p_ev w V (p_or n) (k + 1) = (p_oo w V (p_or n (k + 1)), p_or n (k + 1)) := by rw [p_ev, if_pos c]
            obtain ⟨I4, e4, O4, x4⟩ := k9s_27 (S := S) (d := d + 9) (I := k9_u I3 1 0 14 (nI (p_oo w V (p_or n (k + 1))))) (J := J) (i0 := 1) (i1 := 0) (n := n) (o := p_or n (k + 1)) (by decide) ⟨by simpa [k9_ur] using O3.1, O3.2.1, fun j hj => by simpa [k9_ur] using O3.2.2 j hj⟩
            obtain ⟨I5, o5, r5⟩ := ih (k + 1) I4 (by omega) (k9_fx_tr (k9_fx_u hx3 rfl) (k9_Fe_o x4)) (k9_Or_x x4 rfl (fun _ => rfl) ⟨by simpa [k9_ur] using O3.1, O3.2.1, fun j hj => by simpa [k9_ur] using O3.2.2 j hj⟩) (by rw [x4 1 0 14 rfl, ee]; simp [k9_ur]) (by rw [ee]; exact O4)
            refine ⟨I5, k9o_eq k9e_150_27 (k9o_F (by rw [n_toInt (by omega)]; omega) (k9o_eq k9e_150_30 (k9o_call e2 ?_))), r5⟩
            simp only [k9_ps_s]
            refine k9o_eq k9e_150_33 (k9o_F (by decide) (k9o_eq k9e_150_34 (k9o_call e3 ?_)))
            simp only [k9_ps_s]
            refine k9o_eq k9e_150_38 (k9o_F (by rw [h143, n_toInt (by omega), n_toInt (by omega)]; omega) (k9o_eq k9e_150_43 (k9o_call e4 ?_)))
            simp only [k9_ps_n]
            refine k9o_eq k9e_150_51 ?_
            rw [nI_1]
            exact o5
          · have ee : p_ev w V (p_or n) (k + 1) = p_ev w V (p_or n) k := by rw [p_ev, if_neg c]
            obtain ⟨I5, o5, r5⟩ := ih (k + 1) I3 (by omega) hx3 O3 (by rw [ee]; exact h143) (by rw [ee]; exact hO3)
            refine ⟨I5, k9o_eq k9e_150_27 (k9o_F (by rw [n_toInt (by omega)]; omega) (k9o_eq k9e_150_30 (k9o_call e2 ?_))), r5⟩
            simp only [k9_ps_s]
            refine k9o_eq k9e_150_33 (k9o_F (by decide) (k9o_eq k9e_150_34 (k9o_call e3 ?_)))
            simp only [k9_ps_s]
            refine k9o_eq k9e_150_38 (k9o_T (by rw [h143, n_toInt (by omega), n_toInt (by omega)]; omega) (k9o_eq k9e_150_51 ?_))
            rw [nI_1]
            exact o5
    -- the first order
    have e26 := k9s_26 (S := S) (d := d + 9) (I := I) (J := J) (i0 := 0)
    have O1 : k9_Or (k9_u I 7 0 1 0) 0 0 (fun _ => 0) := k9_Or_0
    obtain ⟨I2, n', o', e30, O2, -, x2, g2⟩ := k9s_30 (S := S) (d := d + 7) (J := J) (m := n) O1 (fun k hk => by omega) (by omega)
    obtain ⟨rfl, g2⟩ := g2 rfl
    have hx1 : k9_fx k9_Fe I (k9_u I 7 0 1 0) := k9_fx_u (k9_fx_rf _ _) rfl
    have hx2 := k9_fx_tr hx1 (k9_Fe_6 (k9_F6_o x2))
    have O2 : k9_Or I2 0 n' (p_or n' 0) := k9_Or_e O2 (fun k hk => by rw [g2 k hk, p_or_0 n' h5 k hk])
    obtain ⟨I3, e27, O3, x3⟩ := k9s_27 (S := S) (d := d + 9) (J := J) (i0 := 1) (i1 := 0) (by decide) O2
    have hx3 := k9_fx_tr hx2 (k9_Fe_o x3)
    have O23 := k9_Or_x x3 rfl (fun _ => rfl) O2
    obtain ⟨I4, e4, x4⟩ := tr 0 I3 (by omega) hx3 O23
    have hx4 := k9_fx_tr hx3 (k9_Fe_6 (k9_F6_t x4))
    have O24 := k9_Or_x x4 rfl (fun _ => rfl) O23
    have O34 := k9_Or_x x4 rfl (fun _ => rfl) O3
    obtain ⟨I5, o5, r5⟩ := key (p_fc n' - 1) 0 (k9_u I4 1 0 14 (nI (p_oo w V (p_or n' 0)))) (by omega) (k9_fx_u hx4 rfl) ⟨by simpa [k9_ur] using O24.1, O24.2.1, fun j hj => by simpa [k9_ur] using O24.2.2 j hj⟩ (by rw [p_ev]; simp [k9_ur]) ⟨by simpa [k9_ur] using O34.1, O34.2.1, fun j hj => by rw [p_ev]; simpa [k9_ur] using O34.2.2 j hj⟩
    refine ⟨I5, k9o_of (k9o_eq k9e_150_0 (k9o_T (by rw [v9]; decide) (k9o_eq k9e_150_4 (k9o_call e26 ?_)))), r5⟩
    simp only [k9_ps_n]
    refine k9o_eq k9e_150_7 ?_
    rw [hx1 3 0 0 rfl, c0]
    refine k9o_call e30 ?_
    simp only [k9_ps_n]
    refine k9o_eq k9e_150_14 (k9o_call e27 ?_)
    simp only [k9_ps_n]
    refine k9o_eq k9e_150_19 (k9o_call e4 ?_)
    simp only [k9_ps_s]
    exact k9o_eq k9e_150_24 o5
  · exact ⟨I, k9o_of (k9o_eq k9e_150_0 (k9o_F (by rw [v9]; decide) (k9o_eq k9e_150_3 (k9o_ret rfl)))), v, a14, aO⟩
end KT31
