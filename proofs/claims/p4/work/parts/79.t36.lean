/-! BODIES: act, the class's runs -/
section KT36
variable {S : k9_S} {d : Nat} {I I' : k9_I} {J J' : k9_J} {x1 x2 x3 : Int32} {g f a e pk nm : Nat} {u : List Nat × Int32}
def k9a_85 (S : k9_S) (x1 : Int32) (g f : Nat) : Prop := ∀ (d : Nat) (I : k9_I) (J : k9_J) (k a : Nat) (x3 : Int32) (e : Nat) (u : List Nat × Int32), k9_ac I g x1 → k ≤ 8 → a ≤ 3 → e + f ≤ 40 → p_ca g x1 f k a x3 = some u → k9_R S (d + 3 * f) 85 0 [some (k9_r 10 0), some (k9_i (p_vv k)), some (k9_i (nI a)), some (k9_i x3), some (k9_i (nI e)), none, none] [] I J = some (some (k9_i u.2), k9_tc I u.1, J)
theorem k9a_85a (h : k9a_85 S x1 g f) (hA : k9_ac I g x1) (hk : pk ≤ 8) (ha : a ≤ 3) (he : e + f ≤ 40) (hu : p_ca g x1 f pk a x3 = some u) : k9_R S (d + 3 * f + 1) 85 0 [some (k9_r 10 0), some (k9_i (p_vv pk)), some (k9_i (nI a)), some (k9_i x3), some (k9_i (nI e)), none, none] [] I J = some (some (k9_i u.2), k9_tc I u.1, J) := by
  have := h (d + 1) I J pk a x3 e u hA hk ha he hu
  rw [show d + 1 + 3 * f = d + 3 * f + 1 by omega] at this
  exact this
theorem k9a_84 (hg : g ≤ 7) (h : k9a_85 S x1 g f) (hA : k9_ac I g x1) (ha : a ≤ 3) (he : e + f ≤ 40) (hu : p_ca g x1 f g a x3 = some u) : k9_R S (d + 3 * f + 1) 84 0 [some (k9_r 10 0), some (k9_i (nI a)), some (k9_i x3), some (k9_i (nI e))] [] I J = some (some (k9_i u.2), k9_tc I u.1, J) := by
  have h85 := h d I J g a x3 e u hA (by omega) ha he hu
  rw [show p_vv g = nI g from if_neg (by omega)] at h85
  refine k9o_of (k9o_eq k9e_84_0 (k9o_call (k9s_78a hA) ?_))
  simp only [k9_ps_s]
  refine k9o_eq k9e_84_5 (k9o_call h85 ?_)
  simp only [k9_ps_s]
  exact k9o_eq k9e_84_9 (k9o_ret rfl)
theorem k9a_88 (hg : g ≤ 7) (h : k9a_85 S x1 g f) (hA : k9_ac I g x1) (hk : pk ≤ 8) (he : e + f ≤ 40) (hn : nm ≤ 81) (hu : p_cn (p_ca g x1 f) g pk nm x1 x3 = some u) : k9_R S (d + 3 * f + 2) 88 0 [some (k9_r 10 0), some (k9_i (nI nm)), some (k9_i (p_vv pk)), some (k9_i x3), some (k9_i (nI e))] [] I J = some (some (k9_i u.2), k9_tc I u.1, J) := by
  refine k9o_of (k9o_eq k9e_88_0 ?_)
  rw [n_toInt (n := nm) (by omega)]
  unfold p_cn at hu
  by_cases c1 : nm = 1
  · rw [if_pos c1] at hu
    obtain rfl := Option.some.inj hu
    repeat (first | ((with_reducible refine k9q_T ?_ ?_); · omega) | ((with_reducible refine k9q_F ?_ ?_); · omega) | ((with_reducible refine k9q_Tb ?_ ?_); · omega) | ((with_reducible refine k9q_Fb ?_ ?_); · omega))
    refine k9o_eq k9e_88_2 (k9o_ret ?_)
    rw [hA.1]
    rfl
  by_cases c2 : nm = 2
  · rw [if_neg c1, if_pos c2] at hu
    obtain ⟨u1, e1, hu⟩ := Option.bind_eq_some_iff.mp hu
    obtain ⟨u2, e2, hu⟩ := Option.bind_eq_some_iff.mp hu
    obtain rfl := Option.some.inj hu
    repeat (first | ((with_reducible refine k9q_T ?_ ?_); · omega) | ((with_reducible refine k9q_F ?_ ?_); · omega) | ((with_reducible refine k9q_Tb ?_ ?_); · omega) | ((with_reducible refine k9q_Fb ?_ ?_); · omega))
    refine k9o_eq k9e_88_7 (k9o_call (k9a_84 (d := d) (a := 1) hg h hA (by omega) he e1) ?_)
    simp only [k9_ps_s]
    refine k9o_eq k9e_88_12 (k9o_call (k9a_84 (d := d) (a := 2) hg h (k9_ac_c u1.1 hA) (by omega) he e2) ?_)
    simp only [k9_ps_s]
    refine k9o_eq k9e_88_17 (k9o_ret ?_)
    rw [k9_tc_a]
  by_cases c10 : nm = 10
  · rw [if_neg c1, if_neg c2, if_pos c10] at hu
    obtain ⟨u1, e1, hu⟩ := Option.bind_eq_some_iff.mp hu
    obtain rfl := Option.some.inj hu
    repeat (first | ((with_reducible refine k9q_T ?_ ?_); · omega) | ((with_reducible refine k9q_F ?_ ?_); · omega) | ((with_reducible refine k9q_Tb ?_ ?_); · omega) | ((with_reducible refine k9q_Fb ?_ ?_); · omega))
    refine k9o_eq k9e_88_19 (k9o_call (k9a_84 (d := d) (a := 0) hg h hA (by omega) he e1) ?_)
    simp only [k9_ps_s]
    exact k9o_eq k9e_88_24 (k9o_ret rfl)
  by_cases c11 : nm = 11
  · rw [if_neg c1, if_neg c2, if_neg c10, if_pos c11] at hu
    obtain rfl := Option.some.inj hu
    repeat (first | ((with_reducible refine k9q_T ?_ ?_); · omega) | ((with_reducible refine k9q_F ?_ ?_); · omega) | ((with_reducible refine k9q_Tb ?_ ?_); · omega) | ((with_reducible refine k9q_Fb ?_ ?_); · omega))
    refine k9o_eq k9e_88_27 (k9o_ret ?_)
    rw [hA.1]
    rfl
  by_cases c20 : nm = 20
  · rw [if_neg c1, if_neg c2, if_neg c10, if_neg c11, if_pos c20] at hu
    obtain ⟨u1, e1, hu⟩ := Option.bind_eq_some_iff.mp hu
    obtain rfl := Option.some.inj hu
    repeat (first | ((with_reducible refine k9q_T ?_ ?_); · omega) | ((with_reducible refine k9q_F ?_ ?_); · omega) | ((with_reducible refine k9q_Tb ?_ ?_); · omega) | ((with_reducible refine k9q_Fb ?_ ?_); · omega))
    refine k9o_eq k9e_88_32 (k9o_call (k9a_85a (d := d) (a := 0) h hA hk (by omega) he e1) ?_)
    simp only [k9_ps_s]
    exact k9o_eq k9e_88_38 (k9o_ret rfl)
  by_cases c30 : nm = 30
  · rw [if_neg c1, if_neg c2, if_neg c10, if_neg c11, if_neg c20, if_pos c30] at hu
    obtain ⟨u1, e1, hu⟩ := Option.bind_eq_some_iff.mp hu
    obtain rfl := Option.some.inj hu
    repeat (first | ((with_reducible refine k9q_T ?_ ?_); · omega) | ((with_reducible refine k9q_F ?_ ?_); · omega) | ((with_reducible refine k9q_Tb ?_ ?_); · omega) | ((with_reducible refine k9q_Fb ?_ ?_); · omega))
    refine k9o_eq k9e_88_41 (k9o_call (k9a_85a (d := d) (a := 1) h hA hk (by omega) he e1) ?_)
    simp only [k9_ps_s]
    exact k9o_eq k9e_88_47 (k9o_ret rfl)
  by_cases c40 : nm = 40
  · rw [if_neg c1, if_neg c2, if_neg c10, if_neg c11, if_neg c20, if_neg c30, if_pos c40] at hu
    obtain ⟨u1, e1, hu⟩ := Option.bind_eq_some_iff.mp hu
    obtain rfl := Option.some.inj hu
    repeat (first | ((with_reducible refine k9q_T ?_ ?_); · omega) | ((with_reducible refine k9q_F ?_ ?_); · omega) | ((with_reducible refine k9q_Tb ?_ ?_); · omega) | ((with_reducible refine k9q_Fb ?_ ?_); · omega))
    refine k9o_eq k9e_88_49 (k9o_call (k9a_85a (d := d) (a := 2) h hA hk (by omega) he e1) ?_)
    simp only [k9_ps_s]
    exact k9o_eq k9e_88_55 (k9o_ret rfl)
  by_cases c41 : nm = 41
  · rw [if_neg c1, if_neg c2, if_neg c10, if_neg c11, if_neg c20, if_neg c30, if_neg c40, if_pos c41] at hu
    repeat (first | ((with_reducible refine k9q_T ?_ ?_); · omega) | ((with_reducible refine k9q_F ?_ ?_); · omega) | ((with_reducible refine k9q_Tb ?_ ?_); · omega) | ((with_reducible refine k9q_Fb ?_ ?_); · omega))
    refine k9o_eq k9e_88_58 (k9o_call (k9a_85a (d := d) (a := 1) h hA hk (by omega) he hu) ?_)
    simp only [k9_ps_s]
    exact k9o_eq k9e_88_66 (k9o_ret rfl)
  by_cases c50 : nm = 50
  · rw [if_neg c1, if_neg c2, if_neg c10, if_neg c11, if_neg c20, if_neg c30, if_neg c40, if_neg c41, if_pos c50] at hu
    obtain ⟨u1, e1, hu⟩ := Option.bind_eq_some_iff.mp hu
    obtain ⟨u2, e2, hu⟩ := Option.bind_eq_some_iff.mp hu
    obtain rfl := Option.some.inj hu
    repeat (first | ((with_reducible refine k9q_T ?_ ?_); · omega) | ((with_reducible refine k9q_F ?_ ?_); · omega) | ((with_reducible refine k9q_Tb ?_ ?_); · omega) | ((with_reducible refine k9q_Fb ?_ ?_); · omega))
    refine k9o_eq k9e_88_67 (k9o_call (k9a_85a (d := d) (a := 2) h hA hk (by omega) he e1) ?_)
    simp only [k9_ps_s]
    refine k9o_eq k9e_88_73 (k9o_call (k9a_84 (d := d) (a := 0) hg h (k9_ac_c u1.1 hA) (by omega) he e2) ?_)
    simp only [k9_ps_s]
    refine k9o_eq k9e_88_78 (k9o_ret ?_)
    rw [k9_tc_a]
  by_cases c60 : nm = 60
  · rw [if_neg c1, if_neg c2, if_neg c10, if_neg c11, if_neg c20, if_neg c30, if_neg c40, if_neg c41, if_neg c50, if_pos c60] at hu
    obtain ⟨u1, e1, hu⟩ := Option.bind_eq_some_iff.mp hu
    obtain rfl := Option.some.inj hu
    repeat (first | ((with_reducible refine k9q_T ?_ ?_); · omega) | ((with_reducible refine k9q_F ?_ ?_); · omega) | ((with_reducible refine k9q_Tb ?_ ?_); · omega) | ((with_reducible refine k9q_Fb ?_ ?_); · omega))
    refine k9o_eq k9e_88_80 (k9o_call (k9a_85a (d := d) (a := 3) h hA hk (by omega) he e1) ?_)
    simp only [k9_ps_s]
    exact k9o_eq k9e_88_86 (k9o_ret rfl)
  by_cases c70 : nm = 70
  · rw [if_neg c1, if_neg c2, if_neg c10, if_neg c11, if_neg c20, if_neg c30, if_neg c40, if_neg c41, if_neg c50, if_neg c60, if_pos c70] at hu
    obtain ⟨u1, e1, hu⟩ := Option.bind_eq_some_iff.mp hu
    obtain rfl := Option.some.inj hu
    repeat (first | ((with_reducible refine k9q_T ?_ ?_); · omega) | ((with_reducible refine k9q_F ?_ ?_); · omega) | ((with_reducible refine k9q_Tb ?_ ?_); · omega) | ((with_reducible refine k9q_Fb ?_ ?_); · omega))
    refine k9o_eq k9e_88_89 (k9o_call (k9a_85a (d := d) (a := 0) h hA hk (by omega) he e1) ?_)
    simp only [k9_ps_s]
    exact k9o_eq k9e_88_95 (k9o_ret rfl)
  by_cases c80 : nm = 80
  · rw [if_neg c1, if_neg c2, if_neg c10, if_neg c11, if_neg c20, if_neg c30, if_neg c40, if_neg c41, if_neg c50, if_neg c60, if_neg c70, if_pos c80] at hu
    obtain ⟨u1, e1, hu⟩ := Option.bind_eq_some_iff.mp hu
    obtain ⟨u2, e2, hu⟩ := Option.bind_eq_some_iff.mp hu
    obtain rfl := Option.some.inj hu
    repeat (first | ((with_reducible refine k9q_T ?_ ?_); · omega) | ((with_reducible refine k9q_F ?_ ?_); · omega) | ((with_reducible refine k9q_Tb ?_ ?_); · omega) | ((with_reducible refine k9q_Fb ?_ ?_); · omega))
    refine k9o_eq k9e_88_98 (k9o_call (k9a_85a (d := d) (a := 1) h hA hk (by omega) he e1) ?_)
    simp only [k9_ps_s]
    refine k9o_eq k9e_88_104 (k9o_call (k9a_84 (d := d) (a := 2) hg h (k9_ac_c u1.1 hA) (by omega) he e2) ?_)
    simp only [k9_ps_s]
    refine k9o_eq k9e_88_109 (k9o_ret ?_)
    rw [k9_tc_a]
  by_cases c81 : nm = 81
  · rw [if_neg c1, if_neg c2, if_neg c10, if_neg c11, if_neg c20, if_neg c30, if_neg c40, if_neg c41, if_neg c50, if_neg c60, if_neg c70, if_neg c80, if_pos c81] at hu
    obtain ⟨u1, e1, hu⟩ := Option.bind_eq_some_iff.mp hu
    obtain rfl := Option.some.inj hu
    repeat (first | ((with_reducible refine k9q_T ?_ ?_); · omega) | ((with_reducible refine k9q_F ?_ ?_); · omega) | ((with_reducible refine k9q_Tb ?_ ?_); · omega) | ((with_reducible refine k9q_Fb ?_ ?_); · omega))
    refine k9o_eq k9e_88_111 (k9o_call (k9a_85a (d := d) (a := 3) h hA hk (by omega) he e1) ?_)
    simp only [k9_ps_s]
    exact k9o_eq k9e_88_117 (k9o_ret rfl)
  rw [if_neg c1, if_neg c2, if_neg c10, if_neg c11, if_neg c20, if_neg c30, if_neg c40, if_neg c41, if_neg c50, if_neg c60, if_neg c70, if_neg c80, if_neg c81] at hu
  obtain rfl := Option.some.inj hu
  repeat (first | ((with_reducible refine k9q_T ?_ ?_); · omega) | ((with_reducible refine k9q_F ?_ ?_); · omega) | ((with_reducible refine k9q_Tb ?_ ?_); · omega) | ((with_reducible refine k9q_Fb ?_ ?_); · omega))
  exact k9o_eq k9e_88_120 (k9o_ret rfl)
theorem k9a_85_a (hg : g ≤ 7) (f : Nat) : k9a_85 S x1 g f := by
  induction f with
  | zero =>
    intro d I J k a x3 e u hA hk ha he hu
    rw [p_ca] at hu
    cases hu
  | succ f ih =>
    intro d I J k a x3 e u hA hk ha he hu
    rw [show d + 3 * (f + 1) = d + 3 * f + 2 + 1 by omega]
    have key : ∀ n k' i, i + n = 8 → k' ≤ 8 → (∀ x6 : Int32, k9_ok (k9_R S (d + 3 * f + 2 + 1) 85 16 [some (k9_r 10 0), some (k9_i (p_vv k)), some (k9_i (nI a)), some (k9_i x3), some (k9_i (nI e)), some (k9_i (p_vv (p_wk n k' a))), some (k9_i x6)] [] I J) (fun q => q = (some (k9_i u.2), k9_tc I u.1, J))) → k9_ok (k9_R S (d + 3 * f + 2 + 1) 85 4 [some (k9_r 10 0), some (k9_i (p_vv k)), some (k9_i (nI a)), some (k9_i x3), some (k9_i (nI e)), some (k9_i (p_vv k')), some (k9_i (nI i))] [] I J) (fun q => q = (some (k9_i u.2), k9_tc I u.1, J)) := by
      intro n
      induction n with
      | zero =>
        intro k' i hi hk' g
        exact k9o_eq k9e_85_4 (k9o_T (by rw [n_toInt (by omega)]; omega) (g _))
      | succ n ih2 =>
        intro k' i hi hk' g
        refine k9o_eq k9e_85_4 (k9o_F (by rw [n_toInt (by omega)]; omega) (k9o_eq k9e_85_7 (k9o_call (k9s_86 hk' ha) ?_)))
        simp only [k9_ps_s]
        refine k9o_eq k9e_85_10 ?_
        have hb := p_tb_b k' hk' a ha
        by_cases c : p_tb k' a = 0
        · refine k9o_T (by rw [c]; decide) (k9o_eq k9e_85_11 (k9o_call (k9s_80 hk') ?_))
          simp only [k9_ps_s]
          refine k9o_eq k9e_85_13 ?_
          rw [nI_1]
          refine ih2 (p_ab k') (i + 1) (by omega) (p_ab_8 k' hk') (fun x6 => ?_)
          have := g x6
          rw [p_wk, if_pos c] at this
          exact this
        · refine k9o_F (by rw [n_toInt (by omega)]; omega) ?_
          have := g (nI i)
          rw [p_wk, if_neg c] at this
          exact this
    refine k9o_of (k9o_eq k9e_85_0 (key 8 k 0 (by omega) hk (fun x6 => ?_)))
    rw [p_ca] at hu
    have hK := p_wk_b a 8 k hk
    obtain ⟨K, eK⟩ : ∃ K, K = p_wk 8 k a := ⟨_, rfl⟩
    rw [← eK] at hu hK ⊢
    have hb := p_tb_b K hK a ha
    refine k9o_eq k9e_85_16 (k9o_call (k9s_86 hK ha) ?_)
    simp only [k9_ps_s]
    refine k9o_eq k9e_85_19 ?_
    by_cases c : p_tb K a = 0
    · rw [if_pos c] at hu
      obtain rfl := Option.some.inj hu
      exact k9o_T (by rw [c]; decide) (k9o_eq k9e_85_25 (k9o_ret rfl))
    · rw [if_neg c] at hu
      obtain ⟨u1, e1, hu⟩ := Option.bind_eq_some_iff.mp hu
      obtain rfl := Option.some.inj hu
      have e88 := k9a_88 (d := d) (I := k9_nt I (p_tb K a)) (J := J) (e := e + 1) hg ih (k9_ac_n hA) (p_ab_8 K hK) (by omega) hb e1
      refine k9o_F (by rw [n_toInt (by omega)]; omega) (k9o_eq k9e_85_22 (k9o_T (by rw [n_toInt (by omega)]; omega) (k9o_eq k9e_85_27 (k9o_call k9s_87 ?_))))
      simp only [k9_ps_n]
      refine k9o_eq k9e_85_30 (k9o_call (k9s_80 hK) ?_)
      simp only [k9_ps_s]
      refine k9o_eq k9e_85_34 ?_
      rw [nI_1]
      refine k9o_call e88 ?_
      simp only [k9_ps_s]
      exact k9o_eq k9e_85_39 (k9o_ret rfl)
end KT36
