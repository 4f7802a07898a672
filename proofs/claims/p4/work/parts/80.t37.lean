/-! BODIES: act, the reference's runs -/
section KT37
variable {S : k9_S} {d : Nat} {I I' : k9_I} {J J' : k9_J} {x1 x2 x3 : Int32} {g f a e i n t k : Nat} {u : List Nat × Int32}
def k9_nr (I : k9_I) (n t : Nat) : k9_I := k9_u (if t < 24 then k9_u I 59 0 t (nI n) else I) 12 0 33 (nI (t + 1))
def k9_tr : List Nat → k9_I → Nat → k9_I
  | [], I, _ => I
  | n :: l, I, t => k9_tr l (k9_nr I n t) (t + 1)
theorem k9_tr_a (l m : List Nat) (I : k9_I) (t : Nat) : k9_tr (l ++ m) I t = k9_tr m (k9_tr l I t) (t + l.length) := by
  induction l generalizing I t with
  | nil => rfl
  | cons n l ih =>
    show k9_tr (l ++ m) (k9_nr I n t) (t + 1) = k9_tr m (k9_tr l (k9_nr I n t) (t + 1)) (t + (l.length + 1))
    rw [ih, show t + 1 + l.length = t + (l.length + 1) by omega]
def k9_mc (I : k9_I) (g i t : Nat) : Prop := I 58 0 i = nI g ∧ I 12 0 33 = nI t
theorem k9_mc_n (h : k9_mc I g i t) : k9_mc (k9_nr I n t) g i (t + 1) := by
  unfold k9_nr
  refine ⟨?_, by simp [k9_ur]⟩
  split <;> simp [k9_ur, h.1]
theorem k9_mc_r (l : List Nat) (h : k9_mc I g i t) : k9_mc (k9_tr l I t) g i (t + l.length) := by
  induction l generalizing I t with
  | nil => exact h
  | cons n l ih =>
    have := ih (k9_mc_n (n := n) h)
    rw [show t + 1 + l.length = t + (l.length + 1) by omega] at this
    exact this
theorem k9s_230 (h : I 12 0 33 = nI t) (ht : t ≤ 1000) : k9_R S d 230 0 [some (k9_r 12 0), some (k9_i (nI n))] [] I J = some (none, k9_nr I n t, J) := by
  refine k9o_of (k9o_eq k9e_230_0 ?_)
  rw [h]
  by_cases c : t < 24
  · refine k9o_F (by rw [n_toInt (by omega)]; omega) (k9o_eq k9e_230_4 ?_)
    rw [h]
    refine k9o_T (by rw [n_toInt (by omega)]; omega) (k9o_eq k9e_230_10 (k9o_ret ?_))
    unfold k9_nr
    rw [if_pos c, n_cl (by omega), show (k9_u I 59 0 t (nI n)) 12 0 33 = I 12 0 33 from rfl, h, nI_1]
  · refine k9o_T (by rw [n_toInt (by omega)]; omega) (k9o_eq k9e_230_10 (k9o_ret ?_))
    unfold k9_nr
    rw [if_neg c, h, nI_1]
def p_rn (r : Nat → Nat → Int32 → Option (List Nat × Int32)) (g : Nat) (x1 : Int32) (a k : Nat) (x3 : Int32) : Option (List Nat × Int32) :=
  if a = 0 then (if k = 0 then some ([1], x3 + x1) else if k = 1 then (r 0 0 x3).bind fun u => some (20 :: u.1, u.2 + 3) else if k = 6 then (r 0 0 x3).bind fun u => some (70 :: u.1, u.2 * 2) else r 0 (p_am k) x3)
  else if a = 1 then (if k = 0 then (r 0 g x3).bind fun u => some (10 :: u.1, u.2 * 2) else if k = 2 then (r 1 0 x3).bind fun u => some (30 :: u.1, -u.2) else if k = 3 then (r 1 2 (x3 + 1)).bind fun u => some (41 :: u.1, u.2) else if k = 7 then (r 1 4 x3).bind fun u => (r 2 g 2).bind fun v => some (80 :: (u.1 ++ v.1), u.2 + v.2) else r 1 (p_am k) x3)
  else if a = 2 then (if k = 0 then some ([11], x3 ^^^ x1) else if k = 3 then (r 2 2 x3).bind fun u => some (40 :: u.1, u.2 * 3) else if k = 4 then (r 2 1 x3).bind fun u => (r 0 g 2).bind fun v => some (50 :: (u.1 ++ v.1), u.2 - v.2) else r 2 (p_am k) x3)
  else (if k = 0 then (r 1 g x3).bind fun u => (r 2 g 1).bind fun v => some (2 :: (u.1 ++ v.1), u.2 - v.2) else if k = 5 then (r 3 3 x3).bind fun u => some (60 :: u.1, u.2 ^^^ 5) else if k = 7 then (r 3 4 x3).bind fun u => some (81 :: u.1, u.2 - 1) else r 3 (p_am k) x3)
def p_ra (g : Nat) (x1 : Int32) : Nat → Nat → Nat → Int32 → Option (List Nat × Int32)
  | 0, _, _, _ => none
  | f + 1, a, k, x3 => p_rn (p_ra g x1 f) g x1 a k x3
def k9_rq (S : k9_S) (g i f : Nat) : Prop := ∀ (d : Nat) (I : k9_I) (J : k9_J) (a k t : Nat) (x3 : Int32) (u : List Nat × Int32), k9_mc I g i t → k ≤ 7 → a ≤ 3 → p_ra g (nI i) f a k x3 = some u → t + u.1.length ≤ 1000 → k9_R S (d + f) (231 + a) 0 (some (k9_r 12 0) :: some (k9_i (nI i)) :: some (k9_i (nI k)) :: some (k9_i x3) :: (if a = 0 then [] else [none])) [] I J = some (some (k9_i u.2), k9_tr u.1 I t, J)
theorem p_am_7 : ∀ k, k ≤ 7 → p_am k ≤ 7 := by decide
theorem k9_r231 (hg : g ≤ 7) (hi : i < 50) (h : k9_rq S g i f) (hM : k9_mc I g i t) (hk : k ≤ 7) (hu : p_rn (p_ra g (nI i) f) g (nI i) 0 k x3 = some u) (hl : t + u.1.length ≤ 1000) : k9_R S (d + f + 1) 231 0 [some (k9_r 12 0), some (k9_i (nI i)), some (k9_i (nI k)), some (k9_i x3)] [] I J = some (some (k9_i u.2), k9_tr u.1 I t, J) := by
  refine k9o_of (k9o_eq k9e_231_0 ?_)
  rw [n_toInt (n := k) (by omega)]
  rw [p_rn, if_pos (show (0 : Nat) = 0 from rfl)] at hu
  by_cases c0 : k = 0
  · rw [if_pos c0] at hu
    obtain rfl := Option.some.inj hu
    simp only [List.length_cons, List.length_nil] at hl
    repeat (first | ((with_reducible refine k9q_T ?_ ?_); · omega) | ((with_reducible refine k9q_F ?_ ?_); · omega) | ((with_reducible refine k9q_Tb ?_ ?_); · omega) | ((with_reducible refine k9q_Fb ?_ ?_); · omega))
    refine k9o_eq k9e_231_2 (k9o_call (k9s_230 (n := 1) hM.2 (by omega)) ?_)
    simp only [k9_ps_n]
    exact k9o_eq k9e_231_5 (k9o_ret rfl)
  by_cases c1 : k = 1
  · rw [if_neg c0, if_pos c1] at hu
    obtain ⟨u1, e1, hu⟩ := Option.bind_eq_some_iff.mp hu
    obtain rfl := Option.some.inj hu
    simp only [List.length_cons, List.length_append] at hl
    have r1 : k9_R S (d + f) 231 0 [some (k9_r 12 0), some (k9_i (nI i)), some (k9_i (nI 0)), some (k9_i x3)] [] (k9_nr I 20 t) J = some (some (k9_i u1.2), k9_tr u1.1 (k9_nr I 20 t) (t + 1), J) := h d (k9_nr I 20 t) J 0 0 (t + 1) x3 u1 (k9_mc_n hM) (by omega) (by omega) e1 (by omega)
    have m1 := (k9_mc_n (n := 20) hM).1
    repeat (first | ((with_reducible refine k9q_T ?_ ?_); · omega) | ((with_reducible refine k9q_F ?_ ?_); · omega) | ((with_reducible refine k9q_Tb ?_ ?_); · omega) | ((with_reducible refine k9q_Fb ?_ ?_); · omega))
    refine k9o_eq k9e_231_9 (k9o_call (k9s_230 (n := 20) hM.2 (by omega)) ?_)
    simp only [k9_ps_n]
    refine k9o_eq k9e_231_12 (k9o_call r1 ?_)
    simp only [k9_ps_s]
    exact k9o_eq k9e_231_17 (k9o_ret rfl)
  by_cases c6 : k = 6
  · rw [if_neg c0, if_neg c1, if_pos c6] at hu
    obtain ⟨u1, e1, hu⟩ := Option.bind_eq_some_iff.mp hu
    obtain rfl := Option.some.inj hu
    simp only [List.length_cons, List.length_append] at hl
    have r1 : k9_R S (d + f) 231 0 [some (k9_r 12 0), some (k9_i (nI i)), some (k9_i (nI 0)), some (k9_i x3)] [] (k9_nr I 70 t) J = some (some (k9_i u1.2), k9_tr u1.1 (k9_nr I 70 t) (t + 1), J) := h d (k9_nr I 70 t) J 0 0 (t + 1) x3 u1 (k9_mc_n hM) (by omega) (by omega) e1 (by omega)
    have m1 := (k9_mc_n (n := 70) hM).1
    repeat (first | ((with_reducible refine k9q_T ?_ ?_); · omega) | ((with_reducible refine k9q_F ?_ ?_); · omega) | ((with_reducible refine k9q_Tb ?_ ?_); · omega) | ((with_reducible refine k9q_Fb ?_ ?_); · omega))
    refine k9o_eq k9e_231_20 (k9o_call (k9s_230 (n := 70) hM.2 (by omega)) ?_)
    simp only [k9_ps_n]
    refine k9o_eq k9e_231_23 (k9o_call r1 ?_)
    simp only [k9_ps_s]
    exact k9o_eq k9e_231_28 (k9o_ret rfl)
  rw [if_neg c0, if_neg c1, if_neg c6] at hu
  have ham := p_am_7 k hk
  have r1 : k9_R S (d + f) 231 0 [some (k9_r 12 0), some (k9_i (nI i)), some (k9_i (nI (p_am k))), some (k9_i x3)] [] I J = some (some (k9_i u.2), k9_tr u.1 I t, J) := h d I J 0 (p_am k) t x3 u hM (by omega) (by omega) hu hl
  repeat' (first | ((with_reducible refine k9q_T ?_ ?_); · omega) | ((with_reducible refine k9q_F ?_ ?_); · omega) | (with_reducible refine k9q_if (fun _ => ?_) (fun _ => ?_)))
  all_goals refine k9o_eq k9e_231_31 (k9o_call (k9s_229 hk) ?_)
  all_goals simp only [k9_ps_s]
  all_goals refine k9o_eq k9e_231_35 (k9o_call r1 ?_)
  all_goals simp only [k9_ps_s]
  all_goals exact k9o_eq k9e_231_37 (k9o_ret rfl)
theorem k9_r232 (hg : g ≤ 7) (hi : i < 50) (h : k9_rq S g i f) (hM : k9_mc I g i t) (hk : k ≤ 7) (hu : p_rn (p_ra g (nI i) f) g (nI i) 1 k x3 = some u) (hl : t + u.1.length ≤ 1000) : k9_R S (d + f + 1) 232 0 [some (k9_r 12 0), some (k9_i (nI i)), some (k9_i (nI k)), some (k9_i x3), none] [] I J = some (some (k9_i u.2), k9_tr u.1 I t, J) := by
  refine k9o_of (k9o_eq k9e_232_0 ?_)
  rw [n_toInt (n := k) (by omega)]
  rw [p_rn, if_neg (show ¬ (1 : Nat) = 0 by decide), if_pos (show (1 : Nat) = 1 from rfl)] at hu
  by_cases c0 : k = 0
  · rw [if_pos c0] at hu
    obtain ⟨u1, e1, hu⟩ := Option.bind_eq_some_iff.mp hu
    obtain rfl := Option.some.inj hu
    simp only [List.length_cons, List.length_append] at hl
    have r1 : k9_R S (d + f) 231 0 [some (k9_r 12 0), some (k9_i (nI i)), some (k9_i (nI g)), some (k9_i x3)] [] (k9_nr I 10 t) J = some (some (k9_i u1.2), k9_tr u1.1 (k9_nr I 10 t) (t + 1), J) := h d (k9_nr I 10 t) J 0 g (t + 1) x3 u1 (k9_mc_n hM) (by omega) (by omega) e1 (by omega)
    have m1 := (k9_mc_n (n := 10) hM).1
    repeat (first | ((with_reducible refine k9q_T ?_ ?_); · omega) | ((with_reducible refine k9q_F ?_ ?_); · omega) | ((with_reducible refine k9q_Tb ?_ ?_); · omega) | ((with_reducible refine k9q_Fb ?_ ?_); · omega))
    refine k9o_eq k9e_232_2 (k9o_call (k9s_230 (n := 10) hM.2 (by omega)) ?_)
    simp only [k9_ps_n]
    refine k9o_eq k9e_232_5 (k9o_T (by rw [n_toInt (by omega)]; omega) ?_)
    rw [n_cl (by omega), m1]
    refine k9o_eq k9e_232_11 (k9o_call r1 ?_)
    simp only [k9_ps_s]
    exact k9o_eq k9e_232_13 (k9o_ret rfl)
  by_cases c2 : k = 2
  · rw [if_neg c0, if_pos c2] at hu
    obtain ⟨u1, e1, hu⟩ := Option.bind_eq_some_iff.mp hu
    obtain rfl := Option.some.inj hu
    simp only [List.length_cons, List.length_append] at hl
    have r1 : k9_R S (d + f) 232 0 [some (k9_r 12 0), some (k9_i (nI i)), some (k9_i (nI 0)), some (k9_i x3), none] [] (k9_nr I 30 t) J = some (some (k9_i u1.2), k9_tr u1.1 (k9_nr I 30 t) (t + 1), J) := h d (k9_nr I 30 t) J 1 0 (t + 1) x3 u1 (k9_mc_n hM) (by omega) (by omega) e1 (by omega)
    have m1 := (k9_mc_n (n := 30) hM).1
    repeat (first | ((with_reducible refine k9q_T ?_ ?_); · omega) | ((with_reducible refine k9q_F ?_ ?_); · omega) | ((with_reducible refine k9q_Tb ?_ ?_); · omega) | ((with_reducible refine k9q_Fb ?_ ?_); · omega))
    refine k9o_eq k9e_232_16 (k9o_call (k9s_230 (n := 30) hM.2 (by omega)) ?_)
    simp only [k9_ps_n]
    refine k9o_eq k9e_232_19 (k9o_call r1 ?_)
    simp only [k9_ps_s]
    exact k9o_eq k9e_232_24 (k9o_ret rfl)
  by_cases c3 : k = 3
  · rw [if_neg c0, if_neg c2, if_pos c3] at hu
    obtain ⟨u1, e1, hu⟩ := Option.bind_eq_some_iff.mp hu
    obtain rfl := Option.some.inj hu
    simp only [List.length_cons, List.length_append] at hl
    have r1 : k9_R S (d + f) 232 0 [some (k9_r 12 0), some (k9_i (nI i)), some (k9_i (nI 2)), some (k9_i (x3 + 1)), none] [] (k9_nr I 41 t) J = some (some (k9_i u1.2), k9_tr u1.1 (k9_nr I 41 t) (t + 1), J) := h d (k9_nr I 41 t) J 1 2 (t + 1) (x3 + 1) u1 (k9_mc_n hM) (by omega) (by omega) e1 (by omega)
    have m1 := (k9_mc_n (n := 41) hM).1
    repeat (first | ((with_reducible refine k9q_T ?_ ?_); · omega) | ((with_reducible refine k9q_F ?_ ?_); · omega) | ((with_reducible refine k9q_Tb ?_ ?_); · omega) | ((with_reducible refine k9q_Fb ?_ ?_); · omega))
    refine k9o_eq k9e_232_26 (k9o_call (k9s_230 (n := 41) hM.2 (by omega)) ?_)
    simp only [k9_ps_n]
    refine k9o_eq k9e_232_29 (k9o_call r1 ?_)
    simp only [k9_ps_s]
    exact k9o_eq k9e_232_36 (k9o_ret rfl)
  by_cases c7 : k = 7
  · rw [if_neg c0, if_neg c2, if_neg c3, if_pos c7] at hu
    obtain ⟨u1, e1, hu⟩ := Option.bind_eq_some_iff.mp hu
    obtain ⟨u2, e2, hu⟩ := Option.bind_eq_some_iff.mp hu
    obtain rfl := Option.some.inj hu
    simp only [List.length_cons, List.length_append] at hl
    have r1 : k9_R S (d + f) 232 0 [some (k9_r 12 0), some (k9_i (nI i)), some (k9_i (nI 4)), some (k9_i x3), none] [] (k9_nr I 80 t) J = some (some (k9_i u1.2), k9_tr u1.1 (k9_nr I 80 t) (t + 1), J) := h d (k9_nr I 80 t) J 1 4 (t + 1) x3 u1 (k9_mc_n hM) (by omega) (by omega) e1 (by omega)
    have r2 : k9_R S (d + f) 233 0 [some (k9_r 12 0), some (k9_i (nI i)), some (k9_i (nI g)), some (k9_i 2), none] [] (k9_tr u1.1 (k9_nr I 80 t) (t + 1)) J = some (some (k9_i u2.2), k9_tr u2.1 (k9_tr u1.1 (k9_nr I 80 t) (t + 1)) (t + 1 + u1.1.length), J) := h d (k9_tr u1.1 (k9_nr I 80 t) (t + 1)) J 2 g (t + 1 + u1.1.length) 2 u2 (k9_mc_r u1.1 (k9_mc_n hM)) (by omega) (by omega) e2 (by omega)
    have m1 := (k9_mc_n (n := 80) hM).1
    repeat (first | ((with_reducible refine k9q_T ?_ ?_); · omega) | ((with_reducible refine k9q_F ?_ ?_); · omega) | ((with_reducible refine k9q_Tb ?_ ?_); · omega) | ((with_reducible refine k9q_Fb ?_ ?_); · omega))
    refine k9o_eq k9e_232_37 (k9o_call (k9s_230 (n := 80) hM.2 (by omega)) ?_)
    simp only [k9_ps_n]
    refine k9o_eq k9e_232_40 (k9o_call r1 ?_)
    simp only [k9_ps_s]
    have m2 := (k9_mc_r u1.1 (k9_mc_n (n := 80) hM)).1
    refine k9o_eq k9e_232_45 (k9o_T (by rw [n_toInt (by omega)]; omega) ?_)
    rw [n_cl (by omega), m2]
    refine k9o_eq k9e_232_53 (k9o_call r2 ?_)
    simp only [k9_ps_s]
    refine k9o_eq k9e_232_55 (k9o_ret ?_)
    rw [show k9_tr (80 :: (u1.1 ++ u2.1)) I t = k9_tr (u1.1 ++ u2.1) (k9_nr I 80 t) (t + 1) from rfl, k9_tr_a]
  rw [if_neg c0, if_neg c2, if_neg c3, if_neg c7] at hu
  have ham := p_am_7 k hk
  have r1 : k9_R S (d + f) 232 0 [some (k9_r 12 0), some (k9_i (nI i)), some (k9_i (nI (p_am k))), some (k9_i x3), none] [] I J = some (some (k9_i u.2), k9_tr u.1 I t, J) := h d I J 1 (p_am k) t x3 u hM (by omega) (by omega) hu hl
  repeat' (first | ((with_reducible refine k9q_T ?_ ?_); · omega) | ((with_reducible refine k9q_F ?_ ?_); · omega) | (with_reducible refine k9q_if (fun _ => ?_) (fun _ => ?_)))
  all_goals refine k9o_eq k9e_232_57 (k9o_call (k9s_229 hk) ?_)
  all_goals simp only [k9_ps_s]
  all_goals refine k9o_eq k9e_232_61 (k9o_call r1 ?_)
  all_goals simp only [k9_ps_s]
  all_goals exact k9o_eq k9e_232_63 (k9o_ret rfl)
theorem k9_r233 (hg : g ≤ 7) (hi : i < 50) (h : k9_rq S g i f) (hM : k9_mc I g i t) (hk : k ≤ 7) (hu : p_rn (p_ra g (nI i) f) g (nI i) 2 k x3 = some u) (hl : t + u.1.length ≤ 1000) : k9_R S (d + f + 1) 233 0 [some (k9_r 12 0), some (k9_i (nI i)), some (k9_i (nI k)), some (k9_i x3), none] [] I J = some (some (k9_i u.2), k9_tr u.1 I t, J) := by
  refine k9o_of (k9o_eq k9e_233_0 ?_)
  rw [n_toInt (n := k) (by omega)]
  rw [p_rn, if_neg (show ¬ (2 : Nat) = 0 by decide), if_neg (show ¬ (2 : Nat) = 1 by decide), if_pos (show (2 : Nat) = 2 from rfl)] at hu
  by_cases c0 : k = 0
  · rw [if_pos c0] at hu
    obtain rfl := Option.some.inj hu
    simp only [List.length_cons, List.length_nil] at hl
    repeat (first | ((with_reducible refine k9q_T ?_ ?_); · omega) | ((with_reducible refine k9q_F ?_ ?_); · omega) | ((with_reducible refine k9q_Tb ?_ ?_); · omega) | ((with_reducible refine k9q_Fb ?_ ?_); · omega))
    refine k9o_eq k9e_233_2 (k9o_call (k9s_230 (n := 11) hM.2 (by omega)) ?_)
    simp only [k9_ps_n]
    exact k9o_eq k9e_233_5 (k9o_ret rfl)
  by_cases c3 : k = 3
  · rw [if_neg c0, if_pos c3] at hu
    obtain ⟨u1, e1, hu⟩ := Option.bind_eq_some_iff.mp hu
    obtain rfl := Option.some.inj hu
    simp only [List.length_cons, List.length_append] at hl
    have r1 : k9_R S (d + f) 233 0 [some (k9_r 12 0), some (k9_i (nI i)), some (k9_i (nI 2)), some (k9_i x3), none] [] (k9_nr I 40 t) J = some (some (k9_i u1.2), k9_tr u1.1 (k9_nr I 40 t) (t + 1), J) := h d (k9_nr I 40 t) J 2 2 (t + 1) x3 u1 (k9_mc_n hM) (by omega) (by omega) e1 (by omega)
    have m1 := (k9_mc_n (n := 40) hM).1
    repeat (first | ((with_reducible refine k9q_T ?_ ?_); · omega) | ((with_reducible refine k9q_F ?_ ?_); · omega) | ((with_reducible refine k9q_Tb ?_ ?_); · omega) | ((with_reducible refine k9q_Fb ?_ ?_); · omega))
    refine k9o_eq k9e_233_9 (k9o_call (k9s_230 (n := 40) hM.2 (by omega)) ?_)
    simp only [k9_ps_n]
    refine k9o_eq k9e_233_12 (k9o_call r1 ?_)
    simp only [k9_ps_s]
    exact k9o_eq k9e_233_17 (k9o_ret rfl)
  by_cases c4 : k = 4
  · rw [if_neg c0, if_neg c3, if_pos c4] at hu
    obtain ⟨u1, e1, hu⟩ := Option.bind_eq_some_iff.mp hu
    obtain ⟨u2, e2, hu⟩ := Option.bind_eq_some_iff.mp hu
    obtain rfl := Option.some.inj hu
    simp only [List.length_cons, List.length_append] at hl
    have r1 : k9_R S (d + f) 233 0 [some (k9_r 12 0), some (k9_i (nI i)), some (k9_i (nI 1)), some (k9_i x3), none] [] (k9_nr I 50 t) J = some (some (k9_i u1.2), k9_tr u1.1 (k9_nr I 50 t) (t + 1), J) := h d (k9_nr I 50 t) J 2 1 (t + 1) x3 u1 (k9_mc_n hM) (by omega) (by omega) e1 (by omega)
    have r2 : k9_R S (d + f) 231 0 [some (k9_r 12 0), some (k9_i (nI i)), some (k9_i (nI g)), some (k9_i 2)] [] (k9_tr u1.1 (k9_nr I 50 t) (t + 1)) J = some (some (k9_i u2.2), k9_tr u2.1 (k9_tr u1.1 (k9_nr I 50 t) (t + 1)) (t + 1 + u1.1.length), J) := h d (k9_tr u1.1 (k9_nr I 50 t) (t + 1)) J 0 g (t + 1 + u1.1.length) 2 u2 (k9_mc_r u1.1 (k9_mc_n hM)) (by omega) (by omega) e2 (by omega)
    have m1 := (k9_mc_n (n := 50) hM).1
    repeat (first | ((with_reducible refine k9q_T ?_ ?_); · omega) | ((with_reducible refine k9q_F ?_ ?_); · omega) | ((with_reducible refine k9q_Tb ?_ ?_); · omega) | ((with_reducible refine k9q_Fb ?_ ?_); · omega))
    refine k9o_eq k9e_233_20 (k9o_call (k9s_230 (n := 50) hM.2 (by omega)) ?_)
    simp only [k9_ps_n]
    refine k9o_eq k9e_233_23 (k9o_call r1 ?_)
    simp only [k9_ps_s]
    have m2 := (k9_mc_r u1.1 (k9_mc_n (n := 50) hM)).1
    refine k9o_eq k9e_233_28 (k9o_T (by rw [n_toInt (by omega)]; omega) ?_)
    rw [n_cl (by omega), m2]
    refine k9o_eq k9e_233_36 (k9o_call r2 ?_)
    simp only [k9_ps_s]
    refine k9o_eq k9e_233_38 (k9o_ret ?_)
    rw [show k9_tr (50 :: (u1.1 ++ u2.1)) I t = k9_tr (u1.1 ++ u2.1) (k9_nr I 50 t) (t + 1) from rfl, k9_tr_a]
  rw [if_neg c0, if_neg c3, if_neg c4] at hu
  have ham := p_am_7 k hk
  have r1 : k9_R S (d + f) 233 0 [some (k9_r 12 0), some (k9_i (nI i)), some (k9_i (nI (p_am k))), some (k9_i x3), none] [] I J = some (some (k9_i u.2), k9_tr u.1 I t, J) := h d I J 2 (p_am k) t x3 u hM (by omega) (by omega) hu hl
  repeat' (first | ((with_reducible refine k9q_T ?_ ?_); · omega) | ((with_reducible refine k9q_F ?_ ?_); · omega) | (with_reducible refine k9q_if (fun _ => ?_) (fun _ => ?_)))
  all_goals refine k9o_eq k9e_233_40 (k9o_call (k9s_229 hk) ?_)
  all_goals simp only [k9_ps_s]
  all_goals refine k9o_eq k9e_233_44 (k9o_call r1 ?_)
  all_goals simp only [k9_ps_s]
  all_goals exact k9o_eq k9e_233_46 (k9o_ret rfl)
theorem k9_r234 (hg : g ≤ 7) (hi : i < 50) (h : k9_rq S g i f) (hM : k9_mc I g i t) (hk : k ≤ 7) (hu : p_rn (p_ra g (nI i) f) g (nI i) 3 k x3 = some u) (hl : t + u.1.length ≤ 1000) : k9_R S (d + f + 1) 234 0 [some (k9_r 12 0), some (k9_i (nI i)), some (k9_i (nI k)), some (k9_i x3), none] [] I J = some (some (k9_i u.2), k9_tr u.1 I t, J) := by
  refine k9o_of (k9o_eq k9e_234_0 ?_)
  rw [n_toInt (n := k) (by omega)]
  rw [p_rn, if_neg (show ¬ (3 : Nat) = 0 by decide), if_neg (show ¬ (3 : Nat) = 1 by decide), if_neg (show ¬ (3 : Nat) = 2 by decide)] at hu
  by_cases c0 : k = 0
  · rw [if_pos c0] at hu
    obtain ⟨u1, e1, hu⟩ := Option.bind_eq_some_iff.mp hu
    obtain ⟨u2, e2, hu⟩ := Option.bind_eq_some_iff.mp hu
    obtain rfl := Option.some.inj hu
    simp only [List.length_cons, List.length_append] at hl
    have r1 : k9_R S (d + f) 232 0 [some (k9_r 12 0), some (k9_i (nI i)), some (k9_i (nI g)), some (k9_i x3), none] [] (k9_nr I 2 t) J = some (some (k9_i u1.2), k9_tr u1.1 (k9_nr I 2 t) (t + 1), J) := h d (k9_nr I 2 t) J 1 g (t + 1) x3 u1 (k9_mc_n hM) (by omega) (by omega) e1 (by omega)
    have r2 : k9_R S (d + f) 233 0 [some (k9_r 12 0), some (k9_i (nI i)), some (k9_i (nI g)), some (k9_i 1), none] [] (k9_tr u1.1 (k9_nr I 2 t) (t + 1)) J = some (some (k9_i u2.2), k9_tr u2.1 (k9_tr u1.1 (k9_nr I 2 t) (t + 1)) (t + 1 + u1.1.length), J) := h d (k9_tr u1.1 (k9_nr I 2 t) (t + 1)) J 2 g (t + 1 + u1.1.length) 1 u2 (k9_mc_r u1.1 (k9_mc_n hM)) (by omega) (by omega) e2 (by omega)
    have m1 := (k9_mc_n (n := 2) hM).1
    repeat (first | ((with_reducible refine k9q_T ?_ ?_); · omega) | ((with_reducible refine k9q_F ?_ ?_); · omega) | ((with_reducible refine k9q_Tb ?_ ?_); · omega) | ((with_reducible refine k9q_Fb ?_ ?_); · omega))
    refine k9o_eq k9e_234_2 (k9o_call (k9s_230 (n := 2) hM.2 (by omega)) ?_)
    simp only [k9_ps_n]
    refine k9o_eq k9e_234_5 (k9o_T (by rw [n_toInt (by omega)]; omega) ?_)
    rw [n_cl (by omega), m1]
    refine k9o_eq k9e_234_11 (k9o_call r1 ?_)
    simp only [k9_ps_s]
    have m2 := (k9_mc_r u1.1 (k9_mc_n (n := 2) hM)).1
    refine k9o_eq k9e_234_13 (k9o_T (by rw [n_toInt (by omega)]; omega) ?_)
    rw [n_cl (by omega), m2]
    refine k9o_eq k9e_234_21 (k9o_call r2 ?_)
    simp only [k9_ps_s]
    refine k9o_eq k9e_234_23 (k9o_ret ?_)
    rw [show k9_tr (2 :: (u1.1 ++ u2.1)) I t = k9_tr (u1.1 ++ u2.1) (k9_nr I 2 t) (t + 1) from rfl, k9_tr_a]
  by_cases c5 : k = 5
  · rw [if_neg c0, if_pos c5] at hu
    obtain ⟨u1, e1, hu⟩ := Option.bind_eq_some_iff.mp hu
    obtain rfl := Option.some.inj hu
    simp only [List.length_cons, List.length_append] at hl
    have r1 : k9_R S (d + f) 234 0 [some (k9_r 12 0), some (k9_i (nI i)), some (k9_i (nI 3)), some (k9_i x3), none] [] (k9_nr I 60 t) J = some (some (k9_i u1.2), k9_tr u1.1 (k9_nr I 60 t) (t + 1), J) := h d (k9_nr I 60 t) J 3 3 (t + 1) x3 u1 (k9_mc_n hM) (by omega) (by omega) e1 (by omega)
    have m1 := (k9_mc_n (n := 60) hM).1
    repeat (first | ((with_reducible refine k9q_T ?_ ?_); · omega) | ((with_reducible refine k9q_F ?_ ?_); · omega) | ((with_reducible refine k9q_Tb ?_ ?_); · omega) | ((with_reducible refine k9q_Fb ?_ ?_); · omega))
    refine k9o_eq k9e_234_25 (k9o_call (k9s_230 (n := 60) hM.2 (by omega)) ?_)
    simp only [k9_ps_n]
    refine k9o_eq k9e_234_28 (k9o_call r1 ?_)
    simp only [k9_ps_s]
    exact k9o_eq k9e_234_33 (k9o_ret rfl)
  by_cases c7 : k = 7
  · rw [if_neg c0, if_neg c5, if_pos c7] at hu
    obtain ⟨u1, e1, hu⟩ := Option.bind_eq_some_iff.mp hu
    obtain rfl := Option.some.inj hu
    simp only [List.length_cons, List.length_append] at hl
    have r1 : k9_R S (d + f) 234 0 [some (k9_r 12 0), some (k9_i (nI i)), some (k9_i (nI 4)), some (k9_i x3), none] [] (k9_nr I 81 t) J = some (some (k9_i u1.2), k9_tr u1.1 (k9_nr I 81 t) (t + 1), J) := h d (k9_nr I 81 t) J 3 4 (t + 1) x3 u1 (k9_mc_n hM) (by omega) (by omega) e1 (by omega)
    have m1 := (k9_mc_n (n := 81) hM).1
    repeat (first | ((with_reducible refine k9q_T ?_ ?_); · omega) | ((with_reducible refine k9q_F ?_ ?_); · omega) | ((with_reducible refine k9q_Tb ?_ ?_); · omega) | ((with_reducible refine k9q_Fb ?_ ?_); · omega))
    refine k9o_eq k9e_234_36 (k9o_call (k9s_230 (n := 81) hM.2 (by omega)) ?_)
    simp only [k9_ps_n]
    refine k9o_eq k9e_234_39 (k9o_call r1 ?_)
    simp only [k9_ps_s]
    exact k9o_eq k9e_234_44 (k9o_ret rfl)
  rw [if_neg c0, if_neg c5, if_neg c7] at hu
  have ham := p_am_7 k hk
  have r1 : k9_R S (d + f) 234 0 [some (k9_r 12 0), some (k9_i (nI i)), some (k9_i (nI (p_am k))), some (k9_i x3), none] [] I J = some (some (k9_i u.2), k9_tr u.1 I t, J) := h d I J 3 (p_am k) t x3 u hM (by omega) (by omega) hu hl
  repeat' (first | ((with_reducible refine k9q_T ?_ ?_); · omega) | ((with_reducible refine k9q_F ?_ ?_); · omega) | (with_reducible refine k9q_if (fun _ => ?_) (fun _ => ?_)))
  all_goals refine k9o_eq k9e_234_47 (k9o_call (k9s_229 hk) ?_)
  all_goals simp only [k9_ps_s]
  all_goals refine k9o_eq k9e_234_51 (k9o_call r1 ?_)
  all_goals simp only [k9_ps_s]
  all_goals exact k9o_eq k9e_234_53 (k9o_ret rfl)
theorem k9_rq_a (hg : g ≤ 7) (hi : i < 50) (f : Nat) : k9_rq S g i f := by
  induction f with
  | zero =>
    intro d I J a k t x3 u hM hk ha hu hl
    rw [p_ra] at hu
    cases hu
  | succ f ih =>
    intro d I J a k t x3 u hM hk ha hu hl
    rw [p_ra] at hu
    obtain rfl | rfl | rfl | rfl : a = 0 ∨ a = 1 ∨ a = 2 ∨ a = 3 := by omega
    · exact k9_r231 hg hi ih hM hk hu hl
    · exact k9_r232 hg hi ih hM hk hu hl
    · exact k9_r233 hg hi ih hM hk hu hl
    · exact k9_r234 hg hi ih hM hk hu hl
end KT37
