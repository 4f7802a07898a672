/-! SHELVES: shift -/
section KT8
variable {S : k9_S} {d : Nat} {I I' : k9_I} {J J' : k9_J} {x1 x2 x3 x4 x5 : Int32} {v : Int64}
/-- of a copy, the places lo up to hi have come -/
def k9_Tk (J J1 : k9_J) (K b sb db q : Nat) (t s i j lo hi : Nat) : Prop := ∀ k' i' p', J1 k' i' p' = if k' = K ∧ i' = t ∧ db + lo ≤ p' ∧ p' < db + hi then p_nm q (J K s (sb + i + (p' - db - j))) else J k' i' p'
theorem k9_Tk_s {J1 : k9_J} {K b sb db q t s i j lo hi m lo' hi' : Nat} (h : k9_Tk J J1 K b sb db q t s i j lo hi) (hm : (m = hi ∧ lo' = lo ∧ hi' = hi + 1 ∧ lo ≤ hi) ∨ (m + 1 = lo ∧ lo' = m ∧ hi' = hi ∧ lo ≤ hi)) : k9_Tk J (k9_uJ J1 K t (db + m) (p_nm q (J K s (sb + i + (m - j))))) K b sb db q t s i j lo' hi' := by
  intro k' i' p'
  rw [k9_urJ, h k' i' p']
  by_cases c : k' = K ∧ i' = t
  · obtain ⟨rfl, rfl⟩ := c
    simp only [true_and]
    by_cases y : p' = db + m
    · subst y
      rw [if_pos rfl, if_pos (by omega), Nat.add_sub_cancel_left]
    · rw [if_neg y]
      by_cases z : db + lo ≤ p' ∧ p' < db + hi
      · rw [if_pos z, if_pos (by omega)]
      · rw [if_neg z, if_neg (by omega)]
  · rw [if_neg (fun y => c ⟨y.1, y.2.1⟩), if_neg (fun y => c ⟨y.1, y.2.1⟩), if_neg (fun y => c ⟨y.1, y.2.1⟩)]
theorem k9s_98 {q s t i j n : Nat} (hq : q ≤ 4) (h : I 11 t 2 = nI q) (hi : i + n ≤ 60) (hj : j + n ≤ 60) : ∃ J', k9_R S (d + 2) 98 0 [some (k9_r 11 t), some (k9_r 11 s), some (k9_i (nI i)), some (k9_i (nI j)), some (k9_i (nI n)), none, none] [] I J = some (none, I, J') ∧ k9_Tk J J' 37 0 0 0 q t s i j j (j + n) := by
  by_cases hij : i < j
  · have key : ∀ m k J1, k + m = n → k9_Tk J J1 37 0 0 0 q t s i j (j + (n - k)) (j + n) → ∃ J', k9_R S (d + 2) 98 2 [some (k9_r 11 t), some (k9_r 11 s), some (k9_i (nI i)), some (k9_i (nI j)), some (k9_i (nI n)), some (k9_i (nI k)), none] [] I J1 = some (none, I, J') ∧ k9_Tk J J' 37 0 0 0 q t s i j j (j + n) := by
      intro m
      induction m with
      | zero =>
        intro k J1 hk hT
        obtain rfl : k = n := by omega
        rw [Nat.sub_self, Nat.add_zero] at hT
        refine ⟨J1, k9o_of (k9o_eq k9e_98_2 ?_), hT⟩
        simp (disch := omega) only [k9e_98_0, k9e_98_5, k9e_98_8, k9e_98_14, k9e_98_15, k9e_98_25, k9e_98_26, k9e_98_28, Nat.reduceEqDiff, Int.reduceEq, Int.reduceLT, Int.reduceLE, k9_ps_s, k9_ps_n, k9_ur, false_and, and_false, true_and, and_true, true_or, or_true, false_or, or_false, eq_self, ↓reduceIte, not_true_eq_false, not_false_eq_true, n_toInt, n_cl, nI_1, nI_add, n_a0, n_p2, n_p3, n_p4, n_x2, n_x3, n_x4, n_x60, n_x100, n_pm1, k9L_m2, k9L_m1, k9L_0, k9L_1, k9L_2, k9L_3, k9L_4, k9L_5, k9L_6, k9L_7, k9L_8, k9L_9, k9L_10, k9L_20, k9L_23, k9L_24, k9L_30, k9L_40, k9L_50, k9L_60, k9L_99, k9L_100, k9L_120, k9L_255, k9L_999, k9L_1000, k9_bs, k9_ba]
        repeat (first | ((with_reducible refine k9q_T ?_ ?_); · omega) | ((with_reducible refine k9q_F ?_ ?_); · omega) | ((with_reducible refine k9q_Tb ?_ ?_); · omega) | ((with_reducible refine k9q_Fb ?_ ?_); · omega) | simp (disch := omega) only [k9e_98_0, k9e_98_5, k9e_98_8, k9e_98_14, k9e_98_15, k9e_98_25, k9e_98_26, k9e_98_28, Nat.reduceEqDiff, Int.reduceEq, Int.reduceLT, Int.reduceLE, k9_ps_s, k9_ps_n, k9_ur, false_and, and_false, true_and, and_true, true_or, or_true, false_or, or_false, eq_self, ↓reduceIte, not_true_eq_false, not_false_eq_true, n_toInt, n_cl, nI_1, nI_add, n_a0, n_p2, n_p3, n_p4, n_x2, n_x3, n_x4, n_x60, n_x100, n_pm1, k9L_m2, k9L_m1, k9L_0, k9L_1, k9L_2, k9L_3, k9L_4, k9L_5, k9L_6, k9L_7, k9L_8, k9L_9, k9L_10, k9L_20, k9L_23, k9L_24, k9L_30, k9L_40, k9L_50, k9L_60, k9L_99, k9L_100, k9L_120, k9L_255, k9L_999, k9L_1000, k9_bs, k9_ba])
        exact k9o_ret rfl
      | succ m ih =>
        intro k J1 hk hT
        have hT2 := k9_Tk_s (m := j + (n - 1 - k)) hT (lo' := j + (n - (k + 1))) (hi' := j + n) (Or.inr ⟨by omega, by omega, rfl, by omega⟩)
        obtain ⟨J', e, r⟩ := ih (k + 1) _ (by omega) hT2
        refine ⟨J', k9o_of (k9o_eq k9e_98_2 ?_), r⟩
        have hr : J1 37 s (i + (n - 1 - k)) = J 37 s (i + (n - 1 - k)) := by
          rw [hT, if_neg (by omega)]
        simp (disch := omega) only [k9e_98_0, k9e_98_5, k9e_98_8, k9e_98_14, k9e_98_15, k9e_98_25, k9e_98_26, k9e_98_28, Nat.reduceEqDiff, Int.reduceEq, Int.reduceLT, Int.reduceLE, k9_ps_s, k9_ps_n, k9_ur, false_and, and_false, true_and, and_true, true_or, or_true, false_or, or_false, eq_self, ↓reduceIte, not_true_eq_false, not_false_eq_true, n_toInt, n_cl, nI_1, nI_add, n_a0, n_p2, n_p3, n_p4, n_x2, n_x3, n_x4, n_x60, n_x100, n_pm1, k9L_m2, k9L_m1, k9L_0, k9L_1, k9L_2, k9L_3, k9L_4, k9L_5, k9L_6, k9L_7, k9L_8, k9L_9, k9L_10, k9L_20, k9L_23, k9L_24, k9L_30, k9L_40, k9L_50, k9L_60, k9L_99, k9L_100, k9L_120, k9L_255, k9L_999, k9L_1000, k9_bs, k9_ba, n_s1, n_sub, hr]
        repeat (first | ((with_reducible refine k9q_T ?_ ?_); · omega) | ((with_reducible refine k9q_F ?_ ?_); · omega) | ((with_reducible refine k9q_Tb ?_ ?_); · omega) | ((with_reducible refine k9q_Fb ?_ ?_); · omega) | (refine k9o_call (k9s_94 (i := i + (n - 1 - k)) (by omega)) ?_; simp (disch := omega) only [k9e_98_0, k9e_98_5, k9e_98_8, k9e_98_14, k9e_98_15, k9e_98_25, k9e_98_26, k9e_98_28, Nat.reduceEqDiff, Int.reduceEq, Int.reduceLT, Int.reduceLE, k9_ps_s, k9_ps_n, k9_ur, false_and, and_false, true_and, and_true, true_or, or_true, false_or, or_false, eq_self, ↓reduceIte, not_true_eq_false, not_false_eq_true, n_toInt, n_cl, nI_1, nI_add, n_a0, n_p2, n_p3, n_p4, n_x2, n_x3, n_x4, n_x60, n_x100, n_pm1, k9L_m2, k9L_m1, k9L_0, k9L_1, k9L_2, k9L_3, k9L_4, k9L_5, k9L_6, k9L_7, k9L_8, k9L_9, k9L_10, k9L_20, k9L_23, k9L_24, k9L_30, k9L_40, k9L_50, k9L_60, k9L_99, k9L_100, k9L_120, k9L_255, k9L_999, k9L_1000, k9_bs, k9_ba, n_s1, n_sub, hr]) | (refine k9o_call (k9s_96 (i := j + (n - 1 - k)) hq h (by omega)) ?_; simp (disch := omega) only [k9e_98_0, k9e_98_5, k9e_98_8, k9e_98_14, k9e_98_15, k9e_98_25, k9e_98_26, k9e_98_28, Nat.reduceEqDiff, Int.reduceEq, Int.reduceLT, Int.reduceLE, k9_ps_s, k9_ps_n, k9_ur, false_and, and_false, true_and, and_true, true_or, or_true, false_or, or_false, eq_self, ↓reduceIte, not_true_eq_false, not_false_eq_true, n_toInt, n_cl, nI_1, nI_add, n_a0, n_p2, n_p3, n_p4, n_x2, n_x3, n_x4, n_x60, n_x100, n_pm1, k9L_m2, k9L_m1, k9L_0, k9L_1, k9L_2, k9L_3, k9L_4, k9L_5, k9L_6, k9L_7, k9L_8, k9L_9, k9L_10, k9L_20, k9L_23, k9L_24, k9L_30, k9L_40, k9L_50, k9L_60, k9L_99, k9L_100, k9L_120, k9L_255, k9L_999, k9L_1000, k9_bs, k9_ba, n_s1, n_sub, hr]) | simp (disch := omega) only [k9e_98_0, k9e_98_5, k9e_98_8, k9e_98_14, k9e_98_15, k9e_98_25, k9e_98_26, k9e_98_28, Nat.reduceEqDiff, Int.reduceEq, Int.reduceLT, Int.reduceLE, k9_ps_s, k9_ps_n, k9_ur, false_and, and_false, true_and, and_true, true_or, or_true, false_or, or_false, eq_self, ↓reduceIte, not_true_eq_false, not_false_eq_true, n_toInt, n_cl, nI_1, nI_add, n_a0, n_p2, n_p3, n_p4, n_x2, n_x3, n_x4, n_x60, n_x100, n_pm1, k9L_m2, k9L_m1, k9L_0, k9L_1, k9L_2, k9L_3, k9L_4, k9L_5, k9L_6, k9L_7, k9L_8, k9L_9, k9L_10, k9L_20, k9L_23, k9L_24, k9L_30, k9L_40, k9L_50, k9L_60, k9L_99, k9L_100, k9L_120, k9L_255, k9L_999, k9L_1000, k9_bs, k9_ba, n_s1, n_sub, hr])
        rw [Nat.zero_add, Nat.zero_add, Nat.add_sub_cancel_left] at e
        exact k9o_to e rfl
    rw [k9e_98_0]
    exact key n 0 J (by omega) (fun k' i' p' => by rw [if_neg (by omega)])
  · have key : ∀ m k J1, k + m = n → k9_Tk J J1 37 0 0 0 q t s i j j (j + k) → ∃ J', k9_R S (d + 2) 98 2 [some (k9_r 11 t), some (k9_r 11 s), some (k9_i (nI i)), some (k9_i (nI j)), some (k9_i (nI n)), some (k9_i (nI k)), none] [] I J1 = some (none, I, J') ∧ k9_Tk J J' 37 0 0 0 q t s i j j (j + n) := by
      intro m
      induction m with
      | zero =>
        intro k J1 hk hT
        obtain rfl : k = n := by omega
        refine ⟨J1, k9o_of (k9o_eq k9e_98_2 ?_), hT⟩
        simp (disch := omega) only [k9e_98_0, k9e_98_5, k9e_98_8, k9e_98_14, k9e_98_15, k9e_98_25, k9e_98_26, k9e_98_28, Nat.reduceEqDiff, Int.reduceEq, Int.reduceLT, Int.reduceLE, k9_ps_s, k9_ps_n, k9_ur, false_and, and_false, true_and, and_true, true_or, or_true, false_or, or_false, eq_self, ↓reduceIte, not_true_eq_false, not_false_eq_true, n_toInt, n_cl, nI_1, nI_add, n_a0, n_p2, n_p3, n_p4, n_x2, n_x3, n_x4, n_x60, n_x100, n_pm1, k9L_m2, k9L_m1, k9L_0, k9L_1, k9L_2, k9L_3, k9L_4, k9L_5, k9L_6, k9L_7, k9L_8, k9L_9, k9L_10, k9L_20, k9L_23, k9L_24, k9L_30, k9L_40, k9L_50, k9L_60, k9L_99, k9L_100, k9L_120, k9L_255, k9L_999, k9L_1000, k9_bs, k9_ba]
        repeat (first | ((with_reducible refine k9q_T ?_ ?_); · omega) | ((with_reducible refine k9q_F ?_ ?_); · omega) | ((with_reducible refine k9q_Tb ?_ ?_); · omega) | ((with_reducible refine k9q_Fb ?_ ?_); · omega) | simp (disch := omega) only [k9e_98_0, k9e_98_5, k9e_98_8, k9e_98_14, k9e_98_15, k9e_98_25, k9e_98_26, k9e_98_28, Nat.reduceEqDiff, Int.reduceEq, Int.reduceLT, Int.reduceLE, k9_ps_s, k9_ps_n, k9_ur, false_and, and_false, true_and, and_true, true_or, or_true, false_or, or_false, eq_self, ↓reduceIte, not_true_eq_false, not_false_eq_true, n_toInt, n_cl, nI_1, nI_add, n_a0, n_p2, n_p3, n_p4, n_x2, n_x3, n_x4, n_x60, n_x100, n_pm1, k9L_m2, k9L_m1, k9L_0, k9L_1, k9L_2, k9L_3, k9L_4, k9L_5, k9L_6, k9L_7, k9L_8, k9L_9, k9L_10, k9L_20, k9L_23, k9L_24, k9L_30, k9L_40, k9L_50, k9L_60, k9L_99, k9L_100, k9L_120, k9L_255, k9L_999, k9L_1000, k9_bs, k9_ba])
        exact k9o_ret rfl
      | succ m ih =>
        intro k J1 hk hT
        have hT2 := k9_Tk_s (m := j + k) hT (lo' := j) (hi' := j + (k + 1)) (Or.inl ⟨rfl, rfl, by omega, by omega⟩)
        obtain ⟨J', e, r⟩ := ih (k + 1) _ (by omega) hT2
        refine ⟨J', k9o_of (k9o_eq k9e_98_2 ?_), r⟩
        have hr : J1 37 s (i + k) = J 37 s (i + k) := by
          rw [hT, if_neg (by omega)]
        simp (disch := omega) only [k9e_98_0, k9e_98_5, k9e_98_8, k9e_98_14, k9e_98_15, k9e_98_25, k9e_98_26, k9e_98_28, Nat.reduceEqDiff, Int.reduceEq, Int.reduceLT, Int.reduceLE, k9_ps_s, k9_ps_n, k9_ur, false_and, and_false, true_and, and_true, true_or, or_true, false_or, or_false, eq_self, ↓reduceIte, not_true_eq_false, not_false_eq_true, n_toInt, n_cl, nI_1, nI_add, n_a0, n_p2, n_p3, n_p4, n_x2, n_x3, n_x4, n_x60, n_x100, n_pm1, k9L_m2, k9L_m1, k9L_0, k9L_1, k9L_2, k9L_3, k9L_4, k9L_5, k9L_6, k9L_7, k9L_8, k9L_9, k9L_10, k9L_20, k9L_23, k9L_24, k9L_30, k9L_40, k9L_50, k9L_60, k9L_99, k9L_100, k9L_120, k9L_255, k9L_999, k9L_1000, k9_bs, k9_ba, hr]
        repeat (first | ((with_reducible refine k9q_T ?_ ?_); · omega) | ((with_reducible refine k9q_F ?_ ?_); · omega) | ((with_reducible refine k9q_Tb ?_ ?_); · omega) | ((with_reducible refine k9q_Fb ?_ ?_); · omega) | (refine k9o_call (k9s_94 (i := i + k) (by omega)) ?_; simp (disch := omega) only [k9e_98_0, k9e_98_5, k9e_98_8, k9e_98_14, k9e_98_15, k9e_98_25, k9e_98_26, k9e_98_28, Nat.reduceEqDiff, Int.reduceEq, Int.reduceLT, Int.reduceLE, k9_ps_s, k9_ps_n, k9_ur, false_and, and_false, true_and, and_true, true_or, or_true, false_or, or_false, eq_self, ↓reduceIte, not_true_eq_false, not_false_eq_true, n_toInt, n_cl, nI_1, nI_add, n_a0, n_p2, n_p3, n_p4, n_x2, n_x3, n_x4, n_x60, n_x100, n_pm1, k9L_m2, k9L_m1, k9L_0, k9L_1, k9L_2, k9L_3, k9L_4, k9L_5, k9L_6, k9L_7, k9L_8, k9L_9, k9L_10, k9L_20, k9L_23, k9L_24, k9L_30, k9L_40, k9L_50, k9L_60, k9L_99, k9L_100, k9L_120, k9L_255, k9L_999, k9L_1000, k9_bs, k9_ba, hr]) | (refine k9o_call (k9s_96 (i := j + k) hq h (by omega)) ?_; simp (disch := omega) only [k9e_98_0, k9e_98_5, k9e_98_8, k9e_98_14, k9e_98_15, k9e_98_25, k9e_98_26, k9e_98_28, Nat.reduceEqDiff, Int.reduceEq, Int.reduceLT, Int.reduceLE, k9_ps_s, k9_ps_n, k9_ur, false_and, and_false, true_and, and_true, true_or, or_true, false_or, or_false, eq_self, ↓reduceIte, not_true_eq_false, not_false_eq_true, n_toInt, n_cl, nI_1, nI_add, n_a0, n_p2, n_p3, n_p4, n_x2, n_x3, n_x4, n_x60, n_x100, n_pm1, k9L_m2, k9L_m1, k9L_0, k9L_1, k9L_2, k9L_3, k9L_4, k9L_5, k9L_6, k9L_7, k9L_8, k9L_9, k9L_10, k9L_20, k9L_23, k9L_24, k9L_30, k9L_40, k9L_50, k9L_60, k9L_99, k9L_100, k9L_120, k9L_255, k9L_999, k9L_1000, k9_bs, k9_ba, hr]) | simp (disch := omega) only [k9e_98_0, k9e_98_5, k9e_98_8, k9e_98_14, k9e_98_15, k9e_98_25, k9e_98_26, k9e_98_28, Nat.reduceEqDiff, Int.reduceEq, Int.reduceLT, Int.reduceLE, k9_ps_s, k9_ps_n, k9_ur, false_and, and_false, true_and, and_true, true_or, or_true, false_or, or_false, eq_self, ↓reduceIte, not_true_eq_false, not_false_eq_true, n_toInt, n_cl, nI_1, nI_add, n_a0, n_p2, n_p3, n_p4, n_x2, n_x3, n_x4, n_x60, n_x100, n_pm1, k9L_m2, k9L_m1, k9L_0, k9L_1, k9L_2, k9L_3, k9L_4, k9L_5, k9L_6, k9L_7, k9L_8, k9L_9, k9L_10, k9L_20, k9L_23, k9L_24, k9L_30, k9L_40, k9L_50, k9L_60, k9L_99, k9L_100, k9L_120, k9L_255, k9L_999, k9L_1000, k9_bs, k9_ba, hr])
        rw [Nat.zero_add, Nat.zero_add, Nat.add_sub_cancel_left] at e
        exact k9o_to e rfl
    rw [k9e_98_0]
    exact key n 0 J (by omega) (fun k' i' p' => by rw [if_neg (by omega)])
/-- the reference's copy: what is copied is as the sort has it -/
theorem k9s_244f {q s t i j n : Nat} (hs : s < 6) (ht : t < 6) (hi : i + n ≤ 60) (hj : j + n ≤ 60) (hst : ¬ (s = t ∧ i < j)) (hnm : ∀ p, p < n → p_nm q (J 62 0 (60 * s + i + p)) = J 62 0 (60 * s + i + p)) : ∃ J', k9_R S d 244 108 [some (k9_r 12 0), some (k9_i (nI s)), some (k9_i (nI i)), some (k9_i (nI t)), some (k9_i (nI j)), some (k9_i (nI n)), none] [] I J = some (some (k9_i (nI n)), I, J') ∧ k9_Tk J J' 62 0 (60 * s) (60 * t) q 0 0 i j j (j + n) := by
  have key : ∀ m k J1, k + m = n → k9_Tk J J1 62 0 (60 * s) (60 * t) q 0 0 i j j (j + k) → ∃ J', k9_R S d 244 110 [some (k9_r 12 0), some (k9_i (nI s)), some (k9_i (nI i)), some (k9_i (nI t)), some (k9_i (nI j)), some (k9_i (nI n)), some (k9_i (nI k))] [] I J1 = some (some (k9_i (nI n)), I, J') ∧ k9_Tk J J' 62 0 (60 * s) (60 * t) q 0 0 i j j (j + n) := by
    intro m
    induction m with
    | zero =>
      intro k J1 hk hT
      obtain rfl : k = n := by omega
      refine ⟨J1, k9o_of (k9o_eq k9e_244_110 ?_), hT⟩
      simp (disch := omega) only [k9e_244_0, k9e_244_2, k9e_244_3, k9e_244_5, k9e_244_6, k9e_244_8, k9e_244_12, k9e_244_14, k9e_244_18, k9e_244_20, k9e_244_22, k9e_244_25, k9e_244_26, k9e_244_29, k9e_244_30, k9e_244_34, k9e_244_38, k9e_244_39, k9e_244_41, k9e_244_43, k9e_244_45, k9e_244_47, k9e_244_56, k9e_244_59, k9e_244_68, k9e_244_71, k9e_244_73, k9e_244_76, k9e_244_79, k9e_244_85, k9e_244_104, k9e_244_105, k9e_244_107, k9e_244_108, k9e_244_113, k9e_244_132, k9e_244_133, k9e_244_135, Nat.reduceEqDiff, Int.reduceEq, Int.reduceLT, Int.reduceLE, k9_ps_s, k9_ps_n, k9_ur, false_and, and_false, true_and, and_true, true_or, or_true, false_or, or_false, eq_self, ↓reduceIte, not_true_eq_false, not_false_eq_true, n_toInt, n_cl, nI_1, nI_add, n_a0, n_p2, n_p3, n_p4, n_x2, n_x3, n_x4, n_x60, n_x100, n_pm1, k9L_m2, k9L_m1, k9L_0, k9L_1, k9L_2, k9L_3, k9L_4, k9L_5, k9L_6, k9L_7, k9L_8, k9L_9, k9L_10, k9L_20, k9L_23, k9L_24, k9L_30, k9L_40, k9L_50, k9L_60, k9L_99, k9L_100, k9L_120, k9L_255, k9L_999, k9L_1000, k9_bs, k9_ba]
      repeat (first | ((with_reducible refine k9q_T ?_ ?_); · omega) | ((with_reducible refine k9q_F ?_ ?_); · omega) | ((with_reducible refine k9q_Tb ?_ ?_); · omega) | ((with_reducible refine k9q_Fb ?_ ?_); · omega) | simp (disch := omega) only [k9e_244_0, k9e_244_2, k9e_244_3, k9e_244_5, k9e_244_6, k9e_244_8, k9e_244_12, k9e_244_14, k9e_244_18, k9e_244_20, k9e_244_22, k9e_244_25, k9e_244_26, k9e_244_29, k9e_244_30, k9e_244_34, k9e_244_38, k9e_244_39, k9e_244_41, k9e_244_43, k9e_244_45, k9e_244_47, k9e_244_56, k9e_244_59, k9e_244_68, k9e_244_71, k9e_244_73, k9e_244_76, k9e_244_79, k9e_244_85, k9e_244_104, k9e_244_105, k9e_244_107, k9e_244_108, k9e_244_113, k9e_244_132, k9e_244_133, k9e_244_135, Nat.reduceEqDiff, Int.reduceEq, Int.reduceLT, Int.reduceLE, k9_ps_s, k9_ps_n, k9_ur, false_and, and_false, true_and, and_true, true_or, or_true, false_or, or_false, eq_self, ↓reduceIte, not_true_eq_false, not_false_eq_true, n_toInt, n_cl, nI_1, nI_add, n_a0, n_p2, n_p3, n_p4, n_x2, n_x3, n_x4, n_x60, n_x100, n_pm1, k9L_m2, k9L_m1, k9L_0, k9L_1, k9L_2, k9L_3, k9L_4, k9L_5, k9L_6, k9L_7, k9L_8, k9L_9, k9L_10, k9L_20, k9L_23, k9L_24, k9L_30, k9L_40, k9L_50, k9L_60, k9L_99, k9L_100, k9L_120, k9L_255, k9L_999, k9L_1000, k9_bs, k9_ba])
      exact k9o_ret rfl
    | succ m ih =>
      intro k J1 hk hT
      have hT2 := k9_Tk_s (m := j + k) hT (lo' := j) (hi' := j + (k + 1)) (Or.inl ⟨rfl, rfl, by omega, by omega⟩)
      obtain ⟨J', e, r⟩ := ih (k + 1) _ (by omega) hT2
      refine ⟨J', k9o_of (k9o_eq k9e_244_110 ?_), r⟩
      have hr : J1 62 0 (60 * s + i + k) = J 62 0 (60 * s + i + k) := by
        rw [hT, if_neg (by omega)]
      rw [Nat.add_sub_cancel_left, hnm k (by omega), ← Nat.add_assoc] at e
      simp (disch := omega) only [k9e_244_0, k9e_244_2, k9e_244_3, k9e_244_5, k9e_244_6, k9e_244_8, k9e_244_12, k9e_244_14, k9e_244_18, k9e_244_20, k9e_244_22, k9e_244_25, k9e_244_26, k9e_244_29, k9e_244_30, k9e_244_34, k9e_244_38, k9e_244_39, k9e_244_41, k9e_244_43, k9e_244_45, k9e_244_47, k9e_244_56, k9e_244_59, k9e_244_68, k9e_244_71, k9e_244_73, k9e_244_76, k9e_244_79, k9e_244_85, k9e_244_104, k9e_244_105, k9e_244_107, k9e_244_108, k9e_244_113, k9e_244_132, k9e_244_133, k9e_244_135, Nat.reduceEqDiff, Int.reduceEq, Int.reduceLT, Int.reduceLE, k9_ps_s, k9_ps_n, k9_ur, false_and, and_false, true_and, and_true, true_or, or_true, false_or, or_false, eq_self, ↓reduceIte, not_true_eq_false, not_false_eq_true, n_toInt, n_cl, nI_1, nI_add, n_a0, n_p2, n_p3, n_p4, n_x2, n_x3, n_x4, n_x60, n_x100, n_pm1, k9L_m2, k9L_m1, k9L_0, k9L_1, k9L_2, k9L_3, k9L_4, k9L_5, k9L_6, k9L_7, k9L_8, k9L_9, k9L_10, k9L_20, k9L_23, k9L_24, k9L_30, k9L_40, k9L_50, k9L_60, k9L_99, k9L_100, k9L_120, k9L_255, k9L_999, k9L_1000, k9_bs, k9_ba, hr]
      repeat (first | ((with_reducible refine k9q_T ?_ ?_); · omega) | ((with_reducible refine k9q_F ?_ ?_); · omega) | ((with_reducible refine k9q_Tb ?_ ?_); · omega) | ((with_reducible refine k9q_Fb ?_ ?_); · omega) | simp (disch := omega) only [k9e_244_0, k9e_244_2, k9e_244_3, k9e_244_5, k9e_244_6, k9e_244_8, k9e_244_12, k9e_244_14, k9e_244_18, k9e_244_20, k9e_244_22, k9e_244_25, k9e_244_26, k9e_244_29, k9e_244_30, k9e_244_34, k9e_244_38, k9e_244_39, k9e_244_41, k9e_244_43, k9e_244_45, k9e_244_47, k9e_244_56, k9e_244_59, k9e_244_68, k9e_244_71, k9e_244_73, k9e_244_76, k9e_244_79, k9e_244_85, k9e_244_104, k9e_244_105, k9e_244_107, k9e_244_108, k9e_244_113, k9e_244_132, k9e_244_133, k9e_244_135, Nat.reduceEqDiff, Int.reduceEq, Int.reduceLT, Int.reduceLE, k9_ps_s, k9_ps_n, k9_ur, false_and, and_false, true_and, and_true, true_or, or_true, false_or, or_false, eq_self, ↓reduceIte, not_true_eq_false, not_false_eq_true, n_toInt, n_cl, nI_1, nI_add, n_a0, n_p2, n_p3, n_p4, n_x2, n_x3, n_x4, n_x60, n_x100, n_pm1, k9L_m2, k9L_m1, k9L_0, k9L_1, k9L_2, k9L_3, k9L_4, k9L_5, k9L_6, k9L_7, k9L_8, k9L_9, k9L_10, k9L_20, k9L_23, k9L_24, k9L_30, k9L_40, k9L_50, k9L_60, k9L_99, k9L_100, k9L_120, k9L_255, k9L_999, k9L_1000, k9_bs, k9_ba, hr])
      exact k9o_to e rfl
  rw [k9e_244_108]
  exact key n 0 J (by omega) (fun k' i' p' => by rw [if_neg (by omega)])
theorem k9s_244b {q s i j n : Nat} (hs : s < 6) (hi : i + n ≤ 60) (hj : j + n ≤ 60) (hij : i < j) (hnm : ∀ p, p < n → p_nm q (J 62 0 (60 * s + i + p)) = J 62 0 (60 * s + i + p)) : ∃ J', k9_R S d 244 79 [some (k9_r 12 0), some (k9_i (nI s)), some (k9_i (nI i)), some (k9_i (nI s)), some (k9_i (nI j)), some (k9_i (nI n)), none] [] I J = some (some (k9_i (nI n)), I, J') ∧ k9_Tk J J' 62 0 (60 * s) (60 * s) q 0 0 i j j (j + n) := by
  have key : ∀ m J1, m ≤ n → k9_Tk J J1 62 0 (60 * s) (60 * s) q 0 0 i j (j + m) (j + n) → ∃ J', k9_R S d 244 83 [some (k9_r 12 0), some (k9_i (nI s)), some (k9_i (nI i)), some (k9_i (nI s)), some (k9_i (nI j)), some (k9_i (nI n)), some (k9_i (nI m - 1))] [] I J1 = some (some (k9_i (nI n)), I, J') ∧ k9_Tk J J' 62 0 (60 * s) (60 * s) q 0 0 i j j (j + n) := by
    intro m
    induction m with
    | zero =>
      intro J1 hk hT
      refine ⟨J1, k9o_of (k9o_eq k9e_244_83 ?_), hT⟩
      refine k9o_T (by rw [n_pm1 (by omega)]; omega) (k9o_eq k9e_244_107 (k9o_eq k9e_244_135 (k9o_ret rfl)))
    | succ m ih =>
      intro J1 hk hT
      have hT2 := k9_Tk_s (m := j + m) hT (lo' := j + m) (hi' := j + n) (Or.inr ⟨by omega, rfl, rfl, by omega⟩)
      obtain ⟨J', e, r⟩ := ih _ (by omega) hT2
      refine ⟨J', k9o_of (k9o_eq k9e_244_83 ?_), r⟩
      have hr : J1 62 0 (60 * s + i + m) = J 62 0 (60 * s + i + m) := by
        rw [hT, if_neg (by omega)]
      rw [Nat.add_sub_cancel_left, hnm m (by omega), ← Nat.add_assoc] at e
      rw [n_s1 (by omega), Nat.add_sub_cancel]
      have em : nI m + (-1) = nI m - 1 := by rw [Int32.sub_eq_add_neg]
      simp (disch := omega) only [k9e_244_0, k9e_244_2, k9e_244_3, k9e_244_5, k9e_244_6, k9e_244_8, k9e_244_12, k9e_244_14, k9e_244_18, k9e_244_20, k9e_244_22, k9e_244_25, k9e_244_26, k9e_244_29, k9e_244_30, k9e_244_34, k9e_244_38, k9e_244_39, k9e_244_41, k9e_244_43, k9e_244_45, k9e_244_47, k9e_244_56, k9e_244_59, k9e_244_68, k9e_244_71, k9e_244_73, k9e_244_76, k9e_244_79, k9e_244_85, k9e_244_104, k9e_244_105, k9e_244_107, k9e_244_108, k9e_244_113, k9e_244_132, k9e_244_133, k9e_244_135, Nat.reduceEqDiff, Int.reduceEq, Int.reduceLT, Int.reduceLE, k9_ps_s, k9_ps_n, k9_ur, false_and, and_false, true_and, and_true, true_or, or_true, false_or, or_false, eq_self, ↓reduceIte, not_true_eq_false, not_false_eq_true, n_toInt, n_cl, nI_1, nI_add, n_a0, n_p2, n_p3, n_p4, n_x2, n_x3, n_x4, n_x60, n_x100, n_pm1, k9L_m2, k9L_m1, k9L_0, k9L_1, k9L_2, k9L_3, k9L_4, k9L_5, k9L_6, k9L_7, k9L_8, k9L_9, k9L_10, k9L_20, k9L_23, k9L_24, k9L_30, k9L_40, k9L_50, k9L_60, k9L_99, k9L_100, k9L_120, k9L_255, k9L_999, k9L_1000, k9_bs, k9_ba, hr, em]
      repeat (first | ((with_reducible refine k9q_T ?_ ?_); · omega) | ((with_reducible refine k9q_F ?_ ?_); · omega) | ((with_reducible refine k9q_Tb ?_ ?_); · omega) | ((with_reducible refine k9q_Fb ?_ ?_); · omega) | simp (disch := omega) only [k9e_244_0, k9e_244_2, k9e_244_3, k9e_244_5, k9e_244_6, k9e_244_8, k9e_244_12, k9e_244_14, k9e_244_18, k9e_244_20, k9e_244_22, k9e_244_25, k9e_244_26, k9e_244_29, k9e_244_30, k9e_244_34, k9e_244_38, k9e_244_39, k9e_244_41, k9e_244_43, k9e_244_45, k9e_244_47, k9e_244_56, k9e_244_59, k9e_244_68, k9e_244_71, k9e_244_73, k9e_244_76, k9e_244_79, k9e_244_85, k9e_244_104, k9e_244_105, k9e_244_107, k9e_244_108, k9e_244_113, k9e_244_132, k9e_244_133, k9e_244_135, Nat.reduceEqDiff, Int.reduceEq, Int.reduceLT, Int.reduceLE, k9_ps_s, k9_ps_n, k9_ur, false_and, and_false, true_and, and_true, true_or, or_true, false_or, or_false, eq_self, ↓reduceIte, not_true_eq_false, not_false_eq_true, n_toInt, n_cl, nI_1, nI_add, n_a0, n_p2, n_p3, n_p4, n_x2, n_x3, n_x4, n_x60, n_x100, n_pm1, k9L_m2, k9L_m1, k9L_0, k9L_1, k9L_2, k9L_3, k9L_4, k9L_5, k9L_6, k9L_7, k9L_8, k9L_9, k9L_10, k9L_20, k9L_23, k9L_24, k9L_30, k9L_40, k9L_50, k9L_60, k9L_99, k9L_100, k9L_120, k9L_255, k9L_999, k9L_1000, k9_bs, k9_ba, hr, em])
      exact k9o_to e rfl
  rw [k9e_244_79]
  exact key n J (Nat.le_refl _) (fun k' i' p' => by rw [if_neg (by omega)])
end KT8
