/-! SEEN: which; LIES: measure -/
section KT20
variable {S : k9_S} {d : Nat} {I I' : k9_I} {J J' : k9_J} {w : Nat → Nat → Nat} {V : (Nat → Int32) → Int32} {b : Nat} {x1 x2 x3 : Int32} {h c : Nat → Nat} {L A f M : Nat}
/-- of the reference: its scratch, and one of its ways -/
def k9_F2 (p0 k i p : Nat) : Bool := k9_Fq k i p || k9_F44 k i p || (Nat.beq k 44 && Nat.beq i 0 && Nat.beq p p0)
theorem k9_F2_q {p0 : Nat} {I1 I2 : k9_I} (h : k9_fx k9_Fq I1 I2) : k9_fx (k9_F2 p0) I1 I2 := k9_fx_w h (fun k i p e => by
  unfold k9_F2 at e
  exact (Bool.or_eq_false_iff.mp (Bool.or_eq_false_iff.mp e).1).1)
theorem k9_F2_44 {p0 : Nat} {I1 I2 : k9_I} (h : k9_fx k9_F44 I1 I2) : k9_fx (k9_F2 p0) I1 I2 := k9_fx_w h (fun k i p e => by
  unfold k9_F2 at e
  exact (Bool.or_eq_false_iff.mp (Bool.or_eq_false_iff.mp e).1).2)
theorem k9_F2_t (p0 : Nat) : k9_F2 p0 44 0 p0 = true := by
  unfold k9_F2
  rw [k9_beq_self p0]
  rfl
/-- the way is laid back: scratch alone has changed -/
theorem k9_F2_e {p0 : Nat} (hp : p0 < 3) (h : k9_fx (k9_F2 p0) I I') : k9_fp (k9_Xs []) I (k9_u I' 44 0 p0 (I 44 0 p0)) := by
  intro k i p e
  rw [k9_ur]
  by_cases c : k = 44 ∧ i = 0 ∧ p = p0
  · obtain ⟨rfl, rfl, rfl⟩ := c
    rw [if_pos ⟨rfl, rfl, rfl⟩]
  · rw [if_neg c]
    refine h k i p ?_
    unfold k9_F2
    have e44 : (Nat.beq k 44 && Nat.beq i 0 && Nat.beq p p0) = false := by
      cases hb : (Nat.beq k 44 && Nat.beq i 0 && Nat.beq p p0) with
      | false => rfl
      | true =>
        simp only [Bool.and_eq_true] at hb
        exact absurd ⟨k9_beq_of hb.1.1, k9_beq_of hb.1.2, k9_beq_of hb.2⟩ c
    rw [e44, Bool.or_false]
    cases hq : k9_Fq k i p with
    | true =>
      have hx := k9_Fq_X (X := k9_Xs []) rfl k i p hq
      rw [hx] at e
      cases e
    | false =>
      cases hz : k9_F44 k i p with
      | true =>
        have hx := k9_F44_X (X := k9_Xs []) rfl k i p hz
        rw [hx] at e
        cases e
      | false => rfl
theorem k9_Wm_44 {I1 : k9_I} {p0 m : Nat} (hM : k9_Wm I w) (hx : k9_fx (k9_F2 p0) I I1) (hp : p0 < 3) : k9_Wm (k9_u I1 44 0 p0 (nI m)) (p_up w (4 + p0) 0 m) := by
  obtain ⟨a0, a1, a2, a3, a4⟩ := hM
  have r44 : ∀ p, p ≠ p0 → I1 44 0 p = I 44 0 p := fun p hpp => hx 44 0 p (by
    unfold k9_F2
    cases hb : Nat.beq p p0 with
    | true => exact absurd (k9_beq_of hb) hpp
    | false => rfl)
  have h3 : p0 = 0 ∨ p0 = 1 ∨ p0 = 2 := by omega
  refine ⟨?_, ?_, ?_, ?_, fun p hp' => ?_⟩
  · simp only [k9_ur, Nat.reduceEqDiff, false_and, ↓reduceIte]
    rw [hx 12 0 0 rfl, a0, p_up, if_neg (by omega)]
  · rcases h3 with rfl | rfl | rfl
    · simp [k9_ur, p_up]
    · simp [k9_ur, p_up, r44 0 (by omega), a1]
    · simp [k9_ur, p_up, r44 0 (by omega), a1]
  · rcases h3 with rfl | rfl | rfl
    · simp [k9_ur, p_up, r44 1 (by omega), a2]
    · simp [k9_ur, p_up]
    · simp [k9_ur, p_up, r44 1 (by omega), a2]
  · rcases h3 with rfl | rfl | rfl
    · simp [k9_ur, p_up, r44 2 (by omega), a3]
    · simp [k9_ur, p_up, r44 2 (by omega), a3]
    · simp [k9_ur, p_up]
  · have hp2 : p < w 7 0 := by
      have e : p_up w (4 + p0) 0 m 7 0 = w 7 0 := by rw [p_up, if_neg (by omega)]
      omega
    simp only [k9_ur, Nat.reduceEqDiff, false_and, ↓reduceIte]
    rw [hx 40 0 p rfl, hx 41 0 p rfl, hx 42 0 p rfl, hx 43 0 p rfl, p_up, p_up, p_up, p_up, if_neg (by omega), if_neg (by omega), if_neg (by omega), if_neg (by omega)]
    exact a4 p hp2
/-- the reference runs with one of its ways told otherwise -/
theorem k9_run2 {I1 : k9_I} {p0 m : Nat} (v : k9_Iv I J w V b) (hx : k9_fx (k9_F2 p0) I I1) (hp : p0 < 3) (h1 : p_lo (4 + p0) ≤ m) (h2 : m ≤ p_hi (4 + p0)) : ∃ I2, k9_R S (d + 5) 190 0 [some (k9_r 12 0)] [] (k9_u I1 44 0 p0 (nI m)) J = some (none, I2, J) ∧ k9_Mr I2 (p_len (p_up w (4 + p0) 0 m)) (p_sh (p_up w (4 + p0) 0 m) (p_tt (p_up w (4 + p0) 0 m)) V) (p_co (p_up w (4 + p0) 0 m)) ∧ k9_fx (k9_F2 p0) I I2 := by
  have hM := k9_Wm_44 (m := m) v.1.2.1 hx hp
  have hwf : k9_wf (p_up w (4 + p0) 0 m) := k9_wf_up v.1.2.2.1 (Or.inr ⟨by omega, by omega, rfl⟩) h1 h2
  have hx1 : k9_fx (k9_F2 p0) I (k9_u I1 44 0 p0 (nI m)) := k9_fx_u hx (k9_F2_t p0)
  have hV : k9_ML (k9_u I1 44 0 p0 (nI m)) V := k9_ML_x hx1 ⟨rfl, rfl, fun _ => rfl, fun _ => rfl, fun _ => rfl, fun _ => rfl⟩ v.2.2.1.2
  obtain ⟨I2, e2, m2, x2⟩ := k9s_190 (S := S) (d := d) (J := J) hM hwf hV
  exact ⟨I2, e2, m2, k9_fx_tr hx1 (k9_F2_q x2)⟩
theorem k9_Wk_m {I1 : k9_I} {a q m : Nat} (hq : q = 4 ∨ q = 5 ∨ q = 6) (hW : k9_Wk I1 1 (p_up w q 0 a)) : k9_Wk (k9_u I1 3 1 (q - 3) (nI m)) 1 (p_up w q 0 m) := by
  have h := k9_Wk_up (q := q) (p := 0) (v := m) hW (Or.inr ⟨by omega, by omega, rfl⟩)
  rw [p_up_up] at h
  rcases hq with rfl | rfl | rfl
  · exact h
  · exact h
  · exact h
theorem k9_CL_t {I1 : k9_I} (hx : k9_fx k9_Ft I I1) (hC : k9_CL I V) : k9_CL I1 V := k9_CL_fx hC (hx 6 0 0 rfl) (hx 6 0 1 rfl) (hx 6 0 3 rfl) (funext fun p => hx 28 0 p rfl)
theorem k9_by_x {I1 : k9_I} {s z : Nat} (hx : k9_fx k9_Ft I I1) (h : k9_byr I s z) : k9_byr I1 s z := k9_by_t (funext fun p => hx 11 s p rfl) (hx 60 0 s rfl) (hx 61 0 s rfl) h
def p_wb (g : Nat → Int32) : Nat → Int32
  | 0 => 0
  | m + 1 => if g m = -2 then p_wb g m ||| (1 <<< (nI m &&& 31)) else p_wb g m
theorem t_which (hI : k9_Inv I J) : k9_P S (d + 20) 121 218 [some (k9_r 1 0), some (k9_i x1), some (k9_i x2), none, none, none] [some (k9_r 12 0), some (k9_i x1), some (k9_i x2), none, none, none, none] I J k9_Inv := by
  have hI' := hI
  obtain ⟨w, V, b, v⟩ := hI
  have v : k9_Iv I J w V b := v
  have hf := v.1.2.2.1
  have hlen := p_len_b hf
  have hb := v.2.2.2.2.1.1
  have v6 := v.2.2.2.2.2.1
  refine k9P_of ?_
  by_cases h1 : 0 ≤ x1.toInt ∧ x1.toInt ≤ 5
  · by_cases h2 : 0 ≤ x2.toInt ∧ x2.toInt ≤ 999
    · obtain ⟨s, rfl, hs, -⟩ := n_of (x := x1) (by omega)
      obtain ⟨t, rfl, ht, -⟩ := n_of (x := x2) (by omega)
      have hs6 : s < 6 := by omega
      rcases k9_byrs hb (v6.1 s hs6) with ⟨z, hz⟩ | ⟨r, hr⟩
      · obtain ⟨I1, e1, w1, x1'⟩ := k9s_15 (S := S) (d := d + 17) (I := I) (J := J) (i0 := 1) (i1 := 0) (by decide) v.1.1 hf
        obtain ⟨g, hg⟩ : ∃ g : Nat → Int32, g = fun m => p_fu (p_sh (p_up w 4 0 m) (p_tt (p_up w 4 0 m)) V) (fun i => (J 37 s i).toInt32) t z 0 := ⟨_, rfl⟩
        have hgu : ∀ m, g m = p_fu (p_sh (p_up w 4 0 m) (p_tt (p_up w 4 0 m)) V) (fun i => (J 37 s i).toInt32) t z 0 := fun m => by rw [hg]
        have kc : ∀ k m I2, m + k = 5 → (∃ a, k9_Wk I2 1 (p_up w 4 0 a)) → k9_fx k9_Ft I I2 → ∃ I3, k9_ok (k9_R S (d + 20) 121 28 [some (k9_r 1 0), some (k9_i (nI s)), some (k9_i (nI t)), some (k9_r 11 s), some (k9_i (p_wb g m)), some (k9_i (nI m))] [] I2 J) (fun q => q = (some (k9_i (p_wb g 5)), I3, J)) ∧ k9_fx k9_Ft I I3 := by
          intro k
          induction k with
          | zero =>
            intro m I2 hm ha hx
            obtain rfl : m = 5 := by omega
            exact ⟨I2, k9o_eq k9e_121_28 (k9o_T (by decide) (k9o_eq k9e_121_49 (k9o_ret rfl))), hx⟩
          | succ k ih =>
            intro m I2 hm ha hx
            obtain ⟨a, ha⟩ := ha
            have hW2 := k9_Wk_m (m := m) (Or.inl rfl) ha
            have hx2 : k9_fx k9_Ft I (k9_u I2 3 1 1 (nI m)) := k9_fx_u hx rfl
            have hwf : k9_wf (p_up w 4 0 m) := k9_wf_up hf (Or.inr ⟨by omega, by omega, rfl⟩) (by simp [p_lo]) (by simp [p_hi]; omega)
            obtain ⟨I3, e3, x3⟩ := k9s_151 (S := S) (d := d + 13) (J := J) (t := t) hW2 hwf (k9_CL_t hx2 v.2.2.1.1) (k9_by_x hx2 hz) (by omega)
            rw [← hgu m] at e3
            obtain ⟨I4, o4, x4⟩ := ih (m + 1) I3 (by omega) ⟨m, k9_Wk_fx x3 (fun _ => ⟨rfl, rfl, rfl, rfl, rfl⟩) hW2⟩ (k9_fx_tr hx2 (k9_Ft_b x3))
            refine ⟨I4, ?_, x4⟩
            rw [p_wb] at o4
            refine k9o_eq k9e_121_28 (k9o_F (by rw [n_toInt (by omega)]; omega) (k9o_eq k9e_121_31 (k9o_call e3 ?_)))
            simp only [k9_ps_s]
            refine k9o_eq k9e_121_40 ?_
            by_cases c : g m = -2
            · rw [if_pos c] at o4
              rw [if_pos c]
              refine k9o_F (by decide) (k9o_eq k9e_121_41 (k9o_eq k9e_121_47 ?_))
              rw [nI_1]
              exact o4
            · rw [if_neg c] at o4
              rw [if_neg c]
              refine k9o_T (by decide) (k9o_eq k9e_121_47 ?_)
              rw [nI_1]
              exact o4
        obtain ⟨I2, o2, x2⟩ := kc 5 0 I1 (by omega) ⟨w 4 0, by rw [p_up_id]; exact w1⟩ (k9_Ft_w x1')
        have i2 : k9_Iv I2 J w V b := k9_Iv_0 (k9_fp_x x2 (k9_Ft_X rfl)) v
        have by2 := k9_by_x x2 hz
        simp (disch := omega) only [k9e_121_0, k9e_121_3, k9e_121_3b, k9e_121_8, k9e_121_9, k9e_121_9b, k9e_121_11, k9e_121_13, k9e_121_14, k9e_121_16, k9e_121_17, k9e_121_24, k9e_144_0, k9e_144_2, k9e_144_5, k9e_144_9, k9e_144_10, k9e_144_11, k9e_144_11b, k9e_145_0, k9e_145_2, k9e_145_5, k9e_145_7, k9e_145_8, Nat.reduceEqDiff, Int.reduceEq, Int.reduceLT, Int.reduceLE, k9_ps_s, k9_ps_n, k9_ur, false_and, and_false, true_and, and_true, true_or, or_true, false_or, or_false, eq_self, ↓reduceIte, not_true_eq_false, not_false_eq_true, n_toInt, n_cl, nI_1, nI_add, n_a0, n_p2, n_p3, n_p4, n_x2, n_x3, n_x4, n_x60, n_x100, n_pm1, k9L_m2, k9L_m1, k9L_0, k9L_1, k9L_2, k9L_3, k9L_4, k9L_5, k9L_6, k9L_7, k9L_8, k9L_9, k9L_10, k9L_20, k9L_23, k9L_24, k9L_30, k9L_40, k9L_50, k9L_60, k9L_99, k9L_100, k9L_120, k9L_255, k9L_999, k9L_1000, k9_bs, k9_ba]
        repeat (first | ((with_reducible refine k9q_T ?_ ?_); · omega) | ((with_reducible refine k9q_F ?_ ?_); · omega) | ((with_reducible refine k9q_Tb ?_ ?_); · omega) | ((with_reducible refine k9q_Fb ?_ ?_); · omega) | (refine k9o_call (k9s_91 hz) ?_; simp (disch := omega) only [k9e_121_0, k9e_121_3, k9e_121_3b, k9e_121_8, k9e_121_9, k9e_121_9b, k9e_121_11, k9e_121_13, k9e_121_14, k9e_121_16, k9e_121_17, k9e_121_24, k9e_144_0, k9e_144_2, k9e_144_5, k9e_144_9, k9e_144_10, k9e_144_11, k9e_144_11b, k9e_145_0, k9e_145_2, k9e_145_5, k9e_145_7, k9e_145_8, Nat.reduceEqDiff, Int.reduceEq, Int.reduceLT, Int.reduceLE, k9_ps_s, k9_ps_n, k9_ur, false_and, and_false, true_and, and_true, true_or, or_true, false_or, or_false, eq_self, ↓reduceIte, not_true_eq_false, not_false_eq_true, n_toInt, n_cl, nI_1, nI_add, n_a0, n_p2, n_p3, n_p4, n_x2, n_x3, n_x4, n_x60, n_x100, n_pm1, k9L_m2, k9L_m1, k9L_0, k9L_1, k9L_2, k9L_3, k9L_4, k9L_5, k9L_6, k9L_7, k9L_8, k9L_9, k9L_10, k9L_20, k9L_23, k9L_24, k9L_30, k9L_40, k9L_50, k9L_60, k9L_99, k9L_100, k9L_120, k9L_255, k9L_999, k9L_1000, k9_bs, k9_ba]) | (refine k9o_call (e1) ?_; simp (disch := omega) only [k9e_121_0, k9e_121_3, k9e_121_3b, k9e_121_8, k9e_121_9, k9e_121_9b, k9e_121_11, k9e_121_13, k9e_121_14, k9e_121_16, k9e_121_17, k9e_121_24, k9e_144_0, k9e_144_2, k9e_144_5, k9e_144_9, k9e_144_10, k9e_144_11, k9e_144_11b, k9e_145_0, k9e_145_2, k9e_145_5, k9e_145_7, k9e_145_8, Nat.reduceEqDiff, Int.reduceEq, Int.reduceLT, Int.reduceLE, k9_ps_s, k9_ps_n, k9_ur, false_and, and_false, true_and, and_true, true_or, or_true, false_or, or_false, eq_self, ↓reduceIte, not_true_eq_false, not_false_eq_true, n_toInt, n_cl, nI_1, nI_add, n_a0, n_p2, n_p3, n_p4, n_x2, n_x3, n_x4, n_x60, n_x100, n_pm1, k9L_m2, k9L_m1, k9L_0, k9L_1, k9L_2, k9L_3, k9L_4, k9L_5, k9L_6, k9L_7, k9L_8, k9L_9, k9L_10, k9L_20, k9L_23, k9L_24, k9L_30, k9L_40, k9L_50, k9L_60, k9L_99, k9L_100, k9L_120, k9L_255, k9L_999, k9L_1000, k9_bs, k9_ba]) | simp (disch := omega) only [k9e_121_0, k9e_121_3, k9e_121_3b, k9e_121_8, k9e_121_9, k9e_121_9b, k9e_121_11, k9e_121_13, k9e_121_14, k9e_121_16, k9e_121_17, k9e_121_24, k9e_144_0, k9e_144_2, k9e_144_5, k9e_144_9, k9e_144_10, k9e_144_11, k9e_144_11b, k9e_145_0, k9e_145_2, k9e_145_5, k9e_145_7, k9e_145_8, Nat.reduceEqDiff, Int.reduceEq, Int.reduceLT, Int.reduceLE, k9_ps_s, k9_ps_n, k9_ur, false_and, and_false, true_and, and_true, true_or, or_true, false_or, or_false, eq_self, ↓reduceIte, not_true_eq_false, not_false_eq_true, n_toInt, n_cl, nI_1, nI_add, n_a0, n_p2, n_p3, n_p4, n_x2, n_x3, n_x4, n_x60, n_x100, n_pm1, k9L_m2, k9L_m1, k9L_0, k9L_1, k9L_2, k9L_3, k9L_4, k9L_5, k9L_6, k9L_7, k9L_8, k9L_9, k9L_10, k9L_20, k9L_23, k9L_24, k9L_30, k9L_40, k9L_50, k9L_60, k9L_99, k9L_100, k9L_120, k9L_255, k9L_999, k9L_1000, k9_bs, k9_ba])
        obtain ⟨q1, c1, rfl⟩ := o2
        refine k9o_to c1 ⟨_, _, _, rfl, ?_⟩
        have km : ∀ k m I3, m + k = 5 → k9_fx (k9_F2 0) I2 I3 → k9_ok (k9_R S (d + 20) 218 25 [some (k9_r 12 0), some (k9_i (nI s)), some (k9_i (nI t)), some (k9_i 0), some (k9_i (I2 44 0 0)), some (k9_i (p_wb g m)), some (k9_i (nI m))] [] I3 J) (fun q => ∃ I4 J4, q = (some (k9_i (p_wb g 5)), I4, J4) ∧ k9_Inv I4 J4) := by
          intro k
          induction k with
          | zero =>
            intro m I3 hm hx
            obtain rfl : m = 5 := by omega
            refine k9o_eq k9e_218_25 (k9o_T (by decide) (k9o_eq k9e_218_49 (k9o_ret ⟨_, _, rfl, ?_⟩)))
            exact k9_Iv_e (k9_Iv_0 (k9_F2_e (by omega) hx) i2)
          | succ k ih =>
            intro m I3 hm hx
            obtain ⟨I4, e4, m4, x4⟩ := k9_run2 (S := S) (d := d + 14) (p0 := 0) (m := m) i2 hx (by omega) (by simp [p_lo]) (by simp [p_hi]; omega)
            have e216 := k9s_216 (S := S) (d := d + 18) (J := J) (s := s) (t := t) (z := z) m4 hs6 hz.2.2.2.2.2 ((x4 61 0 s rfl).trans by2.2.2.2.2.1) (by omega) (fun p hp => v6.2 s hs6 p hp)
            have e216 : k9_R S (d + 19) 216 0 [some (k9_r 12 0), some (k9_i (nI s)), some (k9_i (nI t)), none] [] I4 J = some (some (k9_i (g m)), I4, J) := by rw [hgu m]; exact e216
            have o4 := ih (m + 1) I4 (by omega) x4
            rw [p_wb] at o4
            refine k9o_eq k9e_218_25 (k9o_F (by rw [n_toInt (by omega)]; omega) (k9o_eq k9e_218_28 (k9o_call e4 ?_)))
            simp only [k9_ps_n]
            refine k9o_eq k9e_218_35 (k9o_call e216 ?_)
            simp only [k9_ps_s]
            refine k9o_eq k9e_218_39 ?_
            by_cases c : g m = -2
            · rw [if_pos c] at o4
              refine k9o_T (by rw [c]; decide) (k9o_eq k9e_218_41 (k9o_eq k9e_218_47 ?_))
              rw [nI_1]
              exact o4
            · rw [if_neg c] at o4
              refine k9o_F (fun y => c (n_ext (by rw [y]; decide))) (k9o_eq k9e_218_47 ?_)
              rw [nI_1]
              exact o4
        simp (disch := omega) only [k9e_218_0, k9e_218_2, k9e_218_3, k9e_218_5, k9e_218_6, k9e_218_8, k9e_218_11, k9e_218_14, k9e_218_16, k9e_155_0, k9e_155_4, k9e_156_0, k9e_156_4, Nat.reduceEqDiff, Int.reduceEq, Int.reduceLT, Int.reduceLE, k9_ps_s, k9_ps_n, k9_ur, false_and, and_false, true_and, and_true, true_or, or_true, false_or, or_false, eq_self, ↓reduceIte, not_true_eq_false, not_false_eq_true, n_toInt, n_cl, nI_1, nI_add, n_a0, n_p2, n_p3, n_p4, n_x2, n_x3, n_x4, n_x60, n_x100, n_pm1, k9L_m2, k9L_m1, k9L_0, k9L_1, k9L_2, k9L_3, k9L_4, k9L_5, k9L_6, k9L_7, k9L_8, k9L_9, k9L_10, k9L_20, k9L_23, k9L_24, k9L_30, k9L_40, k9L_50, k9L_60, k9L_99, k9L_100, k9L_120, k9L_255, k9L_999, k9L_1000, k9_bs, k9_ba]
        repeat (first | ((with_reducible refine k9q_T ?_ ?_); · omega) | ((with_reducible refine k9q_F ?_ ?_); · omega) | ((with_reducible refine k9q_Tb ?_ ?_); · omega) | ((with_reducible refine k9q_Fb ?_ ?_); · omega) | (refine k9o_call (k9s_153 (by first | omega | (simp (disch := omega) only [n_toInt, n_pm1, k9L_m2, k9L_m1, k9L_0, k9L_1, k9L_2, k9L_3, k9L_4, k9L_5, k9L_6, k9L_7, k9L_8, k9L_9, k9L_10, k9L_20, k9L_23, k9L_24, k9L_30, k9L_40, k9L_50, k9L_60, k9L_99, k9L_100, k9L_120, k9L_255, k9L_999, k9L_1000]; omega))) ?_; simp (disch := omega) only [k9e_218_0, k9e_218_2, k9e_218_3, k9e_218_5, k9e_218_6, k9e_218_8, k9e_218_11, k9e_218_14, k9e_218_16, k9e_155_0, k9e_155_4, k9e_156_0, k9e_156_4, Nat.reduceEqDiff, Int.reduceEq, Int.reduceLT, Int.reduceLE, k9_ps_s, k9_ps_n, k9_ur, false_and, and_false, true_and, and_true, true_or, or_true, false_or, or_false, eq_self, ↓reduceIte, not_true_eq_false, not_false_eq_true, n_toInt, n_cl, nI_1, nI_add, n_a0, n_p2, n_p3, n_p4, n_x2, n_x3, n_x4, n_x60, n_x100, n_pm1, k9L_m2, k9L_m1, k9L_0, k9L_1, k9L_2, k9L_3, k9L_4, k9L_5, k9L_6, k9L_7, k9L_8, k9L_9, k9L_10, k9L_20, k9L_23, k9L_24, k9L_30, k9L_40, k9L_50, k9L_60, k9L_99, k9L_100, k9L_120, k9L_255, k9L_999, k9L_1000, k9_bs, k9_ba]) | (refine k9o_call (k9s_153x (by first | omega | (simp (disch := omega) only [n_toInt, n_pm1, k9L_m2, k9L_m1, k9L_0, k9L_1, k9L_2, k9L_3, k9L_4, k9L_5, k9L_6, k9L_7, k9L_8, k9L_9, k9L_10, k9L_20, k9L_23, k9L_24, k9L_30, k9L_40, k9L_50, k9L_60, k9L_99, k9L_100, k9L_120, k9L_255, k9L_999, k9L_1000]; omega))) ?_; simp (disch := omega) only [k9e_218_0, k9e_218_2, k9e_218_3, k9e_218_5, k9e_218_6, k9e_218_8, k9e_218_11, k9e_218_14, k9e_218_16, k9e_155_0, k9e_155_4, k9e_156_0, k9e_156_4, Nat.reduceEqDiff, Int.reduceEq, Int.reduceLT, Int.reduceLE, k9_ps_s, k9_ps_n, k9_ur, false_and, and_false, true_and, and_true, true_or, or_true, false_or, or_false, eq_self, ↓reduceIte, not_true_eq_false, not_false_eq_true, n_toInt, n_cl, nI_1, nI_add, n_a0, n_p2, n_p3, n_p4, n_x2, n_x3, n_x4, n_x60, n_x100, n_pm1, k9L_m2, k9L_m1, k9L_0, k9L_1, k9L_2, k9L_3, k9L_4, k9L_5, k9L_6, k9L_7, k9L_8, k9L_9, k9L_10, k9L_20, k9L_23, k9L_24, k9L_30, k9L_40, k9L_50, k9L_60, k9L_99, k9L_100, k9L_120, k9L_255, k9L_999, k9L_1000, k9_bs, k9_ba]) | (refine k9o_call (k9s_208 hs6 by2) ?_; simp (disch := omega) only [k9e_218_0, k9e_218_2, k9e_218_3, k9e_218_5, k9e_218_6, k9e_218_8, k9e_218_11, k9e_218_14, k9e_218_16, k9e_155_0, k9e_155_4, k9e_156_0, k9e_156_4, Nat.reduceEqDiff, Int.reduceEq, Int.reduceLT, Int.reduceLE, k9_ps_s, k9_ps_n, k9_ur, false_and, and_false, true_and, and_true, true_or, or_true, false_or, or_false, eq_self, ↓reduceIte, not_true_eq_false, not_false_eq_true, n_toInt, n_cl, nI_1, nI_add, n_a0, n_p2, n_p3, n_p4, n_x2, n_x3, n_x4, n_x60, n_x100, n_pm1, k9L_m2, k9L_m1, k9L_0, k9L_1, k9L_2, k9L_3, k9L_4, k9L_5, k9L_6, k9L_7, k9L_8, k9L_9, k9L_10, k9L_20, k9L_23, k9L_24, k9L_30, k9L_40, k9L_50, k9L_60, k9L_99, k9L_100, k9L_120, k9L_255, k9L_999, k9L_1000, k9_bs, k9_ba]) | simp (disch := omega) only [k9e_218_0, k9e_218_2, k9e_218_3, k9e_218_5, k9e_218_6, k9e_218_8, k9e_218_11, k9e_218_14, k9e_218_16, k9e_155_0, k9e_155_4, k9e_156_0, k9e_156_4, Nat.reduceEqDiff, Int.reduceEq, Int.reduceLT, Int.reduceLE, k9_ps_s, k9_ps_n, k9_ur, false_and, and_false, true_and, and_true, true_or, or_true, false_or, or_false, eq_self, ↓reduceIte, not_true_eq_false, not_false_eq_true, n_toInt, n_cl, nI_1, nI_add, n_a0, n_p2, n_p3, n_p4, n_x2, n_x3, n_x4, n_x60, n_x100, n_pm1, k9L_m2, k9L_m1, k9L_0, k9L_1, k9L_2, k9L_3, k9L_4, k9L_5, k9L_6, k9L_7, k9L_8, k9L_9, k9L_10, k9L_20, k9L_23, k9L_24, k9L_30, k9L_40, k9L_50, k9L_60, k9L_99, k9L_100, k9L_120, k9L_255, k9L_999, k9L_1000, k9_bs, k9_ba])
        exact km 5 0 I2 (by omega) (k9_fx_rf _ _)
      · have hrr := k9_nb_r hr
        simp (disch := omega) only [k9e_121_0, k9e_121_3, k9e_121_3b, k9e_121_8, k9e_121_9, k9e_121_9b, k9e_121_11, k9e_121_13, k9e_121_14, k9e_121_16, k9e_121_17, k9e_121_24, k9e_144_0, k9e_144_2, k9e_144_5, k9e_144_9, k9e_144_10, k9e_144_11, k9e_144_11b, k9e_145_0, k9e_145_2, k9e_145_5, k9e_145_7, k9e_145_8, Nat.reduceEqDiff, Int.reduceEq, Int.reduceLT, Int.reduceLE, k9_ps_s, k9_ps_n, k9_ur, false_and, and_false, true_and, and_true, true_or, or_true, false_or, or_false, eq_self, ↓reduceIte, not_true_eq_false, not_false_eq_true, n_toInt, n_cl, nI_1, nI_add, n_a0, n_p2, n_p3, n_p4, n_x2, n_x3, n_x4, n_x60, n_x100, n_pm1, k9L_m2, k9L_m1, k9L_0, k9L_1, k9L_2, k9L_3, k9L_4, k9L_5, k9L_6, k9L_7, k9L_8, k9L_9, k9L_10, k9L_20, k9L_23, k9L_24, k9L_30, k9L_40, k9L_50, k9L_60, k9L_99, k9L_100, k9L_120, k9L_255, k9L_999, k9L_1000, k9_bs, k9_ba]
        repeat (first | ((with_reducible refine k9q_T ?_ ?_); · omega) | ((with_reducible refine k9q_F ?_ ?_); · omega) | ((with_reducible refine k9q_Tb ?_ ?_); · omega) | ((with_reducible refine k9q_Fb ?_ ?_); · omega) | (refine k9o_call (k9s_91x hr) ?_; simp (disch := omega) only [k9e_121_0, k9e_121_3, k9e_121_3b, k9e_121_8, k9e_121_9, k9e_121_9b, k9e_121_11, k9e_121_13, k9e_121_14, k9e_121_16, k9e_121_17, k9e_121_24, k9e_144_0, k9e_144_2, k9e_144_5, k9e_144_9, k9e_144_10, k9e_144_11, k9e_144_11b, k9e_145_0, k9e_145_2, k9e_145_5, k9e_145_7, k9e_145_8, Nat.reduceEqDiff, Int.reduceEq, Int.reduceLT, Int.reduceLE, k9_ps_s, k9_ps_n, k9_ur, false_and, and_false, true_and, and_true, true_or, or_true, false_or, or_false, eq_self, ↓reduceIte, not_true_eq_false, not_false_eq_true, n_toInt, n_cl, nI_1, nI_add, n_a0, n_p2, n_p3, n_p4, n_x2, n_x3, n_x4, n_x60, n_x100, n_pm1, k9L_m2, k9L_m1, k9L_0, k9L_1, k9L_2, k9L_3, k9L_4, k9L_5, k9L_6, k9L_7, k9L_8, k9L_9, k9L_10, k9L_20, k9L_23, k9L_24, k9L_30, k9L_40, k9L_50, k9L_60, k9L_99, k9L_100, k9L_120, k9L_255, k9L_999, k9L_1000, k9_bs, k9_ba]) | (refine k9o_call (k9s_92 hr) ?_; simp (disch := omega) only [k9e_121_0, k9e_121_3, k9e_121_3b, k9e_121_8, k9e_121_9, k9e_121_9b, k9e_121_11, k9e_121_13, k9e_121_14, k9e_121_16, k9e_121_17, k9e_121_24, k9e_144_0, k9e_144_2, k9e_144_5, k9e_144_9, k9e_144_10, k9e_144_11, k9e_144_11b, k9e_145_0, k9e_145_2, k9e_145_5, k9e_145_7, k9e_145_8, Nat.reduceEqDiff, Int.reduceEq, Int.reduceLT, Int.reduceLE, k9_ps_s, k9_ps_n, k9_ur, false_and, and_false, true_and, and_true, true_or, or_true, false_or, or_false, eq_self, ↓reduceIte, not_true_eq_false, not_false_eq_true, n_toInt, n_cl, nI_1, nI_add, n_a0, n_p2, n_p3, n_p4, n_x2, n_x3, n_x4, n_x60, n_x100, n_pm1, k9L_m2, k9L_m1, k9L_0, k9L_1, k9L_2, k9L_3, k9L_4, k9L_5, k9L_6, k9L_7, k9L_8, k9L_9, k9L_10, k9L_20, k9L_23, k9L_24, k9L_30, k9L_40, k9L_50, k9L_60, k9L_99, k9L_100, k9L_120, k9L_255, k9L_999, k9L_1000, k9_bs, k9_ba]) | simp (disch := omega) only [k9e_121_0, k9e_121_3, k9e_121_3b, k9e_121_8, k9e_121_9, k9e_121_9b, k9e_121_11, k9e_121_13, k9e_121_14, k9e_121_16, k9e_121_17, k9e_121_24, k9e_144_0, k9e_144_2, k9e_144_5, k9e_144_9, k9e_144_10, k9e_144_11, k9e_144_11b, k9e_145_0, k9e_145_2, k9e_145_5, k9e_145_7, k9e_145_8, Nat.reduceEqDiff, Int.reduceEq, Int.reduceLT, Int.reduceLE, k9_ps_s, k9_ps_n, k9_ur, false_and, and_false, true_and, and_true, true_or, or_true, false_or, or_false, eq_self, ↓reduceIte, not_true_eq_false, not_false_eq_true, n_toInt, n_cl, nI_1, nI_add, n_a0, n_p2, n_p3, n_p4, n_x2, n_x3, n_x4, n_x60, n_x100, n_pm1, k9L_m2, k9L_m1, k9L_0, k9L_1, k9L_2, k9L_3, k9L_4, k9L_5, k9L_6, k9L_7, k9L_8, k9L_9, k9L_10, k9L_20, k9L_23, k9L_24, k9L_30, k9L_40, k9L_50, k9L_60, k9L_99, k9L_100, k9L_120, k9L_255, k9L_999, k9L_1000, k9_bs, k9_ba])
        refine k9o_ret ⟨_, _, _, rfl, ?_⟩
        simp (disch := omega) only [k9e_218_0, k9e_218_2, k9e_218_3, k9e_218_5, k9e_218_6, k9e_218_8, k9e_218_11, k9e_218_14, k9e_218_16, k9e_155_0, k9e_155_4, k9e_156_0, k9e_156_4, Nat.reduceEqDiff, Int.reduceEq, Int.reduceLT, Int.reduceLE, k9_ps_s, k9_ps_n, k9_ur, false_and, and_false, true_and, and_true, true_or, or_true, false_or, or_false, eq_self, ↓reduceIte, not_true_eq_false, not_false_eq_true, n_toInt, n_cl, nI_1, nI_add, n_a0, n_p2, n_p3, n_p4, n_x2, n_x3, n_x4, n_x60, n_x100, n_pm1, k9L_m2, k9L_m1, k9L_0, k9L_1, k9L_2, k9L_3, k9L_4, k9L_5, k9L_6, k9L_7, k9L_8, k9L_9, k9L_10, k9L_20, k9L_23, k9L_24, k9L_30, k9L_40, k9L_50, k9L_60, k9L_99, k9L_100, k9L_120, k9L_255, k9L_999, k9L_1000, k9_bs, k9_ba]
        repeat (first | ((with_reducible refine k9q_T ?_ ?_); · omega) | ((with_reducible refine k9q_F ?_ ?_); · omega) | ((with_reducible refine k9q_Tb ?_ ?_); · omega) | ((with_reducible refine k9q_Fb ?_ ?_); · omega) | (refine k9o_call (k9s_153 (by first | omega | (simp (disch := omega) only [n_toInt, n_pm1, k9L_m2, k9L_m1, k9L_0, k9L_1, k9L_2, k9L_3, k9L_4, k9L_5, k9L_6, k9L_7, k9L_8, k9L_9, k9L_10, k9L_20, k9L_23, k9L_24, k9L_30, k9L_40, k9L_50, k9L_60, k9L_99, k9L_100, k9L_120, k9L_255, k9L_999, k9L_1000]; omega))) ?_; simp (disch := omega) only [k9e_218_0, k9e_218_2, k9e_218_3, k9e_218_5, k9e_218_6, k9e_218_8, k9e_218_11, k9e_218_14, k9e_218_16, k9e_155_0, k9e_155_4, k9e_156_0, k9e_156_4, Nat.reduceEqDiff, Int.reduceEq, Int.reduceLT, Int.reduceLE, k9_ps_s, k9_ps_n, k9_ur, false_and, and_false, true_and, and_true, true_or, or_true, false_or, or_false, eq_self, ↓reduceIte, not_true_eq_false, not_false_eq_true, n_toInt, n_cl, nI_1, nI_add, n_a0, n_p2, n_p3, n_p4, n_x2, n_x3, n_x4, n_x60, n_x100, n_pm1, k9L_m2, k9L_m1, k9L_0, k9L_1, k9L_2, k9L_3, k9L_4, k9L_5, k9L_6, k9L_7, k9L_8, k9L_9, k9L_10, k9L_20, k9L_23, k9L_24, k9L_30, k9L_40, k9L_50, k9L_60, k9L_99, k9L_100, k9L_120, k9L_255, k9L_999, k9L_1000, k9_bs, k9_ba]) | (refine k9o_call (k9s_153x (by first | omega | (simp (disch := omega) only [n_toInt, n_pm1, k9L_m2, k9L_m1, k9L_0, k9L_1, k9L_2, k9L_3, k9L_4, k9L_5, k9L_6, k9L_7, k9L_8, k9L_9, k9L_10, k9L_20, k9L_23, k9L_24, k9L_30, k9L_40, k9L_50, k9L_60, k9L_99, k9L_100, k9L_120, k9L_255, k9L_999, k9L_1000]; omega))) ?_; simp (disch := omega) only [k9e_218_0, k9e_218_2, k9e_218_3, k9e_218_5, k9e_218_6, k9e_218_8, k9e_218_11, k9e_218_14, k9e_218_16, k9e_155_0, k9e_155_4, k9e_156_0, k9e_156_4, Nat.reduceEqDiff, Int.reduceEq, Int.reduceLT, Int.reduceLE, k9_ps_s, k9_ps_n, k9_ur, false_and, and_false, true_and, and_true, true_or, or_true, false_or, or_false, eq_self, ↓reduceIte, not_true_eq_false, not_false_eq_true, n_toInt, n_cl, nI_1, nI_add, n_a0, n_p2, n_p3, n_p4, n_x2, n_x3, n_x4, n_x60, n_x100, n_pm1, k9L_m2, k9L_m1, k9L_0, k9L_1, k9L_2, k9L_3, k9L_4, k9L_5, k9L_6, k9L_7, k9L_8, k9L_9, k9L_10, k9L_20, k9L_23, k9L_24, k9L_30, k9L_40, k9L_50, k9L_60, k9L_99, k9L_100, k9L_120, k9L_255, k9L_999, k9L_1000, k9_bs, k9_ba]) | (refine k9o_call (k9s_208x hs6 hr) ?_; simp (disch := omega) only [k9e_218_0, k9e_218_2, k9e_218_3, k9e_218_5, k9e_218_6, k9e_218_8, k9e_218_11, k9e_218_14, k9e_218_16, k9e_155_0, k9e_155_4, k9e_156_0, k9e_156_4, Nat.reduceEqDiff, Int.reduceEq, Int.reduceLT, Int.reduceLE, k9_ps_s, k9_ps_n, k9_ur, false_and, and_false, true_and, and_true, true_or, or_true, false_or, or_false, eq_self, ↓reduceIte, not_true_eq_false, not_false_eq_true, n_toInt, n_cl, nI_1, nI_add, n_a0, n_p2, n_p3, n_p4, n_x2, n_x3, n_x4, n_x60, n_x100, n_pm1, k9L_m2, k9L_m1, k9L_0, k9L_1, k9L_2, k9L_3, k9L_4, k9L_5, k9L_6, k9L_7, k9L_8, k9L_9, k9L_10, k9L_20, k9L_23, k9L_24, k9L_30, k9L_40, k9L_50, k9L_60, k9L_99, k9L_100, k9L_120, k9L_255, k9L_999, k9L_1000, k9_bs, k9_ba]) | simp (disch := omega) only [k9e_218_0, k9e_218_2, k9e_218_3, k9e_218_5, k9e_218_6, k9e_218_8, k9e_218_11, k9e_218_14, k9e_218_16, k9e_155_0, k9e_155_4, k9e_156_0, k9e_156_4, Nat.reduceEqDiff, Int.reduceEq, Int.reduceLT, Int.reduceLE, k9_ps_s, k9_ps_n, k9_ur, false_and, and_false, true_and, and_true, true_or, or_true, false_or, or_false, eq_self, ↓reduceIte, not_true_eq_false, not_false_eq_true, n_toInt, n_cl, nI_1, nI_add, n_a0, n_p2, n_p3, n_p4, n_x2, n_x3, n_x4, n_x60, n_x100, n_pm1, k9L_m2, k9L_m1, k9L_0, k9L_1, k9L_2, k9L_3, k9L_4, k9L_5, k9L_6, k9L_7, k9L_8, k9L_9, k9L_10, k9L_20, k9L_23, k9L_24, k9L_30, k9L_40, k9L_50, k9L_60, k9L_99, k9L_100, k9L_120, k9L_255, k9L_999, k9L_1000, k9_bs, k9_ba])
        exact k9o_ret ⟨_, _, rfl, hI'⟩
    · obtain ⟨s, rfl, hs, -⟩ := n_of (x := x1) (by omega)
      repeat' (first | ((with_reducible refine k9q_T ?_ ?_); · omega) | ((with_reducible refine k9q_F ?_ ?_); · omega) | ((with_reducible refine k9q_Tb ?_ ?_); · omega) | ((with_reducible refine k9q_Fb ?_ ?_); · omega) | simp (disch := omega) only [k9e_121_0, k9e_121_3, k9e_121_3b, k9e_121_8, k9e_121_9, k9e_121_9b, k9e_144_0, k9e_144_2, k9e_144_5, k9e_144_9, k9e_144_10, k9e_144_11, k9e_144_11b, k9e_145_0, k9e_145_2, k9e_145_5, k9e_145_7, k9e_145_8, Nat.reduceEqDiff, Int.reduceEq, Int.reduceLT, Int.reduceLE, k9_ps_s, k9_ps_n, k9_ur, false_and, and_false, true_and, and_true, true_or, or_true, false_or, or_false, eq_self, ↓reduceIte, not_true_eq_false, not_false_eq_true, n_toInt, n_cl, nI_1, nI_add, n_a0, n_p2, n_p3, n_p4, n_x2, n_x3, n_x4, n_x60, n_x100, n_pm1, k9L_m2, k9L_m1, k9L_0, k9L_1, k9L_2, k9L_3, k9L_4, k9L_5, k9L_6, k9L_7, k9L_8, k9L_9, k9L_10, k9L_20, k9L_23, k9L_24, k9L_30, k9L_40, k9L_50, k9L_60, k9L_99, k9L_100, k9L_120, k9L_255, k9L_999, k9L_1000, k9_bs, k9_ba] | (with_reducible refine k9q_if (fun _ => ?_) (fun _ => ?_)) | (with_reducible refine k9q_ifb (fun _ => ?_) (fun _ => ?_)))
      all_goals refine k9o_ret ⟨_, _, _, rfl, ?_⟩
      all_goals repeat' (first | ((with_reducible refine k9q_T ?_ ?_); · omega) | ((with_reducible refine k9q_F ?_ ?_); · omega) | ((with_reducible refine k9q_Tb ?_ ?_); · omega) | ((with_reducible refine k9q_Fb ?_ ?_); · omega) | (refine k9o_call (k9s_153 (by first | omega | (simp (disch := omega) only [n_toInt, n_pm1, k9L_m2, k9L_m1, k9L_0, k9L_1, k9L_2, k9L_3, k9L_4, k9L_5, k9L_6, k9L_7, k9L_8, k9L_9, k9L_10, k9L_20, k9L_23, k9L_24, k9L_30, k9L_40, k9L_50, k9L_60, k9L_99, k9L_100, k9L_120, k9L_255, k9L_999, k9L_1000]; omega))) ?_; simp (disch := omega) only [k9e_218_0, k9e_218_2, k9e_218_3, k9e_218_5, k9e_218_6, k9e_155_0, k9e_155_4, k9e_156_0, k9e_156_4, Nat.reduceEqDiff, Int.reduceEq, Int.reduceLT, Int.reduceLE, k9_ps_s, k9_ps_n, k9_ur, false_and, and_false, true_and, and_true, true_or, or_true, false_or, or_false, eq_self, ↓reduceIte, not_true_eq_false, not_false_eq_true, n_toInt, n_cl, nI_1, nI_add, n_a0, n_p2, n_p3, n_p4, n_x2, n_x3, n_x4, n_x60, n_x100, n_pm1, k9L_m2, k9L_m1, k9L_0, k9L_1, k9L_2, k9L_3, k9L_4, k9L_5, k9L_6, k9L_7, k9L_8, k9L_9, k9L_10, k9L_20, k9L_23, k9L_24, k9L_30, k9L_40, k9L_50, k9L_60, k9L_99, k9L_100, k9L_120, k9L_255, k9L_999, k9L_1000, k9_bs, k9_ba]) | (refine k9o_call (k9s_153x (by first | omega | (simp (disch := omega) only [n_toInt, n_pm1, k9L_m2, k9L_m1, k9L_0, k9L_1, k9L_2, k9L_3, k9L_4, k9L_5, k9L_6, k9L_7, k9L_8, k9L_9, k9L_10, k9L_20, k9L_23, k9L_24, k9L_30, k9L_40, k9L_50, k9L_60, k9L_99, k9L_100, k9L_120, k9L_255, k9L_999, k9L_1000]; omega))) ?_; simp (disch := omega) only [k9e_218_0, k9e_218_2, k9e_218_3, k9e_218_5, k9e_218_6, k9e_155_0, k9e_155_4, k9e_156_0, k9e_156_4, Nat.reduceEqDiff, Int.reduceEq, Int.reduceLT, Int.reduceLE, k9_ps_s, k9_ps_n, k9_ur, false_and, and_false, true_and, and_true, true_or, or_true, false_or, or_false, eq_self, ↓reduceIte, not_true_eq_false, not_false_eq_true, n_toInt, n_cl, nI_1, nI_add, n_a0, n_p2, n_p3, n_p4, n_x2, n_x3, n_x4, n_x60, n_x100, n_pm1, k9L_m2, k9L_m1, k9L_0, k9L_1, k9L_2, k9L_3, k9L_4, k9L_5, k9L_6, k9L_7, k9L_8, k9L_9, k9L_10, k9L_20, k9L_23, k9L_24, k9L_30, k9L_40, k9L_50, k9L_60, k9L_99, k9L_100, k9L_120, k9L_255, k9L_999, k9L_1000, k9_bs, k9_ba]) | simp (disch := omega) only [k9e_218_0, k9e_218_2, k9e_218_3, k9e_218_5, k9e_218_6, k9e_155_0, k9e_155_4, k9e_156_0, k9e_156_4, Nat.reduceEqDiff, Int.reduceEq, Int.reduceLT, Int.reduceLE, k9_ps_s, k9_ps_n, k9_ur, false_and, and_false, true_and, and_true, true_or, or_true, false_or, or_false, eq_self, ↓reduceIte, not_true_eq_false, not_false_eq_true, n_toInt, n_cl, nI_1, nI_add, n_a0, n_p2, n_p3, n_p4, n_x2, n_x3, n_x4, n_x60, n_x100, n_pm1, k9L_m2, k9L_m1, k9L_0, k9L_1, k9L_2, k9L_3, k9L_4, k9L_5, k9L_6, k9L_7, k9L_8, k9L_9, k9L_10, k9L_20, k9L_23, k9L_24, k9L_30, k9L_40, k9L_50, k9L_60, k9L_99, k9L_100, k9L_120, k9L_255, k9L_999, k9L_1000, k9_bs, k9_ba] | (with_reducible refine k9q_if (fun _ => ?_) (fun _ => ?_)) | (with_reducible refine k9q_ifb (fun _ => ?_) (fun _ => ?_)))
      all_goals exact k9o_ret ⟨_, _, rfl, hI'⟩
  · repeat' (first | ((with_reducible refine k9q_T ?_ ?_); · omega) | ((with_reducible refine k9q_F ?_ ?_); · omega) | ((with_reducible refine k9q_Tb ?_ ?_); · omega) | ((with_reducible refine k9q_Fb ?_ ?_); · omega) | simp (disch := omega) only [k9e_121_0, k9e_121_3, k9e_121_3b, k9e_121_8, k9e_121_9, k9e_121_9b, k9e_144_0, k9e_144_2, k9e_144_5, k9e_144_9, k9e_144_10, k9e_144_11, k9e_144_11b, k9e_145_0, k9e_145_2, k9e_145_5, k9e_145_7, k9e_145_8, Nat.reduceEqDiff, Int.reduceEq, Int.reduceLT, Int.reduceLE, k9_ps_s, k9_ps_n, k9_ur, false_and, and_false, true_and, and_true, true_or, or_true, false_or, or_false, eq_self, ↓reduceIte, not_true_eq_false, not_false_eq_true, n_toInt, n_cl, nI_1, nI_add, n_a0, n_p2, n_p3, n_p4, n_x2, n_x3, n_x4, n_x60, n_x100, n_pm1, k9L_m2, k9L_m1, k9L_0, k9L_1, k9L_2, k9L_3, k9L_4, k9L_5, k9L_6, k9L_7, k9L_8, k9L_9, k9L_10, k9L_20, k9L_23, k9L_24, k9L_30, k9L_40, k9L_50, k9L_60, k9L_99, k9L_100, k9L_120, k9L_255, k9L_999, k9L_1000, k9_bs, k9_ba] | (with_reducible refine k9q_if (fun _ => ?_) (fun _ => ?_)) | (with_reducible refine k9q_ifb (fun _ => ?_) (fun _ => ?_)))
    all_goals refine k9o_ret ⟨_, _, _, rfl, ?_⟩
    all_goals repeat' (first | ((with_reducible refine k9q_T ?_ ?_); · omega) | ((with_reducible refine k9q_F ?_ ?_); · omega) | ((with_reducible refine k9q_Tb ?_ ?_); · omega) | ((with_reducible refine k9q_Fb ?_ ?_); · omega) | (refine k9o_call (k9s_153 (by first | omega | (simp (disch := omega) only [n_toInt, n_pm1, k9L_m2, k9L_m1, k9L_0, k9L_1, k9L_2, k9L_3, k9L_4, k9L_5, k9L_6, k9L_7, k9L_8, k9L_9, k9L_10, k9L_20, k9L_23, k9L_24, k9L_30, k9L_40, k9L_50, k9L_60, k9L_99, k9L_100, k9L_120, k9L_255, k9L_999, k9L_1000]; omega))) ?_; simp (disch := omega) only [k9e_218_0, k9e_218_2, k9e_218_3, k9e_218_5, k9e_218_6, k9e_155_0, k9e_155_4, k9e_156_0, k9e_156_4, Nat.reduceEqDiff, Int.reduceEq, Int.reduceLT, Int.reduceLE, k9_ps_s, k9_ps_n, k9_ur, false_and, and_false, true_and, and_true, true_or, or_true, false_or, or_false, eq_self, ↓reduceIte, not_true_eq_false, not_false_eq_true, n_toInt, n_cl, nI_1, nI_add, n_a0, n_p2, n_p3, n_p4, n_x2, n_x3, n_x4, n_x60, n_x100, n_pm1, k9L_m2, k9L_m1, k9L_0, k9L_1, k9L_2, k9L_3, k9L_4, k9L_5, k9L_6, k9L_7, k9L_8, k9L_9, k9L_10, k9L_20, k9L_23, k9L_24, k9L_30, k9L_40, k9L_50, k9L_60, k9L_99, k9L_100, k9L_120, k9L_255, k9L_999, k9L_1000, k9_bs, k9_ba]) | (refine k9o_call (k9s_153x (by first | omega | (simp (disch := omega) only [n_toInt, n_pm1, k9L_m2, k9L_m1, k9L_0, k9L_1, k9L_2, k9L_3, k9L_4, k9L_5, k9L_6, k9L_7, k9L_8, k9L_9, k9L_10, k9L_20, k9L_23, k9L_24, k9L_30, k9L_40, k9L_50, k9L_60, k9L_99, k9L_100, k9L_120, k9L_255, k9L_999, k9L_1000]; omega))) ?_; simp (disch := omega) only [k9e_218_0, k9e_218_2, k9e_218_3, k9e_218_5, k9e_218_6, k9e_155_0, k9e_155_4, k9e_156_0, k9e_156_4, Nat.reduceEqDiff, Int.reduceEq, Int.reduceLT, Int.reduceLE, k9_ps_s, k9_ps_n, k9_ur, false_and, and_false, true_and, and_true, true_or, or_true, false_or, or_false, eq_self, ↓reduceIte, not_true_eq_false, not_false_eq_true, n_toInt, n_cl, nI_1, nI_add, n_a0, n_p2, n_p3, n_p4, n_x2, n_x3, n_x4, n_x60, n_x100, n_pm1, k9L_m2, k9L_m1, k9L_0, k9L_1, k9L_2, k9L_3, k9L_4, k9L_5, k9L_6, k9L_7, k9L_8, k9L_9, k9L_10, k9L_20, k9L_23, k9L_24, k9L_30, k9L_40, k9L_50, k9L_60, k9L_99, k9L_100, k9L_120, k9L_255, k9L_999, k9L_1000, k9_bs, k9_ba]) | simp (disch := omega) only [k9e_218_0, k9e_218_2, k9e_218_3, k9e_218_5, k9e_218_6, k9e_155_0, k9e_155_4, k9e_156_0, k9e_156_4, Nat.reduceEqDiff, Int.reduceEq, Int.reduceLT, Int.reduceLE, k9_ps_s, k9_ps_n, k9_ur, false_and, and_false, true_and, and_true, true_or, or_true, false_or, or_false, eq_self, ↓reduceIte, not_true_eq_false, not_false_eq_true, n_toInt, n_cl, nI_1, nI_add, n_a0, n_p2, n_p3, n_p4, n_x2, n_x3, n_x4, n_x60, n_x100, n_pm1, k9L_m2, k9L_m1, k9L_0, k9L_1, k9L_2, k9L_3, k9L_4, k9L_5, k9L_6, k9L_7, k9L_8, k9L_9, k9L_10, k9L_20, k9L_23, k9L_24, k9L_30, k9L_40, k9L_50, k9L_60, k9L_99, k9L_100, k9L_120, k9L_255, k9L_999, k9L_1000, k9_bs, k9_ba] | (with_reducible refine k9q_if (fun _ => ?_) (fun _ => ?_)) | (with_reducible refine k9q_ifb (fun _ => ?_) (fun _ => ?_)))
    all_goals exact k9o_ret ⟨_, _, rfl, hI'⟩
end KT20
