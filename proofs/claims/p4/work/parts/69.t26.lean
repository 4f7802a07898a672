/-! ORDERS: totals under an order; off by an order; the reference with a line -/
section KT26
variable {S : k9_S} {d : Nat} {I I' : k9_I} {J J' : k9_J} {w : Nat → Nat → Nat} {V : (Nat → Int32) → Int32} {b : Nat} {x1 x2 x3 : Int32} {h c : Nat → Nat} {L A f M : Nat}
theorem p_sm_c {r r' : Nat → Nat} : ∀ n, (∀ k, k < n → r k = r' k) → p_sm r n = p_sm r' n
  | 0, _ => rfl
  | n + 1, h => by
    rw [p_sm, p_sm, p_sm_c n (fun k hk => h k (by omega)), h n (by omega)]
theorem p_sm_add (r r' : Nat → Nat) : ∀ n, p_sm (fun k => r k + r' k) n = p_sm r n + p_sm r' n
  | 0 => rfl
  | n + 1 => by
    rw [p_sm, p_sm, p_sm, p_sm_add r r' n]
    omega
theorem p_sm_0 : ∀ n, p_sm (fun _ => 0) n = 0
  | 0 => rfl
  | n + 1 => by rw [p_sm, p_sm_0 n]
theorem p_sm_1 : ∀ n, p_sm (fun _ => 1) n = n
  | 0 => rfl
  | n + 1 => by rw [p_sm, p_sm_1 n]
theorem p_sm_at (r : Nat → Nat) (y : Nat) : ∀ n, p_sm (fun x => if y = x then r x else 0) n = if y < n then r y else 0
  | 0 => by simp [p_sm]
  | n + 1 => by
    rw [p_sm, p_sm_at r y n]
    by_cases e : y = n
    · subst e
      rw [if_neg (by omega), if_pos rfl, if_pos (by omega)]
      omega
    · by_cases c : y < n
      · rw [if_pos c, if_neg e, if_pos (by omega)]
        omega
      · rw [if_neg c, if_neg e, if_neg (by omega)]
/-- how often x comes in the first n of an order -/
def p_ot (o : Nat → Nat) (x : Nat) (n : Nat) : Nat := p_sm (fun k => if o k = x then 1 else 0) n
theorem p_sm_o (r o : Nat → Nat) (m : Nat) : ∀ n, (∀ k, k < n → o k < m) → p_sm (fun k => r (o k)) n = p_sm (fun x => r x * p_ot o x n) m
  | 0, _ => by
    rw [p_sm, p_sm_c (r' := fun _ => 0) m (fun k _ => by simp [p_ot, p_sm]), p_sm_0]
  | n + 1, h => by
    have e1 : p_sm (fun x => r x * p_ot o x (n + 1)) m = p_sm (fun x => r x * p_ot o x n + (if o n = x then r x else 0)) m := p_sm_c m (fun k _ => by
      show r k * (p_ot o k n + if o n = k then 1 else 0) = _
      rw [Nat.mul_add]
      by_cases e : o n = k
      · rw [if_pos e, if_pos e, Nat.mul_one]
      · rw [if_neg e, if_neg e, Nat.mul_zero])
    rw [e1, p_sm_add, p_sm_at, if_pos (h n (by omega)), p_sm, p_sm_o r o m n (fun k hk => h k (by omega))]
theorem p_ot_0 (o : Nat → Nat) (x : Nat) : ∀ n, (∀ k, k < n → o k ≠ x) → p_ot o x n = 0
  | 0, _ => rfl
  | n + 1, h => by
    rw [p_ot, p_sm, if_neg (h n (by omega))]
    exact p_ot_0 o x n (fun k hk => h k (by omega))
theorem p_ot_1 (o : Nat → Nat) (x : Nat) : ∀ n, (∀ i j, i < n → j < n → o i = o j → i = j) → p_ot o x n ≤ 1
  | 0, _ => by simp [p_ot, p_sm]
  | n + 1, h => by
    rw [p_ot, p_sm]
    by_cases e : o n = x
    · rw [if_pos e]
      have := p_ot_0 o x n (fun k hk y => by
        have := h k n (by omega) (by omega) (by omega)
        omega)
      rw [p_ot] at this
      omega
    · rw [if_neg e]
      exact p_ot_1 o x n (fun i j hi hj => h i j (by omega) (by omega))
theorem p_sm_full {c : Nat → Nat} (h : ∀ x, c x ≤ 1) : ∀ n, p_sm c n ≤ n ∧ (p_sm c n = n → ∀ x, x < n → c x = 1)
  | 0 => ⟨Nat.le_refl _, fun _ x hx => by omega⟩
  | n + 1 => by
    have hn := p_sm_full h n
    have := h n
    rw [p_sm]
    refine ⟨by omega, fun e x hx => ?_⟩
    by_cases e' : x = n
    · subst e'
      omega
    · exact hn.2 (by omega) x (by omega)
/-- a sum over an order that has all -/
theorem p_sm_p {o : Nat → Nat} {n : Nat} (r : Nat → Nat) (hb : ∀ k, k < n → o k < n) (hj : ∀ i j, i < n → j < n → o i = o j → i = j) : p_sm (fun k => r (o k)) n = p_sm r n := by
  have h1 := p_sm_o (fun _ => 1) o n n hb
  have h2 := p_sm_o r o n n hb
  rw [p_sm_1, p_sm_c (r' := fun x => p_ot o x n) n (fun k _ => Nat.one_mul _)] at h1
  have h3 := (p_sm_full (fun x => p_ot_1 o x n hj) n).2 h1.symm
  rw [h2]
  exact p_sm_c n (fun k hk => by rw [h3 k hk, Nat.mul_one])
theorem p_st_sm (w : Nat → Nat → Nat) : ∀ n, p_st w n = p_sm (p_tk w) n
  | 0 => rfl
  | n + 1 => by rw [p_st, p_sm, p_st_sm w n]
/-- an order of all keeps the totals -/
theorem p_tt_cm {o : Nat → Nat} (hb : ∀ k, k < w 7 0 → o k < w 7 0) (hj : ∀ i j, i < w 7 0 → j < w 7 0 → o i = o j → i = j) (k : Nat) : p_tt (p_cm w o) k = p_tt w k := by
  have h7 : p_cm w o 7 0 = w 7 0 := rfl
  unfold p_tt p_len
  rw [h7]
  split
  · exact p_sm_p (w 0) hb hj
  · split
    · exact p_sm_p (w 3) hb hj
    · rw [p_st_sm, p_st_sm]
      exact p_sm_p (p_tk w) hb hj
theorem p_cm_c {o o' : Nat → Nat} (h : ∀ k, o k = o' k) : p_cm w o = p_cm w o' := by
  rw [show o = o' from funext h]
/-- one at a place: an order of all -/
theorem p_ld_b {n a pl : Nat} (ha : a < n) (hp : pl < n) {k : Nat} (hk : k < n) : p_ld a pl k < n := by
  unfold p_ld
  repeat' split
  all_goals omega
theorem p_ld_j {n a pl : Nat} (ha : a < n) (hp : pl < n) {i j : Nat} (hi : i < n) (hj : j < n) (e : p_ld a pl i = p_ld a pl j) : i = j := by
  unfold p_ld at e
  repeat' split at e
  all_goals omega
/-- the trial in an order -/
theorem k9_otroll {n : Nat} {o : Nat → Nat} {i2 : Nat} (hW : k9_Wk I 0 w) (hf : k9_wf w) (hC : k9_CL I V) (hO : k9_Or I i2 n o) (hn : n = w 7 0) (hb : ∀ k, k < w 7 0 → o k < w 7 0) (hj : ∀ i j, i < w 7 0 → j < w 7 0 → o i = o j → i = j) :
    ∃ I2, k9_R S (d + 8) 149 0 [some (k9_r 1 0), some (k9_r 7 i2)] [] I J = some (some (k9_i (nI (p_oo w V (fun k => if k < n then o k else 0)))), I2, J) ∧ k9_Br I2 1 (p_len (p_cm w (fun k => if k < n then o k else 0))) (p_tt (p_cm w (fun k => if k < n then o k else 0)) 0) (p_sh (p_cm w (fun k => if k < n then o k else 0)) (p_tt (p_cm w (fun k => if k < n then o k else 0))) V) (p_co (p_cm w (fun k => if k < n then o k else 0))) 0 (p_len (p_cm w (fun k => if k < n then o k else 0)) + 1) ∧ k9_Wk I2 1 (p_cm w (fun k => if k < n then o k else 0)) ∧ k9_fx k9_Ft I I2 := by
  have ho : ∀ k, k < w 7 0 → (if k < n then o k else 0) < w 7 0 := fun k hk => by rw [if_pos (by omega)]; exact hb k hk
  obtain ⟨I1, e1, w1, x1⟩ := k9s_16 (S := S) (d := d + 5) (J := J) (i0 := 1) (i1 := 0) (by decide) hW hf hO ho
  have hwf := k9_wf_cm hf ho
  obtain ⟨e10, I2, e2, b2, w2, x2⟩ := k9_troll (S := S) (d := d + 3) (J := J) w1 hwf (k9_CL_t (k9_Ft_w x1) hC)
  have hlen := p_len_b hwf
  have e10' := k9s_10 (S := S) (d := d + 5) (J := J) w1 hwf
  have e61 := k9s_61 (S := S) (d := d + 5) (J := J) (q := 1) b2 (by omega) (by omega) (fun t => p_sh_b t) (by omega)
  rw [if_neg (by decide), if_pos rfl] at e61
  refine ⟨I2, k9o_of ?_, b2, w2, k9_fx_tr (k9_Ft_w x1) (k9_Ft_b x2)⟩
  refine k9o_eq k9e_149_0 (k9o_call e1 ?_)
  simp only [k9_ps_n]
  refine k9o_eq k9e_149_8 (k9o_call e10' ?_)
  simp only [k9_ps_s]
  refine k9o_eq k9e_149_17 (k9o_call e2 ?_)
  simp only [k9_ps_n]
  refine k9o_eq k9e_149_18 (k9o_call e61 ?_)
  simp only [k9_ps_s]
  exact k9o_eq k9e_149_22 (k9o_ret rfl)
/-- the reference runs in an order -/
theorem k9_orun {o : Nat → Nat} {x : Int32} (hM : k9_Wm I w) (hf : k9_wf w) (hV : k9_ML I V) (hL : ∀ i, i < w 7 0 → I 63 0 i = nI (o i)) (hb : ∀ k, k < w 7 0 → o k < w 7 0) (hj : ∀ i j, i < w 7 0 → j < w 7 0 → o i = o j → i = j) :
    ∃ I2, k9_R S (d + 4) 188 0 [some (k9_r 12 0), some (k9_i x), none, none, none, none, none, none, none, none, none, none] [] I J = some (none, I2, J) ∧ k9_Mr I2 (p_len (p_cm w o)) (p_sh (p_cm w o) (p_tt (p_cm w o)) V) (p_co (p_cm w o)) ∧ k9_fx k9_Fr I I2 := by
  obtain ⟨I2, e2, h2, -, x2⟩ := k9s_188 (S := S) (d := d) (I := I) (J := J) (w := p_cm w o) (V := V) (o := o) (x := x) hM hf (fun i hi => ⟨hL i hi, hb i hi⟩) hV rfl (fun k hk => p_tt_cm hb hj k)
  exact ⟨I2, e2, h2, x2⟩
end KT26
