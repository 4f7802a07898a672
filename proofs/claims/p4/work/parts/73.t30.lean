/-! ORDERS: the table; the evenest, in the class -/
section KT30
variable {S : k9_S} {d : Nat} {I I' : k9_I} {J J' : k9_J} {w : Nat → Nat → Nat} {V : (Nat → Int32) → Int32} {b : Nat} {x1 x2 x3 : Int32} {h c : Nat → Nat} {L A f M : Nat}
theorem p_fc_b : ∀ n, n ≤ 5 → 1 ≤ p_fc n ∧ p_fc n ≤ 120 := by decide
theorem k9_all_range {n : Nat} {f : Nat → Bool} (h : (List.range n).all f = true) {k : Nat} (hk : k < n) : f k = true := List.all_eq_true.mp h k (List.mem_range.mpr hk)
theorem p_or_nx {n k : Nat} (hn : n ≤ 5) (hk : k + 1 < p_fc n) : p_pv (p_or n k) (n - 1) ≠ 0 ∧ ∀ j, j < n → p_nx n (p_or n k) j = p_or n (k + 1) j := by
  have h := k9_all_range (k9_all_range p_tabok_all (show n < 6 by omega)) (show k < p_fc n by omega)
  rw [if_pos hk, Bool.and_eq_true] at h
  refine ⟨fun z => ?_, fun j hj => k9_beq_of (k9_all_range h.2 hj)⟩
  rw [z] at h
  exact absurd h.1 (by decide)
theorem p_or_la {n k : Nat} (hn : n ≤ 5) (hk : k + 1 = p_fc n) : p_pv (p_or n k) (n - 1) = 0 := by
  have h := k9_all_range (k9_all_range p_tabok_all (show n < 6 by omega)) (show k < p_fc n by omega)
  rw [if_neg (by omega)] at h
  exact k9_beq_of h
def p_tabal (n : Nat) : Bool := (List.range (p_fc n)).all (fun k => Nat.ble (k9_nth [] (k9_nth [] p_tab n) k).length n && (List.range n).all (fun i => Nat.blt (p_or n k i) n && (List.range n).all (fun j => !Nat.beq (p_or n k i) (p_or n k j) || Nat.beq i j)))
theorem p_tabal_all : (List.range 6).all p_tabal = true := by decide +kernel
theorem k9_nth_z {α : Type} (z : α) : ∀ (l : List α) (k : Nat), l.length ≤ k → k9_nth z l k = z
  | [], _, _ => by rw [k9_nth]
  | _ :: l, 0, h => by simp at h
  | _ :: l, k + 1, h => by
    rw [k9_nth]
    exact k9_nth_z z l k (by simpa using h)
theorem p_or_al {n k : Nat} (hn : n ≤ 5) (hk : k < p_fc n) : (∀ j, n ≤ j → p_or n k j = 0) ∧ (∀ j, j < n → p_or n k j < n) ∧ (∀ i j, i < n → j < n → p_or n k i = p_or n k j → i = j) := by
  have h := k9_all_range (k9_all_range p_tabal_all (show n < 6 by omega)) hk
  rw [Bool.and_eq_true] at h
  have h2 := fun i (hi : i < n) => k9_all_range h.2 hi
  simp only [Bool.and_eq_true] at h2
  refine ⟨fun j hj => k9_nth_z _ _ _ (Nat.le_trans (Nat.ble_eq.mp h.1) hj), fun j hj => Nat.ble_eq.mp (h2 j hj).1, fun i j hi hj e => ?_⟩
  have := k9_all_range (h2 i hi).2 hj
  rw [e, k9_beq_self] at this
  exact k9_beq_of this
theorem p_or_0 : ∀ n, n ≤ 5 → ∀ j, j < n → p_or n 0 j = j := by decide +kernel
theorem p_or_e {n k : Nat} (hn : n ≤ 5) (hk : k < p_fc n) : (fun j => if j < n then p_or n k j else 0) = p_or n k := funext fun j => by
  split
  · rfl
  · exact ((p_or_al hn hk).1 j (by omega)).symm
theorem k9_Or_e {i n : Nat} {o o' : Nat → Nat} (hO : k9_Or I i n o) (e : ∀ k, k < n → o k = o' k) : k9_Or I i n o' := ⟨hO.1, hO.2.1, fun k hk => by rw [← e k hk]; exact hO.2.2 k hk⟩
theorem k9_Or_x {i n : Nat} {o : Nat → Nat} {F : Nat → Nat → Nat → Bool} (hx : k9_fx F I I') (h7 : F 7 i 1 = false) (h30 : ∀ k, F 30 i k = false) (hO : k9_Or I i n o) : k9_Or I' i n o := ⟨(hx 7 i 1 h7).trans hO.1, hO.2.1, fun k hk => (hx 30 i k (h30 k)).trans (hO.2.2 k hk)⟩
theorem p_or_wf {n k : Nat} (hf : k9_wf w) (h7 : n = w 7 0) (hn : n ≤ 5) (hk : k < p_fc n) : k9_wf (p_cm w (p_or n k)) := k9_wf_cm hf (fun j hj => by
  rw [← h7] at hj ⊢
  exact (p_or_al hn hk).2.1 j hj)
theorem p_ev_b {s : Nat → Nat → Nat} {N m : Nat} (h : ∀ k, k < m → p_oo w V (s k) ≤ N) : ∀ k, k < m → (p_ev w V s k).1 ≤ N
  | 0, hk => h 0 hk
  | k + 1, hk => by
    rw [p_ev]
    split
    · exact h (k + 1) hk
    · exact p_ev_b h k (by omega)
/-- of the class: the evenest's search -/
def k9_Fe (k i p : Nat) : Bool := k9_F6 k i p || k9_Fo 1 k i p || (Nat.beq k 1 && Nat.beq i 0 && (Nat.beq p 13 || Nat.beq p 14))
theorem k9_Fe_6 {I1 I2 : k9_I} (h : k9_fx k9_F6 I1 I2) : k9_fx k9_Fe I1 I2 := k9_fx_w h (fun k i p e => by
  unfold k9_Fe at e
  exact (Bool.or_eq_false_iff.mp (Bool.or_eq_false_iff.mp e).1).1)
theorem k9_Fe_o {I1 I2 : k9_I} (h : k9_fx (k9_Fo 1) I1 I2) : k9_fx k9_Fe I1 I2 := k9_fx_w h (fun k i p e => by
  unfold k9_Fe at e
  exact (Bool.or_eq_false_iff.mp (Bool.or_eq_false_iff.mp e).1).2)
theorem k9_Fe_X : ∀ k i p, k9_Fe k i p = true → k9_Xs [9] (v_cl k i p) = true := by
  intro k i p e
  rcases Bool.or_eq_true_iff.mp e with f | f
  · rcases Bool.or_eq_true_iff.mp f with g | g
    · exact k9_F6_X (X := k9_Xs [9]) rfl k i p g
    · clear e f
      simp only [k9_Fo, Bool.or_eq_true, Bool.and_eq_true] at g
      obtain ⟨g, e0⟩ := g
      have e0 := k9_beq_of e0
      subst e0
      rcases g with g | g <;> (rw [k9_beq_of g]; rfl)
  · clear e
    simp only [Bool.or_eq_true, Bool.and_eq_true] at f
    obtain ⟨⟨f, e0⟩, f2⟩ := f
    rw [k9_beq_of e0, k9_beq_of f]
    rcases f2 with f2 | f2 <;> (rw [k9_beq_of f2]; rfl)
theorem k9_Iv_9 (h : k9_fp (k9_Xs [9]) I I') (v9' : k9_vO I' w V) (v : k9_Iv I J w V b) : k9_Iv I' J w V b := by
  obtain ⟨v1, v2, v3, v4, v5, v6, v7, v8, v9⟩ := v
  exact ⟨k9_vW_c (k9_fp_c h rfl) v1, k9_vT_c (k9_fp_c h rfl) v2, k9_vL_c (k9_fp_c h rfl) v3, k9_vC_c (k9_fp_c h rfl) v4, k9_vB_c (k9_fp_c h rfl) v5, k9_vS_c (k9_fp_c h rfl) v6, k9_vD_c (k9_fp_c h rfl) v7, k9_vR_c (k9_fp_c h rfl) v8, v9'⟩
end KT30
