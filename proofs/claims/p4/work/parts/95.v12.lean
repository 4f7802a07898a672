/-! THE MEMORY AT THE START -/
section KV12
theorem lg_cmp_z (x : Int64) : (lg_cmp x x).toInt = 0 := by
  have h1 := @lg_pos x x
  have h2 := @lg_neg x x
  omega
def p_w0 : Nat → Nat → Nat := fun q _ => if q = 4 then 1 else 0
theorem k9_CL_n : k9_CL k9_I0 (fun e => e 1) := by
  refine ⟨fun S d J I' i a g0 g1 g3 g28 => ?_, Or.inl rfl, fun _ e e' h => h 1 (by decide)⟩
  refine ⟨I', k9o_of (k9o_eq k9e_48_0 (k9o_T (by rw [g1]; rfl) (k9o_eq k9e_48_3 (k9o_ret rfl)))), k9_fx_rf _ _⟩
theorem k9_ML_n : k9_ML k9_I0 (fun e => e 1) := by
  intro S d J I' a g8 _ _ _ _ _ hc
  obtain ⟨c, hc1, hc2⟩ := hc 1 (by omega)
  refine ⟨I', k9o_of (k9o_eq k9e_187_0 (k9o_T (by rw [g8]; rfl) (k9o_eq k9e_187_3 (k9o_ret ?_)))), k9_fx_rf _ _⟩
  show (some (k9_i (I' 65 0 1)), I', J) = (some (k9_i (nI (p_cl (I' 65 0 1)))), I', J)
  rw [hc2, p_cl_n (by omega)]
theorem k9_Inv_n : k9_Inv k9_I0 k9_J0 := by
  refine ⟨p_w0, (fun e => e 1), 0, ⟨⟨rfl, rfl, rfl, rfl, fun p hp => absurd hp (Nat.not_lt_zero _)⟩, ⟨rfl, rfl, rfl, rfl, fun p hp => absurd hp (Nat.not_lt_zero _)⟩, ⟨by decide, by decide, by decide, by decide, fun p hp => absurd hp (Nat.not_lt_zero _)⟩, fun p hp => absurd hp (Nat.not_lt_zero _)⟩, ⟨0, by omega, rfl, rfl, fun p hp => absurd hp (Nat.not_lt_zero _)⟩, ⟨k9_CL_n, k9_ML_n⟩, ⟨0, 0, by omega, rfl, rfl, rfl, rfl, fun k hk => absurd hk (Nat.not_lt_zero _)⟩, ⟨by omega, rfl, rfl, fun k hk => absurd hk (Nat.not_lt_zero _), 0, by omega, rfl, rfl, fun k hk => absurd hk (Nat.not_lt_zero _)⟩, ⟨fun s hs => Or.inl ⟨rfl, ?_⟩, fun s hs p hp => rfl⟩, ⟨Or.inr ⟨rfl, rfl⟩, fun k hk => rfl, Or.inl ⟨rfl, rfl⟩⟩, Or.inl rfl, Or.inl rfl⟩
  obtain rfl | rfl | rfl | rfl | rfl | rfl : s = 0 ∨ s = 1 ∨ s = 2 ∨ s = 3 ∨ s = 4 ∨ s = 5 := by omega
  all_goals rfl
end KV12
