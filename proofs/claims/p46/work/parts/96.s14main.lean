theorem k9_v_0_1 {S : k9_S} {a b ix : Nat} {z : Int32} {L : k9_L} {st : List k9_v} {I : k9_I} {J : k9_J} {w : k9_X} (hw : k9_g0 1 a z ix L st I J = some w) : w = Sum.inl ((ix + 1), L, k9_i z :: st, I, J) := by
  simp only [k9_g0] at hw
  injection hw with hw
  exact hw.symm

theorem k9_v_0_2 {S : k9_S} {a b ix : Nat} {z : Int32} {L : k9_L} {st : List k9_v} {I : k9_I} {J : k9_J} {w : k9_X} (hw : k9_g0 2 a z ix L st I J = some w) : w = Sum.inl ((ix + 1), L, k9_l (Int64.ofNat a) :: st, I, J) := by
  simp only [k9_g0] at hw
  injection hw with hw
  exact hw.symm

theorem k9_v_0_3 {S : k9_S} {a b ix : Nat} {z : Int32} {L : k9_L} {st : List k9_v} {I : k9_I} {J : k9_J} {w : k9_X} (hw : k9_g0 3 a z ix L st I J = some w) : w = Sum.inl ((ix + 1), L, k9_r 0 0 :: st, I, J) := by
  simp only [k9_g0] at hw
  injection hw with hw
  exact hw.symm

theorem k9_v_0_4 {S : k9_S} {a b ix : Nat} {z : Int32} {L : k9_L} {st : List k9_v} {I : k9_I} {J : k9_J} {w : k9_X} (hw : k9_g0 4 a z ix L st I J = some w) : ∃ v : Int32, k9_at L a = some (k9_i v) ∧ w = Sum.inl ((ix + 1), L, k9_i v :: st, I, J) := by
  simp only [k9_g0] at hw
  repeat' split at hw
  all_goals first
    | (cases hw; done)
    | (injection hw with hw
       subst hw
       exact ⟨_, by first | rfl | assumption, rfl⟩)

theorem k9_v_0_5 {S : k9_S} {a b ix : Nat} {z : Int32} {L : k9_L} {st : List k9_v} {I : k9_I} {J : k9_J} {w : k9_X} (hw : k9_g0 5 a z ix L st I J = some w) : ∃ v : Int64, k9_at L a = some (k9_l v) ∧ w = Sum.inl ((ix + 1), L, k9_l v :: st, I, J) := by
  simp only [k9_g0] at hw
  repeat' split at hw
  all_goals first
    | (cases hw; done)
    | (injection hw with hw
       subst hw
       exact ⟨_, by first | rfl | assumption, rfl⟩)

theorem k9_v_0_6 {S : k9_S} {a b ix : Nat} {z : Int32} {L : k9_L} {st : List k9_v} {I : k9_I} {J : k9_J} {w : k9_X} (hw : k9_g0 6 a z ix L st I J = some w) : ∃ v : Nat × Nat, k9_at L a = some (Sum.inr (Sum.inr v)) ∧ w = Sum.inl ((ix + 1), L, Sum.inr (Sum.inr v) :: st, I, J) := by
  simp only [k9_g0] at hw
  repeat' split at hw
  all_goals first
    | (cases hw; done)
    | (injection hw with hw
       subst hw
       exact ⟨_, by first | rfl | assumption, rfl⟩)

theorem k9_v_0_7 {S : k9_S} {a b ix : Nat} {z : Int32} {L : k9_L} {st : List k9_v} {I : k9_I} {J : k9_J} {w : k9_X} (hw : k9_g0 7 a z ix L st I J = some w) : ∃ v : Int32, ∃ st0 : List k9_v, st = k9_i v :: st0 ∧ w = Sum.inr (Sum.inl (k9_so L a, (ix + 1), (k9_set L a (some (k9_i v))), st0, I, J)) := by
  simp only [k9_g0] at hw
  repeat' split at hw
  all_goals first
    | (cases hw; done)
    | (injection hw with hw
       subst hw
       exact ⟨_, _, by first | rfl | assumption, rfl⟩)

theorem k9_v_0_8 {S : k9_S} {a b ix : Nat} {z : Int32} {L : k9_L} {st : List k9_v} {I : k9_I} {J : k9_J} {w : k9_X} (hw : k9_g0 8 a z ix L st I J = some w) : ∃ v : Int64, ∃ st0 : List k9_v, st = k9_l v :: st0 ∧ w = Sum.inr (Sum.inl ((k9_so L a && Nat.blt (a + 1) L.length), (ix + 1), (k9_set (k9_set L a (some (k9_l v))) (a + 1) none), st0, I, J)) := by
  simp only [k9_g0] at hw
  repeat' split at hw
  all_goals first
    | (cases hw; done)
    | (injection hw with hw
       subst hw
       exact ⟨_, _, by first | rfl | assumption, rfl⟩)

theorem k9_v_0_9 {S : k9_S} {a b ix : Nat} {z : Int32} {L : k9_L} {st : List k9_v} {I : k9_I} {J : k9_J} {w : k9_X} (hw : k9_g0 9 a z ix L st I J = some w) : ∃ v : Nat × Nat, ∃ st0 : List k9_v, st = Sum.inr (Sum.inr v) :: st0 ∧ w = Sum.inr (Sum.inl (k9_so L a, (ix + 1), (k9_set L a (some (Sum.inr (Sum.inr v)))), st0, I, J)) := by
  simp only [k9_g0] at hw
  repeat' split at hw
  all_goals first
    | (cases hw; done)
    | (injection hw with hw
       subst hw
       exact ⟨_, _, by first | rfl | assumption, rfl⟩)

theorem k9_v_0_10 {S : k9_S} {a b ix : Nat} {z : Int32} {L : k9_L} {st : List k9_v} {I : k9_I} {J : k9_J} {w : k9_X} (hw : k9_g0 10 a z ix L st I J = some w) : ∃ v : Int32, k9_at L a = some (k9_i v) ∧ w = Sum.inr (Sum.inl (k9_so L a, (ix + 1), (k9_set L a (some (k9_i (v + z)))), st, I, J)) := by
  simp only [k9_g0] at hw
  repeat' split at hw
  all_goals first
    | (cases hw; done)
    | (injection hw with hw
       subst hw
       exact ⟨_, by first | rfl | assumption, rfl⟩)

theorem k9_v_1_0 {S : k9_S} {a b ix : Nat} {z : Int32} {L : k9_L} {st : List k9_v} {I : k9_I} {J : k9_J} {w : k9_X} (hw : k9_g1 0 ix L st I J = some w) : ∃ v : k9_v, ∃ st0 : List k9_v, st = v :: st0 ∧ w = Sum.inr (Sum.inl ((!(k9_isl (some v))), (ix + 1), L, v :: v :: st0, I, J)) := by
  simp only [k9_g1] at hw
  repeat' split at hw
  all_goals first
    | (cases hw; done)
    | (injection hw with hw
       subst hw
       exact ⟨_, _, by first | rfl | assumption, rfl⟩)

theorem k9_v_1_1 {S : k9_S} {a b ix : Nat} {z : Int32} {L : k9_L} {st : List k9_v} {I : k9_I} {J : k9_J} {w : k9_X} (hw : k9_g1 1 ix L st I J = some w) : ∃ v : k9_v, ∃ st0 : List k9_v, st = v :: st0 ∧ w = Sum.inr (Sum.inl ((!(k9_isl (some v))), (ix + 1), L, st0, I, J)) := by
  simp only [k9_g1] at hw
  repeat' split at hw
  all_goals first
    | (cases hw; done)
    | (injection hw with hw
       subst hw
       exact ⟨_, _, by first | rfl | assumption, rfl⟩)

theorem k9_v_1_2 {S : k9_S} {a b ix : Nat} {z : Int32} {L : k9_L} {st : List k9_v} {I : k9_I} {J : k9_J} {w : k9_X} (hw : k9_g1 2 ix L st I J = some w) : ∃ v : k9_v, ∃ u : k9_v, ∃ st0 : List k9_v, st = v :: u :: st0 ∧ w = Sum.inr (Sum.inl ((!(k9_isl (some v)) && !(k9_isl (some u))), (ix + 1), L, v :: u :: v :: st0, I, J)) := by
  simp only [k9_g1] at hw
  repeat' split at hw
  all_goals first
    | (cases hw; done)
    | (injection hw with hw
       subst hw
       exact ⟨_, _, _, by first | rfl | assumption, rfl⟩)

theorem k9_v_1_3 {S : k9_S} {a b ix : Nat} {z : Int32} {L : k9_L} {st : List k9_v} {I : k9_I} {J : k9_J} {w : k9_X} (hw : k9_g1 3 ix L st I J = some w) : ∃ v : k9_v, ∃ u : k9_v, ∃ st0 : List k9_v, st = v :: u :: st0 ∧ w = Sum.inr (Sum.inl ((!(k9_isl (some v)) && !(k9_isl (some u))), (ix + 1), L, v :: u :: v :: u :: st0, I, J)) := by
  simp only [k9_g1] at hw
  repeat' split at hw
  all_goals first
    | (cases hw; done)
    | (injection hw with hw
       subst hw
       exact ⟨_, _, _, by first | rfl | assumption, rfl⟩)

theorem k9_v_1_4 {S : k9_S} {a b ix : Nat} {z : Int32} {L : k9_L} {st : List k9_v} {I : k9_I} {J : k9_J} {w : k9_X} (hw : k9_g1 4 ix L st I J = some w) : ∃ v : Int64, ∃ st0 : List k9_v, st = k9_l v :: st0 ∧ w = Sum.inl ((ix + 1), L, k9_l v :: k9_l v :: st0, I, J) := by
  simp only [k9_g1] at hw
  repeat' split at hw
  all_goals first
    | (cases hw; done)
    | (injection hw with hw
       subst hw
       exact ⟨_, _, by first | rfl | assumption, rfl⟩)

theorem k9_v_1_5 {S : k9_S} {a b ix : Nat} {z : Int32} {L : k9_L} {st : List k9_v} {I : k9_I} {J : k9_J} {w : k9_X} (hw : k9_g1 5 ix L st I J = some w) : ∃ v : Int64, ∃ st0 : List k9_v, st = k9_l v :: st0 ∧ w = Sum.inl ((ix + 1), L, st0, I, J) := by
  simp only [k9_g1] at hw
  repeat' split at hw
  all_goals first
    | (cases hw; done)
    | (injection hw with hw
       subst hw
       exact ⟨_, _, by first | rfl | assumption, rfl⟩)

theorem k9_v_1_6 {S : k9_S} {a b ix : Nat} {z : Int32} {L : k9_L} {st : List k9_v} {I : k9_I} {J : k9_J} {w : k9_X} (hw : k9_g1 6 ix L st I J = some w) : ∃ v : k9_v, ∃ u : k9_v, ∃ t : k9_v, ∃ st0 : List k9_v, st = v :: u :: t :: st0 ∧ w = Sum.inr (Sum.inl ((!(k9_isl (some v)) && !(k9_isl (some u)) && !(k9_isl (some t))), (ix + 1), L, v :: u :: t :: v :: st0, I, J)) := by
  simp only [k9_g1] at hw
  repeat' split at hw
  all_goals first
    | (cases hw; done)
    | (injection hw with hw
       subst hw
       exact ⟨_, _, _, _, by first | rfl | assumption, rfl⟩)

theorem k9_v_2_0 {S : k9_S} {a b ix : Nat} {z : Int32} {L : k9_L} {st : List k9_v} {I : k9_I} {J : k9_J} {w : k9_X} (hw : k9_g2 0 ix L st I J = some w) : ∃ x : Int32, ∃ y0 : Int32, ∃ st0 : List k9_v, st = k9_i y0 :: k9_i x :: st0 ∧ w = Sum.inl ((ix + 1), L, k9_i (x + y0) :: st0, I, J) := by
  simp only [k9_g2] at hw
  repeat' split at hw
  all_goals first
    | (cases hw; done)
    | (injection hw with hw
       subst hw
       exact ⟨_, _, _, by first | rfl | assumption, rfl⟩)

theorem k9_v_2_1 {S : k9_S} {a b ix : Nat} {z : Int32} {L : k9_L} {st : List k9_v} {I : k9_I} {J : k9_J} {w : k9_X} (hw : k9_g2 1 ix L st I J = some w) : ∃ x : Int32, ∃ y0 : Int32, ∃ st0 : List k9_v, st = k9_i y0 :: k9_i x :: st0 ∧ w = Sum.inl ((ix + 1), L, k9_i (x - y0) :: st0, I, J) := by
  simp only [k9_g2] at hw
  repeat' split at hw
  all_goals first
    | (cases hw; done)
    | (injection hw with hw
       subst hw
       exact ⟨_, _, _, by first | rfl | assumption, rfl⟩)

theorem k9_v_2_2 {S : k9_S} {a b ix : Nat} {z : Int32} {L : k9_L} {st : List k9_v} {I : k9_I} {J : k9_J} {w : k9_X} (hw : k9_g2 2 ix L st I J = some w) : ∃ x : Int32, ∃ y0 : Int32, ∃ st0 : List k9_v, st = k9_i y0 :: k9_i x :: st0 ∧ w = Sum.inl ((ix + 1), L, k9_i (x * y0) :: st0, I, J) := by
  simp only [k9_g2] at hw
  repeat' split at hw
  all_goals first
    | (cases hw; done)
    | (injection hw with hw
       subst hw
       exact ⟨_, _, _, by first | rfl | assumption, rfl⟩)

theorem k9_v_2_3 {S : k9_S} {a b ix : Nat} {z : Int32} {L : k9_L} {st : List k9_v} {I : k9_I} {J : k9_J} {w : k9_X} (hw : k9_g2 3 ix L st I J = some w) : ∃ x : Int32, ∃ y0 : Int32, ∃ st0 : List k9_v, st = k9_i y0 :: k9_i x :: st0 ∧ w = Sum.inr (Sum.inl ((decide (¬ y0 = 0)), (ix + 1), L, k9_i (x / y0) :: st0, I, J)) := by
  simp only [k9_g2] at hw
  repeat' split at hw
  all_goals first
    | (cases hw; done)
    | (injection hw with hw
       subst hw
       exact ⟨_, _, _, by first | rfl | assumption, rfl⟩)

theorem k9_v_2_4 {S : k9_S} {a b ix : Nat} {z : Int32} {L : k9_L} {st : List k9_v} {I : k9_I} {J : k9_J} {w : k9_X} (hw : k9_g2 4 ix L st I J = some w) : ∃ x : Int32, ∃ y0 : Int32, ∃ st0 : List k9_v, st = k9_i y0 :: k9_i x :: st0 ∧ w = Sum.inr (Sum.inl ((decide (¬ y0 = 0)), (ix + 1), L, k9_i (x - x / y0 * y0) :: st0, I, J)) := by
  simp only [k9_g2] at hw
  repeat' split at hw
  all_goals first
    | (cases hw; done)
    | (injection hw with hw
       subst hw
       exact ⟨_, _, _, by first | rfl | assumption, rfl⟩)

theorem k9_v_2_5 {S : k9_S} {a b ix : Nat} {z : Int32} {L : k9_L} {st : List k9_v} {I : k9_I} {J : k9_J} {w : k9_X} (hw : k9_g2 5 ix L st I J = some w) : ∃ x : Int32, ∃ y0 : Int32, ∃ st0 : List k9_v, st = k9_i y0 :: k9_i x :: st0 ∧ w = Sum.inl ((ix + 1), L, k9_i (x &&& y0) :: st0, I, J) := by
  simp only [k9_g2] at hw
  repeat' split at hw
  all_goals first
    | (cases hw; done)
    | (injection hw with hw
       subst hw
       exact ⟨_, _, _, by first | rfl | assumption, rfl⟩)

theorem k9_v_2_6 {S : k9_S} {a b ix : Nat} {z : Int32} {L : k9_L} {st : List k9_v} {I : k9_I} {J : k9_J} {w : k9_X} (hw : k9_g2 6 ix L st I J = some w) : ∃ x : Int32, ∃ y0 : Int32, ∃ st0 : List k9_v, st = k9_i y0 :: k9_i x :: st0 ∧ w = Sum.inl ((ix + 1), L, k9_i (x ||| y0) :: st0, I, J) := by
  simp only [k9_g2] at hw
  repeat' split at hw
  all_goals first
    | (cases hw; done)
    | (injection hw with hw
       subst hw
       exact ⟨_, _, _, by first | rfl | assumption, rfl⟩)

theorem k9_v_2_7 {S : k9_S} {a b ix : Nat} {z : Int32} {L : k9_L} {st : List k9_v} {I : k9_I} {J : k9_J} {w : k9_X} (hw : k9_g2 7 ix L st I J = some w) : ∃ x : Int32, ∃ y0 : Int32, ∃ st0 : List k9_v, st = k9_i y0 :: k9_i x :: st0 ∧ w = Sum.inl ((ix + 1), L, k9_i (x ^^^ y0) :: st0, I, J) := by
  simp only [k9_g2] at hw
  repeat' split at hw
  all_goals first
    | (cases hw; done)
    | (injection hw with hw
       subst hw
       exact ⟨_, _, _, by first | rfl | assumption, rfl⟩)

theorem k9_v_2_8 {S : k9_S} {a b ix : Nat} {z : Int32} {L : k9_L} {st : List k9_v} {I : k9_I} {J : k9_J} {w : k9_X} (hw : k9_g2 8 ix L st I J = some w) : ∃ x : Int32, ∃ y0 : Int32, ∃ st0 : List k9_v, st = k9_i y0 :: k9_i x :: st0 ∧ w = Sum.inl ((ix + 1), L, k9_i (x <<< (y0 &&& 31)) :: st0, I, J) := by
  simp only [k9_g2] at hw
  repeat' split at hw
  all_goals first
    | (cases hw; done)
    | (injection hw with hw
       subst hw
       exact ⟨_, _, _, by first | rfl | assumption, rfl⟩)

theorem k9_v_2_9 {S : k9_S} {a b ix : Nat} {z : Int32} {L : k9_L} {st : List k9_v} {I : k9_I} {J : k9_J} {w : k9_X} (hw : k9_g2 9 ix L st I J = some w) : ∃ x : Int32, ∃ y0 : Int32, ∃ st0 : List k9_v, st = k9_i y0 :: k9_i x :: st0 ∧ w = Sum.inl ((ix + 1), L, k9_i (x >>> (y0 &&& 31)) :: st0, I, J) := by
  simp only [k9_g2] at hw
  repeat' split at hw
  all_goals first
    | (cases hw; done)
    | (injection hw with hw
       subst hw
       exact ⟨_, _, _, by first | rfl | assumption, rfl⟩)

theorem k9_v_2_10 {S : k9_S} {a b ix : Nat} {z : Int32} {L : k9_L} {st : List k9_v} {I : k9_I} {J : k9_J} {w : k9_X} (hw : k9_g2 10 ix L st I J = some w) : ∃ x : Int32, ∃ y0 : Int32, ∃ st0 : List k9_v, st = k9_i y0 :: k9_i x :: st0 ∧ w = Sum.inl ((ix + 1), L, k9_i ((x.toUInt32 >>> (y0.toUInt32 &&& Int32.toUInt32 31)).toInt32) :: st0, I, J) := by
  simp only [k9_g2] at hw
  repeat' split at hw
  all_goals first
    | (cases hw; done)
    | (injection hw with hw
       subst hw
       exact ⟨_, _, _, by first | rfl | assumption, rfl⟩)

theorem k9_v_3_0 {S : k9_S} {a b ix : Nat} {z : Int32} {L : k9_L} {st : List k9_v} {I : k9_I} {J : k9_J} {w : k9_X} (hw : k9_g3 0 ix L st I J = some w) : ∃ x : Int32, ∃ st0 : List k9_v, st = k9_i x :: st0 ∧ w = Sum.inl ((ix + 1), L, k9_i (-x) :: st0, I, J) := by
  simp only [k9_g3] at hw
  repeat' split at hw
  all_goals first
    | (cases hw; done)
    | (injection hw with hw
       subst hw
       exact ⟨_, _, by first | rfl | assumption, rfl⟩)

theorem k9_v_3_1 {S : k9_S} {a b ix : Nat} {z : Int32} {L : k9_L} {st : List k9_v} {I : k9_I} {J : k9_J} {w : k9_X} (hw : k9_g3 1 ix L st I J = some w) : ∃ x : Int32, ∃ st0 : List k9_v, st = k9_i x :: st0 ∧ w = Sum.inl ((ix + 1), L, k9_l x.toInt64 :: st0, I, J) := by
  simp only [k9_g3] at hw
  repeat' split at hw
  all_goals first
    | (cases hw; done)
    | (injection hw with hw
       subst hw
       exact ⟨_, _, by first | rfl | assumption, rfl⟩)

theorem k9_v_3_2 {S : k9_S} {a b ix : Nat} {z : Int32} {L : k9_L} {st : List k9_v} {I : k9_I} {J : k9_J} {w : k9_X} (hw : k9_g3 2 ix L st I J = some w) : ∃ x : Int64, ∃ st0 : List k9_v, st = k9_l x :: st0 ∧ w = Sum.inl ((ix + 1), L, k9_i x.toInt32 :: st0, I, J) := by
  simp only [k9_g3] at hw
  repeat' split at hw
  all_goals first
    | (cases hw; done)
    | (injection hw with hw
       subst hw
       exact ⟨_, _, by first | rfl | assumption, rfl⟩)

theorem k9_v_3_3 {S : k9_S} {a b ix : Nat} {z : Int32} {L : k9_L} {st : List k9_v} {I : k9_I} {J : k9_J} {w : k9_X} (hw : k9_g3 3 ix L st I J = some w) : ∃ x : Int32, ∃ st0 : List k9_v, st = k9_i x :: st0 ∧ w = Sum.inl ((ix + 1), L, k9_i x.toInt8.toInt32 :: st0, I, J) := by
  simp only [k9_g3] at hw
  repeat' split at hw
  all_goals first
    | (cases hw; done)
    | (injection hw with hw
       subst hw
       exact ⟨_, _, by first | rfl | assumption, rfl⟩)

theorem k9_v_3_4 {S : k9_S} {a b ix : Nat} {z : Int32} {L : k9_L} {st : List k9_v} {I : k9_I} {J : k9_J} {w : k9_X} (hw : k9_g3 4 ix L st I J = some w) : ∃ x : Int32, ∃ st0 : List k9_v, st = k9_i x :: st0 ∧ w = Sum.inl ((ix + 1), L, k9_i x.toInt16.toInt32 :: st0, I, J) := by
  simp only [k9_g3] at hw
  repeat' split at hw
  all_goals first
    | (cases hw; done)
    | (injection hw with hw
       subst hw
       exact ⟨_, _, by first | rfl | assumption, rfl⟩)

theorem k9_v_3_5 {S : k9_S} {a b ix : Nat} {z : Int32} {L : k9_L} {st : List k9_v} {I : k9_I} {J : k9_J} {w : k9_X} (hw : k9_g3 5 ix L st I J = some w) : ∃ x : Int64, ∃ y0 : Int64, ∃ st0 : List k9_v, st = k9_l y0 :: k9_l x :: st0 ∧ w = Sum.inl ((ix + 1), L, k9_i (lg_cmp x y0) :: st0, I, J) := by
  simp only [k9_g3] at hw
  repeat' split at hw
  all_goals first
    | (cases hw; done)
    | (injection hw with hw
       subst hw
       exact ⟨_, _, _, by first | rfl | assumption, rfl⟩)

theorem k9_v_3_6 {S : k9_S} {a b ix : Nat} {z : Int32} {L : k9_L} {st : List k9_v} {I : k9_I} {J : k9_J} {w : k9_X} (hw : k9_g3 6 ix L st I J = some w) : ∃ x : Int64, ∃ y0 : Int64, ∃ st0 : List k9_v, st = k9_l y0 :: k9_l x :: st0 ∧ w = Sum.inl ((ix + 1), L, k9_l (x ||| y0) :: st0, I, J) := by
  simp only [k9_g3] at hw
  repeat' split at hw
  all_goals first
    | (cases hw; done)
    | (injection hw with hw
       subst hw
       exact ⟨_, _, _, by first | rfl | assumption, rfl⟩)

theorem k9_v_3_7 {S : k9_S} {a b ix : Nat} {z : Int32} {L : k9_L} {st : List k9_v} {I : k9_I} {J : k9_J} {w : k9_X} (hw : k9_g3 7 ix L st I J = some w) : ∃ x : Int64, ∃ y0 : Int64, ∃ st0 : List k9_v, st = k9_l y0 :: k9_l x :: st0 ∧ w = Sum.inl ((ix + 1), L, k9_l (x &&& y0) :: st0, I, J) := by
  simp only [k9_g3] at hw
  repeat' split at hw
  all_goals first
    | (cases hw; done)
    | (injection hw with hw
       subst hw
       exact ⟨_, _, _, by first | rfl | assumption, rfl⟩)

theorem k9_v_3_8 {S : k9_S} {a b ix : Nat} {z : Int32} {L : k9_L} {st : List k9_v} {I : k9_I} {J : k9_J} {w : k9_X} (hw : k9_g3 8 ix L st I J = some w) : ∃ x : Int64, ∃ y0 : Int32, ∃ st0 : List k9_v, st = k9_i y0 :: k9_l x :: st0 ∧ w = Sum.inl ((ix + 1), L, k9_l (x <<< (y0.toInt64 &&& 63)) :: st0, I, J) := by
  simp only [k9_g3] at hw
  repeat' split at hw
  all_goals first
    | (cases hw; done)
    | (injection hw with hw
       subst hw
       exact ⟨_, _, _, by first | rfl | assumption, rfl⟩)

theorem k9_v_3_9 {S : k9_S} {a b ix : Nat} {z : Int32} {L : k9_L} {st : List k9_v} {I : k9_I} {J : k9_J} {w : k9_X} (hw : k9_g3 9 ix L st I J = some w) : ∃ x : Int64, ∃ y0 : Int64, ∃ st0 : List k9_v, st = k9_l y0 :: k9_l x :: st0 ∧ w = Sum.inl ((ix + 1), L, k9_l (x + y0) :: st0, I, J) := by
  simp only [k9_g3] at hw
  repeat' split at hw
  all_goals first
    | (cases hw; done)
    | (injection hw with hw
       subst hw
       exact ⟨_, _, _, by first | rfl | assumption, rfl⟩)

theorem k9_v_3_10 {S : k9_S} {a b ix : Nat} {z : Int32} {L : k9_L} {st : List k9_v} {I : k9_I} {J : k9_J} {w : k9_X} (hw : k9_g3 10 ix L st I J = some w) : ∃ x : Int64, ∃ y0 : Int64, ∃ st0 : List k9_v, st = k9_l y0 :: k9_l x :: st0 ∧ w = Sum.inl ((ix + 1), L, k9_l (x * y0) :: st0, I, J) := by
  simp only [k9_g3] at hw
  repeat' split at hw
  all_goals first
    | (cases hw; done)
    | (injection hw with hw
       subst hw
       exact ⟨_, _, _, by first | rfl | assumption, rfl⟩)

theorem k9_v_4_0 {S : k9_S} {a b ix : Nat} {z : Int32} {L : k9_L} {st : List k9_v} {I : k9_I} {J : k9_J} {w : k9_X} (hw : k9_g4 S 0 a b ix L st I J = some w) : ∃ k : Nat, ∃ i : Nat, ∃ st0 : List k9_v, st = k9_r k i :: st0 ∧ Nat.beq k a = true ∧ w = Sum.inl ((ix + 1), L, k9_i (I k i b) :: st0, I, J) := by
  simp only [k9_g4] at hw
  repeat' split at hw
  all_goals first
    | (cases hw; done)
    | (injection hw with hw
       subst hw
       exact ⟨_, _, _, by first | rfl | assumption, by first | rfl | assumption, rfl⟩)

theorem k9_v_4_1 {S : k9_S} {a b ix : Nat} {z : Int32} {L : k9_L} {st : List k9_v} {I : k9_I} {J : k9_J} {w : k9_X} (hw : k9_g4 S 1 a b ix L st I J = some w) : ∃ k : Nat, ∃ i : Nat, ∃ st0 : List k9_v, st = k9_r k i :: st0 ∧ Nat.beq k a = true ∧ w = Sum.inl ((ix + 1), L, k9_l (J k i b) :: st0, I, J) := by
  simp only [k9_g4] at hw
  repeat' split at hw
  all_goals first
    | (cases hw; done)
    | (injection hw with hw
       subst hw
       exact ⟨_, _, _, by first | rfl | assumption, by first | rfl | assumption, rfl⟩)

theorem k9_v_4_2 {S : k9_S} {a b ix : Nat} {z : Int32} {L : k9_L} {st : List k9_v} {I : k9_I} {J : k9_J} {w : k9_X} (hw : k9_g4 S 2 a b ix L st I J = some w) : ∃ k : Nat, ∃ i : Nat, ∃ st0 : List k9_v, st = k9_r k i :: st0 ∧ Nat.beq k a = true ∧ w = Sum.inl ((ix + 1), L, Sum.inr (Sum.inr (k9_fr k b i)) :: st0, I, J) := by
  simp only [k9_g4] at hw
  repeat' split at hw
  all_goals first
    | (cases hw; done)
    | (injection hw with hw
       subst hw
       exact ⟨_, _, _, by first | rfl | assumption, by first | rfl | assumption, rfl⟩)

theorem k9_v_4_3 {S : k9_S} {a b ix : Nat} {z : Int32} {L : k9_L} {st : List k9_v} {I : k9_I} {J : k9_J} {w : k9_X} (hw : k9_g4 S 3 a b ix L st I J = some w) : ∃ v : Int32, ∃ k : Nat, ∃ i : Nat, ∃ st0 : List k9_v, st = k9_i v :: k9_r k i :: st0 ∧ Nat.beq k a = true ∧ w = Sum.inl ((ix + 1), L, st0, (k9_u I k i b v), J) := by
  simp only [k9_g4] at hw
  repeat' split at hw
  all_goals first
    | (cases hw; done)
    | (injection hw with hw
       subst hw
       exact ⟨_, _, _, _, by first | rfl | assumption, by first | rfl | assumption, rfl⟩)

theorem k9_v_4_4 {S : k9_S} {a b ix : Nat} {z : Int32} {L : k9_L} {st : List k9_v} {I : k9_I} {J : k9_J} {w : k9_X} (hw : k9_g4 S 4 a b ix L st I J = some w) : ∃ v : Int32, ∃ k : Nat, ∃ i : Nat, ∃ st0 : List k9_v, st = k9_i v :: k9_r k i :: st0 ∧ Nat.beq k a = true ∧ w = Sum.inr (Sum.inl ((decide (v = 0 ∨ v = 1)), (ix + 1), L, st0, (k9_u I k i b v), J)) := by
  simp only [k9_g4] at hw
  repeat' split at hw
  all_goals first
    | (cases hw; done)
    | (injection hw with hw
       subst hw
       exact ⟨_, _, _, _, by first | rfl | assumption, by first | rfl | assumption, rfl⟩)

theorem k9_v_4_5 {S : k9_S} {a b ix : Nat} {z : Int32} {L : k9_L} {st : List k9_v} {I : k9_I} {J : k9_J} {w : k9_X} (hw : k9_g4 S 5 a b ix L st I J = some w) : ∃ v : Int64, ∃ k : Nat, ∃ i : Nat, ∃ st0 : List k9_v, st = k9_l v :: k9_r k i :: st0 ∧ Nat.beq k a = true ∧ w = Sum.inl ((ix + 1), L, st0, I, (k9_uJ J k i b v)) := by
  simp only [k9_g4] at hw
  repeat' split at hw
  all_goals first
    | (cases hw; done)
    | (injection hw with hw
       subst hw
       exact ⟨_, _, _, _, by first | rfl | assumption, by first | rfl | assumption, rfl⟩)

theorem k9_v_4_6 {S : k9_S} {a b ix : Nat} {z : Int32} {L : k9_L} {st : List k9_v} {I : k9_I} {J : k9_J} {w : k9_X} (hw : k9_g4 S 6 a b ix L st I J = some w) : ∃ j : Int32, ∃ k : Nat, ∃ i : Nat, ∃ st0 : List k9_v, st = k9_i j :: k9_r k i :: st0 ∧ Nat.beq (k9_et k) 1 = true ∧ w = Sum.inr (Sum.inl ((k9_in j (k9_len k)), (ix + 1), L, k9_i (I k i j.toNatClampNeg) :: st0, I, J)) := by
  simp only [k9_g4] at hw
  repeat' split at hw
  all_goals first
    | (cases hw; done)
    | (injection hw with hw
       subst hw
       exact ⟨_, _, _, _, by first | rfl | assumption, by first | rfl | assumption, rfl⟩)

theorem k9_v_4_7 {S : k9_S} {a b ix : Nat} {z : Int32} {L : k9_L} {st : List k9_v} {I : k9_I} {J : k9_J} {w : k9_X} (hw : k9_g4 S 7 a b ix L st I J = some w) : ∃ j : Int32, ∃ k : Nat, ∃ i : Nat, ∃ st0 : List k9_v, st = k9_i j :: k9_r k i :: st0 ∧ Nat.beq (k9_et k) 2 = true ∧ w = Sum.inr (Sum.inl ((k9_in j (k9_len k)), (ix + 1), L, k9_l (J k i j.toNatClampNeg) :: st0, I, J)) := by
  simp only [k9_g4] at hw
  repeat' split at hw
  all_goals first
    | (cases hw; done)
    | (injection hw with hw
       subst hw
       exact ⟨_, _, _, _, by first | rfl | assumption, by first | rfl | assumption, rfl⟩)

theorem k9_v_4_8 {S : k9_S} {a b ix : Nat} {z : Int32} {L : k9_L} {st : List k9_v} {I : k9_I} {J : k9_J} {w : k9_X} (hw : k9_g4 S 8 a b ix L st I J = some w) : ∃ j : Int32, ∃ k : Nat, ∃ i : Nat, ∃ st0 : List k9_v, st = k9_i j :: k9_r k i :: st0 ∧ Nat.beq (k9_et k) 3 = true ∧ w = Sum.inr (Sum.inl ((k9_in j (k9_len k)), (ix + 1), L, Sum.inr (Sum.inr (k9_ar k i j.toNatClampNeg)) :: st0, I, J)) := by
  simp only [k9_g4] at hw
  repeat' split at hw
  all_goals first
    | (cases hw; done)
    | (injection hw with hw
       subst hw
       exact ⟨_, _, _, _, by first | rfl | assumption, by first | rfl | assumption, rfl⟩)

theorem k9_v_4_9 {S : k9_S} {a b ix : Nat} {z : Int32} {L : k9_L} {st : List k9_v} {I : k9_I} {J : k9_J} {w : k9_X} (hw : k9_g4 S 9 a b ix L st I J = some w) : ∃ v : Int32, ∃ j : Int32, ∃ k : Nat, ∃ i : Nat, ∃ st0 : List k9_v, st = k9_i v :: k9_i j :: k9_r k i :: st0 ∧ Nat.beq (k9_et k) 1 = true ∧ w = Sum.inr (Sum.inl ((k9_in j (k9_len k)), (ix + 1), L, st0, (k9_u I k i j.toNatClampNeg v), J)) := by
  simp only [k9_g4] at hw
  repeat' split at hw
  all_goals first
    | (cases hw; done)
    | (injection hw with hw
       subst hw
       exact ⟨_, _, _, _, _, by first | rfl | assumption, by first | rfl | assumption, rfl⟩)

theorem k9_v_4_10 {S : k9_S} {a b ix : Nat} {z : Int32} {L : k9_L} {st : List k9_v} {I : k9_I} {J : k9_J} {w : k9_X} (hw : k9_g4 S 10 a b ix L st I J = some w) : ∃ v : Int64, ∃ j : Int32, ∃ k : Nat, ∃ i : Nat, ∃ st0 : List k9_v, st = k9_l v :: k9_i j :: k9_r k i :: st0 ∧ Nat.beq (k9_et k) 2 = true ∧ w = Sum.inr (Sum.inl ((k9_in j (k9_len k)), (ix + 1), L, st0, I, (k9_uJ J k i j.toNatClampNeg v))) := by
  simp only [k9_g4] at hw
  repeat' split at hw
  all_goals first
    | (cases hw; done)
    | (injection hw with hw
       subst hw
       exact ⟨_, _, _, _, _, by first | rfl | assumption, by first | rfl | assumption, rfl⟩)

theorem k9_v_4_11 {S : k9_S} {a b ix : Nat} {z : Int32} {L : k9_L} {st : List k9_v} {I : k9_I} {J : k9_J} {w : k9_X} (hw : k9_g4 S 11 a b ix L st I J = some w) : ∃ k : Nat, ∃ i : Nat, ∃ st0 : List k9_v, st = k9_r k i :: st0 ∧ (Nat.ble 1 (k9_et k) && Nat.ble (k9_et k) 3) = true ∧ w = Sum.inl ((ix + 1), L, k9_i (Int32.ofNat (k9_len k)) :: st0, I, J) := by
  simp only [k9_g4] at hw
  repeat' split at hw
  all_goals first
    | (cases hw; done)
    | (injection hw with hw
       subst hw
       exact ⟨_, _, _, by first | rfl | assumption, by first | rfl | assumption, rfl⟩)

theorem k9_v_4_12 {S : k9_S} {a b ix : Nat} {z : Int32} {L : k9_L} {st : List k9_v} {I : k9_I} {J : k9_J} {w : k9_X} (hw : k9_g4 S 12 a b ix L st I J = some w) : w = Sum.inl ((ix + 1), L, k9_r a 0 :: st, I, J) := by
  simp only [k9_g4] at hw
  injection hw with hw
  exact hw.symm

theorem k9_v_4_13 {S : k9_S} {a b ix : Nat} {z : Int32} {L : k9_L} {st : List k9_v} {I : k9_I} {J : k9_J} {w : k9_X} (hw : k9_g4 S 13 a b ix L st I J = some w) : ∃ j : Int32, ∃ k : Nat, ∃ st0 : List k9_v, st = k9_i j :: k9_r k 0 :: st0 ∧ Nat.beq (k9_et k) 9 = true ∧ w = Sum.inr (Sum.inl ((k9_in j (k9_len k)), (ix + 1), L, k9_i (k9_tab k j.toNatClampNeg) :: st0, I, J)) := by
  simp only [k9_g4] at hw
  repeat' split at hw
  all_goals first
    | (cases hw; done)
    | (injection hw with hw
       subst hw
       exact ⟨_, _, _, by first | rfl | assumption, by first | rfl | assumption, rfl⟩)

theorem k9_v_4_14 {S : k9_S} {a b ix : Nat} {z : Int32} {L : k9_L} {st : List k9_v} {I : k9_I} {J : k9_J} {w : k9_X} (hw : k9_g4 S 14 a b ix L st I J = some w) : ∃ k : Nat, ∃ st0 : List k9_v, st = k9_r k 0 :: st0 ∧ Nat.beq (k9_et k) 9 = true ∧ w = Sum.inl ((ix + 1), L, k9_i (Int32.ofNat (k9_len k)) :: st0, I, J) := by
  simp only [k9_g4] at hw
  repeat' split at hw
  all_goals first
    | (cases hw; done)
    | (injection hw with hw
       subst hw
       exact ⟨_, _, by first | rfl | assumption, by first | rfl | assumption, rfl⟩)

theorem k9_v_4_15 {S : k9_S} {a b ix : Nat} {z : Int32} {L : k9_L} {st : List k9_v} {I : k9_I} {J : k9_J} {w : k9_X} (hw : k9_g4 S 15 a b ix L st I J = some w) : ∃ j : Int32, ∃ k : Nat, ∃ st0 : List k9_v, st = k9_i j :: k9_r k 0 :: st0 ∧ Nat.beq k k9_kS = true ∧ w = Sum.inr (Sum.inl ((k9_in j S.2), (ix + 1), L, k9_i (S.1 j.toNatClampNeg) :: st0, I, J)) := by
  simp only [k9_g4] at hw
  repeat' split at hw
  all_goals first
    | (cases hw; done)
    | (injection hw with hw
       subst hw
       exact ⟨_, _, _, by first | rfl | assumption, by first | rfl | assumption, rfl⟩)

theorem k9_v_4_16 {S : k9_S} {a b ix : Nat} {z : Int32} {L : k9_L} {st : List k9_v} {I : k9_I} {J : k9_J} {w : k9_X} (hw : k9_g4 S 16 a b ix L st I J = some w) : ∃ k : Nat, ∃ st0 : List k9_v, st = k9_r k 0 :: st0 ∧ Nat.beq k k9_kS = true ∧ w = Sum.inl ((ix + 1), L, k9_i (Int32.ofNat S.2) :: st0, I, J) := by
  simp only [k9_g4] at hw
  repeat' split at hw
  all_goals first
    | (cases hw; done)
    | (injection hw with hw
       subst hw
       exact ⟨_, _, by first | rfl | assumption, by first | rfl | assumption, rfl⟩)

theorem k9_v_5_0 {S : k9_S} {a b ix : Nat} {z : Int32} {L : k9_L} {st : List k9_v} {I : k9_I} {J : k9_J} {w : k9_X} (hw : k9_g5 0 a b ix L st I J = some w) : w = Sum.inl (a, (k9_kp b L), st, I, J) := by
  simp only [k9_g5] at hw
  injection hw with hw
  exact hw.symm

theorem k9_v_5_1 {S : k9_S} {a b ix : Nat} {z : Int32} {L : k9_L} {st : List k9_v} {I : k9_I} {J : k9_J} {w : k9_X} (hw : k9_g5 1 a b ix L st I J = some w) : ∃ x : Int32, ∃ st0 : List k9_v, st = k9_i x :: st0 ∧ w = Sum.inr (Sum.inr (Sum.inl (decide (x = 0), a, (ix + 1), L, st0, I, J))) := by
  simp only [k9_g5] at hw
  repeat' split at hw
  all_goals first
    | (cases hw; done)
    | (injection hw with hw
       subst hw
       exact ⟨_, _, by first | rfl | assumption, rfl⟩)

theorem k9_v_5_2 {S : k9_S} {a b ix : Nat} {z : Int32} {L : k9_L} {st : List k9_v} {I : k9_I} {J : k9_J} {w : k9_X} (hw : k9_g5 2 a b ix L st I J = some w) : ∃ x : Int32, ∃ st0 : List k9_v, st = k9_i x :: st0 ∧ w = Sum.inr (Sum.inr (Sum.inl (decide (x = 0), (ix + 1), a, L, st0, I, J))) := by
  simp only [k9_g5] at hw
  repeat' split at hw
  all_goals first
    | (cases hw; done)
    | (injection hw with hw
       subst hw
       exact ⟨_, _, by first | rfl | assumption, rfl⟩)

theorem k9_v_5_3 {S : k9_S} {a b ix : Nat} {z : Int32} {L : k9_L} {st : List k9_v} {I : k9_I} {J : k9_J} {w : k9_X} (hw : k9_g5 3 a b ix L st I J = some w) : ∃ x : Int32, ∃ st0 : List k9_v, st = k9_i x :: st0 ∧ w = Sum.inr (Sum.inr (Sum.inl (decide (x < 0), a, (ix + 1), L, st0, I, J))) := by
  simp only [k9_g5] at hw
  repeat' split at hw
  all_goals first
    | (cases hw; done)
    | (injection hw with hw
       subst hw
       exact ⟨_, _, by first | rfl | assumption, rfl⟩)

theorem k9_v_5_4 {S : k9_S} {a b ix : Nat} {z : Int32} {L : k9_L} {st : List k9_v} {I : k9_I} {J : k9_J} {w : k9_X} (hw : k9_g5 4 a b ix L st I J = some w) : ∃ x : Int32, ∃ st0 : List k9_v, st = k9_i x :: st0 ∧ w = Sum.inr (Sum.inr (Sum.inl (decide (0 ≤ x), a, (ix + 1), L, st0, I, J))) := by
  simp only [k9_g5] at hw
  repeat' split at hw
  all_goals first
    | (cases hw; done)
    | (injection hw with hw
       subst hw
       exact ⟨_, _, by first | rfl | assumption, rfl⟩)

theorem k9_v_5_5 {S : k9_S} {a b ix : Nat} {z : Int32} {L : k9_L} {st : List k9_v} {I : k9_I} {J : k9_J} {w : k9_X} (hw : k9_g5 5 a b ix L st I J = some w) : ∃ x : Int32, ∃ st0 : List k9_v, st = k9_i x :: st0 ∧ w = Sum.inr (Sum.inr (Sum.inl (decide (0 < x), a, (ix + 1), L, st0, I, J))) := by
  simp only [k9_g5] at hw
  repeat' split at hw
  all_goals first
    | (cases hw; done)
    | (injection hw with hw
       subst hw
       exact ⟨_, _, by first | rfl | assumption, rfl⟩)

theorem k9_v_5_6 {S : k9_S} {a b ix : Nat} {z : Int32} {L : k9_L} {st : List k9_v} {I : k9_I} {J : k9_J} {w : k9_X} (hw : k9_g5 6 a b ix L st I J = some w) : ∃ x : Int32, ∃ st0 : List k9_v, st = k9_i x :: st0 ∧ w = Sum.inr (Sum.inr (Sum.inl (decide (x ≤ 0), a, (ix + 1), L, st0, I, J))) := by
  simp only [k9_g5] at hw
  repeat' split at hw
  all_goals first
    | (cases hw; done)
    | (injection hw with hw
       subst hw
       exact ⟨_, _, by first | rfl | assumption, rfl⟩)

theorem k9_v_5_7 {S : k9_S} {a b ix : Nat} {z : Int32} {L : k9_L} {st : List k9_v} {I : k9_I} {J : k9_J} {w : k9_X} (hw : k9_g5 7 a b ix L st I J = some w) : ∃ x : Int32, ∃ y0 : Int32, ∃ st0 : List k9_v, st = k9_i y0 :: k9_i x :: st0 ∧ w = Sum.inr (Sum.inr (Sum.inl (decide (x = y0), a, (ix + 1), L, st0, I, J))) := by
  simp only [k9_g5] at hw
  repeat' split at hw
  all_goals first
    | (cases hw; done)
    | (injection hw with hw
       subst hw
       exact ⟨_, _, _, by first | rfl | assumption, rfl⟩)

theorem k9_v_5_8 {S : k9_S} {a b ix : Nat} {z : Int32} {L : k9_L} {st : List k9_v} {I : k9_I} {J : k9_J} {w : k9_X} (hw : k9_g5 8 a b ix L st I J = some w) : ∃ x : Int32, ∃ y0 : Int32, ∃ st0 : List k9_v, st = k9_i y0 :: k9_i x :: st0 ∧ w = Sum.inr (Sum.inr (Sum.inl (decide (x = y0), (ix + 1), a, L, st0, I, J))) := by
  simp only [k9_g5] at hw
  repeat' split at hw
  all_goals first
    | (cases hw; done)
    | (injection hw with hw
       subst hw
       exact ⟨_, _, _, by first | rfl | assumption, rfl⟩)

theorem k9_v_5_9 {S : k9_S} {a b ix : Nat} {z : Int32} {L : k9_L} {st : List k9_v} {I : k9_I} {J : k9_J} {w : k9_X} (hw : k9_g5 9 a b ix L st I J = some w) : ∃ x : Int32, ∃ y0 : Int32, ∃ st0 : List k9_v, st = k9_i y0 :: k9_i x :: st0 ∧ w = Sum.inr (Sum.inr (Sum.inl (decide (x < y0), a, (ix + 1), L, st0, I, J))) := by
  simp only [k9_g5] at hw
  repeat' split at hw
  all_goals first
    | (cases hw; done)
    | (injection hw with hw
       subst hw
       exact ⟨_, _, _, by first | rfl | assumption, rfl⟩)

theorem k9_v_5_10 {S : k9_S} {a b ix : Nat} {z : Int32} {L : k9_L} {st : List k9_v} {I : k9_I} {J : k9_J} {w : k9_X} (hw : k9_g5 10 a b ix L st I J = some w) : ∃ x : Int32, ∃ y0 : Int32, ∃ st0 : List k9_v, st = k9_i y0 :: k9_i x :: st0 ∧ w = Sum.inr (Sum.inr (Sum.inl (decide (y0 ≤ x), a, (ix + 1), L, st0, I, J))) := by
  simp only [k9_g5] at hw
  repeat' split at hw
  all_goals first
    | (cases hw; done)
    | (injection hw with hw
       subst hw
       exact ⟨_, _, _, by first | rfl | assumption, rfl⟩)

theorem k9_v_5_11 {S : k9_S} {a b ix : Nat} {z : Int32} {L : k9_L} {st : List k9_v} {I : k9_I} {J : k9_J} {w : k9_X} (hw : k9_g5 11 a b ix L st I J = some w) : ∃ x : Int32, ∃ y0 : Int32, ∃ st0 : List k9_v, st = k9_i y0 :: k9_i x :: st0 ∧ w = Sum.inr (Sum.inr (Sum.inl (decide (y0 < x), a, (ix + 1), L, st0, I, J))) := by
  simp only [k9_g5] at hw
  repeat' split at hw
  all_goals first
    | (cases hw; done)
    | (injection hw with hw
       subst hw
       exact ⟨_, _, _, by first | rfl | assumption, rfl⟩)

theorem k9_v_5_12 {S : k9_S} {a b ix : Nat} {z : Int32} {L : k9_L} {st : List k9_v} {I : k9_I} {J : k9_J} {w : k9_X} (hw : k9_g5 12 a b ix L st I J = some w) : ∃ x : Int32, ∃ y0 : Int32, ∃ st0 : List k9_v, st = k9_i y0 :: k9_i x :: st0 ∧ w = Sum.inr (Sum.inr (Sum.inl (decide (x ≤ y0), a, (ix + 1), L, st0, I, J))) := by
  simp only [k9_g5] at hw
  repeat' split at hw
  all_goals first
    | (cases hw; done)
    | (injection hw with hw
       subst hw
       exact ⟨_, _, _, by first | rfl | assumption, rfl⟩)

theorem k9_v_5_13 {S : k9_S} {a b ix : Nat} {z : Int32} {L : k9_L} {st : List k9_v} {I : k9_I} {J : k9_J} {w : k9_X} (hw : k9_g5 13 a b ix L st I J = some w) : ∃ k : Nat, ∃ i : Nat, ∃ st0 : List k9_v, st = k9_r k i :: st0 ∧ w = Sum.inl ((bif Nat.beq k 0 then a else ix + 1), L, st0, I, J) := by
  simp only [k9_g5] at hw
  split at hw
  · refine ⟨_, _, _, rfl, ?_⟩
    split at hw
    · rename_i hk
      injection hw with hw
      rw [hk]
      exact hw.symm
    · rename_i hk
      injection hw with hw
      rw [hk]
      exact hw.symm
  · cases hw

theorem k9_v_5_14 {S : k9_S} {a b ix : Nat} {z : Int32} {L : k9_L} {st : List k9_v} {I : k9_I} {J : k9_J} {w : k9_X} (hw : k9_g5 14 a b ix L st I J = some w) : ∃ k : Nat, ∃ i : Nat, ∃ st0 : List k9_v, st = k9_r k i :: st0 ∧ w = Sum.inl ((bif Nat.beq k 0 then ix + 1 else a), L, st0, I, J) := by
  simp only [k9_g5] at hw
  split at hw
  · refine ⟨_, _, _, rfl, ?_⟩
    split at hw
    · rename_i hk
      injection hw with hw
      rw [hk]
      exact hw.symm
    · rename_i hk
      injection hw with hw
      rw [hk]
      exact hw.symm
  · cases hw

theorem k9_v_5_15 {S : k9_S} {a b ix : Nat} {z : Int32} {L : k9_L} {st : List k9_v} {I : k9_I} {J : k9_J} {w : k9_X} (hw : k9_g5 15 a b ix L st I J = some w) : ∃ x : Int32, ∃ st0 : List k9_v, st = k9_i x :: st0 ∧ w = Sum.inr (Sum.inr (Sum.inr (Sum.inl (k9_swt a, x, b, L, st0, I, J)))) := by
  simp only [k9_g5] at hw
  repeat' split at hw
  all_goals first
    | (cases hw; done)
    | (injection hw with hw
       subst hw
       exact ⟨_, _, by first | rfl | assumption, rfl⟩)

theorem k9_v_6_0 {S : k9_S} {a b ix : Nat} {z : Int32} {L : k9_L} {st : List k9_v} {I : k9_I} {J : k9_J} {w : k9_X} (hw : k9_g6 0 a b ix L st I J = some w) : ∃ as : List k9_v, ∃ st0 : List k9_v, k9_pop b st [] = some (as, st0) ∧ (Nat.ble st0.length 4 && Nat.ble (k9_lay as).length (k9_ml a)) = true ∧ w = Sum.inr (Sum.inr (Sum.inr (Sum.inr (Sum.inl (a, as, L, st0))))) := by
  simp only [k9_g6] at hw
  repeat' split at hw
  all_goals first
    | (cases hw; done)
    | (injection hw with hw
       subst hw
       exact ⟨_, _, by first | rfl | assumption, by first | rfl | assumption, rfl⟩)

theorem k9_v_6_1 {S : k9_S} {a b ix : Nat} {z : Int32} {L : k9_L} {st : List k9_v} {I : k9_I} {J : k9_J} {w : k9_X} (hw : k9_g6 1 a b ix L st I J = some w) : ∃ as : List k9_v, ∃ k : Nat, ∃ i : Nat, ∃ st0 : List k9_v, k9_pop b st [] = some (as, k9_r k i :: st0) ∧ (Nat.beq k (k9_mk a) && Nat.ble st0.length 4 && Nat.ble (k9_lay (k9_r k i :: as)).length (k9_ml a)) = true ∧ w = Sum.inr (Sum.inr (Sum.inr (Sum.inr (Sum.inl (a, k9_r k i :: as, L, st0))))) := by
  simp only [k9_g6] at hw
  repeat' split at hw
  all_goals first
    | (cases hw; done)
    | (injection hw with hw
       subst hw
       exact ⟨_, _, _, _, by first | rfl | assumption, by first | rfl | assumption, rfl⟩)

theorem k9_v_6_2 {S : k9_S} {a b ix : Nat} {z : Int32} {L : k9_L} {st : List k9_v} {I : k9_I} {J : k9_J} {w : k9_X} (hw : k9_g6 2 a b ix L st I J = some w) : ∃ x : Int32, ∃ y0 : Int32, ∃ st0 : List k9_v, st = k9_i y0 :: k9_i x :: st0 ∧ Nat.ble st0.length 4 = true ∧ w = Sum.inl ((ix + 1), L, k9_i (if x < y0 then y0 else x) :: st0, I, J) := by
  simp only [k9_g6] at hw
  split at hw
  · split at hw
    · injection hw with hw
      subst hw
      exact ⟨_, _, _, by first | rfl | assumption, by first | rfl | assumption, rfl⟩
    · cases hw
  · cases hw

theorem k9_v_6_3 {S : k9_S} {a b ix : Nat} {z : Int32} {L : k9_L} {st : List k9_v} {I : k9_I} {J : k9_J} {w : k9_X} (hw : k9_g6 3 a b ix L st I J = some w) : ∃ x : Int32, ∃ y0 : Int32, ∃ st0 : List k9_v, st = k9_i y0 :: k9_i x :: st0 ∧ Nat.ble st0.length 4 = true ∧ w = Sum.inl ((ix + 1), L, k9_i (if y0 < x then y0 else x) :: st0, I, J) := by
  simp only [k9_g6] at hw
  split at hw
  · split at hw
    · injection hw with hw
      subst hw
      exact ⟨_, _, _, by first | rfl | assumption, by first | rfl | assumption, rfl⟩
    · cases hw
  · cases hw

theorem k9_v_6_4 {S : k9_S} {a b ix : Nat} {z : Int32} {L : k9_L} {st : List k9_v} {I : k9_I} {J : k9_J} {w : k9_X} (hw : k9_g6 4 a b ix L st I J = some w) : ∃ x : Int32, ∃ st0 : List k9_v, st = k9_i x :: st0 ∧ Nat.ble st0.length 4 = true ∧ w = Sum.inl ((ix + 1), L, k9_i (if 0 ≤ x then x else 0 - x) :: st0, I, J) := by
  simp only [k9_g6] at hw
  split at hw
  · split at hw
    · injection hw with hw
      subst hw
      exact ⟨_, _, by first | rfl | assumption, by first | rfl | assumption, rfl⟩
    · cases hw
  · cases hw

theorem k9_v_6_5 {S : k9_S} {a b ix : Nat} {z : Int32} {L : k9_L} {st : List k9_v} {I : k9_I} {J : k9_J} {w : k9_X} (hw : k9_g6 5 a b ix L st I J = some w) : ∃ x : Int32, st = [k9_i x] ∧ w = Sum.inr (Sum.inr (Sum.inr (Sum.inr (Sum.inr (true, some (k9_i x)))))) := by
  simp only [k9_g6] at hw
  repeat' split at hw
  all_goals first
    | (cases hw; done)
    | (injection hw with hw
       subst hw
       exact ⟨_, by first | rfl | assumption, rfl⟩)

theorem k9_v_6_6 {S : k9_S} {a b ix : Nat} {z : Int32} {L : k9_L} {st : List k9_v} {I : k9_I} {J : k9_J} {w : k9_X} (hw : k9_g6 6 a b ix L st I J = some w) : ∃ x : Int32, st = [k9_i x] ∧ w = Sum.inr (Sum.inr (Sum.inr (Sum.inr (Sum.inr ((decide (x = 0 ∨ x = 1)), some (k9_i x)))))) := by
  simp only [k9_g6] at hw
  repeat' split at hw
  all_goals first
    | (cases hw; done)
    | (injection hw with hw
       subst hw
       exact ⟨_, by first | rfl | assumption, rfl⟩)

theorem k9_v_6_7 {S : k9_S} {a b ix : Nat} {z : Int32} {L : k9_L} {st : List k9_v} {I : k9_I} {J : k9_J} {w : k9_X} (hw : k9_g6 7 a b ix L st I J = some w) : ∃ x : Int64, st = [k9_l x] ∧ w = Sum.inr (Sum.inr (Sum.inr (Sum.inr (Sum.inr (true, some (k9_l x)))))) := by
  simp only [k9_g6] at hw
  repeat' split at hw
  all_goals first
    | (cases hw; done)
    | (injection hw with hw
       subst hw
       exact ⟨_, by first | rfl | assumption, rfl⟩)

theorem k9_v_6_8 {S : k9_S} {a b ix : Nat} {z : Int32} {L : k9_L} {st : List k9_v} {I : k9_I} {J : k9_J} {w : k9_X} (hw : k9_g6 8 a b ix L st I J = some w) : ∃ x : Nat × Nat, st = [Sum.inr (Sum.inr x)] ∧ w = Sum.inr (Sum.inr (Sum.inr (Sum.inr (Sum.inr (true, some (Sum.inr (Sum.inr x))))))) := by
  simp only [k9_g6] at hw
  repeat' split at hw
  all_goals first
    | (cases hw; done)
    | (injection hw with hw
       subst hw
       exact ⟨_, by first | rfl | assumption, rfl⟩)

theorem k9_v_6_9 {S : k9_S} {a b ix : Nat} {z : Int32} {L : k9_L} {st : List k9_v} {I : k9_I} {J : k9_J} {w : k9_X} (hw : k9_g6 9 a b ix L st I J = some w) : st = [] ∧ w = Sum.inr (Sum.inr (Sum.inr (Sum.inr (Sum.inr (true, none))))) := by
  simp only [k9_g6] at hw
  repeat' split at hw
  all_goals first
    | (cases hw; done)
    | (injection hw with hw
       subst hw
       exact ⟨by first | rfl | assumption, rfl⟩)

theorem k9_main {S : k9_S} : ∀ (n d y ix : Nat) (L : k9_L) (st : List k9_v) (I : k9_I) (J : k9_J) (r : Option k9_v) (I' : k9_I) (J' : k9_J), k9_ru S n d y ix L st I J = some (r, I', J') → y < k9_law + 1 → k9_vl L → k9_vs st →
    (∀ v, r = some v → k9_vk v) ∧ ∀ K, k9_y K = y → k9_C S d K → k9_E r I' J' K → k9_G ix L st I J K
  | 0, _, _, _, _, _, _, _, _, _, _, hr, _, _, _ => by cases hr
  | n + 1, d, y, ix, L, st, I, J, r, I', J', hr, hy, hvl, hvs => by
    have ih := k9_main (S := S) n
    change k9_stp (k9_ru S n) (k9_ru S n) S d y ix L st I J = some (r, I', J') at hr
    have okp := fun hne => k9_all y ix hy hne
    obtain ⟨⟨g, h, a, b, z⟩, hq⟩ : ∃ q, k9_cod y ix = q := ⟨_, rfl⟩
    unfold k9_stp at hr
    cases hw : k9_nxt S (k9_cod y ix) ix L st I J with
    | none => rw [hw] at hr; cases hr
    | some w =>
    rw [hw] at hr
    rw [hq] at hw okp
    match g, hw, hq, okp with

    | 0, hw, hq, okp =>
      change k9_g0 h a z ix L st I J = some w at hw
      match h, hw, hq, okp with
      | 1, hw, hq, okp =>
        have okq := okp (by intro z; cases z)
        have hq9 := hq
        obtain rfl := k9_v_0_1 (S := S) (a := a) (b := b) (ix := ix) (z := z) (L := L) (st := st) (I := I) (J := J) hw
        dsimp only at hr
        obtain ⟨hvr, hG⟩ := ih _ _ _ _ _ _ _ _ _ _ hr hy (hvl) (k9_vs_c trivial hvs)
        refine ⟨hvr, fun K hK hC hE => ?_⟩
        subst hK
        exact k9_x_0_1  hC okq hq9 (hG K rfl hC hE)
      | 2, hw, hq, okp =>
        have okq := okp (by intro z; cases z)
        have hq9 := hq
        obtain rfl := k9_v_0_2 (S := S) (a := a) (b := b) (ix := ix) (z := z) (L := L) (st := st) (I := I) (J := J) hw
        dsimp only at hr
        obtain ⟨hvr, hG⟩ := ih _ _ _ _ _ _ _ _ _ _ hr hy (hvl) (k9_vs_c trivial hvs)
        refine ⟨hvr, fun K hK hC hE => ?_⟩
        subst hK
        exact k9_x_0_2  hC okq hq9 (hG K rfl hC hE)
      | 3, hw, hq, okp =>
        have okq := okp (by intro z; cases z)
        have hq9 := hq
        obtain rfl := k9_v_0_3 (S := S) (a := a) (b := b) (ix := ix) (z := z) (L := L) (st := st) (I := I) (J := J) hw
        dsimp only at hr
        obtain ⟨hvr, hG⟩ := ih _ _ _ _ _ _ _ _ _ _ hr hy (hvl) (k9_vs_c (Or.inl rfl) hvs)
        refine ⟨hvr, fun K hK hC hE => ?_⟩
        subst hK
        exact k9_x_0_3  hC okq hq9 (hG K rfl hC hE)
      | 4, hw, hq, okp =>
        have okq := okp (by intro z; cases z)
        have hq9 := hq
        obtain ⟨v, e1, rfl⟩ := k9_v_0_4 (S := S) (a := a) (b := b) (ix := ix) (z := z) (L := L) (st := st) (I := I) (J := J) hw
        dsimp only at hr
        obtain ⟨hvr, hG⟩ := ih _ _ _ _ _ _ _ _ _ _ hr hy (hvl) (k9_vs_c trivial hvs)
        refine ⟨hvr, fun K hK hC hE => ?_⟩
        subst hK
        exact k9_x_0_4 e1 hC okq hq9 (hG K rfl hC hE)
      | 5, hw, hq, okp =>
        have okq := okp (by intro z; cases z)
        have hq9 := hq
        obtain ⟨v, e1, rfl⟩ := k9_v_0_5 (S := S) (a := a) (b := b) (ix := ix) (z := z) (L := L) (st := st) (I := I) (J := J) hw
        dsimp only at hr
        obtain ⟨hvr, hG⟩ := ih _ _ _ _ _ _ _ _ _ _ hr hy (hvl) (k9_vs_c trivial hvs)
        refine ⟨hvr, fun K hK hC hE => ?_⟩
        subst hK
        exact k9_x_0_5 e1 hC okq hq9 (hG K rfl hC hE)
      | 6, hw, hq, okp =>
        have okq := okp (by intro z; cases z)
        have hq9 := hq
        obtain ⟨v, e1, rfl⟩ := k9_v_0_6 (S := S) (a := a) (b := b) (ix := ix) (z := z) (L := L) (st := st) (I := I) (J := J) hw
        dsimp only at hr
        obtain ⟨hvr, hG⟩ := ih _ _ _ _ _ _ _ _ _ _ hr hy (hvl) (k9_vs_c (hvl _ _ e1) hvs)
        refine ⟨hvr, fun K hK hC hE => ?_⟩
        subst hK
        exact k9_x_0_6 e1 hC okq hq9 (hG K rfl hC hE)
      | 7, hw, hq, okp =>
        have okq := okp (by intro z; cases z)
        have hq9 := hq
        obtain ⟨v, st0, rfl, rfl⟩ := k9_v_0_7 (S := S) (a := a) (b := b) (ix := ix) (z := z) (L := L) (st := st) (I := I) (J := J) hw
        dsimp only at hr
        obtain ⟨hg, hr⟩ := k9_if hr
        obtain ⟨hvr, hG⟩ := ih _ _ _ _ _ _ _ _ _ _ hr hy (k9_vl_s hg trivial hvl) (k9_vs_t hvs)
        refine ⟨hvr, fun K hK hC hE => ?_⟩
        subst hK
        exact k9_x_0_7 hg hC okq hq9 (hG K rfl hC hE)
      | 8, hw, hq, okp =>
        have okq := okp (by intro z; cases z)
        have hq9 := hq
        obtain ⟨v, st0, rfl, rfl⟩ := k9_v_0_8 (S := S) (a := a) (b := b) (ix := ix) (z := z) (L := L) (st := st) (I := I) (J := J) hw
        dsimp only at hr
        obtain ⟨hg, hr⟩ := k9_if hr
        obtain ⟨hvr, hG⟩ := ih _ _ _ _ _ _ _ _ _ _ hr hy (k9_vl_n (by rw [k9_set_len]; exact Nat.le_of_ble_eq_true (Bool.and_eq_true_iff.mp hg).2) (k9_vl_s (Bool.and_eq_true_iff.mp hg).1 trivial hvl)) (k9_vs_t hvs)
        refine ⟨hvr, fun K hK hC hE => ?_⟩
        subst hK
        exact k9_x_0_8 (Bool.and_eq_true_iff.mp hg).1 (Nat.le_of_ble_eq_true (Bool.and_eq_true_iff.mp hg).2) hC okq hq9 (hG K rfl hC hE)
      | 9, hw, hq, okp =>
        have okq := okp (by intro z; cases z)
        have hq9 := hq
        obtain ⟨v, st0, rfl, rfl⟩ := k9_v_0_9 (S := S) (a := a) (b := b) (ix := ix) (z := z) (L := L) (st := st) (I := I) (J := J) hw
        dsimp only at hr
        obtain ⟨hg, hr⟩ := k9_if hr
        obtain ⟨hvr, hG⟩ := ih _ _ _ _ _ _ _ _ _ _ hr hy (k9_vl_s hg (k9_vs_h hvs) hvl) (k9_vs_t hvs)
        refine ⟨hvr, fun K hK hC hE => ?_⟩
        subst hK
        exact k9_x_0_9 (k9_vs_h hvs) hg hC okq hq9 (hG K rfl hC hE)
      | 10, hw, hq, okp =>
        have okq := okp (by intro z; cases z)
        have hq9 := hq
        obtain ⟨v, e1, rfl⟩ := k9_v_0_10 (S := S) (a := a) (b := b) (ix := ix) (z := z) (L := L) (st := st) (I := I) (J := J) hw
        dsimp only at hr
        obtain ⟨hg, hr⟩ := k9_if hr
        obtain ⟨hvr, hG⟩ := ih _ _ _ _ _ _ _ _ _ _ hr hy (k9_vl_s hg trivial hvl) (hvs)
        refine ⟨hvr, fun K hK hC hE => ?_⟩
        subst hK
        exact k9_x_0_10 e1 hg hC okq hq9 (hG K rfl hC hE)
      | 0, hw, hq, okp => simp [k9_g0] at hw
      | h + 11, hw, hq, okp => simp [k9_g0] at hw
    | 1, hw, hq, okp =>
      change k9_g1 h ix L st I J = some w at hw
      match h, hw, hq, okp with
      | 0, hw, hq, okp =>
        have okq := okp (by intro z; cases z)
        have hq9 := hq
        obtain ⟨v, st0, rfl, rfl⟩ := k9_v_1_0 (S := S) (a := a) (b := b) (ix := ix) (z := z) (L := L) (st := st) (I := I) (J := J) hw
        dsimp only at hr
        obtain ⟨hg, hr⟩ := k9_if hr
        obtain ⟨hvr, hG⟩ := ih _ _ _ _ _ _ _ _ _ _ hr hy (hvl) (k9_vs_c (k9_vs_h hvs) hvs)
        refine ⟨hvr, fun K hK hC hE => ?_⟩
        subst hK
        exact k9_x_1_0 (by simpa using hg) hC okq hq9 (hG K rfl hC hE)
      | 1, hw, hq, okp =>
        have okq := okp (by intro z; cases z)
        have hq9 := hq
        obtain ⟨v, st0, rfl, rfl⟩ := k9_v_1_1 (S := S) (a := a) (b := b) (ix := ix) (z := z) (L := L) (st := st) (I := I) (J := J) hw
        dsimp only at hr
        obtain ⟨hg, hr⟩ := k9_if hr
        obtain ⟨hvr, hG⟩ := ih _ _ _ _ _ _ _ _ _ _ hr hy (hvl) (k9_vs_t hvs)
        refine ⟨hvr, fun K hK hC hE => ?_⟩
        subst hK
        exact k9_x_1_1 (by simpa using hg) hC okq hq9 (hG K rfl hC hE)
      | 2, hw, hq, okp =>
        have okq := okp (by intro z; cases z)
        have hq9 := hq
        obtain ⟨v, u, st0, rfl, rfl⟩ := k9_v_1_2 (S := S) (a := a) (b := b) (ix := ix) (z := z) (L := L) (st := st) (I := I) (J := J) hw
        dsimp only at hr
        obtain ⟨hg, hr⟩ := k9_if hr
        obtain ⟨hvr, hG⟩ := ih _ _ _ _ _ _ _ _ _ _ hr hy (hvl) (k9_vs_c (k9_vs_h hvs) (k9_vs_c (k9_vs_h (k9_vs_t hvs)) (k9_vs_c (k9_vs_h hvs) (k9_vs_t (k9_vs_t hvs)))))
        refine ⟨hvr, fun K hK hC hE => ?_⟩
        subst hK
        exact k9_x_1_2 (by simp at hg; exact hg.1) (by simp at hg; exact hg.2) hC okq hq9 (hG K rfl hC hE)
      | 3, hw, hq, okp =>
        have okq := okp (by intro z; cases z)
        have hq9 := hq
        obtain ⟨v, u, st0, rfl, rfl⟩ := k9_v_1_3 (S := S) (a := a) (b := b) (ix := ix) (z := z) (L := L) (st := st) (I := I) (J := J) hw
        dsimp only at hr
        obtain ⟨hg, hr⟩ := k9_if hr
        obtain ⟨hvr, hG⟩ := ih _ _ _ _ _ _ _ _ _ _ hr hy (hvl) (k9_vs_c (k9_vs_h hvs) (k9_vs_c (k9_vs_h (k9_vs_t hvs)) hvs))
        refine ⟨hvr, fun K hK hC hE => ?_⟩
        subst hK
        exact k9_x_1_3 (by simp at hg; exact hg.1) (by simp at hg; exact hg.2) hC okq hq9 (hG K rfl hC hE)
      | 4, hw, hq, okp =>
        have okq := okp (by intro z; cases z)
        have hq9 := hq
        obtain ⟨v, st0, rfl, rfl⟩ := k9_v_1_4 (S := S) (a := a) (b := b) (ix := ix) (z := z) (L := L) (st := st) (I := I) (J := J) hw
        dsimp only at hr
        obtain ⟨hvr, hG⟩ := ih _ _ _ _ _ _ _ _ _ _ hr hy (hvl) (k9_vs_c trivial hvs)
        refine ⟨hvr, fun K hK hC hE => ?_⟩
        subst hK
        exact k9_x_1_4  hC okq hq9 (hG K rfl hC hE)
      | 5, hw, hq, okp =>
        have okq := okp (by intro z; cases z)
        have hq9 := hq
        obtain ⟨v, st0, rfl, rfl⟩ := k9_v_1_5 (S := S) (a := a) (b := b) (ix := ix) (z := z) (L := L) (st := st) (I := I) (J := J) hw
        dsimp only at hr
        obtain ⟨hvr, hG⟩ := ih _ _ _ _ _ _ _ _ _ _ hr hy (hvl) (k9_vs_t hvs)
        refine ⟨hvr, fun K hK hC hE => ?_⟩
        subst hK
        exact k9_x_1_5  hC okq hq9 (hG K rfl hC hE)
      | 6, hw, hq, okp =>
        have okq := okp (by intro z; cases z)
        have hq9 := hq
        obtain ⟨v, u, t, st0, rfl, rfl⟩ := k9_v_1_6 (S := S) (a := a) (b := b) (ix := ix) (z := z) (L := L) (st := st) (I := I) (J := J) hw
        dsimp only at hr
        obtain ⟨hg, hr⟩ := k9_if hr
        obtain ⟨hvr, hG⟩ := ih _ _ _ _ _ _ _ _ _ _ hr hy (hvl) (k9_vs_c (k9_vs_h hvs) (k9_vs_c (k9_vs_h (k9_vs_t hvs)) (k9_vs_c (k9_vs_h (k9_vs_t (k9_vs_t hvs))) (k9_vs_c (k9_vs_h hvs) (k9_vs_t (k9_vs_t (k9_vs_t hvs)))))))
        refine ⟨hvr, fun K hK hC hE => ?_⟩
        subst hK
        exact k9_x_1_6 (by simp at hg; exact hg.1.1) (by simp at hg; exact hg.1.2) (by simp at hg; exact hg.2) hC okq hq9 (hG K rfl hC hE)
      | h + 7, hw, hq, okp => simp [k9_g1] at hw
    | 2, hw, hq, okp =>
      change k9_g2 h ix L st I J = some w at hw
      match h, hw, hq, okp with
      | 0, hw, hq, okp =>
        have okq := okp (by intro z; cases z)
        have hq9 := hq
        obtain ⟨x, y0, st0, rfl, rfl⟩ := k9_v_2_0 (S := S) (a := a) (b := b) (ix := ix) (z := z) (L := L) (st := st) (I := I) (J := J) hw
        dsimp only at hr
        obtain ⟨hvr, hG⟩ := ih _ _ _ _ _ _ _ _ _ _ hr hy (hvl) (k9_vs_c trivial (k9_vs_t (k9_vs_t hvs)))
        refine ⟨hvr, fun K hK hC hE => ?_⟩
        subst hK
        exact k9_x_2_0  hC okq hq9 (hG K rfl hC hE)
      | 1, hw, hq, okp =>
        have okq := okp (by intro z; cases z)
        have hq9 := hq
        obtain ⟨x, y0, st0, rfl, rfl⟩ := k9_v_2_1 (S := S) (a := a) (b := b) (ix := ix) (z := z) (L := L) (st := st) (I := I) (J := J) hw
        dsimp only at hr
        obtain ⟨hvr, hG⟩ := ih _ _ _ _ _ _ _ _ _ _ hr hy (hvl) (k9_vs_c trivial (k9_vs_t (k9_vs_t hvs)))
        refine ⟨hvr, fun K hK hC hE => ?_⟩
        subst hK
        exact k9_x_2_1  hC okq hq9 (hG K rfl hC hE)
      | 2, hw, hq, okp =>
        have okq := okp (by intro z; cases z)
        have hq9 := hq
        obtain ⟨x, y0, st0, rfl, rfl⟩ := k9_v_2_2 (S := S) (a := a) (b := b) (ix := ix) (z := z) (L := L) (st := st) (I := I) (J := J) hw
        dsimp only at hr
        obtain ⟨hvr, hG⟩ := ih _ _ _ _ _ _ _ _ _ _ hr hy (hvl) (k9_vs_c trivial (k9_vs_t (k9_vs_t hvs)))
        refine ⟨hvr, fun K hK hC hE => ?_⟩
        subst hK
        exact k9_x_2_2  hC okq hq9 (hG K rfl hC hE)
      | 3, hw, hq, okp =>
        have okq := okp (by intro z; cases z)
        have hq9 := hq
        obtain ⟨x, y0, st0, rfl, rfl⟩ := k9_v_2_3 (S := S) (a := a) (b := b) (ix := ix) (z := z) (L := L) (st := st) (I := I) (J := J) hw
        dsimp only at hr
        obtain ⟨hg, hr⟩ := k9_if hr
        obtain ⟨hvr, hG⟩ := ih _ _ _ _ _ _ _ _ _ _ hr hy (hvl) (k9_vs_c trivial (k9_vs_t (k9_vs_t hvs)))
        refine ⟨hvr, fun K hK hC hE => ?_⟩
        subst hK
        exact k9_x_2_3 (of_decide_eq_true hg) hC okq hq9 (hG K rfl hC hE)
      | 4, hw, hq, okp =>
        have okq := okp (by intro z; cases z)
        have hq9 := hq
        obtain ⟨x, y0, st0, rfl, rfl⟩ := k9_v_2_4 (S := S) (a := a) (b := b) (ix := ix) (z := z) (L := L) (st := st) (I := I) (J := J) hw
        dsimp only at hr
        obtain ⟨hg, hr⟩ := k9_if hr
        obtain ⟨hvr, hG⟩ := ih _ _ _ _ _ _ _ _ _ _ hr hy (hvl) (k9_vs_c trivial (k9_vs_t (k9_vs_t hvs)))
        refine ⟨hvr, fun K hK hC hE => ?_⟩
        subst hK
        exact k9_x_2_4 (of_decide_eq_true hg) hC okq hq9 (hG K rfl hC hE)
      | 5, hw, hq, okp =>
        have okq := okp (by intro z; cases z)
        have hq9 := hq
        obtain ⟨x, y0, st0, rfl, rfl⟩ := k9_v_2_5 (S := S) (a := a) (b := b) (ix := ix) (z := z) (L := L) (st := st) (I := I) (J := J) hw
        dsimp only at hr
        obtain ⟨hvr, hG⟩ := ih _ _ _ _ _ _ _ _ _ _ hr hy (hvl) (k9_vs_c trivial (k9_vs_t (k9_vs_t hvs)))
        refine ⟨hvr, fun K hK hC hE => ?_⟩
        subst hK
        exact k9_x_2_5  hC okq hq9 (hG K rfl hC hE)
      | 6, hw, hq, okp =>
        have okq := okp (by intro z; cases z)
        have hq9 := hq
        obtain ⟨x, y0, st0, rfl, rfl⟩ := k9_v_2_6 (S := S) (a := a) (b := b) (ix := ix) (z := z) (L := L) (st := st) (I := I) (J := J) hw
        dsimp only at hr
        obtain ⟨hvr, hG⟩ := ih _ _ _ _ _ _ _ _ _ _ hr hy (hvl) (k9_vs_c trivial (k9_vs_t (k9_vs_t hvs)))
        refine ⟨hvr, fun K hK hC hE => ?_⟩
        subst hK
        exact k9_x_2_6  hC okq hq9 (hG K rfl hC hE)
      | 7, hw, hq, okp =>
        have okq := okp (by intro z; cases z)
        have hq9 := hq
        obtain ⟨x, y0, st0, rfl, rfl⟩ := k9_v_2_7 (S := S) (a := a) (b := b) (ix := ix) (z := z) (L := L) (st := st) (I := I) (J := J) hw
        dsimp only at hr
        obtain ⟨hvr, hG⟩ := ih _ _ _ _ _ _ _ _ _ _ hr hy (hvl) (k9_vs_c trivial (k9_vs_t (k9_vs_t hvs)))
        refine ⟨hvr, fun K hK hC hE => ?_⟩
        subst hK
        exact k9_x_2_7  hC okq hq9 (hG K rfl hC hE)
      | 8, hw, hq, okp =>
        have okq := okp (by intro z; cases z)
        have hq9 := hq
        obtain ⟨x, y0, st0, rfl, rfl⟩ := k9_v_2_8 (S := S) (a := a) (b := b) (ix := ix) (z := z) (L := L) (st := st) (I := I) (J := J) hw
        dsimp only at hr
        obtain ⟨hvr, hG⟩ := ih _ _ _ _ _ _ _ _ _ _ hr hy (hvl) (k9_vs_c trivial (k9_vs_t (k9_vs_t hvs)))
        refine ⟨hvr, fun K hK hC hE => ?_⟩
        subst hK
        exact k9_x_2_8  hC okq hq9 (hG K rfl hC hE)
      | 9, hw, hq, okp =>
        have okq := okp (by intro z; cases z)
        have hq9 := hq
        obtain ⟨x, y0, st0, rfl, rfl⟩ := k9_v_2_9 (S := S) (a := a) (b := b) (ix := ix) (z := z) (L := L) (st := st) (I := I) (J := J) hw
        dsimp only at hr
        obtain ⟨hvr, hG⟩ := ih _ _ _ _ _ _ _ _ _ _ hr hy (hvl) (k9_vs_c trivial (k9_vs_t (k9_vs_t hvs)))
        refine ⟨hvr, fun K hK hC hE => ?_⟩
        subst hK
        exact k9_x_2_9  hC okq hq9 (hG K rfl hC hE)
      | 10, hw, hq, okp =>
        have okq := okp (by intro z; cases z)
        have hq9 := hq
        obtain ⟨x, y0, st0, rfl, rfl⟩ := k9_v_2_10 (S := S) (a := a) (b := b) (ix := ix) (z := z) (L := L) (st := st) (I := I) (J := J) hw
        dsimp only at hr
        obtain ⟨hvr, hG⟩ := ih _ _ _ _ _ _ _ _ _ _ hr hy (hvl) (k9_vs_c trivial (k9_vs_t (k9_vs_t hvs)))
        refine ⟨hvr, fun K hK hC hE => ?_⟩
        subst hK
        exact k9_x_2_10  hC okq hq9 (hG K rfl hC hE)
      | h + 11, hw, hq, okp =>
        simp only [k9_g2] at hw
        split at hw <;> cases hw
    | 3, hw, hq, okp =>
      change k9_g3 h ix L st I J = some w at hw
      match h, hw, hq, okp with
      | 0, hw, hq, okp =>
        have okq := okp (by intro z; cases z)
        have hq9 := hq
        obtain ⟨x, st0, rfl, rfl⟩ := k9_v_3_0 (S := S) (a := a) (b := b) (ix := ix) (z := z) (L := L) (st := st) (I := I) (J := J) hw
        dsimp only at hr
        obtain ⟨hvr, hG⟩ := ih _ _ _ _ _ _ _ _ _ _ hr hy (hvl) (k9_vs_c trivial (k9_vs_t hvs))
        refine ⟨hvr, fun K hK hC hE => ?_⟩
        subst hK
        exact k9_x_3_0  hC okq hq9 (hG K rfl hC hE)
      | 1, hw, hq, okp =>
        have okq := okp (by intro z; cases z)
        have hq9 := hq
        obtain ⟨x, st0, rfl, rfl⟩ := k9_v_3_1 (S := S) (a := a) (b := b) (ix := ix) (z := z) (L := L) (st := st) (I := I) (J := J) hw
        dsimp only at hr
        obtain ⟨hvr, hG⟩ := ih _ _ _ _ _ _ _ _ _ _ hr hy (hvl) (k9_vs_c trivial (k9_vs_t hvs))
        refine ⟨hvr, fun K hK hC hE => ?_⟩
        subst hK
        exact k9_x_3_1  hC okq hq9 (hG K rfl hC hE)
      | 2, hw, hq, okp =>
        have okq := okp (by intro z; cases z)
        have hq9 := hq
        obtain ⟨x, st0, rfl, rfl⟩ := k9_v_3_2 (S := S) (a := a) (b := b) (ix := ix) (z := z) (L := L) (st := st) (I := I) (J := J) hw
        dsimp only at hr
        obtain ⟨hvr, hG⟩ := ih _ _ _ _ _ _ _ _ _ _ hr hy (hvl) (k9_vs_c trivial (k9_vs_t hvs))
        refine ⟨hvr, fun K hK hC hE => ?_⟩
        subst hK
        exact k9_x_3_2  hC okq hq9 (hG K rfl hC hE)
      | 3, hw, hq, okp =>
        have okq := okp (by intro z; cases z)
        have hq9 := hq
        obtain ⟨x, st0, rfl, rfl⟩ := k9_v_3_3 (S := S) (a := a) (b := b) (ix := ix) (z := z) (L := L) (st := st) (I := I) (J := J) hw
        dsimp only at hr
        obtain ⟨hvr, hG⟩ := ih _ _ _ _ _ _ _ _ _ _ hr hy (hvl) (k9_vs_c trivial (k9_vs_t hvs))
        refine ⟨hvr, fun K hK hC hE => ?_⟩
        subst hK
        exact k9_x_3_3  hC okq hq9 (hG K rfl hC hE)
      | 4, hw, hq, okp =>
        have okq := okp (by intro z; cases z)
        have hq9 := hq
        obtain ⟨x, st0, rfl, rfl⟩ := k9_v_3_4 (S := S) (a := a) (b := b) (ix := ix) (z := z) (L := L) (st := st) (I := I) (J := J) hw
        dsimp only at hr
        obtain ⟨hvr, hG⟩ := ih _ _ _ _ _ _ _ _ _ _ hr hy (hvl) (k9_vs_c trivial (k9_vs_t hvs))
        refine ⟨hvr, fun K hK hC hE => ?_⟩
        subst hK
        exact k9_x_3_4  hC okq hq9 (hG K rfl hC hE)
      | 5, hw, hq, okp =>
        have okq := okp (by intro z; cases z)
        have hq9 := hq
        obtain ⟨x, y0, st0, rfl, rfl⟩ := k9_v_3_5 (S := S) (a := a) (b := b) (ix := ix) (z := z) (L := L) (st := st) (I := I) (J := J) hw
        dsimp only at hr
        obtain ⟨hvr, hG⟩ := ih _ _ _ _ _ _ _ _ _ _ hr hy (hvl) (k9_vs_c trivial (k9_vs_t (k9_vs_t hvs)))
        refine ⟨hvr, fun K hK hC hE => ?_⟩
        subst hK
        exact k9_x_3_5  hC okq hq9 (hG K rfl hC hE)
      | 6, hw, hq, okp =>
        have okq := okp (by intro z; cases z)
        have hq9 := hq
        obtain ⟨x, y0, st0, rfl, rfl⟩ := k9_v_3_6 (S := S) (a := a) (b := b) (ix := ix) (z := z) (L := L) (st := st) (I := I) (J := J) hw
        dsimp only at hr
        obtain ⟨hvr, hG⟩ := ih _ _ _ _ _ _ _ _ _ _ hr hy (hvl) (k9_vs_c trivial (k9_vs_t (k9_vs_t hvs)))
        refine ⟨hvr, fun K hK hC hE => ?_⟩
        subst hK
        exact k9_x_3_6  hC okq hq9 (hG K rfl hC hE)
      | 7, hw, hq, okp =>
        have okq := okp (by intro z; cases z)
        have hq9 := hq
        obtain ⟨x, y0, st0, rfl, rfl⟩ := k9_v_3_7 (S := S) (a := a) (b := b) (ix := ix) (z := z) (L := L) (st := st) (I := I) (J := J) hw
        dsimp only at hr
        obtain ⟨hvr, hG⟩ := ih _ _ _ _ _ _ _ _ _ _ hr hy (hvl) (k9_vs_c trivial (k9_vs_t (k9_vs_t hvs)))
        refine ⟨hvr, fun K hK hC hE => ?_⟩
        subst hK
        exact k9_x_3_7  hC okq hq9 (hG K rfl hC hE)
      | 8, hw, hq, okp =>
        have okq := okp (by intro z; cases z)
        have hq9 := hq
        obtain ⟨x, y0, st0, rfl, rfl⟩ := k9_v_3_8 (S := S) (a := a) (b := b) (ix := ix) (z := z) (L := L) (st := st) (I := I) (J := J) hw
        dsimp only at hr
        obtain ⟨hvr, hG⟩ := ih _ _ _ _ _ _ _ _ _ _ hr hy (hvl) (k9_vs_c trivial (k9_vs_t (k9_vs_t hvs)))
        refine ⟨hvr, fun K hK hC hE => ?_⟩
        subst hK
        exact k9_x_3_8  hC okq hq9 (hG K rfl hC hE)
      | 9, hw, hq, okp =>
        have okq := okp (by intro z; cases z)
        have hq9 := hq
        obtain ⟨x, y0, st0, rfl, rfl⟩ := k9_v_3_9 (S := S) (a := a) (b := b) (ix := ix) (z := z) (L := L) (st := st) (I := I) (J := J) hw
        dsimp only at hr
        obtain ⟨hvr, hG⟩ := ih _ _ _ _ _ _ _ _ _ _ hr hy (hvl) (k9_vs_c trivial (k9_vs_t (k9_vs_t hvs)))
        refine ⟨hvr, fun K hK hC hE => ?_⟩
        subst hK
        exact k9_x_3_9  hC okq hq9 (hG K rfl hC hE)
      | 10, hw, hq, okp =>
        have okq := okp (by intro z; cases z)
        have hq9 := hq
        obtain ⟨x, y0, st0, rfl, rfl⟩ := k9_v_3_10 (S := S) (a := a) (b := b) (ix := ix) (z := z) (L := L) (st := st) (I := I) (J := J) hw
        dsimp only at hr
        obtain ⟨hvr, hG⟩ := ih _ _ _ _ _ _ _ _ _ _ hr hy (hvl) (k9_vs_c trivial (k9_vs_t (k9_vs_t hvs)))
        refine ⟨hvr, fun K hK hC hE => ?_⟩
        subst hK
        exact k9_x_3_10  hC okq hq9 (hG K rfl hC hE)
      | h + 11, hw, hq, okp => simp [k9_g3] at hw
    | 4, hw, hq, okp =>
      change k9_g4 S h a b ix L st I J = some w at hw
      match h, hw, hq, okp with
      | 0, hw, hq, okp =>
        have okq := okp (by intro z; cases z)
        have hq9 := hq
        obtain ⟨k, i, st0, rfl, e2, rfl⟩ := k9_v_4_0 (S := S) (a := a) (b := b) (ix := ix) (z := z) (L := L) (st := st) (I := I) (J := J) hw
        dsimp only at hr
        obtain rfl := Nat.eq_of_beq_eq_true e2
        obtain ⟨hvr, hG⟩ := ih _ _ _ _ _ _ _ _ _ _ hr hy (hvl) (k9_vs_c trivial (k9_vs_t hvs))
        refine ⟨hvr, fun K hK hC hE => ?_⟩
        subst hK
        exact k9_x_4_0 (k9_vs_h hvs) hC okq hq9 (hG K rfl hC hE)
      | 1, hw, hq, okp =>
        have okq := okp (by intro z; cases z)
        have hq9 := hq
        obtain ⟨k, i, st0, rfl, e2, rfl⟩ := k9_v_4_1 (S := S) (a := a) (b := b) (ix := ix) (z := z) (L := L) (st := st) (I := I) (J := J) hw
        dsimp only at hr
        obtain rfl := Nat.eq_of_beq_eq_true e2
        obtain ⟨hvr, hG⟩ := ih _ _ _ _ _ _ _ _ _ _ hr hy (hvl) (k9_vs_c trivial (k9_vs_t hvs))
        refine ⟨hvr, fun K hK hC hE => ?_⟩
        subst hK
        exact k9_x_4_1 (k9_vs_h hvs) hC okq hq9 (hG K rfl hC hE)
      | 2, hw, hq, okp =>
        have okq := okp (by intro z; cases z)
        have hq9 := hq
        obtain ⟨k, i, st0, rfl, e2, rfl⟩ := k9_v_4_2 (S := S) (a := a) (b := b) (ix := ix) (z := z) (L := L) (st := st) (I := I) (J := J) hw
        dsimp only at hr
        obtain rfl := Nat.eq_of_beq_eq_true e2
        obtain ⟨hvr, hG⟩ := ih _ _ _ _ _ _ _ _ _ _ hr hy (hvl) (k9_vs_c (k9_fr_v okq hq9 (k9_vs_h hvs)) (k9_vs_t hvs))
        refine ⟨hvr, fun K hK hC hE => ?_⟩
        subst hK
        exact k9_x_4_2 (k9_vs_h hvs) hC okq hq9 (hG K rfl hC hE)
      | 3, hw, hq, okp =>
        have okq := okp (by intro z; cases z)
        have hq9 := hq
        obtain ⟨v, k, i, st0, rfl, e2, rfl⟩ := k9_v_4_3 (S := S) (a := a) (b := b) (ix := ix) (z := z) (L := L) (st := st) (I := I) (J := J) hw
        dsimp only at hr
        obtain rfl := Nat.eq_of_beq_eq_true e2
        obtain ⟨hvr, hG⟩ := ih _ _ _ _ _ _ _ _ _ _ hr hy (hvl) (k9_vs_t (k9_vs_t hvs))
        refine ⟨hvr, fun K hK hC hE => ?_⟩
        subst hK
        exact k9_x_4_3 (k9_vs_h (k9_vs_t hvs)) hC okq hq9 (hG K rfl hC hE)
      | 4, hw, hq, okp =>
        have okq := okp (by intro z; cases z)
        have hq9 := hq
        obtain ⟨v, k, i, st0, rfl, e2, rfl⟩ := k9_v_4_4 (S := S) (a := a) (b := b) (ix := ix) (z := z) (L := L) (st := st) (I := I) (J := J) hw
        dsimp only at hr
        obtain rfl := Nat.eq_of_beq_eq_true e2
        obtain ⟨hg, hr⟩ := k9_if hr
        obtain ⟨hvr, hG⟩ := ih _ _ _ _ _ _ _ _ _ _ hr hy (hvl) (k9_vs_t (k9_vs_t hvs))
        refine ⟨hvr, fun K hK hC hE => ?_⟩
        subst hK
        exact k9_x_4_4 (of_decide_eq_true hg) (k9_vs_h (k9_vs_t hvs)) hC okq hq9 (hG K rfl hC hE)
      | 5, hw, hq, okp =>
        have okq := okp (by intro z; cases z)
        have hq9 := hq
        obtain ⟨v, k, i, st0, rfl, e2, rfl⟩ := k9_v_4_5 (S := S) (a := a) (b := b) (ix := ix) (z := z) (L := L) (st := st) (I := I) (J := J) hw
        dsimp only at hr
        obtain rfl := Nat.eq_of_beq_eq_true e2
        obtain ⟨hvr, hG⟩ := ih _ _ _ _ _ _ _ _ _ _ hr hy (hvl) (k9_vs_t (k9_vs_t hvs))
        refine ⟨hvr, fun K hK hC hE => ?_⟩
        subst hK
        exact k9_x_4_5 (k9_vs_h (k9_vs_t hvs)) hC okq hq9 (hG K rfl hC hE)
      | 6, hw, hq, okp =>
        have okq := okp (by intro z; cases z)
        have hq9 := hq
        obtain ⟨j, k, i, st0, rfl, e2, rfl⟩ := k9_v_4_6 (S := S) (a := a) (b := b) (ix := ix) (z := z) (L := L) (st := st) (I := I) (J := J) hw
        dsimp only at hr
        obtain ⟨hg, hr⟩ := k9_if hr
        obtain ⟨hvr, hG⟩ := ih _ _ _ _ _ _ _ _ _ _ hr hy (hvl) (k9_vs_c trivial (k9_vs_t (k9_vs_t hvs)))
        refine ⟨hvr, fun K hK hC hE => ?_⟩
        subst hK
        exact k9_x_4_6 (k9_vs_h (k9_vs_t hvs)) e2 hg hC okq hq9 (hG K rfl hC hE)
      | 7, hw, hq, okp =>
        have okq := okp (by intro z; cases z)
        have hq9 := hq
        obtain ⟨j, k, i, st0, rfl, e2, rfl⟩ := k9_v_4_7 (S := S) (a := a) (b := b) (ix := ix) (z := z) (L := L) (st := st) (I := I) (J := J) hw
        dsimp only at hr
        obtain ⟨hg, hr⟩ := k9_if hr
        obtain ⟨hvr, hG⟩ := ih _ _ _ _ _ _ _ _ _ _ hr hy (hvl) (k9_vs_c trivial (k9_vs_t (k9_vs_t hvs)))
        refine ⟨hvr, fun K hK hC hE => ?_⟩
        subst hK
        exact k9_x_4_7 (k9_vs_h (k9_vs_t hvs)) e2 hg hC okq hq9 (hG K rfl hC hE)
      | 8, hw, hq, okp =>
        have okq := okp (by intro z; cases z)
        have hq9 := hq
        obtain ⟨j, k, i, st0, rfl, e2, rfl⟩ := k9_v_4_8 (S := S) (a := a) (b := b) (ix := ix) (z := z) (L := L) (st := st) (I := I) (J := J) hw
        dsimp only at hr
        obtain ⟨hg, hr⟩ := k9_if hr
        obtain ⟨hvr, hG⟩ := ih _ _ _ _ _ _ _ _ _ _ hr hy (hvl) (k9_vs_c (k9_ar_v (k9_vs_h (k9_vs_t hvs)) e2 hg) (k9_vs_t (k9_vs_t hvs)))
        refine ⟨hvr, fun K hK hC hE => ?_⟩
        subst hK
        exact k9_x_4_8 (k9_vs_h (k9_vs_t hvs)) e2 hg hC okq hq9 (hG K rfl hC hE)
      | 9, hw, hq, okp =>
        have okq := okp (by intro z; cases z)
        have hq9 := hq
        obtain ⟨v, j, k, i, st0, rfl, e2, rfl⟩ := k9_v_4_9 (S := S) (a := a) (b := b) (ix := ix) (z := z) (L := L) (st := st) (I := I) (J := J) hw
        dsimp only at hr
        obtain ⟨hg, hr⟩ := k9_if hr
        obtain ⟨hvr, hG⟩ := ih _ _ _ _ _ _ _ _ _ _ hr hy (hvl) (k9_vs_t (k9_vs_t (k9_vs_t hvs)))
        refine ⟨hvr, fun K hK hC hE => ?_⟩
        subst hK
        exact k9_x_4_9 (k9_vs_h (k9_vs_t (k9_vs_t hvs))) e2 hg hC okq hq9 (hG K rfl hC hE)
      | 10, hw, hq, okp =>
        have okq := okp (by intro z; cases z)
        have hq9 := hq
        obtain ⟨v, j, k, i, st0, rfl, e2, rfl⟩ := k9_v_4_10 (S := S) (a := a) (b := b) (ix := ix) (z := z) (L := L) (st := st) (I := I) (J := J) hw
        dsimp only at hr
        obtain ⟨hg, hr⟩ := k9_if hr
        obtain ⟨hvr, hG⟩ := ih _ _ _ _ _ _ _ _ _ _ hr hy (hvl) (k9_vs_t (k9_vs_t (k9_vs_t hvs)))
        refine ⟨hvr, fun K hK hC hE => ?_⟩
        subst hK
        exact k9_x_4_10 (k9_vs_h (k9_vs_t (k9_vs_t hvs))) e2 hg hC okq hq9 (hG K rfl hC hE)
      | 11, hw, hq, okp =>
        have okq := okp (by intro z; cases z)
        have hq9 := hq
        obtain ⟨k, i, st0, rfl, e2, rfl⟩ := k9_v_4_11 (S := S) (a := a) (b := b) (ix := ix) (z := z) (L := L) (st := st) (I := I) (J := J) hw
        dsimp only at hr
        obtain ⟨hvr, hG⟩ := ih _ _ _ _ _ _ _ _ _ _ hr hy (hvl) (k9_vs_c trivial (k9_vs_t hvs))
        refine ⟨hvr, fun K hK hC hE => ?_⟩
        subst hK
        exact k9_x_4_11 (k9_vs_h hvs) e2 hC okq hq9 (hG K rfl hC hE)
      | 12, hw, hq, okp =>
        have okq := okp (by intro z; cases z)
        have hq9 := hq
        obtain rfl := k9_v_4_12 (S := S) (a := a) (b := b) (ix := ix) (z := z) (L := L) (st := st) (I := I) (J := J) hw
        dsimp only at hr
        obtain ⟨hvr, hG⟩ := ih _ _ _ _ _ _ _ _ _ _ hr hy (hvl) (k9_vs_c (Or.inr (Or.inr (k9_t12 okq hq9))) hvs)
        refine ⟨hvr, fun K hK hC hE => ?_⟩
        subst hK
        exact k9_x_4_12  hC okq hq9 (hG K rfl hC hE)
      | 13, hw, hq, okp =>
        have okq := okp (by intro z; cases z)
        have hq9 := hq
        obtain ⟨j, k, st0, rfl, e2, rfl⟩ := k9_v_4_13 (S := S) (a := a) (b := b) (ix := ix) (z := z) (L := L) (st := st) (I := I) (J := J) hw
        dsimp only at hr
        obtain ⟨hg, hr⟩ := k9_if hr
        obtain ⟨hvr, hG⟩ := ih _ _ _ _ _ _ _ _ _ _ hr hy (hvl) (k9_vs_c trivial (k9_vs_t (k9_vs_t hvs)))
        refine ⟨hvr, fun K hK hC hE => ?_⟩
        subst hK
        exact k9_x_4_13 e2 hg hC okq hq9 (hG K rfl hC hE)
      | 14, hw, hq, okp =>
        have okq := okp (by intro z; cases z)
        have hq9 := hq
        obtain ⟨k, st0, rfl, e2, rfl⟩ := k9_v_4_14 (S := S) (a := a) (b := b) (ix := ix) (z := z) (L := L) (st := st) (I := I) (J := J) hw
        dsimp only at hr
        obtain ⟨hvr, hG⟩ := ih _ _ _ _ _ _ _ _ _ _ hr hy (hvl) (k9_vs_c trivial (k9_vs_t hvs))
        refine ⟨hvr, fun K hK hC hE => ?_⟩
        subst hK
        exact k9_x_4_14 e2 hC okq hq9 (hG K rfl hC hE)
      | 15, hw, hq, okp =>
        have okq := okp (by intro z; cases z)
        have hq9 := hq
        obtain ⟨j, k, st0, rfl, e2, rfl⟩ := k9_v_4_15 (S := S) (a := a) (b := b) (ix := ix) (z := z) (L := L) (st := st) (I := I) (J := J) hw
        dsimp only at hr
        obtain ⟨hg, hr⟩ := k9_if hr
        obtain rfl := Nat.eq_of_beq_eq_true e2
        obtain ⟨hvr, hG⟩ := ih _ _ _ _ _ _ _ _ _ _ hr hy (hvl) (k9_vs_c trivial (k9_vs_t (k9_vs_t hvs)))
        refine ⟨hvr, fun K hK hC hE => ?_⟩
        subst hK
        exact k9_x_4_15 (k9_isL okq hq9) hg hC okq hq9 (hG K rfl hC hE)
      | 16, hw, hq, okp =>
        have okq := okp (by intro z; cases z)
        have hq9 := hq
        obtain ⟨k, st0, rfl, e2, rfl⟩ := k9_v_4_16 (S := S) (a := a) (b := b) (ix := ix) (z := z) (L := L) (st := st) (I := I) (J := J) hw
        dsimp only at hr
        obtain rfl := Nat.eq_of_beq_eq_true e2
        obtain ⟨hvr, hG⟩ := ih _ _ _ _ _ _ _ _ _ _ hr hy (hvl) (k9_vs_c trivial (k9_vs_t hvs))
        refine ⟨hvr, fun K hK hC hE => ?_⟩
        subst hK
        exact k9_x_4_16 (k9_isL okq hq9) hC okq hq9 (hG K rfl hC hE)
      | h + 17, hw, hq, okp => simp [k9_g4] at hw
    | 5, hw, hq, okp =>
      change k9_g5 h a b ix L st I J = some w at hw
      match h, hw, hq, okp with
      | 0, hw, hq, okp =>
        have okq := okp (by intro z; cases z)
        have hq9 := hq
        obtain rfl := k9_v_5_0 (S := S) (a := a) (b := b) (ix := ix) (z := z) (L := L) (st := st) (I := I) (J := J) hw
        dsimp only at hr
        obtain ⟨hvr, hG⟩ := ih _ _ _ _ _ _ _ _ _ _ hr hy (fun i v hv => hvl i v (k9_kp_at b L i v hv)) (hvs)
        refine ⟨hvr, fun K hK hC hE => ?_⟩
        subst hK
        exact k9_x_5_0  hC okq hq9 (hG K rfl hC hE)
      | 1, hw, hq, okp =>
        have okq := okp (by intro z; cases z)
        have hq9 := hq
        obtain ⟨x, st0, rfl, rfl⟩ := k9_v_5_1 (S := S) (a := a) (b := b) (ix := ix) (z := z) (L := L) (st := st) (I := I) (J := J) hw
        dsimp only at hr
        by_cases hcd : x = 0
        · rw [if_pos (decide_eq_true hcd)] at hr
          obtain ⟨hvr, hG⟩ := ih _ _ _ _ _ _ _ _ _ _ hr hy hvl (k9_vs_t hvs)
          refine ⟨hvr, fun K hK hC hE => ?_⟩
          subst hK
          exact k9_x_5_1 (z := z) (b := b) (x := x) (y0 := 0) hC okq hq9 (fun _ => hG K rfl hC hE) (fun hn => absurd hcd hn)
        · rw [if_neg (by simpa using hcd)] at hr
          obtain ⟨hvr, hG⟩ := ih _ _ _ _ _ _ _ _ _ _ hr hy hvl (k9_vs_t hvs)
          refine ⟨hvr, fun K hK hC hE => ?_⟩
          subst hK
          exact k9_x_5_1 (z := z) (b := b) (x := x) (y0 := 0) hC okq hq9 (fun hn => absurd hn hcd) (fun _ => hG K rfl hC hE)
      | 2, hw, hq, okp =>
        have okq := okp (by intro z; cases z)
        have hq9 := hq
        obtain ⟨x, st0, rfl, rfl⟩ := k9_v_5_2 (S := S) (a := a) (b := b) (ix := ix) (z := z) (L := L) (st := st) (I := I) (J := J) hw
        dsimp only at hr
        by_cases hcd : x = 0
        · rw [if_pos (decide_eq_true hcd)] at hr
          obtain ⟨hvr, hG⟩ := ih _ _ _ _ _ _ _ _ _ _ hr hy hvl (k9_vs_t hvs)
          refine ⟨hvr, fun K hK hC hE => ?_⟩
          subst hK
          exact k9_x_5_2 (z := z) (b := b) (x := x) (y0 := 0) hC okq hq9 (fun hn => absurd hcd hn) (fun _ => hG K rfl hC hE)
        · rw [if_neg (by simpa using hcd)] at hr
          obtain ⟨hvr, hG⟩ := ih _ _ _ _ _ _ _ _ _ _ hr hy hvl (k9_vs_t hvs)
          refine ⟨hvr, fun K hK hC hE => ?_⟩
          subst hK
          exact k9_x_5_2 (z := z) (b := b) (x := x) (y0 := 0) hC okq hq9 (fun _ => hG K rfl hC hE) (fun hn => absurd hn hcd)
      | 3, hw, hq, okp =>
        have okq := okp (by intro z; cases z)
        have hq9 := hq
        obtain ⟨x, st0, rfl, rfl⟩ := k9_v_5_3 (S := S) (a := a) (b := b) (ix := ix) (z := z) (L := L) (st := st) (I := I) (J := J) hw
        dsimp only at hr
        by_cases hcd : x < 0
        · rw [if_pos (decide_eq_true hcd)] at hr
          obtain ⟨hvr, hG⟩ := ih _ _ _ _ _ _ _ _ _ _ hr hy hvl (k9_vs_t hvs)
          refine ⟨hvr, fun K hK hC hE => ?_⟩
          subst hK
          exact k9_x_5_3 (z := z) (b := b) (x := x) (y0 := 0) hC okq hq9 (fun _ => hG K rfl hC hE) (fun hn => absurd hcd hn)
        · rw [if_neg (by simpa using hcd)] at hr
          obtain ⟨hvr, hG⟩ := ih _ _ _ _ _ _ _ _ _ _ hr hy hvl (k9_vs_t hvs)
          refine ⟨hvr, fun K hK hC hE => ?_⟩
          subst hK
          exact k9_x_5_3 (z := z) (b := b) (x := x) (y0 := 0) hC okq hq9 (fun hn => absurd hn hcd) (fun _ => hG K rfl hC hE)
      | 4, hw, hq, okp =>
        have okq := okp (by intro z; cases z)
        have hq9 := hq
        obtain ⟨x, st0, rfl, rfl⟩ := k9_v_5_4 (S := S) (a := a) (b := b) (ix := ix) (z := z) (L := L) (st := st) (I := I) (J := J) hw
        dsimp only at hr
        by_cases hcd : 0 ≤ x
        · rw [if_pos (decide_eq_true hcd)] at hr
          obtain ⟨hvr, hG⟩ := ih _ _ _ _ _ _ _ _ _ _ hr hy hvl (k9_vs_t hvs)
          refine ⟨hvr, fun K hK hC hE => ?_⟩
          subst hK
          exact k9_x_5_4 (z := z) (b := b) (x := x) (y0 := 0) hC okq hq9 (fun _ => hG K rfl hC hE) (fun hn => absurd hcd hn)
        · rw [if_neg (by simpa using hcd)] at hr
          obtain ⟨hvr, hG⟩ := ih _ _ _ _ _ _ _ _ _ _ hr hy hvl (k9_vs_t hvs)
          refine ⟨hvr, fun K hK hC hE => ?_⟩
          subst hK
          exact k9_x_5_4 (z := z) (b := b) (x := x) (y0 := 0) hC okq hq9 (fun hn => absurd hn hcd) (fun _ => hG K rfl hC hE)
      | 5, hw, hq, okp =>
        have okq := okp (by intro z; cases z)
        have hq9 := hq
        obtain ⟨x, st0, rfl, rfl⟩ := k9_v_5_5 (S := S) (a := a) (b := b) (ix := ix) (z := z) (L := L) (st := st) (I := I) (J := J) hw
        dsimp only at hr
        by_cases hcd : 0 < x
        · rw [if_pos (decide_eq_true hcd)] at hr
          obtain ⟨hvr, hG⟩ := ih _ _ _ _ _ _ _ _ _ _ hr hy hvl (k9_vs_t hvs)
          refine ⟨hvr, fun K hK hC hE => ?_⟩
          subst hK
          exact k9_x_5_5 (z := z) (b := b) (x := x) (y0 := 0) hC okq hq9 (fun _ => hG K rfl hC hE) (fun hn => absurd hcd hn)
        · rw [if_neg (by simpa using hcd)] at hr
          obtain ⟨hvr, hG⟩ := ih _ _ _ _ _ _ _ _ _ _ hr hy hvl (k9_vs_t hvs)
          refine ⟨hvr, fun K hK hC hE => ?_⟩
          subst hK
          exact k9_x_5_5 (z := z) (b := b) (x := x) (y0 := 0) hC okq hq9 (fun hn => absurd hn hcd) (fun _ => hG K rfl hC hE)
      | 6, hw, hq, okp =>
        have okq := okp (by intro z; cases z)
        have hq9 := hq
        obtain ⟨x, st0, rfl, rfl⟩ := k9_v_5_6 (S := S) (a := a) (b := b) (ix := ix) (z := z) (L := L) (st := st) (I := I) (J := J) hw
        dsimp only at hr
        by_cases hcd : x ≤ 0
        · rw [if_pos (decide_eq_true hcd)] at hr
          obtain ⟨hvr, hG⟩ := ih _ _ _ _ _ _ _ _ _ _ hr hy hvl (k9_vs_t hvs)
          refine ⟨hvr, fun K hK hC hE => ?_⟩
          subst hK
          exact k9_x_5_6 (z := z) (b := b) (x := x) (y0 := 0) hC okq hq9 (fun _ => hG K rfl hC hE) (fun hn => absurd hcd hn)
        · rw [if_neg (by simpa using hcd)] at hr
          obtain ⟨hvr, hG⟩ := ih _ _ _ _ _ _ _ _ _ _ hr hy hvl (k9_vs_t hvs)
          refine ⟨hvr, fun K hK hC hE => ?_⟩
          subst hK
          exact k9_x_5_6 (z := z) (b := b) (x := x) (y0 := 0) hC okq hq9 (fun hn => absurd hn hcd) (fun _ => hG K rfl hC hE)
      | 7, hw, hq, okp =>
        have okq := okp (by intro z; cases z)
        have hq9 := hq
        obtain ⟨x, y0, st0, rfl, rfl⟩ := k9_v_5_7 (S := S) (a := a) (b := b) (ix := ix) (z := z) (L := L) (st := st) (I := I) (J := J) hw
        dsimp only at hr
        by_cases hcd : x = y0
        · rw [if_pos (decide_eq_true hcd)] at hr
          obtain ⟨hvr, hG⟩ := ih _ _ _ _ _ _ _ _ _ _ hr hy hvl (k9_vs_t (k9_vs_t hvs))
          refine ⟨hvr, fun K hK hC hE => ?_⟩
          subst hK
          exact k9_x_5_7 (z := z) (b := b)  hC okq hq9 (fun _ => hG K rfl hC hE) (fun hn => absurd hcd hn)
        · rw [if_neg (by simpa using hcd)] at hr
          obtain ⟨hvr, hG⟩ := ih _ _ _ _ _ _ _ _ _ _ hr hy hvl (k9_vs_t (k9_vs_t hvs))
          refine ⟨hvr, fun K hK hC hE => ?_⟩
          subst hK
          exact k9_x_5_7 (z := z) (b := b)  hC okq hq9 (fun hn => absurd hn hcd) (fun _ => hG K rfl hC hE)
      | 8, hw, hq, okp =>
        have okq := okp (by intro z; cases z)
        have hq9 := hq
        obtain ⟨x, y0, st0, rfl, rfl⟩ := k9_v_5_8 (S := S) (a := a) (b := b) (ix := ix) (z := z) (L := L) (st := st) (I := I) (J := J) hw
        dsimp only at hr
        by_cases hcd : x = y0
        · rw [if_pos (decide_eq_true hcd)] at hr
          obtain ⟨hvr, hG⟩ := ih _ _ _ _ _ _ _ _ _ _ hr hy hvl (k9_vs_t (k9_vs_t hvs))
          refine ⟨hvr, fun K hK hC hE => ?_⟩
          subst hK
          exact k9_x_5_8 (z := z) (b := b)  hC okq hq9 (fun hn => absurd hcd hn) (fun _ => hG K rfl hC hE)
        · rw [if_neg (by simpa using hcd)] at hr
          obtain ⟨hvr, hG⟩ := ih _ _ _ _ _ _ _ _ _ _ hr hy hvl (k9_vs_t (k9_vs_t hvs))
          refine ⟨hvr, fun K hK hC hE => ?_⟩
          subst hK
          exact k9_x_5_8 (z := z) (b := b)  hC okq hq9 (fun _ => hG K rfl hC hE) (fun hn => absurd hn hcd)
      | 9, hw, hq, okp =>
        have okq := okp (by intro z; cases z)
        have hq9 := hq
        obtain ⟨x, y0, st0, rfl, rfl⟩ := k9_v_5_9 (S := S) (a := a) (b := b) (ix := ix) (z := z) (L := L) (st := st) (I := I) (J := J) hw
        dsimp only at hr
        by_cases hcd : x < y0
        · rw [if_pos (decide_eq_true hcd)] at hr
          obtain ⟨hvr, hG⟩ := ih _ _ _ _ _ _ _ _ _ _ hr hy hvl (k9_vs_t (k9_vs_t hvs))
          refine ⟨hvr, fun K hK hC hE => ?_⟩
          subst hK
          exact k9_x_5_9 (z := z) (b := b)  hC okq hq9 (fun _ => hG K rfl hC hE) (fun hn => absurd hcd hn)
        · rw [if_neg (by simpa using hcd)] at hr
          obtain ⟨hvr, hG⟩ := ih _ _ _ _ _ _ _ _ _ _ hr hy hvl (k9_vs_t (k9_vs_t hvs))
          refine ⟨hvr, fun K hK hC hE => ?_⟩
          subst hK
          exact k9_x_5_9 (z := z) (b := b)  hC okq hq9 (fun hn => absurd hn hcd) (fun _ => hG K rfl hC hE)
      | 10, hw, hq, okp =>
        have okq := okp (by intro z; cases z)
        have hq9 := hq
        obtain ⟨x, y0, st0, rfl, rfl⟩ := k9_v_5_10 (S := S) (a := a) (b := b) (ix := ix) (z := z) (L := L) (st := st) (I := I) (J := J) hw
        dsimp only at hr
        by_cases hcd : y0 ≤ x
        · rw [if_pos (decide_eq_true hcd)] at hr
          obtain ⟨hvr, hG⟩ := ih _ _ _ _ _ _ _ _ _ _ hr hy hvl (k9_vs_t (k9_vs_t hvs))
          refine ⟨hvr, fun K hK hC hE => ?_⟩
          subst hK
          exact k9_x_5_10 (z := z) (b := b)  hC okq hq9 (fun _ => hG K rfl hC hE) (fun hn => absurd hcd hn)
        · rw [if_neg (by simpa using hcd)] at hr
          obtain ⟨hvr, hG⟩ := ih _ _ _ _ _ _ _ _ _ _ hr hy hvl (k9_vs_t (k9_vs_t hvs))
          refine ⟨hvr, fun K hK hC hE => ?_⟩
          subst hK
          exact k9_x_5_10 (z := z) (b := b)  hC okq hq9 (fun hn => absurd hn hcd) (fun _ => hG K rfl hC hE)
      | 11, hw, hq, okp =>
        have okq := okp (by intro z; cases z)
        have hq9 := hq
        obtain ⟨x, y0, st0, rfl, rfl⟩ := k9_v_5_11 (S := S) (a := a) (b := b) (ix := ix) (z := z) (L := L) (st := st) (I := I) (J := J) hw
        dsimp only at hr
        by_cases hcd : y0 < x
        · rw [if_pos (decide_eq_true hcd)] at hr
          obtain ⟨hvr, hG⟩ := ih _ _ _ _ _ _ _ _ _ _ hr hy hvl (k9_vs_t (k9_vs_t hvs))
          refine ⟨hvr, fun K hK hC hE => ?_⟩
          subst hK
          exact k9_x_5_11 (z := z) (b := b)  hC okq hq9 (fun _ => hG K rfl hC hE) (fun hn => absurd hcd hn)
        · rw [if_neg (by simpa using hcd)] at hr
          obtain ⟨hvr, hG⟩ := ih _ _ _ _ _ _ _ _ _ _ hr hy hvl (k9_vs_t (k9_vs_t hvs))
          refine ⟨hvr, fun K hK hC hE => ?_⟩
          subst hK
          exact k9_x_5_11 (z := z) (b := b)  hC okq hq9 (fun hn => absurd hn hcd) (fun _ => hG K rfl hC hE)
      | 12, hw, hq, okp =>
        have okq := okp (by intro z; cases z)
        have hq9 := hq
        obtain ⟨x, y0, st0, rfl, rfl⟩ := k9_v_5_12 (S := S) (a := a) (b := b) (ix := ix) (z := z) (L := L) (st := st) (I := I) (J := J) hw
        dsimp only at hr
        by_cases hcd : x ≤ y0
        · rw [if_pos (decide_eq_true hcd)] at hr
          obtain ⟨hvr, hG⟩ := ih _ _ _ _ _ _ _ _ _ _ hr hy hvl (k9_vs_t (k9_vs_t hvs))
          refine ⟨hvr, fun K hK hC hE => ?_⟩
          subst hK
          exact k9_x_5_12 (z := z) (b := b)  hC okq hq9 (fun _ => hG K rfl hC hE) (fun hn => absurd hcd hn)
        · rw [if_neg (by simpa using hcd)] at hr
          obtain ⟨hvr, hG⟩ := ih _ _ _ _ _ _ _ _ _ _ hr hy hvl (k9_vs_t (k9_vs_t hvs))
          refine ⟨hvr, fun K hK hC hE => ?_⟩
          subst hK
          exact k9_x_5_12 (z := z) (b := b)  hC okq hq9 (fun hn => absurd hn hcd) (fun _ => hG K rfl hC hE)
      | 13, hw, hq, okp =>
        have okq := okp (by intro z; cases z)
        have hq9 := hq
        obtain ⟨k, i, st0, rfl, rfl⟩ := k9_v_5_13 (S := S) (a := a) (b := b) (ix := ix) (z := z) (L := L) (st := st) (I := I) (J := J) hw
        dsimp only at hr
        obtain ⟨hvr, hG⟩ := ih _ _ _ _ _ _ _ _ _ _ hr hy (hvl) (k9_vs_t hvs)
        refine ⟨hvr, fun K hK hC hE => ?_⟩
        subst hK
        exact k9_x_5_13  hC okq hq9 (hG K rfl hC hE)
      | 14, hw, hq, okp =>
        have okq := okp (by intro z; cases z)
        have hq9 := hq
        obtain ⟨k, i, st0, rfl, rfl⟩ := k9_v_5_14 (S := S) (a := a) (b := b) (ix := ix) (z := z) (L := L) (st := st) (I := I) (J := J) hw
        dsimp only at hr
        obtain ⟨hvr, hG⟩ := ih _ _ _ _ _ _ _ _ _ _ hr hy (hvl) (k9_vs_t hvs)
        refine ⟨hvr, fun K hK hC hE => ?_⟩
        subst hK
        exact k9_x_5_14  hC okq hq9 (hG K rfl hC hE)
      | 15, hw, hq, okp =>
        have okq := okp (by intro z; cases z)
        have hq9 := hq
        obtain ⟨x, st0, rfl, rfl⟩ := k9_v_5_15 (S := S) (a := a) (b := b) (ix := ix) (z := z) (L := L) (st := st) (I := I) (J := J) hw
        dsimp only at hr
        rw [k9_swk_map] at hr
        obtain ⟨hvr, hG⟩ := ih _ _ _ _ _ _ _ _ _ _ hr hy hvl (k9_vs_t hvs)
        refine ⟨hvr, fun K hK hC hE => ?_⟩
        subst hK
        exact k9_x_5_15 hC okq hq9 (hG K rfl hC hE)
      | h + 16, hw, hq, okp => simp [k9_g5] at hw
    | 6, hw, hq, okp =>
      change k9_g6 h a b ix L st I J = some w at hw
      match h, hw, hq, okp with
      | 0, hw, hq, okp =>
        have okq := okp (by intro z; cases z)
        have hq9 := hq
        obtain ⟨as, st0, e1, e2, rfl⟩ := k9_v_6_0 (S := S) (a := a) (b := b) (ix := ix) (z := z) (L := L) (st := st) (I := I) (J := J) hw
        dsimp only at hr
        obtain ⟨bs, rfl, rfl, hbl⟩ := k9_pop_spec _ _ _ _ _ e1
        rw [List.append_nil] at *
        simp only [Bool.and_eq_true] at e2
        obtain ⟨e2, e3⟩ := e2
        have hvs0 : k9_vs st0 := fun v hv => hvs v (List.mem_append_right _ hv)
        have hva : k9_vs bs.reverse := fun v hv => hvs v (List.mem_append_left _ (List.mem_reverse.mp hv))
        cases d with
        | zero => cases hr
        | succ d =>
        obtain ⟨⟨rc, I1, J1⟩, hcal, hr⟩ := Option.bind_eq_some_iff.mp hr
        dsimp only at hr
        have hz : a < k9_law := k9_ca_NM0 okq hq9
        obtain ⟨hvc, hGc⟩ := ih _ _ _ _ _ _ _ _ _ _ hcal (Nat.lt_succ_of_lt hz) (k9_loc_v hva) (fun _ h => by cases h)
        obtain ⟨hvr, hG⟩ := ih _ _ _ _ _ _ _ _ _ _ hr hy hvl (k9_ps_v hvc hvs0)
        refine ⟨hvr, fun K hK hC hE => ?_⟩
        subst hK
        have hM := fun l => k9_M_of (l := l) hz e3 hva hGc
        have hx := k9_x_6_0 hM e2 (by rw [List.length_reverse]; exact hbl) hC okq hq9 (hG K rfl hC hE)
        rw [List.reverse_reverse] at hx
        exact hx
      | 1, hw, hq, okp =>
        have okq := okp (by intro z; cases z)
        have hq9 := hq
        obtain ⟨as, k, i, st0, e1, e2, rfl⟩ := k9_v_6_1 (S := S) (a := a) (b := b) (ix := ix) (z := z) (L := L) (st := st) (I := I) (J := J) hw
        dsimp only at hr
        obtain ⟨bs, rfl, rfl, hbl⟩ := k9_pop_spec _ _ _ _ _ e1
        rw [List.append_nil] at *
        simp only [Bool.and_eq_true] at e2
        obtain ⟨⟨e0, e2⟩, e3⟩ := e2
        obtain rfl := Nat.eq_of_beq_eq_true e0
        have hvk : k9_vk (k9_r (k9_mk a) i) := hvs _ (List.mem_append_right _ List.mem_cons_self)
        have hvs0 : k9_vs st0 := fun v hv => hvs v (List.mem_append_right _ (List.mem_cons_of_mem _ hv))
        have hva : k9_vs (k9_r (k9_mk a) i :: bs.reverse) := k9_vs_c hvk (fun v hv => hvs v (List.mem_append_left _ (List.mem_reverse.mp hv)))
        cases d with
        | zero => cases hr
        | succ d =>
        obtain ⟨⟨rc, I1, J1⟩, hcal, hr⟩ := Option.bind_eq_some_iff.mp hr
        dsimp only at hr
        have hz : a < k9_law := k9_ca_NM1 okq hq9
        obtain ⟨hvc, hGc⟩ := ih _ _ _ _ _ _ _ _ _ _ hcal (Nat.lt_succ_of_lt hz) (k9_loc_v hva) (fun _ h => by cases h)
        obtain ⟨hvr, hG⟩ := ih _ _ _ _ _ _ _ _ _ _ hr hy hvl (k9_ps_v hvc hvs0)
        refine ⟨hvr, fun K hK hC hE => ?_⟩
        subst hK
        have hM := fun l => k9_M_of (l := l) hz e3 hva hGc
        have hx := k9_x_6_1 hvk hM e2 (by rw [List.length_reverse]; exact hbl) hC okq hq9 (hG K rfl hC hE)
        rw [List.reverse_reverse] at hx
        exact hx
      | 2, hw, hq, okp =>
        have okq := okp (by intro z; cases z)
        have hq9 := hq
        obtain ⟨x, y0, st0, rfl, e2, rfl⟩ := k9_v_6_2 (S := S) (a := a) (b := b) (ix := ix) (z := z) (L := L) (st := st) (I := I) (J := J) hw
        dsimp only at hr
        obtain ⟨hvr, hG⟩ := ih _ _ _ _ _ _ _ _ _ _ hr hy (hvl) (k9_vs_c trivial (k9_vs_t (k9_vs_t hvs)))
        refine ⟨hvr, fun K hK hC hE => ?_⟩
        subst hK
        exact k9_x_6_2 e2 hC okq hq9 (hG K rfl hC hE)
      | 3, hw, hq, okp =>
        have okq := okp (by intro z; cases z)
        have hq9 := hq
        obtain ⟨x, y0, st0, rfl, e2, rfl⟩ := k9_v_6_3 (S := S) (a := a) (b := b) (ix := ix) (z := z) (L := L) (st := st) (I := I) (J := J) hw
        dsimp only at hr
        obtain ⟨hvr, hG⟩ := ih _ _ _ _ _ _ _ _ _ _ hr hy (hvl) (k9_vs_c trivial (k9_vs_t (k9_vs_t hvs)))
        refine ⟨hvr, fun K hK hC hE => ?_⟩
        subst hK
        exact k9_x_6_3 e2 hC okq hq9 (hG K rfl hC hE)
      | 4, hw, hq, okp =>
        have okq := okp (by intro z; cases z)
        have hq9 := hq
        obtain ⟨x, st0, rfl, e2, rfl⟩ := k9_v_6_4 (S := S) (a := a) (b := b) (ix := ix) (z := z) (L := L) (st := st) (I := I) (J := J) hw
        dsimp only at hr
        obtain ⟨hvr, hG⟩ := ih _ _ _ _ _ _ _ _ _ _ hr hy (hvl) (k9_vs_c trivial (k9_vs_t hvs))
        refine ⟨hvr, fun K hK hC hE => ?_⟩
        subst hK
        exact k9_x_6_4 e2 hC okq hq9 (hG K rfl hC hE)
      | 5, hw, hq, okp =>
        have okq := okp (by intro z; cases z)
        have hq9 := hq
        obtain ⟨x, rfl, rfl⟩ := k9_v_6_5 (S := S) (a := a) (b := b) (ix := ix) (z := z) (L := L) (st := st) (I := I) (J := J) hw
        dsimp only at hr
        obtain ⟨hg, hr⟩ := k9_if hr
        cases hr
        refine ⟨fun v hv => ?_, fun K hK hC hE => ?_⟩
        · cases hv; exact k9_vs_h hvs
        · subst hK
          exact hE ix L ⟨_, _, _, _, hq9, Or.inl ⟨rfl, _, rfl⟩⟩
      | 6, hw, hq, okp =>
        have okq := okp (by intro z; cases z)
        have hq9 := hq
        obtain ⟨x, rfl, rfl⟩ := k9_v_6_6 (S := S) (a := a) (b := b) (ix := ix) (z := z) (L := L) (st := st) (I := I) (J := J) hw
        dsimp only at hr
        obtain ⟨hg, hr⟩ := k9_if hr
        cases hr
        refine ⟨fun v hv => ?_, fun K hK hC hE => ?_⟩
        · cases hv; exact k9_vs_h hvs
        · subst hK
          exact hE ix L ⟨_, _, _, _, hq9, Or.inr (Or.inl ⟨rfl, _, rfl, of_decide_eq_true hg⟩)⟩
      | 7, hw, hq, okp =>
        have okq := okp (by intro z; cases z)
        have hq9 := hq
        obtain ⟨x, rfl, rfl⟩ := k9_v_6_7 (S := S) (a := a) (b := b) (ix := ix) (z := z) (L := L) (st := st) (I := I) (J := J) hw
        dsimp only at hr
        obtain ⟨hg, hr⟩ := k9_if hr
        cases hr
        refine ⟨fun v hv => ?_, fun K hK hC hE => ?_⟩
        · cases hv; exact k9_vs_h hvs
        · subst hK
          exact hE ix L ⟨_, _, _, _, hq9, Or.inr (Or.inr (Or.inl ⟨rfl, _, rfl⟩))⟩
      | 8, hw, hq, okp =>
        have okq := okp (by intro z; cases z)
        have hq9 := hq
        obtain ⟨x, rfl, rfl⟩ := k9_v_6_8 (S := S) (a := a) (b := b) (ix := ix) (z := z) (L := L) (st := st) (I := I) (J := J) hw
        dsimp only at hr
        obtain ⟨hg, hr⟩ := k9_if hr
        cases hr
        refine ⟨fun v hv => ?_, fun K hK hC hE => ?_⟩
        · cases hv; exact k9_vs_h hvs
        · subst hK
          exact hE ix L ⟨_, _, _, _, hq9, Or.inr (Or.inr (Or.inr (Or.inl ⟨rfl, _, rfl⟩)))⟩
      | 9, hw, hq, okp =>
        have okq := okp (by intro z; cases z)
        have hq9 := hq
        obtain ⟨rfl, rfl⟩ := k9_v_6_9 (S := S) (a := a) (b := b) (ix := ix) (z := z) (L := L) (st := st) (I := I) (J := J) hw
        dsimp only at hr
        obtain ⟨hg, hr⟩ := k9_if hr
        cases hr
        refine ⟨fun v hv => ?_, fun K hK hC hE => ?_⟩
        · cases hv
        · subst hK
          exact hE ix L ⟨_, _, _, _, hq9, Or.inr (Or.inr (Or.inr (Or.inr ⟨rfl, rfl⟩)))⟩
      | h + 10, hw, hq, okp => simp [k9_g6] at hw
    | g + 7, hw, hq, okp => simp [k9_nxt] at hw