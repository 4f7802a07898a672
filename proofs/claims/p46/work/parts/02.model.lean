/-! THE MODEL: a small machine over numbered kinds of cells; what it runs, the machine runs (part 'sound') -/
/-- a value: an int, a long, a reference (its kind, which of the kind); kind 0 is null -/
abbrev k9_v : Type := Int32 ⊕ (Int64 ⊕ (Nat × Nat))
abbrev k9_i (x : Int32) : k9_v := Sum.inl x
abbrev k9_l (x : Int64) : k9_v := Sum.inr (Sum.inl x)
abbrev k9_r (k i : Nat) : k9_v := Sum.inr (Sum.inr (k, i))
/-- ints and longs by kind, which, place -/
abbrev k9_I : Type := Nat → Nat → Nat → Int32
abbrev k9_J : Type := Nat → Nat → Nat → Int64
/-- the script and its length -/
abbrev k9_S : Type := (Nat → Int32) × Nat
abbrev k9_A : Type := Option k9_v × k9_I × k9_J
abbrev k9_L : Type := List (Option k9_v)
def k9_u (I : k9_I) (k i p : Nat) (v : Int32) : k9_I := fun k' i' p' => if k' = k ∧ i' = i ∧ p' = p then v else I k' i' p'
def k9_uJ (J : k9_J) (k i p : Nat) (v : Int64) : k9_J := fun k' i' p' => if k' = k ∧ i' = i ∧ p' = p then v else J k' i' p'
def k9_at : k9_L → Nat → Option k9_v
  | [], _ => none
  | x :: _, 0 => x
  | _ :: r, n + 1 => k9_at r n
def k9_set : k9_L → Nat → Option k9_v → k9_L
  | [], _, _ => []
  | _ :: r, 0, v => v :: r
  | x :: r, n + 1, v => x :: k9_set r n v
/-- the first n locals are kept -/
def k9_kp : Nat → k9_L → k9_L
  | _, [] => []
  | 0, _ :: r => none :: k9_kp 0 r
  | n + 1, x :: r => x :: k9_kp n r
def k9_isl : Option k9_v → Bool
  | some (Sum.inr (Sum.inl _)) => true
  | _ => false
/-- a store at place n is one that the model knows: the place is there, and no long begins right ahead of it -/
def k9_so : k9_L → Nat → Bool
  | [], _ => false
  | _ :: _, 0 => true
  | x :: r, n + 1 => match n with
    | 0 => !(k9_isl x) && k9_so r 0
    | _ + 1 => k9_so r n
/-- a place of a row -/
def k9_in (j : Int32) (n : Nat) : Bool := decide (0 ≤ j.toInt ∧ j.toInt < n)
def k9_ps : Option k9_v → List k9_v → List k9_v
  | none, st => st
  | some v, st => v :: st
/-- n values off the stack, the lowest first, ahead of acc -/
def k9_pop : Nat → List k9_v → List k9_v → Option (List k9_v × List k9_v)
  | 0, st, acc => some (acc, st)
  | _ + 1, [], _ => none
  | n + 1, v :: st, acc => k9_pop n st (v :: acc)
def k9_lay : List k9_v → k9_L
  | [] => []
  | Sum.inr (Sum.inl x) :: r => some (k9_l x) :: none :: k9_lay r
  | v :: r => some v :: k9_lay r
def k9_pad : Nat → k9_L → k9_L
  | 0, _ => []
  | n + 1, [] => none :: k9_pad n []
  | n + 1, x :: r => x :: k9_pad n r
/-- a method's first locals -/
def k9_loc (z : Nat) (as : List k9_v) : k9_L := k9_pad (k9_ml z) (k9_lay as)
/-- where one goes on -/
abbrev k9_T : Type := Nat × k9_L × List k9_v × k9_I × k9_J
/-- what comes next: it goes on; it goes on if ..; the one way or the other; a switch; a call; an end -/
abbrev k9_X : Type := k9_T ⊕ (Bool × k9_T) ⊕ (Bool × Nat × k9_T) ⊕ (List (Int32 × Nat) × Int32 × k9_T) ⊕ (Nat × List k9_v × k9_L × List k9_v) ⊕ (Bool × Option k9_v)
abbrev k9_go (ix : Nat) (L : k9_L) (st : List k9_v) (I : k9_I) (J : k9_J) : Option k9_X := some (.inl (ix, L, st, I, J))
abbrev k9_gd (g : Bool) (ix : Nat) (L : k9_L) (st : List k9_v) (I : k9_I) (J : k9_J) : Option k9_X := some (.inr (.inl (g, ix, L, st, I, J)))
abbrev k9_br (b : Bool) (t f : Nat) (L : k9_L) (st : List k9_v) (I : k9_I) (J : k9_J) : Option k9_X := some (.inr (.inr (.inl (b, t, f, L, st, I, J))))
abbrev k9_sw (l : List (Int32 × Nat)) (x : Int32) (dflt : Nat) (L : k9_L) (st : List k9_v) (I : k9_I) (J : k9_J) : Option k9_X := some (.inr (.inr (.inr (.inl (l, x, dflt, L, st, I, J)))))
abbrev k9_ca (z : Nat) (as : List k9_v) (L : k9_L) (st : List k9_v) : Option k9_X := some (.inr (.inr (.inr (.inr (.inl (z, as, L, st))))))
abbrev k9_en (g : Bool) (r : Option k9_v) : Option k9_X := some (.inr (.inr (.inr (.inr (.inr (g, r))))))
/-- constants and locals -/
def k9_g0 (h a : Nat) (x : Int32) (ix : Nat) (L : k9_L) (st : List k9_v) (I : k9_I) (J : k9_J) : Option k9_X :=
  match h with
  | 1 => k9_go (ix + 1) L (k9_i x :: st) I J
  | 2 => k9_go (ix + 1) L (k9_l (Int64.ofNat a) :: st) I J
  | 3 => k9_go (ix + 1) L (k9_r 0 0 :: st) I J
  | 4 => match k9_at L a with
    | some (Sum.inl v) => k9_go (ix + 1) L (k9_i v :: st) I J
    | _ => none
  | 5 => match k9_at L a with
    | some (Sum.inr (Sum.inl v)) => k9_go (ix + 1) L (k9_l v :: st) I J
    | _ => none
  | 6 => match k9_at L a with
    | some (Sum.inr (Sum.inr v)) => k9_go (ix + 1) L (Sum.inr (Sum.inr v) :: st) I J
    | _ => none
  | 7 => match st with
    | Sum.inl v :: st => k9_gd (k9_so L a) (ix + 1) (k9_set L a (some (k9_i v))) st I J
    | _ => none
  | 8 => match st with
    | Sum.inr (Sum.inl v) :: st => k9_gd (k9_so L a && Nat.blt (a + 1) L.length) (ix + 1) (k9_set (k9_set L a (some (k9_l v))) (a + 1) none) st I J
    | _ => none
  | 9 => match st with
    | Sum.inr (Sum.inr v) :: st => k9_gd (k9_so L a) (ix + 1) (k9_set L a (some (Sum.inr (Sum.inr v)))) st I J
    | _ => none
  | 10 => match k9_at L a with
    | some (Sum.inl v) => k9_gd (k9_so L a) (ix + 1) (k9_set L a (some (k9_i (v + x)))) st I J
    | _ => none
  | _ => none
/-- the stack -/
def k9_g1 (h : Nat) (ix : Nat) (L : k9_L) (st : List k9_v) (I : k9_I) (J : k9_J) : Option k9_X :=
  match h with
  | 0 => match st with
    | v :: st => k9_gd (!(k9_isl (some v))) (ix + 1) L (v :: v :: st) I J
    | _ => none
  | 1 => match st with
    | v :: st => k9_gd (!(k9_isl (some v))) (ix + 1) L st I J
    | _ => none
  | 2 => match st with
    | v :: w :: st => k9_gd (!(k9_isl (some v)) && !(k9_isl (some w))) (ix + 1) L (v :: w :: v :: st) I J
    | _ => none
  | 3 => match st with
    | v :: w :: st => k9_gd (!(k9_isl (some v)) && !(k9_isl (some w))) (ix + 1) L (v :: w :: v :: w :: st) I J
    | _ => none
  | 4 => match st with
    | Sum.inr (Sum.inl v) :: st => k9_go (ix + 1) L (k9_l v :: k9_l v :: st) I J
    | _ => none
  | 5 => match st with
    | Sum.inr (Sum.inl _) :: st => k9_go (ix + 1) L st I J
    | _ => none
  | 6 => match st with
    | v :: w :: u :: st => k9_gd (!(k9_isl (some v)) && !(k9_isl (some w)) && !(k9_isl (some u))) (ix + 1) L (v :: w :: u :: v :: st) I J
    | _ => none
  | _ => none
/-- arithmetic of ints -/
def k9_g2 (h : Nat) (ix : Nat) (L : k9_L) (st : List k9_v) (I : k9_I) (J : k9_J) : Option k9_X :=
  match st with
  | Sum.inl y :: Sum.inl x :: st => match h with
    | 0 => k9_go (ix + 1) L (k9_i (x + y) :: st) I J
    | 1 => k9_go (ix + 1) L (k9_i (x - y) :: st) I J
    | 2 => k9_go (ix + 1) L (k9_i (x * y) :: st) I J
    | 3 => k9_gd (decide (¬ y = 0)) (ix + 1) L (k9_i (x / y) :: st) I J
    | 4 => k9_gd (decide (¬ y = 0)) (ix + 1) L (k9_i (x - x / y * y) :: st) I J
    | 5 => k9_go (ix + 1) L (k9_i (x &&& y) :: st) I J
    | 6 => k9_go (ix + 1) L (k9_i (x ||| y) :: st) I J
    | 7 => k9_go (ix + 1) L (k9_i (x ^^^ y) :: st) I J
    | 8 => k9_go (ix + 1) L (k9_i (x <<< (y &&& 31)) :: st) I J
    | 9 => k9_go (ix + 1) L (k9_i (x >>> (y &&& 31)) :: st) I J
    | 10 => k9_go (ix + 1) L (k9_i ((x.toUInt32 >>> (y.toUInt32 &&& Int32.toUInt32 31)).toInt32) :: st) I J
    | _ => none
  | _ => none
/-- one int or long: negation, conversions; longs -/
def k9_g3 (h : Nat) (ix : Nat) (L : k9_L) (st : List k9_v) (I : k9_I) (J : k9_J) : Option k9_X :=
  match h with
  | 0 => match st with
    | Sum.inl x :: st => k9_go (ix + 1) L (k9_i (-x) :: st) I J
    | _ => none
  | 1 => match st with
    | Sum.inl x :: st => k9_go (ix + 1) L (k9_l x.toInt64 :: st) I J
    | _ => none
  | 2 => match st with
    | Sum.inr (Sum.inl x) :: st => k9_go (ix + 1) L (k9_i x.toInt32 :: st) I J
    | _ => none
  | 3 => match st with
    | Sum.inl x :: st => k9_go (ix + 1) L (k9_i x.toInt8.toInt32 :: st) I J
    | _ => none
  | 4 => match st with
    | Sum.inl x :: st => k9_go (ix + 1) L (k9_i x.toInt16.toInt32 :: st) I J
    | _ => none
  | 5 => match st with
    | Sum.inr (Sum.inl y) :: Sum.inr (Sum.inl x) :: st => k9_go (ix + 1) L (k9_i (lg_cmp x y) :: st) I J
    | _ => none
  | 6 => match st with
    | Sum.inr (Sum.inl y) :: Sum.inr (Sum.inl x) :: st => k9_go (ix + 1) L (k9_l (x ||| y) :: st) I J
    | _ => none
  | 7 => match st with
    | Sum.inr (Sum.inl y) :: Sum.inr (Sum.inl x) :: st => k9_go (ix + 1) L (k9_l (x &&& y) :: st) I J
    | _ => none
  | 8 => match st with
    | Sum.inl y :: Sum.inr (Sum.inl x) :: st => k9_go (ix + 1) L (k9_l (x <<< (y.toInt64 &&& 63)) :: st) I J
    | _ => none
  | 9 => match st with
    | Sum.inr (Sum.inl y) :: Sum.inr (Sum.inl x) :: st => k9_go (ix + 1) L (k9_l (x + y) :: st) I J
    | _ => none
  | 10 => match st with
    | Sum.inr (Sum.inl y) :: Sum.inr (Sum.inl x) :: st => k9_go (ix + 1) L (k9_l (x * y) :: st) I J
    | _ => none
  | _ => none
/-- fields and rows -/
def k9_g4 (S : k9_S) (h a b : Nat) (ix : Nat) (L : k9_L) (st : List k9_v) (I : k9_I) (J : k9_J) : Option k9_X :=
  match h with
  | 0 => match st with
    | Sum.inr (Sum.inr (k, i)) :: st => match Nat.beq k a with
      | true => k9_go (ix + 1) L (k9_i (I k i b) :: st) I J
      | false => none
    | _ => none
  | 1 => match st with
    | Sum.inr (Sum.inr (k, i)) :: st => match Nat.beq k a with
      | true => k9_go (ix + 1) L (k9_l (J k i b) :: st) I J
      | false => none
    | _ => none
  | 2 => match st with
    | Sum.inr (Sum.inr (k, i)) :: st => match Nat.beq k a with
      | true => k9_go (ix + 1) L (Sum.inr (Sum.inr (k9_fr k b i)) :: st) I J
      | false => none
    | _ => none
  | 3 => match st with
    | Sum.inl v :: Sum.inr (Sum.inr (k, i)) :: st => match Nat.beq k a with
      | true => k9_go (ix + 1) L st (k9_u I k i b v) J
      | false => none
    | _ => none
  | 4 => match st with
    | Sum.inl v :: Sum.inr (Sum.inr (k, i)) :: st => match Nat.beq k a with
      | true => k9_gd (decide (v = 0 ∨ v = 1)) (ix + 1) L st (k9_u I k i b v) J
      | false => none
    | _ => none
  | 5 => match st with
    | Sum.inr (Sum.inl v) :: Sum.inr (Sum.inr (k, i)) :: st => match Nat.beq k a with
      | true => k9_go (ix + 1) L st I (k9_uJ J k i b v)
      | false => none
    | _ => none
  | 6 => match st with
    | Sum.inl j :: Sum.inr (Sum.inr (k, i)) :: st => match Nat.beq (k9_et k) 1 with
      | true => k9_gd (k9_in j (k9_len k)) (ix + 1) L (k9_i (I k i j.toNatClampNeg) :: st) I J
      | false => none
    | _ => none
  | 7 => match st with
    | Sum.inl j :: Sum.inr (Sum.inr (k, i)) :: st => match Nat.beq (k9_et k) 2 with
      | true => k9_gd (k9_in j (k9_len k)) (ix + 1) L (k9_l (J k i j.toNatClampNeg) :: st) I J
      | false => none
    | _ => none
  | 8 => match st with
    | Sum.inl j :: Sum.inr (Sum.inr (k, i)) :: st => match Nat.beq (k9_et k) 3 with
      | true => k9_gd (k9_in j (k9_len k)) (ix + 1) L (Sum.inr (Sum.inr (k9_ar k i j.toNatClampNeg)) :: st) I J
      | false => none
    | _ => none
  | 9 => match st with
    | Sum.inl v :: Sum.inl j :: Sum.inr (Sum.inr (k, i)) :: st => match Nat.beq (k9_et k) 1 with
      | true => k9_gd (k9_in j (k9_len k)) (ix + 1) L st (k9_u I k i j.toNatClampNeg v) J
      | false => none
    | _ => none
  | 10 => match st with
    | Sum.inr (Sum.inl v) :: Sum.inl j :: Sum.inr (Sum.inr (k, i)) :: st => match Nat.beq (k9_et k) 2 with
      | true => k9_gd (k9_in j (k9_len k)) (ix + 1) L st I (k9_uJ J k i j.toNatClampNeg v)
      | false => none
    | _ => none
  | 11 => match st with
    | Sum.inr (Sum.inr (k, _)) :: st => match Nat.ble 1 (k9_et k) && Nat.ble (k9_et k) 3 with
      | true => k9_go (ix + 1) L (k9_i (Int32.ofNat (k9_len k)) :: st) I J
      | false => none
    | _ => none
  | 12 => k9_go (ix + 1) L (k9_r a 0 :: st) I J
  | 13 => match st with
    | Sum.inl j :: Sum.inr (Sum.inr (k, 0)) :: st => match Nat.beq (k9_et k) 9 with
      | true => k9_gd (k9_in j (k9_len k)) (ix + 1) L (k9_i (k9_tab k j.toNatClampNeg) :: st) I J
      | false => none
    | _ => none
  | 14 => match st with
    | Sum.inr (Sum.inr (k, 0)) :: st => match Nat.beq (k9_et k) 9 with
      | true => k9_go (ix + 1) L (k9_i (Int32.ofNat (k9_len k)) :: st) I J
      | false => none
    | _ => none
  | 15 => match st with
    | Sum.inl j :: Sum.inr (Sum.inr (k, 0)) :: st => match Nat.beq k k9_kS with
      | true => k9_gd (k9_in j S.2) (ix + 1) L (k9_i (S.1 j.toNatClampNeg) :: st) I J
      | false => none
    | _ => none
  | 16 => match st with
    | Sum.inr (Sum.inr (k, 0)) :: st => match Nat.beq k k9_kS with
      | true => k9_go (ix + 1) L (k9_i (Int32.ofNat S.2) :: st) I J
      | false => none
    | _ => none
  | _ => none
/-- branches -/
def k9_g5 (h a b : Nat) (ix : Nat) (L : k9_L) (st : List k9_v) (I : k9_I) (J : k9_J) : Option k9_X :=
  match h with
  | 0 => k9_go a (k9_kp b L) st I J
  | 1 => match st with
    | Sum.inl x :: st => k9_br (decide (x = 0)) a (ix + 1) L st I J
    | _ => none
  | 2 => match st with
    | Sum.inl x :: st => k9_br (decide (x = 0)) (ix + 1) a L st I J
    | _ => none
  | 3 => match st with
    | Sum.inl x :: st => k9_br (decide (x < 0)) a (ix + 1) L st I J
    | _ => none
  | 4 => match st with
    | Sum.inl x :: st => k9_br (decide (0 ≤ x)) a (ix + 1) L st I J
    | _ => none
  | 5 => match st with
    | Sum.inl x :: st => k9_br (decide (0 < x)) a (ix + 1) L st I J
    | _ => none
  | 6 => match st with
    | Sum.inl x :: st => k9_br (decide (x ≤ 0)) a (ix + 1) L st I J
    | _ => none
  | 7 => match st with
    | Sum.inl y :: Sum.inl x :: st => k9_br (decide (x = y)) a (ix + 1) L st I J
    | _ => none
  | 8 => match st with
    | Sum.inl y :: Sum.inl x :: st => k9_br (decide (x = y)) (ix + 1) a L st I J
    | _ => none
  | 9 => match st with
    | Sum.inl y :: Sum.inl x :: st => k9_br (decide (x < y)) a (ix + 1) L st I J
    | _ => none
  | 10 => match st with
    | Sum.inl y :: Sum.inl x :: st => k9_br (decide (y ≤ x)) a (ix + 1) L st I J
    | _ => none
  | 11 => match st with
    | Sum.inl y :: Sum.inl x :: st => k9_br (decide (y < x)) a (ix + 1) L st I J
    | _ => none
  | 12 => match st with
    | Sum.inl y :: Sum.inl x :: st => k9_br (decide (x ≤ y)) a (ix + 1) L st I J
    | _ => none
  | 13 => match st with
    | Sum.inr (Sum.inr (k, _)) :: st => match Nat.beq k 0 with
      | true => k9_go a L st I J
      | false => k9_go (ix + 1) L st I J
    | _ => none
  | 14 => match st with
    | Sum.inr (Sum.inr (k, _)) :: st => match Nat.beq k 0 with
      | true => k9_go (ix + 1) L st I J
      | false => k9_go a L st I J
    | _ => none
  | 15 => match st with
    | Sum.inl x :: st => k9_sw (k9_swt a) x b L st I J
    | _ => none
  | _ => none
/-- calls and ends -/
def k9_g6 (h a b : Nat) (ix : Nat) (L : k9_L) (st : List k9_v) (I : k9_I) (J : k9_J) : Option k9_X :=
  match h with
  | 0 => match k9_pop b st [] with
    | some (as, st) => match Nat.ble st.length 4 && Nat.ble (k9_lay as).length (k9_ml a) with
      | true => k9_ca a as L st
      | false => none
    | none => none
  | 1 => match k9_pop b st [] with
    | some (as, Sum.inr (Sum.inr (k, i)) :: st) => match Nat.beq k (k9_mk a) && Nat.ble st.length 4 && Nat.ble (k9_lay (k9_r k i :: as)).length (k9_ml a) with
      | true => k9_ca a (k9_r k i :: as) L st
      | false => none
    | _ => none
  | 2 => match st with
    | Sum.inl y :: Sum.inl x :: st => match Nat.ble st.length 4 with
      | true => k9_go (ix + 1) L (k9_i (if x < y then y else x) :: st) I J
      | false => none
    | _ => none
  | 3 => match st with
    | Sum.inl y :: Sum.inl x :: st => match Nat.ble st.length 4 with
      | true => k9_go (ix + 1) L (k9_i (if y < x then y else x) :: st) I J
      | false => none
    | _ => none
  | 4 => match st with
    | Sum.inl x :: st => match Nat.ble st.length 4 with
      | true => k9_go (ix + 1) L (k9_i (if 0 ≤ x then x else 0 - x) :: st) I J
      | false => none
    | _ => none
  | 5 => match st with
    | [Sum.inl x] => k9_en true (some (k9_i x))
    | _ => none
  | 6 => match st with
    | [Sum.inl x] => k9_en (decide (x = 0 ∨ x = 1)) (some (k9_i x))
    | _ => none
  | 7 => match st with
    | [Sum.inr (Sum.inl x)] => k9_en true (some (k9_l x))
    | _ => none
  | 8 => match st with
    | [Sum.inr (Sum.inr x)] => k9_en true (some (Sum.inr (Sum.inr x)))
    | _ => none
  | 9 => match st with
    | [] => k9_en true none
    | _ => none
  | _ => none
def k9_nxt (S : k9_S) (q : k9_N) (ix : Nat) (L : k9_L) (st : List k9_v) (I : k9_I) (J : k9_J) : Option k9_X :=
  match q with
  | (g, h, a, b, x) => match g with
    | 0 => k9_g0 h a x ix L st I J
    | 1 => k9_g1 h ix L st I J
    | 2 => k9_g2 h ix L st I J
    | 3 => k9_g3 h ix L st I J
    | 4 => k9_g4 S h a b ix L st I J
    | 5 => k9_g5 h a b ix L st I J
    | 6 => k9_g6 h a b ix L st I J
    | _ => none
abbrev k9_F : Type := Nat → Nat → Nat → k9_L → List k9_v → k9_I → k9_J → Option k9_A
def k9_swk {α : Type} (f : Nat → α) (x : Int32) (dflt : Nat) : List (Int32 × Nat) → α
  | [] => f dflt
  | (c, t) :: r => if x = c then f t else k9_swk f x dflt r
/-- one step: callees by kc, what goes on by k -/
def k9_stp (kc k : k9_F) (S : k9_S) (d y ix : Nat) (L : k9_L) (st : List k9_v) (I : k9_I) (J : k9_J) : Option k9_A :=
  match k9_nxt S (k9_cod y ix) ix L st I J with
  | none => none
  | some (.inl (ix', L', st', I', J')) => k d y ix' L' st' I' J'
  | some (.inr (.inl (g, ix', L', st', I', J'))) => if g = true then k d y ix' L' st' I' J' else none
  | some (.inr (.inr (.inl (b, t, f, L', st', I', J')))) => if b = true then k d y t L' st' I' J' else k d y f L' st' I' J'
  | some (.inr (.inr (.inr (.inl (l, x, f, L', st', I', J'))))) => k9_swk (fun t => k d y t L' st' I' J') x f l
  | some (.inr (.inr (.inr (.inr (.inl (z, as, L', st')))))) => match d with
    | 0 => none
    | d + 1 => (kc d z 0 (k9_loc z as) [] I J).bind fun q => k (d + 1) y (ix + 1) L' (k9_ps q.1 st') q.2.1 q.2.2
  | some (.inr (.inr (.inr (.inr (.inr (g, r)))))) => if g = true then some (r, I, J) else none
/-- n steps at most along any way -/
def k9_ru (S : k9_S) : Nat → k9_F
  | 0 => fun _ _ _ _ _ _ _ => none
  | n + 1 => fun d y ix L st I J => k9_stp (k9_ru S n) (k9_ru S n) S d y ix L st I J
def k9_le (f g : k9_F) : Prop := ∀ d y ix L st I J r, f d y ix L st I J = some r → g d y ix L st I J = some r
theorem k9_swk_cases {α : Type} (f : Nat → α) (x : Int32) (dflt : Nat) (l : List (Int32 × Nat)) : ∃ t, ∀ (β : Type) (g : Nat → β), k9_swk g x dflt l = g t := by
  induction l with
  | nil => exact ⟨dflt, fun _ _ => rfl⟩
  | cons q r ih =>
    obtain ⟨c, t⟩ := q
    by_cases h : x = c
    · exact ⟨t, fun _ g => by simp [k9_swk, h]⟩
    · obtain ⟨t', ht⟩ := ih
      exact ⟨t', fun β g => by simp only [k9_swk, if_neg h]; exact ht β g⟩
/-- a step asks at most two things: a callee, and what goes on -/
theorem k9_stp_two (S : k9_S) (d y ix : Nat) (L : k9_L) (st : List k9_v) (I : k9_I) (J : k9_J) :
    (∃ r, ∀ kc k, k9_stp kc k S d y ix L st I J = r) ∨
    (∃ ix' L' st' I' J', ∀ kc k, k9_stp kc k S d y ix L st I J = k d y ix' L' st' I' J') ∨
    (∃ d' z L0 y' ix' L' st', d = d' + 1 ∧ ∀ kc k, k9_stp kc k S d y ix L st I J = (kc d' z 0 L0 [] I J).bind fun q => k (d' + 1) y' ix' L' (k9_ps q.1 st') q.2.1 q.2.2) := by
  unfold k9_stp
  cases hn : k9_nxt S (k9_cod y ix) ix L st I J with
  | none => exact Or.inl ⟨none, fun _ _ => rfl⟩
  | some w =>
    rcases w with ⟨ix', L', st', I', J'⟩ | ⟨g, ix', L', st', I', J'⟩ | ⟨b, t, f, L', st', I', J'⟩ | ⟨l, x, f, L', st', I', J'⟩ | ⟨z, as, L', st'⟩ | ⟨g, r⟩
    · exact Or.inr (Or.inl ⟨_, _, _, _, _, fun _ _ => rfl⟩)
    · cases g
      · exact Or.inl ⟨none, fun _ _ => rfl⟩
      · exact Or.inr (Or.inl ⟨_, _, _, _, _, fun _ _ => rfl⟩)
    · cases b
      · exact Or.inr (Or.inl ⟨_, _, _, _, _, fun _ _ => rfl⟩)
      · exact Or.inr (Or.inl ⟨_, _, _, _, _, fun _ _ => rfl⟩)
    · obtain ⟨t, ht⟩ := k9_swk_cases (fun _ => (0 : Nat)) x f l
      exact Or.inr (Or.inl ⟨t, L', st', I', J', fun _ k => ht _ _⟩)
    · cases d with
      | zero => exact Or.inl ⟨none, fun _ _ => rfl⟩
      | succ d => exact Or.inr (Or.inr ⟨d, z, _, y, _, L', st', rfl, fun _ _ => rfl⟩)
    · cases g
      · exact Or.inl ⟨none, fun _ _ => rfl⟩
      · exact Or.inl ⟨_, fun _ _ => rfl⟩
theorem k9_stp_mono {S : k9_S} {f g fc gc : k9_F} (hc : k9_le fc gc) (h : k9_le f g) : k9_le (k9_stp fc f S) (k9_stp gc g S) := by
  intro d y ix L st I J r hr
  rcases k9_stp_two S d y ix L st I J with ⟨r', h1⟩ | ⟨ix', L', st', I', J', h1⟩ | ⟨d', z, L0, y', ix', L', st', rfl, h1⟩
  · rw [h1] at hr ⊢; exact hr
  · rw [h1] at hr ⊢; exact h _ _ _ _ _ _ _ _ hr
  · rw [h1] at hr ⊢
    obtain ⟨q, hq, hk⟩ := Option.bind_eq_some_iff.mp hr
    rw [hc _ _ _ _ _ _ _ _ hq]
    exact h _ _ _ _ _ _ _ _ hk
theorem k9_ru_succ (S : k9_S) : ∀ n, k9_le (k9_ru S n) (k9_ru S (n + 1))
  | 0 => fun _ _ _ _ _ _ _ _ h => by cases h
  | n + 1 => k9_stp_mono (k9_ru_succ S n) (k9_ru_succ S n)
theorem k9_ru_le (S : k9_S) {n m : Nat} (h : n ≤ m) : k9_le (k9_ru S n) (k9_ru S m) := by
  induction h with
  | refl => exact fun _ _ _ _ _ _ _ _ h => h
  | step _ ih => exact fun _ _ _ _ _ _ _ _ h => k9_ru_succ S _ _ _ _ _ _ _ _ _ (ih _ _ _ _ _ _ _ _ h)
/-- what a run comes to, if it comes to an end -/
noncomputable def k9_R (S : k9_S) : k9_F := fun d y ix L st I J =>
  @dite (Option k9_A) (∃ r n, k9_ru S n d y ix L st I J = some r) (Classical.propDecidable _) (fun h => some (Classical.choose h)) (fun _ => none)
theorem k9_R_some {S : k9_S} {d y ix : Nat} {L : k9_L} {st : List k9_v} {I : k9_I} {J : k9_J} {r : k9_A} : k9_R S d y ix L st I J = some r ↔ ∃ n, k9_ru S n d y ix L st I J = some r := by
  unfold k9_R
  by_cases h : ∃ r n, k9_ru S n d y ix L st I J = some r
  · rw [dif_pos h]
    have h1 := Classical.choose_spec h
    constructor
    · intro e
      cases e
      exact h1
    · rintro ⟨n, hn⟩
      obtain ⟨m, hm⟩ := h1
      have a1 := k9_ru_le S (Nat.le_max_left n m) _ _ _ _ _ _ _ _ hn
      have a2 := k9_ru_le S (Nat.le_max_right n m) _ _ _ _ _ _ _ _ hm
      rw [a1] at a2
      exact a2.symm
  · rw [dif_neg h]
    constructor
    · intro e; cases e
    · rintro ⟨n, hn⟩
      exact absurd ⟨r, n, hn⟩ h
theorem k9_R_ge (S : k9_S) (n : Nat) : k9_le (k9_ru S n) (k9_R S) := fun _ _ _ _ _ _ _ _ h => k9_R_some.mpr ⟨n, h⟩
theorem k9_R_eq (S : k9_S) (d y ix : Nat) (L : k9_L) (st : List k9_v) (I : k9_I) (J : k9_J) : k9_R S d y ix L st I J = k9_stp (k9_R S) (k9_R S) S d y ix L st I J := by
  apply Option.ext
  intro r
  constructor
  · intro h
    obtain ⟨n, hn⟩ := k9_R_some.mp h
    cases n with
    | zero => cases hn
    | succ n => exact k9_stp_mono (k9_R_ge S n) (k9_R_ge S n) _ _ _ _ _ _ _ _ hn
  · intro h
    rcases k9_stp_two S d y ix L st I J with ⟨r', h1⟩ | ⟨ix', L', st', I', J', h1⟩ | ⟨d', z, L0, y', ix', L', st', rfl, h1⟩
    · rw [h1] at h
      exact k9_R_some.mpr ⟨1, (h1 _ _).trans h⟩
    · rw [h1] at h
      obtain ⟨n, hn⟩ := k9_R_some.mp h
      exact k9_R_some.mpr ⟨n + 1, (h1 _ _).trans hn⟩
    · rw [h1] at h
      obtain ⟨q, hq, hk⟩ := Option.bind_eq_some_iff.mp h
      obtain ⟨n, hn⟩ := k9_R_some.mp hq
      obtain ⟨m, hm⟩ := k9_R_some.mp hk
      refine k9_R_some.mpr ⟨max n m + 1, (h1 _ _).trans ?_⟩
      rw [k9_ru_le S (Nat.le_max_left n m) _ _ _ _ _ _ _ _ hn]
      exact k9_ru_le S (Nat.le_max_right n m) _ _ _ _ _ _ _ _ hm
/-- n steps told, then as it comes -/
noncomputable def k9_n (S : k9_S) : Nat → k9_F
  | 0 => k9_R S
  | n + 1 => fun d y ix L st I J => k9_stp (k9_R S) (k9_n S n) S d y ix L st I J
theorem k9_n_eq (S : k9_S) : ∀ n, k9_n S n = k9_R S
  | 0 => rfl
  | n + 1 => by
    funext d y ix L st I J
    show k9_stp (k9_R S) (k9_n S n) S d y ix L st I J = _
    rw [k9_n_eq S n]
    exact (k9_R_eq S d y ix L st I J).symm
theorem k9_b (S : k9_S) (n : Nat) {d y ix : Nat} {L : k9_L} {st : List k9_v} {I : k9_I} {J : k9_J} {r : Option k9_A} (h : k9_n S n d y ix L st I J = r) : k9_R S d y ix L st I J = r := by
  rw [← k9_n_eq S n]
  exact h
/-- the same with a branch at the end -/
theorem k9_bif (S : k9_S) (n : Nat) {d y ix : Nat} {L : k9_L} {st : List k9_v} {I : k9_I} {J : k9_J} {P : Prop} [Decidable P] {r s : Option k9_A} (h : k9_n S n d y ix L st I J = if decide P = true then r else s) : k9_R S d y ix L st I J = if P then r else s := by
  rw [← k9_n_eq S n, h]
  by_cases hp : P <;> simp [hp]
