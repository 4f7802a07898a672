/-! THE WORLD: the model's cells at their addresses -/
def k9_rf (adr : Nat → Nat → Nat) (q : Nat × Nat) : Option Nat := match q.1 with
  | 0 => none
  | _ + 1 => some (adr q.1 q.2)
def k9_mv (adr : Nat → Nat → Nat) : k9_v → Value
  | Sum.inl x => .int x
  | Sum.inr (Sum.inl x) => .long x
  | Sum.inr (Sum.inr q) => va_rf (k9_rf adr q)
def k9_fv (adr : Nat → Nat → Nat) (I : k9_I) (J : k9_J) (k i s : Nat) : Value := match k9_ft k s with
  | 0 => .int (I k i s)
  | 1 => .long (J k i s)
  | _ => va_rf (k9_rf adr (k9_fr k s i))
def k9_row (adr : Nat → Nat → Nat) (I : k9_I) (J : k9_J) (k i : Nat) : (Nat → Int32) ⊕ (Nat → Int64) ⊕ (Nat → UInt32) ⊕ (Nat → UInt64) ⊕ (Nat → Option Nat) := match k9_et k with
  | 1 => .inl (fun j => I k i j)
  | 2 => .inr (.inl (fun j => J k i j))
  | _ => .inr (.inr (.inr (.inr (fun j => k9_rf adr (k9_ar k i j)))))
def k9_ent (dT : Nat → ClassId) (adr : Nat → Nat → Nat) (I : k9_I) (J : k9_J) (q : Nat × Nat) : va_E := match k9_ob q.1 with
  | true => .inr (k9_ci q.1, (List.range (k9_vc q.1).2.2).map (fun s => k9_fv adr I J q.1 q.2 s))
  | false => .inl (dT (k9_et q.1), k9_len q.1, k9_row adr I J q.1 q.2)
def k9_ws (dT : Nat → ClassId) (adr : Nat → Nat → Nat) (I : k9_I) (J : k9_J) : va_W := k9_cells.map (fun q => (adr q.1 q.2, k9_ent dT adr I J q))
theorem k9_ws_at {dT : Nat → ClassId} {adr : Nat → Nat → Nat} {I : k9_I} {J : k9_J} {k i : Nat} (h : (k, i) ∈ k9_cells) : ∃ p : Nat, k9_cells[p]? = some (k, i) ∧ (k9_ws dT adr I J)[p]? = some (adr k i, k9_ent dT adr I J (k, i)) := by
  obtain ⟨p, hp⟩ := List.getElem?_of_mem h
  exact ⟨p, hp, by rw [k9_ws, List.getElem?_map, hp]; rfl⟩
theorem k9_ws_set {dT : Nat → ClassId} {adr : Nat → Nat → Nat} {I I' : k9_I} {J J' : k9_J} {k i p : Nat} {e : va_E} (hnd : va_nd (k9_cells.map (fun q => q.1 * 1000 + q.2)) = true) (hp : k9_cells[p]? = some (k, i)) (he : e = k9_ent dT adr I' J' (k, i)) (ho : ∀ q, q ≠ (k, i) → k9_ent dT adr I' J' q = k9_ent dT adr I J q) :
    (k9_ws dT adr I J).set p (adr k i, e) = k9_ws dT adr I' J' := by
  subst he
  apply List.ext_getElem?
  intro n
  by_cases hn : n = p
  · subst hn
    have hl : n < (k9_ws dT adr I J).length := by
      rw [k9_ws, List.length_map]
      exact (List.getElem?_eq_some_iff.mp hp).1
    rw [List.getElem?_set_self hl, k9_ws, List.getElem?_map, hp]
    rfl
  · rw [List.getElem?_set_ne (Ne.symm hn), k9_ws, k9_ws, List.getElem?_map, List.getElem?_map]
    cases hq : k9_cells[n]? with
    | none => rfl
    | some q =>
      have hne : q ≠ (k, i) := by
        intro h
        subst h
        refine hn (va_nd_inj _ hnd n p (k * 1000 + i) ?_ ?_)
        · rw [List.getElem?_map, hq]; rfl
        · rw [List.getElem?_map, hp]; rfl
      simp only [Option.map_some]
      rw [ho q hne]
theorem k9_map_set {α : Type} (f g : Nat → α) (n s : Nat) (v : α) (hs : g s = v) (ho : ∀ j, j ≠ s → g j = f j) : ((List.range n).map f).set s v = (List.range n).map g := by
  apply List.ext_getElem?
  intro j
  by_cases hj : j = s
  · subst hj
    by_cases hl : j < n
    · rw [List.getElem?_set_self (by simpa using hl)]
      simp [hl, hs]
    · rw [List.getElem?_eq_none (by simpa using Nat.le_of_not_lt hl), List.getElem?_eq_none (by simpa using Nat.le_of_not_lt hl)]
  · rw [List.getElem?_set_ne (Ne.symm hj)]
    by_cases hl : j < n
    · simp [hl, ho j hj]
    · rw [List.getElem?_eq_none (by simpa using Nat.le_of_not_lt hl), List.getElem?_eq_none (by simpa using Nat.le_of_not_lt hl)]
theorem k9_u_same (I : k9_I) (k i p : Nat) (v : Int32) : k9_u I k i p v k i p = v := by simp [k9_u]
theorem k9_u_ne (I : k9_I) (k i p : Nat) (v : Int32) {k' i' p' : Nat} (h : ¬ (k' = k ∧ i' = i ∧ p' = p)) : k9_u I k i p v k' i' p' = I k' i' p' := by simp only [k9_u, if_neg h]
theorem k9_uJ_same (J : k9_J) (k i p : Nat) (v : Int64) : k9_uJ J k i p v k i p = v := by simp [k9_uJ]
theorem k9_uJ_ne (J : k9_J) (k i p : Nat) (v : Int64) {k' i' p' : Nat} (h : ¬ (k' = k ∧ i' = i ∧ p' = p)) : k9_uJ J k i p v k' i' p' = J k' i' p' := by simp only [k9_uJ, if_neg h]
theorem k9_ent_u {dT : Nat → ClassId} {adr : Nat → Nat → Nat} {I : k9_I} {J : k9_J} {k i p : Nat} {v : Int32} {q : Nat × Nat} (h : q ≠ (k, i)) : k9_ent dT adr (k9_u I k i p v) J q = k9_ent dT adr I J q := by
  have h2 : ∀ s, k9_u I k i p v q.1 q.2 s = I q.1 q.2 s := fun s => k9_u_ne _ _ _ _ _ (fun z => h (Prod.ext z.1 z.2.1))
  simp only [k9_ent, k9_fv, k9_row, h2]
theorem k9_ent_uJ {dT : Nat → ClassId} {adr : Nat → Nat → Nat} {I : k9_I} {J : k9_J} {k i p : Nat} {v : Int64} {q : Nat × Nat} (h : q ≠ (k, i)) : k9_ent dT adr I (k9_uJ J k i p v) q = k9_ent dT adr I J q := by
  have h2 : ∀ s, k9_uJ J k i p v q.1 q.2 s = J q.1 q.2 s := fun s => k9_uJ_ne _ _ _ _ _ (fun z => h (Prod.ext z.1 z.2.1))
  simp only [k9_ent, k9_fv, k9_row, h2]
/-- a value that the world can show -/
def k9_vk : k9_v → Prop
  | Sum.inr (Sum.inr q) => q.1 = 0 ∨ q ∈ k9_cells ∨ Nat.ble 9 (k9_et q.1) = true
  | _ => True
/-- locals -/
def k9_lv (adr : Nat → Nat → Nat) : Nat → k9_L → List (Nat × Value)
  | _, [] => []
  | n, none :: r => k9_lv adr (n + 1) r
  | n, some v :: r => (n, k9_mv adr v) :: k9_lv adr (n + 1) r
theorem k9_lv_mem {adr : Nat → Nat → Nat} {q : Nat × Value} : ∀ (n : Nat) (L : k9_L), q ∈ k9_lv adr n L ↔ ∃ i v, k9_at L i = some v ∧ q = (n + i, k9_mv adr v)
  | n, [] => by simp [k9_lv, k9_at]
  | n, none :: r => by
    rw [k9_lv, k9_lv_mem (n + 1) r]
    constructor
    · rintro ⟨i, v, h, rfl⟩
      exact ⟨i + 1, v, h, by rw [Nat.add_assoc, Nat.add_comm 1 i]⟩
    · rintro ⟨i, v, h, rfl⟩
      cases i with
      | zero => cases h
      | succ i => exact ⟨i, v, h, by rw [Nat.add_assoc, Nat.add_comm 1 i]⟩
  | n, some w :: r => by
    rw [k9_lv, List.mem_cons, k9_lv_mem (n + 1) r]
    constructor
    · rintro (rfl | ⟨i, v, h, rfl⟩)
      · exact ⟨0, w, rfl, rfl⟩
      · exact ⟨i + 1, v, h, by rw [Nat.add_assoc, Nat.add_comm 1 i]⟩
    · rintro ⟨i, v, h, rfl⟩
      cases i with
      | zero => cases h; exact Or.inl rfl
      | succ i => exact Or.inr ⟨i, v, h, by rw [Nat.add_assoc, Nat.add_comm 1 i]⟩
def k9_Lh (adr : Nat → Nat → Nat) (nL : Nat) (ls : Array Slot) (L : k9_L) : Prop := lv_has ls nL (k9_lv adr 0 L) ∧ L.length = nL ∧ ∀ i v, k9_at L i = some v → k9_vk v
theorem k9_Lh.at {adr : Nat → Nat → Nat} {nL : Nat} {ls : Array Slot} {L : k9_L} (h : k9_Lh adr nL ls L) {a : Nat} {v : k9_v} (ha : k9_at L a = some v) : ls[a]? = some (.val (k9_mv adr v)) := by
  have h1 : (a, k9_mv adr v) ∈ k9_lv adr 0 L := (k9_lv_mem 0 L).mpr ⟨a, v, ha, by rw [Nat.zero_add]⟩
  exact h.1.2.2 _ h1
theorem k9_set_at : ∀ (L : k9_L) (a : Nat) (v : Option k9_v) (i : Nat), a < L.length → k9_at (k9_set L a v) i = if i = a then v else k9_at L i
  | [], _, _, _, h => by cases h
  | x :: r, 0, v, 0, _ => rfl
  | x :: r, 0, v, i + 1, _ => by simp [k9_set, k9_at]
  | x :: r, a + 1, v, 0, _ => by simp [k9_set, k9_at]
  | x :: r, a + 1, v, i + 1, h => by
    rw [k9_set, k9_at, k9_at, k9_set_at r a v i (Nat.lt_of_succ_lt_succ h)]
    simp
theorem k9_set_len : ∀ (L : k9_L) (a : Nat) (v : Option k9_v), (k9_set L a v).length = L.length
  | [], _, _ => rfl
  | _ :: _, 0, _ => rfl
  | x :: r, a + 1, v => by rw [k9_set, List.length_cons, List.length_cons, k9_set_len r a v]
theorem k9_so_spec : ∀ (L : k9_L) (a : Nat), k9_so L a = true → a < L.length ∧ ∀ b, b + 1 = a → k9_isl (k9_at L b) = false
  | [], a, h => by cases a <;> cases h
  | x :: r, 0, _ => ⟨Nat.succ_pos _, fun b hb => by omega⟩
  | x :: r, 1, h => by
    simp only [k9_so, Bool.and_eq_true, Bool.not_eq_true'] at h
    obtain ⟨h1, h2⟩ := h
    have h3 := k9_so_spec r 0 h2
    refine ⟨by simp only [List.length_cons]; omega, fun b hb => ?_⟩
    obtain rfl : b = 0 := by omega
    exact h1
  | x :: r, a + 2, h => by
    have h3 := k9_so_spec r (a + 1) h
    refine ⟨by simp only [List.length_cons]; omega, fun b hb => ?_⟩
    obtain rfl : b = a + 1 := by omega
    exact h3.2 a rfl
theorem k9_mv_cat (adr : Nat → Nat → Nat) (v : k9_v) : (k9_mv adr v).category = if k9_isl (some v) = true then 2 else 1 := by
  rcases v with x | x | ⟨k, i⟩
  · rfl
  · rfl
  · cases k <;> rfl
/-- a store of one slot -/
theorem k9_Lh.put {adr : Nat → Nat → Nat} {nL : Nat} {ls ls' : Array Slot} {L : k9_L} (h : k9_Lh adr nL ls L) {a : Nat} {v : k9_v} (ho : k9_so L a = true) (hk : k9_vk v) {w : Value} (hw : w = k9_mv adr v)
    (h' : lv_has ls' nL ((a, w) :: (k9_lv adr 0 L).filter (fun q => !(q.1 == a) && !(q.1 + 1 == a && q.2.category == 2)))) : k9_Lh adr nL ls' (k9_set L a (some v)) := by
  subst hw
  obtain ⟨hl, hb⟩ := k9_so_spec L a ho
  refine ⟨⟨h'.1, h'.2.1, fun q hq => ?_⟩, by rw [k9_set_len]; exact h.2.1, fun i u hu => ?_⟩
  · obtain ⟨i, u, hu, rfl⟩ := (k9_lv_mem 0 _).mp hq
    rw [Nat.zero_add] at hq ⊢
    rw [k9_set_at L a _ i hl] at hu
    apply h'.2.2
    by_cases hi : i = a
    · rw [if_pos hi] at hu
      cases hu
      subst hi
      exact List.mem_cons_self
    · rw [if_neg hi] at hu
      refine List.mem_cons_of_mem _ (List.mem_filter.mpr ⟨(k9_lv_mem 0 L).mpr ⟨i, u, hu, by rw [Nat.zero_add]⟩, ?_⟩)
      by_cases h1 : i + 1 = a
      · have h2 := hb i h1
        rw [hu] at h2
        simp [hi, k9_mv_cat, h2]
      · simp [hi, h1]
  · rw [k9_set_at L a _ i hl] at hu
    by_cases hi : i = a
    · rw [if_pos hi] at hu
      cases hu
      exact hk
    · rw [if_neg hi] at hu
      exact h.2.2 i u hu
/-- a store of a long -/
theorem k9_Lh.put2 {adr : Nat → Nat → Nat} {nL : Nat} {ls ls' : Array Slot} {L : k9_L} (h : k9_Lh adr nL ls L) {a : Nat} {x : Int64} (ho : k9_so L a = true) (h1 : a + 1 < L.length)
    (h' : lv_has ls' nL ((a, Value.long x) :: (k9_lv adr 0 L).filter (fun q => !(q.1 == a) && (!(q.1 == a + 1) && !(q.1 + 1 == a && q.2.category == 2))))) : k9_Lh adr nL ls' (k9_set (k9_set L a (some (k9_l x))) (a + 1) none) := by
  obtain ⟨hl, hb⟩ := k9_so_spec L a ho
  have e : ∀ i, k9_at (k9_set (k9_set L a (some (k9_l x))) (a + 1) none) i = if i = a + 1 then none else if i = a then some (k9_l x) else k9_at L i := by
    intro i
    rw [k9_set_at _ _ _ _ (by rw [k9_set_len]; exact h1), k9_set_at L a _ i hl]
  refine ⟨⟨h'.1, h'.2.1, fun q hq => ?_⟩, by rw [k9_set_len, k9_set_len]; exact h.2.1, fun i u hu => ?_⟩
  · obtain ⟨i, u, hu, rfl⟩ := (k9_lv_mem 0 _).mp hq
    rw [Nat.zero_add]
    rw [e] at hu
    apply h'.2.2
    by_cases h2 : i = a + 1
    · rw [if_pos h2] at hu; cases hu
    · rw [if_neg h2] at hu
      by_cases hi : i = a
      · rw [if_pos hi] at hu
        cases hu
        subst hi
        exact List.mem_cons_self
      · rw [if_neg hi] at hu
        refine List.mem_cons_of_mem _ (List.mem_filter.mpr ⟨(k9_lv_mem 0 L).mpr ⟨i, u, hu, by rw [Nat.zero_add]⟩, ?_⟩)
        by_cases h3 : i + 1 = a
        · have h4 := hb i h3
          rw [hu] at h4
          simp [hi, h2, k9_mv_cat, h4]
        · simp [hi, h2, h3]
  · rw [e] at hu
    by_cases h2 : i = a + 1
    · rw [if_pos h2] at hu; cases hu
    · rw [if_neg h2] at hu
      by_cases hi : i = a
      · rw [if_pos hi] at hu
        cases hu
        trivial
      · rw [if_neg hi] at hu
        exact h.2.2 i u hu
theorem k9_in_spec {j : Int32} {n : Nat} (h : k9_in j n = true) : vp_in j n := by
  rw [vp_in_iff]
  simpa [k9_in] using h
