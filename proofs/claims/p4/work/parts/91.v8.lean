/-! THE LAW'S TEXT: what it is worth -/
section KV8
def p_ud (g : Nat → Int32) (i : Nat) (v : Int32) : Nat → Int32 := fun j => if j = i then v else g j
theorem p_ud_e (g : Nat → Int32) (i : Nat) (v : Int32) : p_ud g i v i = v := if_pos rfl
theorem p_ud_n {g : Nat → Int32} {i j : Nat} {v : Int32} (h : j ≠ i) : p_ud g i v j = g j := if_neg h
/-- two joined by a sign -/
def p_bo (c : Nat) (x y : Int32) : Int32 :=
  if c = 10124 then (if x.toInt = 0 ∧ y.toInt = 0 then 0 else 1)
  else if c = 10038 then (if x.toInt = 0 ∨ y.toInt = 0 then 0 else 1)
  else if c = 10060 then (if x.toInt < y.toInt then 1 else 0)
  else if c = 10061 then (if x.toInt = y.toInt then 1 else 0)
  else if c = 10062 then (if y.toInt < x.toInt then 1 else 0)
  else if c = 10043 then x + y
  else if c = 10045 then x - y
  else if c = 10042 then x * y
  else if c = 10047 then (if y.toInt = 0 then 0 else x / y)
  else (if y.toInt = 0 then 0 else x - x / y * y)
abbrev p_pu (c : Nat) : Prop := c < 10000 ∨ c = 10098 ∨ c = 10102 ∨ c = 10115 ∨ c = 10116 ∨ c = 10108 ∨ c = 10110
abbrev p_uy (c : Nat) : Prop := c = 10033 ∨ c = 10126
abbrev p_bi (c : Nat) : Prop := c = 10124 ∨ c = 10038 ∨ c = 10060 ∨ c = 10061 ∨ c = 10062 ∨ c = 10043 ∨ c = 10045 ∨ c = 10042 ∨ c = 10047 ∨ c = 10037
abbrev k9_sk : Type := Nat × (Nat → Int32)
/-- what a token pushes -/
def p_pvl (e : Nat → Int32) (c : Nat) : Int32 := if c < 10000 then nI c else e (p_tkm c)
def p_stp (e : Nat → Int32) (c : Nat) (s : k9_sk) : k9_sk :=
  if p_pu c then (s.1 + 1, p_ud s.2 s.1 (p_pvl e c))
  else if c = 10033 then (s.1, p_ud s.2 (s.1 - 1) (if (s.2 (s.1 - 1)).toInt = 0 then 1 else 0))
  else if c = 10126 then (s.1, p_ud s.2 (s.1 - 1) (-(s.2 (s.1 - 1))))
  else (s.1 - 1, p_ud s.2 (s.1 - 2) (p_bo c (s.2 (s.1 - 2)) (s.2 (s.1 - 1))))
def p_sts (e : Nat → Int32) : List Nat → k9_sk → k9_sk
  | [], s => s
  | c :: r, s => p_sts e r (p_stp e c s)
theorem p_sts_a (e : Nat → Int32) (a b : List Nat) (s : k9_sk) : p_sts e (a ++ b) s = p_sts e b (p_sts e a s) := by
  induction a generalizing s with
  | nil => rfl
  | cons c r ih => exact ih _
/-- heights -/
def p_hv (H : Nat) : List Nat → Nat → Prop
  | [], _ => True
  | c :: r, t => (p_pu c ∧ t < H ∧ p_hv H r (t + 1)) ∨ (p_uy c ∧ 1 ≤ t ∧ p_hv H r t) ∨ (p_bi c ∧ 2 ≤ t ∧ p_hv H r (t - 1))
theorem p_hv_m {H : Nat} {ts : List Nat} {t : Nat} (h : p_hv H ts t) : ∀ c, c ∈ ts → p_pu c ∨ p_uy c ∨ p_bi c := by
  induction ts generalizing t with
  | nil => intro c hc; cases hc
  | cons x r ih =>
    intro c hc
    rcases List.mem_cons.mp hc with rfl | hc
    · rcases h with h | h | h
      · exact Or.inl h.1
      · exact Or.inr (Or.inl h.1)
      · exact Or.inr (Or.inr h.1)
    · rcases h with h | h | h
      · exact ih h.2.2 c hc
      · exact ih h.2.2 c hc
      · exact ih h.2.2 c hc
theorem p_et_n {c : Nat} (h : p_pu c ∨ p_uy c ∨ p_bi c) : c ≠ 10059 ∧ c ≠ 10063 := by
  simp only [p_pu, p_uy, p_bi] at h
  omega
/-- tokens that are worth v -/
def p_xq (h : Nat) (ts : List Nat) (v : (Nat → Int32) → Int32) : Prop :=
  (∀ (e : Nat → Int32) (t : Nat) (g : Nat → Int32), ∃ g', p_sts e ts (t, g) = (t + 1, g') ∧ g' t = v e ∧ ∀ j, j < t → g' j = g j) ∧
  (∀ (H : Nat) (r : List Nat) (t : Nat), t + h ≤ H → p_hv H r (t + 1) → p_hv H (ts ++ r) t) ∧
  (10108 ∉ ts → ∀ e e' : Nat → Int32, (∀ k, k ≠ 4 → e k = e' k) → v e = v e')
theorem p_xq_w {h h' : Nat} {ts : List Nat} {v : (Nat → Int32) → Int32} (hh : h ≤ h') (x : p_xq h ts v) : p_xq h' ts v := ⟨x.1, fun H r t g => x.2.1 H r t (by omega), x.2.2⟩
theorem p_xq_p {c : Nat} (hc : p_pu c) : p_xq 1 [c] (fun e => p_pvl e c) := by
  refine ⟨fun e t g => ⟨p_ud g t (p_pvl e c), ?_, p_ud_e _ _ _, fun j hj => p_ud_n (by omega)⟩, fun H r t h g => Or.inl ⟨hc, by omega, g⟩, fun h e e' g => ?_⟩
  · rw [p_sts, p_sts, p_stp, if_pos hc]
  · dsimp only
    unfold p_pvl
    by_cases c1 : c < 10000
    · rw [if_pos c1, if_pos c1]
    · rw [if_neg c1, if_neg c1]
      refine g _ ?_
      have hn : c ≠ 10108 := fun z => h (by rw [z]; exact List.mem_singleton.mpr rfl)
      have hc' : c = 10098 ∨ c = 10102 ∨ c = 10115 ∨ c = 10116 ∨ c = 10110 := by simp only [p_pu] at hc; omega
      rcases hc' with rfl | rfl | rfl | rfl | rfl <;> decide
theorem p_xq_n {h : Nat} {ts : List Nat} {v : (Nat → Int32) → Int32} (x : p_xq h ts v) : p_xq h (ts ++ [10033]) (fun e => if (v e).toInt = 0 then 1 else 0) := by
  refine ⟨fun e t g => ?_, fun H r t hh g => ?_, fun hn e e' g => ?_⟩
  · obtain ⟨g', e1, e2, e3⟩ := x.1 e t g
    refine ⟨p_ud g' t (if (g' t).toInt = 0 then 1 else 0), ?_, ?_, fun j hj => (p_ud_n (by omega)).trans (e3 j hj)⟩
    · rw [p_sts_a, e1, p_sts, p_sts, p_stp, if_neg (by decide), if_pos rfl]
      rfl
    · rw [p_ud_e, e2]
  · rw [List.append_assoc]
    exact x.2.1 H _ t hh (Or.inr (Or.inl ⟨Or.inl rfl, by omega, g⟩))
  · dsimp only
    rw [x.2.2 (fun z => hn (List.mem_append_left _ z)) e e' g]
theorem p_xq_m {h : Nat} {ts : List Nat} {v : (Nat → Int32) → Int32} (x : p_xq h ts v) : p_xq h (ts ++ [10126]) (fun e => -(v e)) := by
  refine ⟨fun e t g => ?_, fun H r t hh g => ?_, fun hn e e' g => ?_⟩
  · obtain ⟨g', e1, e2, e3⟩ := x.1 e t g
    refine ⟨p_ud g' t (-(g' t)), ?_, ?_, fun j hj => (p_ud_n (by omega)).trans (e3 j hj)⟩
    · rw [p_sts_a, e1, p_sts, p_sts, p_stp, if_neg (by decide), if_neg (by decide), if_pos rfl]
      rfl
    · rw [p_ud_e, e2]
  · rw [List.append_assoc]
    exact x.2.1 H _ t hh (Or.inr (Or.inl ⟨Or.inr rfl, by omega, g⟩))
  · dsimp only
    rw [x.2.2 (fun z => hn (List.mem_append_left _ z)) e e' g]
theorem p_bi_n {c : Nat} (h : p_bi c) : ¬ p_pu c ∧ c ≠ 10033 ∧ c ≠ 10126 := by
  simp only [p_bi] at h
  simp only [p_pu]
  omega
theorem p_xq_b {h h2 c : Nat} {ts us : List Nat} {v v2 : (Nat → Int32) → Int32} (x : p_xq h ts v) (y : p_xq h2 us v2) (hh : 1 + h2 ≤ h) (hc : p_bi c) : p_xq h (ts ++ (us ++ [c])) (fun e => p_bo c (v e) (v2 e)) := by
  obtain ⟨n1, n2, n3⟩ := p_bi_n hc
  refine ⟨fun e t g => ?_, fun H r t hH g => ?_, fun hn e e' g => ?_⟩
  · obtain ⟨g1, e1, e2, e3⟩ := x.1 e t g
    obtain ⟨g2, f1, f2, f3⟩ := y.1 e (t + 1) g1
    refine ⟨p_ud g2 t (p_bo c (g2 t) (g2 (t + 1))), ?_, ?_, fun j hj => (p_ud_n (by omega)).trans ((f3 j (by omega)).trans (e3 j hj))⟩
    · rw [p_sts_a, e1, p_sts_a, f1, p_sts, p_sts, p_stp, if_neg n1, if_neg n2, if_neg n3]
      rfl
    · rw [p_ud_e, f2, f3 t (by omega), e2]
  · rw [List.append_assoc, List.append_assoc]
    exact x.2.1 H _ t hH (y.2.1 H _ (t + 1) (by omega) (Or.inr (Or.inr ⟨hc, by omega, g⟩)))
  · dsimp only
    rw [x.2.2 (fun z => hn (List.mem_append_left _ z)) e e' g, y.2.2 (fun z => hn (List.mem_append_right _ (List.mem_append_left _ z))) e e' g]
theorem p_jn_b {lv c : Nat} (h : p_jn lv c) : p_bi (10000 + c) := by
  simp only [p_jn] at h
  simp only [p_bi]
  omega
theorem p_lp_x {n : Nat} {l : Nat → Nat} {r : Nat → k9_pr} {lv H h2 : Nat} (hh : 1 + h2 ≤ H) (hr : ∀ a, (r a).1 = true → ∃ v, p_xq h2 (r a).2.2 v) (k : Nat) : ∀ a acc v, p_xq H acc v → (p_lp n l r lv k a).1 = true → ∃ v', p_xq H (acc ++ (p_lp n l r lv k a).2.2) v' := by
  induction k with
  | zero =>
    intro a acc v x _
    rw [p_lp, List.append_nil]
    exact ⟨v, x⟩
  | succ k ih =>
    intro a acc v x
    rw [p_lp]
    by_cases c : p_jn lv (p_lt n l a)
    · rw [if_pos c]
      by_cases e : (r (a + 1)).1 = true
      · rw [if_pos e]
        intro z
        obtain ⟨v2, y⟩ := hr (a + 1) e
        obtain ⟨v3, x3⟩ := ih (r (a + 1)).2.1 _ _ (p_xq_b x y hh (p_jn_b c)) z
        refine ⟨v3, ?_⟩
        rw [List.append_assoc, List.append_assoc, List.singleton_append] at x3
        exact x3
      · rw [if_neg e]
        intro z
        cases z
    · rw [if_neg c, List.append_nil]
      intro _
      exact ⟨v, x⟩
theorem p_rd_x (n : Nat) (l : Nat → Nat) (f : Nat) : ∀ lv op a, lv ≤ 5 → op ≤ 6 → (p_rd n l f lv op a).1 = true → ∃ v, p_xq ((6 - op) * 5 + lv + 1) (p_rd n l f lv op a).2.2 v := by
  induction f with
  | zero =>
    intro lv op a _ _ h
    rw [p_rd] at h
    cases h
  | succ f ih =>
    intro lv op a hlv hop
    cases lv with
    | zero =>
      rw [p_rd]
      unfold p_od
      by_cases c1 : 48 ≤ p_lt n l a ∧ p_lt n l a ≤ 57
      · rw [if_pos c1]
        intro _
        have := p_nu_9 n l a
        exact ⟨_, p_xq_w (by omega) (p_xq_p (Or.inl (by omega)))⟩
      · rw [if_neg c1]
        by_cases c2 : p_na (p_lt n l a)
        · rw [if_pos c2]
          intro _
          exact ⟨_, p_xq_w (by omega) (p_xq_p (by simp only [p_na] at c2; simp only [p_pu]; omega))⟩
        · rw [if_neg c2]
          by_cases c3 : op < 6 ∧ p_lt n l a = 40
          · rw [if_pos c3]
            by_cases e : (p_rd n l f 5 (op + 1) (a + 1)).1 = true ∧ p_lt n l (p_rd n l f 5 (op + 1) (a + 1)).2.1 = 41
            · rw [if_pos e]
              intro _
              obtain ⟨v, x⟩ := ih 5 (op + 1) (a + 1) (by omega) (by omega) e.1
              exact ⟨v, p_xq_w (by omega) x⟩
            · rw [if_neg e]
              intro z
              cases z
          · rw [if_neg c3]
            by_cases c4 : op < 6 ∧ (p_lt n l a = 33 ∨ p_lt n l a = 45)
            · rw [if_pos c4]
              by_cases e : (p_rd n l f 0 (op + 1) (a + 1)).1 = true
              · rw [if_pos e]
                intro _
                obtain ⟨v, x⟩ := ih 0 (op + 1) (a + 1) (by omega) (by omega) e
                have x' := p_xq_w (h' := (6 - op) * 5 + 0 + 1) (by omega) x
                by_cases c5 : p_lt n l a = 45
                · rw [if_pos c5]
                  exact ⟨_, p_xq_m x'⟩
                · rw [if_neg c5]
                  exact ⟨_, p_xq_n x'⟩
              · rw [if_neg e]
                intro z
                cases z
            · rw [if_neg c4]
              intro z
              cases z
    | succ lv =>
      rw [p_rd]
      unfold p_lc
      by_cases e : (p_rd n l f lv op a).1 = true
      · rw [if_pos e]
        intro z
        obtain ⟨v, x⟩ := ih lv op a (by omega) hop e
        exact p_lp_x (H := (6 - op) * 5 + (lv + 1) + 1) (h2 := (6 - op) * 5 + lv + 1) (by omega) (fun b hb => ih lv op b (by omega) hop hb) _ _ _ v (p_xq_w (by omega) x) z
      · rw [if_neg e]
        intro z
        cases z
/-- what tokens are worth -/
def p_vx (e : Nat → Int32) (ts : List Nat) : Int32 := (p_sts e ts (0, fun _ => 0)).2 0
def p_xp (ts : List Nat) : Prop :=
  (∀ (e : Nat → Int32) (t : Nat) (g : Nat → Int32), ∃ g', p_sts e ts (t, g) = (t + 1, g') ∧ g' t = p_vx e ts ∧ ∀ j, j < t → g' j = g j) ∧
  (∀ t H, t + 36 ≤ H → p_hv H ts t) ∧
  (10108 ∉ ts → ∀ e e' : Nat → Int32, (∀ k, k ≠ 4 → e k = e' k) → p_vx e ts = p_vx e' ts)
theorem p_xp_q {ts : List Nat} {v : (Nat → Int32) → Int32} (x : p_xq 36 ts v) : p_xp ts := by
  have hv : ∀ e, p_vx e ts = v e := fun e => by
    obtain ⟨g', e1, e2, e3⟩ := x.1 e 0 (fun _ => 0)
    unfold p_vx
    rw [e1]
    exact e2
  refine ⟨fun e t g => ?_, fun t H h => ?_, fun h e e' g => ?_⟩
  · rw [hv e]
    exact x.1 e t g
  · have := x.2.1 H [] t h trivial
    rw [List.append_nil] at this
    exact this
  · rw [hv, hv]
    exact x.2.2 h e e' g
theorem p_e0_x {n : Nat} {l : Nat → Nat} {a : Nat} (h : (p_e0 n l a).1 = true) : p_xp (p_e0 n l a).2.2 := by
  obtain ⟨v, x⟩ := p_rd_x n l 42 5 0 a (by omega) (by omega) h
  exact p_xp_q x
def p_okl (x : k9_ln) : Prop := (x.1 = [] ∨ p_xp x.1) ∧ p_xp x.2
theorem p_lin_x {n : Nat} {l : Nat → Nat} {a : Nat} (h : (p_lin n l a).1 = true) : p_okl (p_lin n l a).2.2 := by
  unfold p_lin at h ⊢
  by_cases e : (p_e0 n l a).1 = true
  · rw [if_pos e] at h ⊢
    by_cases e2 : p_lt n l (p_e0 n l a).2.1 = 63
    · rw [if_pos e2] at h ⊢
      exact ⟨Or.inr (p_e0_x e), p_e0_x h⟩
    · rw [if_neg e2]
      exact ⟨Or.inl rfl, p_e0_x e⟩
  · rw [if_neg e] at h
    cases h
theorem p_tl_x (n : Nat) (l : Nat → Nat) (k : Nat) : ∀ a, (p_tl n l k a).1 = true → ∀ x, x ∈ (p_tl n l k a).2.2 → p_okl x := by
  induction k with
  | zero =>
    intro a _ x hx
    rw [p_tl] at hx
    cases hx
  | succ k ih =>
    intro a
    rw [p_tl]
    by_cases c1 : a < n
    · rw [if_pos c1]
      by_cases c2 : p_lt n l a = 59
      · rw [if_pos c2]
        by_cases r : (p_lin n l (a + 1)).1 = true
        · rw [if_pos r]
          intro z x hx
          rcases List.mem_cons.mp hx with rfl | hx
          · exact p_lin_x r
          · exact ih _ z x hx
        · rw [if_neg r]
          intro z
          cases z
      · rw [if_neg c2]
        intro z
        cases z
    · rw [if_neg c1]
      intro _ x hx
      cases hx
theorem p_tx_x {n : Nat} {l : Nat → Nat} (h : (p_tx n l).1 = true) : ∀ x, x ∈ (p_tx n l).2.2 → p_okl x := by
  unfold p_tx at h ⊢
  by_cases r : (p_lin n l 0).1 = true
  · rw [if_pos r] at h ⊢
    intro x hx
    rcases List.mem_cons.mp hx with rfl | hx
    · exact p_lin_x r
    · exact p_tl_x n l 119 _ h x hx
  · rw [if_neg r] at h
    cases h
/-- what the text is worth -/
def p_vl (e : Nat → Int32) : List k9_ln → Int32
  | [] => 0
  | x :: r => if x.1 ≠ [] ∧ (p_vx e x.1).toInt = 0 then p_vl e r else p_vx e x.2
/-- a row holds a list from a place on -/
def k9_Cd (R : Nat → Int32) (i : Nat) (C : List Nat) : Prop := ∀ j, j < C.length → R (i + j) = nI (C.getD j 0)
theorem k9_Cd_a {R : Nat → Int32} {i : Nat} {A B : List Nat} (h : k9_Cd R i (A ++ B)) : k9_Cd R i A ∧ k9_Cd R (i + A.length) B := by
  refine ⟨fun j hj => ?_, fun j hj => ?_⟩
  · have := h j (by rw [List.length_append]; omega)
    rw [show (A ++ B).getD j 0 = A.getD j 0 by simp [List.getD_eq_getElem?_getD, List.getElem?_append_left hj]] at this
    exact this
  · have := h (A.length + j) (by rw [List.length_append]; omega)
    rw [show (A ++ B).getD (A.length + j) 0 = B.getD j 0 by simp [List.getD_eq_getElem?_getD, List.getElem?_append_right], ← Nat.add_assoc] at this
    exact this
theorem k9_Cd_h {R : Nat → Int32} {i c : Nat} {r : List Nat} (h : k9_Cd R i (c :: r)) : R i = nI c ∧ k9_Cd R (i + 1) r := by
  refine ⟨h 0 (by simp), fun j hj => ?_⟩
  have := h (j + 1) (by rw [List.length_cons]; omega)
  rw [show i + (j + 1) = i + 1 + j by omega] at this
  exact this
theorem k9_Cd_c {R R' : Nat → Int32} {i : Nat} {C : List Nat} (e : R' = R) (h : k9_Cd R i C) : k9_Cd R' i C := by rw [e]; exact h
end KV8
