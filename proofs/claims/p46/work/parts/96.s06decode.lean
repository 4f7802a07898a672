/-! THE LINKS BY NUMBERS -/
theorem k9_nth_end {α : Type} (z : α) : ∀ (l : List α) (n : Nat), l.length ≤ n → k9_nth z l n = z
  | [], n, _ => by cases n <;> rfl
  | _ :: _, 0, h => by cases h
  | _ :: l, n + 1, h => k9_nth_end z l n (Nat.le_of_succ_le_succ h)
theorem k9d_nil {α : Type} (z : α) (n : Nat) : k9_nth z [] n = z := by cases n <;> rfl
def k9d_cn (o : Nat) : String := k9_nth "" [k9_s0, k9_s1, k9_s2, k9_s3, k9_s4, k9_s5, k9_s6, k9_s7, k9_s8, k9_s9, k9_s10, k9_s11, k9_s12] o
def k9d_wd (q : k9_W) : Cond := match q with
  | (1, o, i, z) => .methodLink (k9d_cn o) i (k9_nm z)
  | (2, o, i, t) => .fieldLink (k9d_cn o) i ((k9_vc (t / 64)).2.1 (t % 64)).1 ((k9_vc (t / 64)).2.1 (t % 64)).2.1 ((k9_vc (t / 64)).2.1 (t % 64)).2.2.1
  | (_, n, _, _) => (k9d_wat n).getD (.initialized "")
def k9d_C12 : List k9_W := [
  (0, 600, 0, 0), (0, 601, 0, 0), (0, 602, 0, 0), (0, 603, 0, 0), (0, 604, 0, 0), (0, 605, 0, 0), (0, 606, 0, 0), (0, 607, 0, 0), (0, 608, 0, 0), (0, 609, 0, 0),
  (0, 610, 0, 0), (0, 611, 0, 0), (0, 612, 0, 0), (0, 613, 0, 0), (0, 614, 0, 0), (0, 615, 0, 0), (0, 616, 0, 0), (0, 617, 0, 0), (0, 618, 0, 0), (0, 619, 0, 0),
  (0, 620, 0, 0), (0, 621, 0, 0), (0, 622, 0, 0), (1, 3, 28, 1), (1, 3, 32, 2), (0, 625, 0, 0), (0, 626, 0, 0), (2, 3, 41, 192), (1, 3, 44, 3), (2, 3, 15, 196),
  (2, 3, 19, 197), (2, 3, 22, 198), (2, 3, 25, 199), (2, 3, 9, 193), (2, 3, 48, 194), (2, 3, 51, 195), (1, 3, 54, 7), (1, 3, 58, 9), (0, 638, 0, 0), (1, 3, 67, 17),
  (1, 3, 71, 18), (1, 3, 75, 25), (0, 642, 0, 0), (0, 643, 0, 0), (2, 4, 9, 192), (2, 4, 15, 261), (2, 4, 20, 262), (2, 4, 23, 263), (1, 4, 26, 9), (2, 4, 30, 264)]
theorem k9d_Ce12 : k9d_C12.map k9d_wd = k9_B12 := rfl
def k9d_C13 : List k9_W := [
  (2, 4, 33, 265), (2, 4, 36, 266), (1, 4, 39, 11), (2, 4, 43, 267), (1, 4, 45, 12), (2, 4, 48, 268), (1, 4, 50, 10), (2, 4, 53, 269), (1, 4, 55, 5), (1, 4, 59, 13),
  (2, 4, 62, 256), (1, 4, 65, 24), (2, 4, 68, 257), (2, 4, 71, 258), (2, 4, 74, 259), (1, 4, 77, 23), (2, 4, 80, 260), (2, 7, 15, 449), (2, 7, 9, 448), (1, 7, 19, 29),
  (1, 7, 23, 28), (0, 671, 0, 0), (1, 7, 33, 33), (2, 5, 16, 320), (2, 5, 9, 322), (2, 5, 20, 321), (2, 5, 13, 323), (2, 5, 23, 324), (1, 5, 26, 37), (1, 5, 30, 42),
  (1, 5, 34, 38), (1, 5, 38, 43), (1, 5, 42, 39), (1, 5, 45, 41), (1, 5, 49, 46), (1, 5, 52, 44), (1, 5, 55, 40), (1, 5, 58, 45), (2, 6, 18, 385), (2, 6, 22, 384),
  (2, 6, 25, 321), (0, 691, 0, 0), (2, 6, 35, 387), (2, 6, 9, 386), (1, 6, 36, 35), (2, 6, 40, 258), (2, 6, 45, 389), (1, 6, 48, 52), (1, 6, 52, 49), (1, 6, 56, 51)]
theorem k9d_Ce13 : k9d_C13.map k9d_wd = k9_B13 := rfl
def k9d_C14 : List k9_W := [
  (2, 6, 60, 257), (2, 6, 63, 259), (2, 6, 66, 260), (2, 6, 69, 261), (1, 6, 72, 50), (2, 6, 15, 388), (2, 2, 12, 128), (2, 2, 32, 195), (2, 2, 36, 194), (2, 2, 39, 193),
  (2, 2, 42, 384), (1, 2, 48, 10), (2, 2, 52, 132), (1, 2, 54, 11), (2, 2, 57, 133), (2, 2, 21, 129), (1, 2, 59, 20), (0, 717, 0, 0), (1, 2, 69, 21), (1, 2, 73, 48),
  (1, 2, 77, 22), (1, 2, 81, 55), (2, 2, 25, 130), (2, 2, 84, 256), (2, 2, 29, 131), (1, 2, 86, 56), (1, 2, 89, 23), (0, 727, 0, 0), (0, 728, 0, 0), (1, 2, 98, 57),
  (1, 2, 101, 62), (2, 2, 104, 707), (1, 2, 109, 95), (2, 8, 22, 512), (1, 8, 26, 68), (2, 8, 9, 514), (2, 8, 13, 515), (2, 8, 16, 516), (2, 8, 19, 517), (2, 8, 29, 513),
  (1, 8, 32, 6), (2, 9, 9, 576), (2, 9, 15, 577), (2, 9, 19, 578), (0, 744, 0, 0), (2, 9, 28, 581), (2, 9, 31, 579), (2, 9, 34, 580), (2, 9, 37, 582), (2, 10, 16, 640)]
theorem k9d_Ce14 : k9d_C14.map k9d_wd = k9_B14 := rfl
def k9d_C15 : List k9_W := [
  (2, 10, 9, 642), (1, 10, 20, 80), (0, 752, 0, 0), (2, 10, 27, 641), (0, 754, 0, 0), (2, 10, 13, 643), (1, 10, 36, 78), (2, 10, 39, 644), (1, 10, 42, 84), (1, 10, 46, 85),
  (1, 10, 50, 86), (1, 10, 53, 87), (1, 10, 57, 88), (0, 763, 0, 0), (2, 11, 15, 704), (2, 11, 19, 705), (2, 11, 22, 706), (2, 11, 25, 707), (2, 11, 11, 708), (1, 11, 28, 94),
  (1, 11, 32, 97), (1, 11, 36, 96), (1, 1, 74, 0), (2, 1, 10, 64), (2, 1, 80, 128), (2, 1, 84, 192), (1, 1, 88, 8), (1, 1, 92, 147), (1, 1, 95, 144), (2, 1, 99, 704),
  (1, 1, 102, 91), (1, 1, 106, 146), (1, 1, 110, 4), (1, 1, 113, 5), (1, 1, 117, 6), (2, 1, 46, 70), (1, 1, 120, 67), (1, 1, 123, 9), (1, 1, 127, 10), (2, 1, 22, 66),
  (1, 1, 131, 34), (2, 1, 134, 320), (1, 1, 135, 36), (2, 1, 29, 67), (1, 1, 138, 47), (1, 1, 142, 145), (1, 1, 145, 148), (1, 1, 149, 56), (1, 1, 152, 57), (1, 1, 155, 58)]
theorem k9d_Ce15 : k9d_C15.map k9d_wd = k9_B15 := rfl
def k9d_C16 : List k9_W := [
  (1, 1, 158, 59), (1, 1, 161, 60), (1, 1, 164, 61), (1, 1, 167, 62), (1, 1, 170, 63), (1, 1, 173, 64), (0, 806, 0, 0), (1, 1, 181, 150), (2, 1, 184, 78), (2, 1, 40, 69),
  (1, 1, 187, 25), (1, 1, 190, 92), (2, 1, 36, 68), (1, 1, 193, 26), (2, 1, 196, 707), (1, 1, 199, 95), (1, 1, 202, 28), (1, 1, 205, 30), (1, 1, 209, 149), (1, 1, 213, 14),
  (1, 1, 216, 31), (2, 1, 16, 65), (1, 1, 219, 15), (2, 1, 223, 193), (1, 1, 226, 54), (0, 825, 0, 0), (1, 1, 231, 65), (2, 1, 234, 194), (0, 828, 0, 0), (1, 1, 240, 66),
  (1, 1, 244, 151), (1, 1, 247, 152), (1, 1, 251, 19), (2, 1, 53, 71), (2, 1, 254, 576), (1, 1, 258, 71), (1, 1, 261, 72), (2, 1, 264, 577), (1, 1, 267, 73), (1, 1, 270, 74),
  (1, 1, 273, 75), (2, 1, 57, 72), (1, 1, 276, 76), (2, 1, 279, 75), (2, 1, 282, 578), (1, 1, 285, 69), (2, 1, 289, 512), (1, 1, 292, 70), (2, 1, 295, 513), (2, 1, 63, 73)]
theorem k9d_Ce16 : k9d_C16.map k9d_wd = k9_B16 := rfl
def k9d_C17 : List k9_W := [
  (1, 1, 298, 77), (2, 1, 299, 640), (1, 1, 300, 83), (1, 1, 304, 81), (1, 1, 307, 82), (1, 1, 310, 89), (1, 1, 313, 90), (1, 1, 316, 93), (1, 1, 319, 96), (0, 859, 0, 0),
  (1, 1, 326, 94), (2, 1, 329, 706), (1, 1, 332, 98), (2, 1, 335, 705), (1, 1, 338, 78), (1, 1, 341, 79), (2, 1, 344, 641), (2, 1, 69, 74), (2, 1, 347, 76), (2, 1, 350, 77),
  (1, 1, 353, 16), (1, 1, 357, 27), (1, 1, 360, 32), (1, 1, 363, 53), (1, 1, 367, 2), (1, 1, 370, 1), (2, 12, 113, 768), (1, 12, 116, 153), (2, 12, 9, 769), (2, 12, 15, 770),
  (2, 12, 18, 771), (2, 12, 21, 772), (1, 12, 120, 157), (1, 12, 124, 156), (2, 12, 72, 803), (0, 885, 0, 0), (2, 12, 75, 804), (2, 12, 78, 805), (1, 12, 130, 154), (2, 12, 24, 773),
  (1, 12, 133, 160), (1, 12, 137, 161), (1, 12, 140, 162), (1, 12, 144, 163), (2, 12, 148, 797), (2, 12, 63, 798), (2, 12, 151, 796), (1, 12, 154, 184), (1, 12, 158, 185), (2, 12, 162, 774)]
theorem k9d_Ce17 : k9d_C17.map k9d_wd = k9_B17 := rfl
def k9d_C18 : List k9_W := [
  (2, 12, 27, 775), (2, 12, 165, 782), (1, 12, 168, 169), (2, 12, 51, 789), (2, 12, 171, 784), (1, 12, 174, 172), (1, 12, 178, 171), (1, 12, 181, 173), (2, 12, 184, 783), (1, 12, 187, 170),
  (1, 12, 190, 174), (1, 12, 193, 179), (1, 12, 196, 175), (1, 12, 199, 176), (1, 12, 202, 177), (1, 12, 205, 178), (2, 12, 42, 786), (2, 12, 208, 785), (2, 12, 45, 787), (2, 12, 48, 788),
  (1, 12, 211, 180), (2, 12, 214, 776), (2, 12, 218, 777), (2, 12, 30, 778), (2, 12, 33, 779), (2, 12, 36, 780), (2, 12, 39, 781), (2, 12, 54, 790), (2, 12, 88, 809), (1, 12, 221, 182),
  (1, 12, 224, 183), (0, 931, 0, 0), (0, 932, 0, 0), (2, 12, 235, 807), (2, 12, 82, 806), (2, 12, 85, 808), (1, 12, 238, 186), (2, 12, 91, 810), (1, 12, 241, 187), (2, 12, 94, 811),
  (2, 12, 103, 819), (1, 12, 244, 189), (1, 12, 246, 188), (2, 12, 250, 812), (2, 12, 253, 813), (2, 12, 256, 814), (2, 12, 259, 815), (0, 947, 0, 0), (2, 12, 265, 816), (1, 12, 268, 155)]
theorem k9d_Ce18 : k9d_C18.map k9d_wd = k9_B18 := rfl
def k9d_C19 : List k9_W := [
  (1, 12, 271, 190), (1, 12, 274, 193), (1, 12, 277, 191), (1, 12, 280, 197), (1, 12, 283, 199), (1, 12, 286, 201), (2, 12, 100, 818), (1, 12, 289, 206), (2, 12, 97, 817), (1, 12, 293, 205),
  (1, 12, 296, 208), (1, 12, 299, 209), (1, 12, 302, 210), (0, 963, 0, 0), (1, 12, 306, 216), (2, 12, 106, 820), (0, 966, 0, 0), (2, 12, 109, 791), (2, 12, 57, 792), (2, 12, 310, 793),
  (2, 12, 313, 794), (2, 12, 60, 795), (2, 12, 316, 801), (2, 12, 69, 802), (1, 12, 319, 230), (1, 12, 322, 231), (1, 12, 325, 229), (2, 12, 66, 800), (1, 12, 328, 232), (1, 12, 331, 233),
  (1, 12, 334, 234), (2, 12, 337, 799), (1, 12, 340, 240), (1, 12, 343, 241), (0, 984, 0, 0), (1, 0, 13, 99), (1, 0, 17, 158), (1, 0, 18, 100), (1, 0, 22, 159), (1, 0, 23, 101),
  (1, 0, 26, 164), (1, 0, 27, 102), (1, 0, 30, 165), (1, 0, 31, 103), (1, 0, 35, 168), (1, 0, 36, 104), (1, 0, 40, 181), (1, 0, 41, 105), (1, 0, 44, 192), (1, 0, 45, 106)]
theorem k9d_Ce19 : k9d_C19.map k9d_wd = k9_B19 := rfl
def k9d_C20 : List k9_W := [
  (1, 0, 48, 194), (1, 0, 49, 107), (1, 0, 52, 195), (1, 0, 53, 108), (1, 0, 56, 196), (1, 0, 57, 109), (1, 0, 60, 198), (1, 0, 61, 110), (1, 0, 64, 200), (1, 0, 65, 111),
  (1, 0, 68, 202), (1, 0, 69, 112), (1, 0, 72, 203), (1, 0, 73, 113), (1, 0, 76, 204), (1, 0, 77, 114), (1, 0, 80, 207), (1, 0, 81, 115), (1, 0, 84, 211), (1, 0, 85, 116),
  (1, 0, 88, 212), (1, 0, 89, 117), (1, 0, 92, 213), (1, 0, 93, 118), (1, 0, 96, 214), (1, 0, 97, 119), (1, 0, 100, 215), (1, 0, 101, 120), (1, 0, 104, 217), (1, 0, 105, 121),
  (1, 0, 108, 218), (1, 0, 109, 122), (1, 0, 112, 219), (1, 0, 113, 123), (1, 0, 116, 220), (1, 0, 117, 124), (1, 0, 120, 221), (1, 0, 121, 125), (1, 0, 125, 222), (1, 0, 126, 126),
  (1, 0, 129, 223), (1, 0, 130, 127), (1, 0, 133, 224), (1, 0, 134, 128), (1, 0, 137, 225), (1, 0, 138, 129), (1, 0, 141, 226), (1, 0, 142, 130), (1, 0, 145, 227), (1, 0, 146, 131)]
theorem k9d_Ce20 : k9d_C20.map k9d_wd = k9_B20 := rfl
def k9d_C21 : List k9_W := [
  (1, 0, 149, 228), (1, 0, 150, 132), (1, 0, 153, 166), (1, 0, 154, 133), (1, 0, 157, 167), (1, 0, 158, 134), (1, 0, 161, 235), (1, 0, 162, 135), (1, 0, 165, 236), (1, 0, 166, 136),
  (1, 0, 169, 237), (1, 0, 170, 137), (1, 0, 173, 238), (1, 0, 174, 138), (1, 0, 177, 239), (0, 1065, 0, 0), (1, 0, 180, 139), (1, 0, 184, 242), (1, 0, 185, 140), (1, 0, 189, 243),
  (1, 0, 190, 141), (1, 0, 194, 244), (1, 0, 195, 142), (1, 0, 198, 245), (1, 0, 199, 143), (1, 0, 202, 246), (0, 1076, 0, 0), (0, 1077, 0, 0), (0, 1078, 0, 0), (0, 1079, 0, 0),
  (0, 1080, 0, 0), (0, 1081, 0, 0), (0, 1082, 0, 0), (0, 1083, 0, 0), (0, 1084, 0, 0), (0, 1085, 0, 0), (0, 1086, 0, 0), (0, 1087, 0, 0), (0, 1088, 0, 0), (0, 1089, 0, 0),
  (0, 1090, 0, 0), (0, 1091, 0, 0), (0, 1092, 0, 0), (0, 1093, 0, 0), (0, 1094, 0, 0), (0, 1095, 0, 0), (0, 1096, 0, 0), (0, 1097, 0, 0), (0, 1098, 0, 0), (0, 1099, 0, 0)]
theorem k9d_Ce21 : k9d_C21.map k9d_wd = k9_B21 := rfl
def k9d_Cs : List (List k9_W) := [
  [], [], [], [], [], [], [], [], [], [], [], [], k9d_C12, k9d_C13, k9d_C14, k9d_C15, k9d_C16, k9d_C17, k9d_C18, k9d_C19,
  k9d_C20, k9d_C21, []]
def k9d_wcode (n : Nat) : k9_W := k9_nth (0, 0, 0, 0) (k9_nth [] k9d_Cs (n / 50)) (n % 50)
theorem k9d_pair : ∀ j, k9_nth [] k9d_Cs j = [] ∨ (k9_nth [] k9d_Cs j).map k9d_wd = k9_nth [] k9d_Bs j
  | 0 => Or.inl rfl
  | 1 => Or.inl rfl
  | 2 => Or.inl rfl
  | 3 => Or.inl rfl
  | 4 => Or.inl rfl
  | 5 => Or.inl rfl
  | 6 => Or.inl rfl
  | 7 => Or.inl rfl
  | 8 => Or.inl rfl
  | 9 => Or.inl rfl
  | 10 => Or.inl rfl
  | 11 => Or.inl rfl
  | 12 => Or.inr k9d_Ce12
  | 13 => Or.inr k9d_Ce13
  | 14 => Or.inr k9d_Ce14
  | 15 => Or.inr k9d_Ce15
  | 16 => Or.inr k9d_Ce16
  | 17 => Or.inr k9d_Ce17
  | 18 => Or.inr k9d_Ce18
  | 19 => Or.inr k9d_Ce19
  | 20 => Or.inr k9d_Ce20
  | 21 => Or.inr k9d_Ce21
  | 22 => Or.inl rfl
  | j + 23 => Or.inl (k9_nth_end _ _ _ (Nat.le_add_left 23 j))
theorem k9d_map_at : ∀ (C : List k9_W) (i : Nat), (k9_nth (0, 0, 0, 0) C i).1 ≠ 0 → (C.map k9d_wd)[i]? = some (k9d_wd (k9_nth (0, 0, 0, 0) C i))
  | [], i, h => absurd (by rw [k9d_nil]) h
  | c :: C, 0, _ => rfl
  | c :: C, i + 1, h => k9d_map_at C i h
theorem k9d_wc_ok {n : Nat} (h : (k9d_wcode n).1 ≠ 0) : k9d_wat n = some (k9d_wd (k9d_wcode n)) := by
  unfold k9d_wcode at h ⊢
  unfold k9d_wat
  rcases k9d_pair (n / 50) with h1 | h1
  · rw [h1, k9d_nil] at h
    exact absurd rfl h
  · rw [← h1]
    exact k9d_map_at _ _ h
def k9d_e (q : k9_W) (a b c d : Nat) : Bool := Nat.beq q.1 a && (Nat.beq q.2.1 b && (Nat.beq q.2.2.1 c && Nat.beq q.2.2.2 d))
theorem k9d_e_eq {q : k9_W} {a b c d : Nat} (h : k9d_e q a b c d = true) : q = (a, b, c, d) := by
  obtain ⟨q1, q2, q3, q4⟩ := q
  unfold k9d_e at h
  rw [Bool.and_eq_true, Bool.and_eq_true, Bool.and_eq_true] at h
  obtain ⟨h1, h2, h3, h4⟩ := h
  cases Nat.eq_of_beq_eq_true h1
  cases Nat.eq_of_beq_eq_true h2
  cases Nat.eq_of_beq_eq_true h3
  cases Nat.eq_of_beq_eq_true h4
  rfl
theorem k9d_ow_all : ((List.range 248).all fun y => decide (k9d_cn (k9_mk y) = k9_ow y)) = true := by decide +kernel
theorem k9d_ow {y : Nat} (h : y < 248) : k9d_cn (k9_mk y) = k9_ow y := of_decide_eq_true (List.all_eq_true.mp k9d_ow_all y (List.mem_range.mpr h))
theorem k9d_hw1 {y z : Nat} {w : k9_W} (hy : y < 248) (h : k9d_e (k9d_wcode w.2.2.2) 1 (k9_mk y) w.2.2.1 z = true) : k9_hw w (.methodLink (k9_ow y) w.2.2.1 (k9_nm z)) = true := by
  have h1 := k9d_e_eq h
  have h2 := k9d_wc_ok (n := w.2.2.2) (by rw [h1]; exact Nat.one_ne_zero)
  rw [h1] at h2
  unfold k9_hw
  rw [h2, decide_eq_true_eq]
  show some (Cond.methodLink (k9d_cn (k9_mk y)) w.2.2.1 (k9_nm z)) = _
  rw [k9d_ow hy]
theorem k9d_hw2 {y k s : Nat} {w : k9_W} (hy : y < 248) (hs : s < 64) (h : k9d_e (k9d_wcode w.2.2.2) 2 (k9_mk y) w.2.2.1 (k * 64 + s) = true) : k9_hw w (.fieldLink (k9_ow y) w.2.2.1 ((k9_vc k).2.1 s).1 ((k9_vc k).2.1 s).2.1 ((k9_vc k).2.1 s).2.2.1) = true := by
  have h1 := k9d_e_eq h
  have h2 := k9d_wc_ok (n := w.2.2.2) (by rw [h1]; exact (by decide : (2 : Nat) ≠ 0))
  rw [h1] at h2
  unfold k9_hw
  rw [h2, decide_eq_true_eq]
  show some (Cond.fieldLink (k9d_cn (k9_mk y)) w.2.2.1 ((k9_vc ((k * 64 + s) / 64)).2.1 ((k * 64 + s) % 64)).1 ((k9_vc ((k * 64 + s) / 64)).2.1 ((k * 64 + s) % 64)).2.1 ((k9_vc ((k * 64 + s) / 64)).2.1 ((k * 64 + s) % 64)).2.2.1) = _
  rw [k9d_ow hy, show (k * 64 + s) / 64 = k from by omega, show (k * 64 + s) % 64 = s from by omega]
def k9d_pcs : List Nat := [
  2, 1, 1, 1, 2, 2, 3, 3, 3, 1, 0, 0, 0, 2, 0, 1, 2, 1, 3, 1, 1, 2, 1, 2, 2, 1, 0, 1, 2, 1, 1, 3, 0, 2, 1, 1, 0, 0, 2, 1,
  0, 0, 1, 1, 1, 1, 2, 1, 2, 3, 3, 1, 0, 1, 3, 2, 1, 1, 2, 1, 2, 1, 2, 1, 1, 0, 2, 4, 0, 1, 1, 0, 1, 0, 1, 1, 1, 1, 1, 2,
  1, 0, 1, 3, 3, 4, 2, 1, 4, 1, 2, 0, 0, 2, 1, 1, 2, 1, 4, 2, 3, 3, 2, 1, 0, 2, 1, 1, 1, 2, 1, 2, 0, 2, 1, 1, 1, 1, 1, 2,
  2, 2, 1, 2, 3, 4, 0, 1, 0, 1, 0, 0, 0, 0, 1, 3, 1, 2, 3, 3, 2, 5, 2, 1, 1, 1, 2, 0, 0, 1, 0, 2, 4, 3, 1, 1, 1, 3, 2, 3,
  2, 2, 2, 3, 3, 2, 0, 0, 1, 0, 1, 1, 0, 1, 0, 0, 0, 0, 0, 0, 0, 0, 3, 3, 1, 0, 2, 1, 1, 0, 0, 0, 2, 1, 1, 1, 1, 2, 2, 1,
  1, 1, 2, 0, 2, 0, 2, 1, 1, 2, 1, 1, 1, 1, 1, 2, 2, 2, 2, 1, 2, 3, 4, 0, 1, 0, 1, 0, 0, 1, 1, 3, 3, 3, 3, 1, 3, 1, 2, 3,
  1, 2, 3, 2, 5, 2, 1]
def k9d_pn (z : Nat) : Nat := k9_nth 99 k9d_pcs z
def k9d_fks : List (List Nat) := [
  [],
  [3, 3, 3, 3, 3, 3, 3, 3, 3, 3, 3, 1, 1, 1, 0],
  [3, 3, 3, 3, 0, 0],
  [0, 0, 0, 0, 3, 3, 3, 3],
  [0, 0, 0, 0, 0, 0, 0, 0, 0, 0, 0, 0, 0, 0],
  [0, 0, 3, 3, 0],
  [1, 1, 3, 0, 3, 0],
  [3, 0],
  [0, 0, 3, 3, 3, 3],
  [1, 0, 0, 0, 0, 0, 0],
  [0, 0, 3, 3, 0],
  [0, 0, 0, 0, 3],
  [0, 3, 3, 3, 3, 3, 0, 3, 1, 0, 3, 3, 3, 3, 0, 0, 0, 0, 3, 3, 3, 3, 3, 0, 3, 1, 0, 3, 0, 0, 3, 0, 3, 0, 3, 3, 3, 3, 3, 0, 3, 3, 3, 3, 0, 0, 0, 0, 0, 3, 3, 3, 3]]
def k9d_fk (k s : Nat) : Nat := k9_nth 3 (k9_nth [] k9d_fks k) s
theorem k9d_pn_all : ((List.range 247).all fun z => decide ((parseMethodDescriptor (k9_nm z).desc).map (fun d => d.parameters.length) = some (k9d_pn z))) = true := by decide +kernel
theorem k9d_pn_ok {z b : Nat} (hz : z < k9_law) (h : Nat.beq (k9d_pn z) b = true) : decide ((parseMethodDescriptor (k9_nm z).desc).map (fun d => d.parameters.length) = some b) = true := by
  cases Nat.eq_of_beq_eq_true h
  exact List.all_eq_true.mp k9d_pn_all z (List.mem_range.mpr hz)
def k9d_fkb (k s : Nat) : Bool := match k9d_fk k s with
  | 0 => decide (parseFieldDescriptor ((k9_vc k).2.1 s).2.2.1 = some .int) && !((k9_vc k).2.1 s).2.2.2
  | 1 => decide (parseFieldDescriptor ((k9_vc k).2.1 s).2.2.1 = some .boolean) && !((k9_vc k).2.1 s).2.2.2
  | 2 => decide (parseFieldDescriptor ((k9_vc k).2.1 s).2.2.1 = some .long) && !((k9_vc k).2.1 s).2.2.2
  | _ => true
theorem k9d_fk_all : ((List.range 13).all fun k => (List.range 64).all fun s => k9d_fkb k s) = true := by decide +kernel
theorem k9d_fk_ok {k s : Nat} (hk : k < 13) (hs : s < 64) : k9d_fkb k s = true := List.all_eq_true.mp (List.all_eq_true.mp k9d_fk_all k (List.mem_range.mpr hk)) s (List.mem_range.mpr hs)
def k9d_ff (y : Nat) (w : k9_W) (a b : Nat) : Bool := !(Nat.beq a 0) && (Nat.beq w.2.1 0 && (k9d_e (k9d_wcode w.2.2.2) 2 (k9_mk y) w.2.2.1 (a * 64 + b) && (Nat.blt y 248 && (Nat.blt b 64 && (!(Nat.ble 9 (k9_et a)) && (k9_ob a && Nat.blt b (k9_vc a).2.2))))))
theorem k9d_ff_ok {y a b : Nat} {w : k9_W} (h : k9d_ff y w a b = true) : k9_fl y w a b = true ∧ k9d_fkb a b = true := by
  unfold k9d_ff at h
  rw [Bool.and_eq_true, Bool.and_eq_true, Bool.and_eq_true, Bool.and_eq_true, Bool.and_eq_true, Bool.and_eq_true, Bool.and_eq_true] at h
  obtain ⟨h1, h2, h3, h4, h5, h6, h7, h8⟩ := h
  have hy := Nat.le_of_ble_eq_true h4
  have hb := Nat.le_of_ble_eq_true h5
  have hk : a < 13 := by
    unfold k9_ob at h7
    rw [Bool.and_eq_true, Bool.and_eq_true] at h7
    exact Nat.lt_succ_of_le (Nat.le_of_ble_eq_true h7.2)
  refine ⟨?_, k9d_fk_ok hk hb⟩
  have h9 := k9d_hw2 (y := y) (k := a) (s := b) (w := w) hy hb h3
  obtain ⟨w0, w1, w2, w3⟩ := w
  have h10 : w1 = 0 := Nat.eq_of_beq_eq_true h2
  subst h10
  unfold k9_fl
  rw [h1, h6, h7, h8, Bool.true_and, Bool.true_and, Bool.true_and, Bool.true_and]
  exact h9
def k9d_fm (y : Nat) (w : k9_W) (a b : Nat) : Bool := Nat.beq w.2.1 0 && (k9d_e (k9d_wcode w.2.2.2) 1 (k9_mk y) w.2.2.1 a && (Nat.blt y 248 && (Nat.beq (k9d_pn a) b && Nat.blt a k9_law)))
theorem k9d_fm_ok {y a b : Nat} {w : k9_W} (h : k9d_fm y w a b = true) : k9_ml1 y w a = true ∧ decide ((parseMethodDescriptor (k9_nm a).desc).map (fun d => d.parameters.length) = some b) = true ∧ Nat.blt a k9_law = true := by
  unfold k9d_fm at h
  rw [Bool.and_eq_true, Bool.and_eq_true, Bool.and_eq_true, Bool.and_eq_true] at h
  obtain ⟨h1, h2, h3, h4, h5⟩ := h
  have hy := Nat.le_of_ble_eq_true h3
  have h9 := k9d_hw1 (y := y) (z := a) (w := w) hy h2
  refine ⟨?_, k9d_pn_ok (Nat.le_of_ble_eq_true h5) h4, h5⟩
  obtain ⟨w0, w1, w2, w3⟩ := w
  have h10 : w1 = 0 := Nat.eq_of_beq_eq_true h1
  subst h10
  unfold k9_ml1
  exact h9
def k9d_fs (y : Nat) (q : k9_N) (w : k9_W) : Bool := match q with
  | (4, h, a, b, _) => k9d_ff y w a b && match h with
    | 0 => Nat.beq (k9_ft a b) 0
    | 1 => Nat.beq (k9_ft a b) 1
    | 2 => Nat.beq (k9_ft a b) 2
    | 3 => Nat.beq (k9_ft a b) 0 && Nat.beq (k9d_fk a b) 0
    | 4 => Nat.beq (k9_ft a b) 0 && Nat.beq (k9d_fk a b) 1
    | 5 => Nat.beq (k9_ft a b) 1 && Nat.beq (k9d_fk a b) 2
    | _ => false
  | (6, h, a, b, _) => k9d_fm y w a b && match h with
    | 0 => k9_st a
    | 1 => !(k9_st a)
    | _ => false
  | _ => false
theorem k9d_fs_ok {y : Nat} {w : k9_W} : ∀ (q : k9_N), k9d_fs y q w = true → k9_sid y q w = true
  | (4, 0, a, b, x), h => by
    have h' : (k9d_ff y w a b && Nat.beq (k9_ft a b) 0) = true := h
    rw [Bool.and_eq_true] at h'
    show (k9_fl y w a b && Nat.beq (k9_ft a b) 0) = true
    rw [(k9d_ff_ok h'.1).1, h'.2]
    rfl
  | (4, 1, a, b, x), h => by
    have h' : (k9d_ff y w a b && Nat.beq (k9_ft a b) 1) = true := h
    rw [Bool.and_eq_true] at h'
    show (k9_fl y w a b && Nat.beq (k9_ft a b) 1) = true
    rw [(k9d_ff_ok h'.1).1, h'.2]
    rfl
  | (4, 2, a, b, x), h => by
    have h' : (k9d_ff y w a b && Nat.beq (k9_ft a b) 2) = true := h
    rw [Bool.and_eq_true] at h'
    show (k9_fl y w a b && Nat.beq (k9_ft a b) 2) = true
    rw [(k9d_ff_ok h'.1).1, h'.2]
    rfl
  | (4, 3, a, b, x), h => by
    have h' : (k9d_ff y w a b && (Nat.beq (k9_ft a b) 0 && Nat.beq (k9d_fk a b) 0)) = true := h
    rw [Bool.and_eq_true, Bool.and_eq_true] at h'
    obtain ⟨h1, h2, h3⟩ := h'
    have h4 := (k9d_ff_ok h1).2
    unfold k9d_fkb at h4
    rw [Nat.eq_of_beq_eq_true h3] at h4
    have h5 : (decide (parseFieldDescriptor ((k9_vc a).2.1 b).2.2.1 = some .int) && !((k9_vc a).2.1 b).2.2.2) = true := h4
    rw [Bool.and_eq_true] at h5
    show (k9_fl y w a b && Nat.beq (k9_ft a b) 0 && decide (parseFieldDescriptor ((k9_vc a).2.1 b).2.2.1 = some .int) && !((k9_vc a).2.1 b).2.2.2) = true
    rw [(k9d_ff_ok h1).1, h2, h5.1, h5.2]
    rfl
  | (4, 4, a, b, x), h => by
    have h' : (k9d_ff y w a b && (Nat.beq (k9_ft a b) 0 && Nat.beq (k9d_fk a b) 1)) = true := h
    rw [Bool.and_eq_true, Bool.and_eq_true] at h'
    obtain ⟨h1, h2, h3⟩ := h'
    have h4 := (k9d_ff_ok h1).2
    unfold k9d_fkb at h4
    rw [Nat.eq_of_beq_eq_true h3] at h4
    have h5 : (decide (parseFieldDescriptor ((k9_vc a).2.1 b).2.2.1 = some .boolean) && !((k9_vc a).2.1 b).2.2.2) = true := h4
    rw [Bool.and_eq_true] at h5
    show (k9_fl y w a b && Nat.beq (k9_ft a b) 0 && decide (parseFieldDescriptor ((k9_vc a).2.1 b).2.2.1 = some .boolean) && !((k9_vc a).2.1 b).2.2.2) = true
    rw [(k9d_ff_ok h1).1, h2, h5.1, h5.2]
    rfl
  | (4, 5, a, b, x), h => by
    have h' : (k9d_ff y w a b && (Nat.beq (k9_ft a b) 1 && Nat.beq (k9d_fk a b) 2)) = true := h
    rw [Bool.and_eq_true, Bool.and_eq_true] at h'
    obtain ⟨h1, h2, h3⟩ := h'
    have h4 := (k9d_ff_ok h1).2
    unfold k9d_fkb at h4
    rw [Nat.eq_of_beq_eq_true h3] at h4
    have h5 : (decide (parseFieldDescriptor ((k9_vc a).2.1 b).2.2.1 = some .long) && !((k9_vc a).2.1 b).2.2.2) = true := h4
    rw [Bool.and_eq_true] at h5
    show (k9_fl y w a b && Nat.beq (k9_ft a b) 1 && decide (parseFieldDescriptor ((k9_vc a).2.1 b).2.2.1 = some .long) && !((k9_vc a).2.1 b).2.2.2) = true
    rw [(k9d_ff_ok h1).1, h2, h5.1, h5.2]
    rfl
  | (4, n + 6, a, b, x), h => by
    have h' : (k9d_ff y w a b && false) = true := h
    rw [Bool.and_false] at h'
    cases h'
  | (6, 0, a, b, x), h => by
    have h' : (k9d_fm y w a b && k9_st a) = true := h
    rw [Bool.and_eq_true] at h'
    obtain ⟨g1, g2, g3⟩ := k9d_fm_ok h'.1
    show (k9_ml1 y w a && k9_st a && decide ((parseMethodDescriptor (k9_nm a).desc).map (fun d => d.parameters.length) = some b) && Nat.blt a k9_law) = true
    rw [g1, g2, g3, h'.2]
    rfl
  | (6, 1, a, b, x), h => by
    have h' : (k9d_fm y w a b && !(k9_st a)) = true := h
    rw [Bool.and_eq_true] at h'
    obtain ⟨g1, g2, g3⟩ := k9d_fm_ok h'.1
    show (k9_ml1 y w a && !(k9_st a) && decide ((parseMethodDescriptor (k9_nm a).desc).map (fun d => d.parameters.length) = some b) && Nat.blt a k9_law) = true
    rw [g1, g2, g3, h'.2]
    rfl
  | (6, n + 2, a, b, x), h => by
    have h' : (k9d_fm y w a b && false) = true := h
    rw [Bool.and_false] at h'
    cases h'
  | (0, _, _, _, _), h => absurd (show false = true from h) Bool.false_ne_true
  | (1, _, _, _, _), h => absurd (show false = true from h) Bool.false_ne_true
  | (2, _, _, _, _), h => absurd (show false = true from h) Bool.false_ne_true
  | (3, _, _, _, _), h => absurd (show false = true from h) Bool.false_ne_true
  | (5, _, _, _, _), h => absurd (show false = true from h) Bool.false_ne_true
  | (n + 7, _, _, _, _), h => absurd (show false = true from h) Bool.false_ne_true
/-! EACH INSTRUCTION, by the kernel: what the machine reads of the bytes at a place -/
def k9d_u1 (code : ByteArray) (p n : Nat) : Prop := Jvm.ClassFile.Reader.runAt (Jvm.ClassFile.Reader.u1 : Jvm.ClassFile.Decoder Nat) code p = .ok (n, p + 1)
theorem k9d_bd {α β : Type} {r : Jvm.ClassFile.Decoder β} {f : β → Jvm.ClassFile.Decoder α} {code : ByteArray} {p q : Nat} {v : β} (h : Jvm.ClassFile.Reader.runAt r code p = .ok (v, q)) : Jvm.ClassFile.Reader.runAt (r >>= f) code p = Jvm.ClassFile.Reader.runAt (f v) code q := by
  have e : Jvm.ClassFile.Reader.runAt (r >>= f) code p = Except.bind (Jvm.ClassFile.Reader.runAt r code p) (fun a => Jvm.ClassFile.Reader.runAt (f a.1) code a.2) := rfl
  rw [e, h]
  rfl
theorem k9d_mp {β γ : Type} {r : Jvm.ClassFile.Decoder β} {g : β → γ} {code : ByteArray} {p q : Nat} {v : β} (h : Jvm.ClassFile.Reader.runAt r code p = .ok (v, q)) : Jvm.ClassFile.Reader.runAt (g <$> r) code p = .ok (g v, q) := by
  have e : Jvm.ClassFile.Reader.runAt (g <$> r) code p = Except.bind (Jvm.ClassFile.Reader.runAt r code p) (fun a => .ok (g a.1, a.2)) := rfl
  rw [e, h]
  rfl
theorem k9d_u2 {code : ByteArray} {p a b : Nat} (h1 : k9d_u1 code p a) (h2 : k9d_u1 code (p + 1) b) : Jvm.ClassFile.Reader.runAt (Jvm.ClassFile.Reader.u2 : Jvm.ClassFile.Decoder Nat) code p = .ok (a * 256 + b, p + 2) := by
  have e : (Jvm.ClassFile.Reader.u2 : Jvm.ClassFile.Decoder Nat) = (Jvm.ClassFile.Reader.u1 >>= fun hi => Jvm.ClassFile.Reader.u1 >>= fun lo => Pure.pure (hi * 256 + lo)) := rfl
  rw [e, k9d_bd h1, k9d_bd h2]
  rfl
theorem k9d_s1 {code : ByteArray} {p a : Nat} (h1 : k9d_u1 code p a) : Jvm.ClassFile.Reader.runAt (Jvm.ClassFile.Reader.s1 : Jvm.ClassFile.Decoder Int) code p = .ok (Jvm.ClassFile.Reader.signed 8 a, p + 1) := k9d_mp h1
theorem k9d_s2 {code : ByteArray} {p a b : Nat} (h1 : k9d_u1 code p a) (h2 : k9d_u1 code (p + 1) b) : Jvm.ClassFile.Reader.runAt (Jvm.ClassFile.Reader.s2 : Jvm.ClassFile.Decoder Int) code p = .ok (Jvm.ClassFile.Reader.signed 16 (a * 256 + b), p + 2) := k9d_mp (k9d_u2 h1 h2)
theorem k9d_dc {code : ByteArray} {pc n : Nat} {i : Instr} (h : Jvm.ClassFile.Reader.runAt (Jvm.ClassFile.Decoder.instr pc) code pc = .ok (i, pc + n)) : decode code pc = .ok (i, n) := by
  have e : decode code pc = Except.bind (Jvm.ClassFile.Reader.runAt (Jvm.ClassFile.Decoder.instr pc) code pc) (fun a => .ok (a.1, a.2 - pc)) := rfl
  rw [e, h]
  show Except.ok (i, pc + n - pc) = Except.ok (i, n)
  rw [Nat.add_sub_cancel_left]
theorem k9d_r {β : Type} {r : Jvm.ClassFile.Decoder β} {g : β → Instr} {f : Nat → Jvm.ClassFile.Decoder Instr} {code : ByteArray} {pc op n : Nat} {v : β} (h0 : k9d_u1 code pc op) (hr : Jvm.ClassFile.Reader.runAt r code (pc + 1) = .ok (v, pc + n)) (hf : Jvm.ClassFile.Decoder.instr pc = (Jvm.ClassFile.Reader.u1 >>= f)) (hk : f op = (r >>= fun x => Pure.pure (g x))) : decode code pc = .ok (g v, n) :=
  k9d_dc (by rw [hf, k9d_bd h0, hk, k9d_bd hr]; rfl)
theorem k9d_f1 (op : Nat) {f : Nat → Jvm.ClassFile.Decoder Instr} {code : ByteArray} {pc b0 n : Nat} {i : Instr} (h : (Nat.beq b0 op && Nat.beq n 1) = true) (h0 : k9d_u1 code pc b0) (hf : Jvm.ClassFile.Decoder.instr pc = (Jvm.ClassFile.Reader.u1 >>= f)) (hk : f op = Pure.pure i) : decode code pc = .ok (i, n) := by
  rw [Bool.and_eq_true] at h
  cases Nat.eq_of_beq_eq_true h.1
  cases Nat.eq_of_beq_eq_true h.2
  exact k9d_dc (by rw [hf, k9d_bd h0, hk]; rfl)
theorem k9d_f2 (op : Nat) {g : Nat → Instr} {f : Nat → Jvm.ClassFile.Decoder Instr} {code : ByteArray} {pc b0 b1 n a : Nat} (h : (Nat.beq b0 op && (Nat.beq a b1 && Nat.beq n 2)) = true) (h0 : k9d_u1 code pc b0) (h1 : 2 ≤ n → k9d_u1 code (pc + 1) b1) (hf : Jvm.ClassFile.Decoder.instr pc = (Jvm.ClassFile.Reader.u1 >>= f)) (hk : f op = (Jvm.ClassFile.Reader.u1 >>= fun x => Pure.pure (g x))) : decode code pc = .ok (g a, n) := by
  rw [Bool.and_eq_true, Bool.and_eq_true] at h
  cases Nat.eq_of_beq_eq_true h.1
  cases Nat.eq_of_beq_eq_true h.2.1
  cases Nat.eq_of_beq_eq_true h.2.2
  exact k9d_r h0 (h1 (Nat.le_refl 2)) hf hk
theorem k9d_f2s (op : Nat) {g : Int → Instr} {f : Nat → Jvm.ClassFile.Decoder Instr} {code : ByteArray} {pc b0 b1 n : Nat} {a : Int} (h : (Nat.beq b0 op && (decide (a = Jvm.ClassFile.Reader.signed 8 b1) && Nat.beq n 2)) = true) (h0 : k9d_u1 code pc b0) (h1 : 2 ≤ n → k9d_u1 code (pc + 1) b1) (hf : Jvm.ClassFile.Decoder.instr pc = (Jvm.ClassFile.Reader.u1 >>= f)) (hk : f op = (Jvm.ClassFile.Reader.s1 >>= fun x => Pure.pure (g x))) : decode code pc = .ok (g a, n) := by
  rw [Bool.and_eq_true, Bool.and_eq_true, decide_eq_true_eq] at h
  cases Nat.eq_of_beq_eq_true h.1
  cases Nat.eq_of_beq_eq_true h.2.2
  rw [h.2.1]
  exact k9d_r h0 (k9d_s1 (h1 (Nat.le_refl 2))) hf hk
theorem k9d_f3 (op : Nat) {g : Nat → Instr} {f : Nat → Jvm.ClassFile.Decoder Instr} {code : ByteArray} {pc b0 b1 b2 n a : Nat} (h : (Nat.beq b0 op && (Nat.beq a (b1 * 256 + b2) && Nat.beq n 3)) = true) (h0 : k9d_u1 code pc b0) (h1 : 2 ≤ n → k9d_u1 code (pc + 1) b1) (h2 : 3 ≤ n → k9d_u1 code (pc + 2) b2) (hf : Jvm.ClassFile.Decoder.instr pc = (Jvm.ClassFile.Reader.u1 >>= f)) (hk : f op = (Jvm.ClassFile.Reader.u2 >>= fun x => Pure.pure (g x))) : decode code pc = .ok (g a, n) := by
  rw [Bool.and_eq_true, Bool.and_eq_true] at h
  cases Nat.eq_of_beq_eq_true h.1
  cases Nat.eq_of_beq_eq_true h.2.1
  cases Nat.eq_of_beq_eq_true h.2.2
  exact k9d_r h0 (k9d_u2 (h1 (by decide)) (h2 (by decide))) hf hk
theorem k9d_f4 (op : Nat) {g : Int → Instr} {f : Nat → Jvm.ClassFile.Decoder Instr} {code : ByteArray} {pc b0 b1 b2 n : Nat} {a : Int} (h : (Nat.beq b0 op && (decide (a = Jvm.ClassFile.Reader.signed 16 (b1 * 256 + b2)) && Nat.beq n 3)) = true) (h0 : k9d_u1 code pc b0) (h1 : 2 ≤ n → k9d_u1 code (pc + 1) b1) (h2 : 3 ≤ n → k9d_u1 code (pc + 2) b2) (hf : Jvm.ClassFile.Decoder.instr pc = (Jvm.ClassFile.Reader.u1 >>= f)) (hk : f op = (Jvm.ClassFile.Reader.s2 >>= fun x => Pure.pure (g x))) : decode code pc = .ok (g a, n) := by
  rw [Bool.and_eq_true, Bool.and_eq_true, decide_eq_true_eq] at h
  cases Nat.eq_of_beq_eq_true h.1
  cases Nat.eq_of_beq_eq_true h.2.2
  rw [h.2.1]
  exact k9d_r h0 (k9d_s2 (h1 (by decide)) (h2 (by decide))) hf hk
theorem k9d_f5 {f : Nat → Jvm.ClassFile.Decoder Instr} {code : ByteArray} {pc b0 b1 b2 n a : Nat} {c : Int} (h : (Nat.beq b0 132 && (Nat.beq a b1 && (decide (c = Jvm.ClassFile.Reader.signed 8 b2) && Nat.beq n 3))) = true) (h0 : k9d_u1 code pc b0) (h1 : 2 ≤ n → k9d_u1 code (pc + 1) b1) (h2 : 3 ≤ n → k9d_u1 code (pc + 2) b2) (hf : Jvm.ClassFile.Decoder.instr pc = (Jvm.ClassFile.Reader.u1 >>= f)) (hk : f 132 = (Jvm.ClassFile.Reader.u1 >>= fun x => Jvm.ClassFile.Reader.s1 >>= fun y => Pure.pure (.iinc x y))) : decode code pc = .ok (.iinc a c, n) := by
  rw [Bool.and_eq_true, Bool.and_eq_true, Bool.and_eq_true, decide_eq_true_eq] at h
  cases Nat.eq_of_beq_eq_true h.1
  cases Nat.eq_of_beq_eq_true h.2.1
  cases Nat.eq_of_beq_eq_true h.2.2.2
  rw [h.2.2.1]
  exact k9d_dc (by rw [hf, k9d_bd h0, hk, k9d_bd (h1 (by decide)), k9d_bd (k9d_s1 (h2 (by decide)))]; rfl)
/-- the bytes fit the instruction -/
def k9d_fit (b0 b1 b2 n : Nat) : Instr → Bool
  | .aconst_null => Nat.beq b0 1 && Nat.beq n 1
  | .iaload => Nat.beq b0 46 && Nat.beq n 1
  | .laload => Nat.beq b0 47 && Nat.beq n 1
  | .aaload => Nat.beq b0 50 && Nat.beq n 1
  | .iastore => Nat.beq b0 79 && Nat.beq n 1
  | .lastore => Nat.beq b0 80 && Nat.beq n 1
  | .aastore => Nat.beq b0 83 && Nat.beq n 1
  | .pop => Nat.beq b0 87 && Nat.beq n 1
  | .pop2 => Nat.beq b0 88 && Nat.beq n 1
  | .dup => Nat.beq b0 89 && Nat.beq n 1
  | .dup_x1 => Nat.beq b0 90 && Nat.beq n 1
  | .dup_x2 => Nat.beq b0 91 && Nat.beq n 1
  | .dup2 => Nat.beq b0 92 && Nat.beq n 1
  | .iadd => Nat.beq b0 96 && Nat.beq n 1
  | .ladd => Nat.beq b0 97 && Nat.beq n 1
  | .isub => Nat.beq b0 100 && Nat.beq n 1
  | .imul => Nat.beq b0 104 && Nat.beq n 1
  | .lmul => Nat.beq b0 105 && Nat.beq n 1
  | .idiv => Nat.beq b0 108 && Nat.beq n 1
  | .irem => Nat.beq b0 112 && Nat.beq n 1
  | .ineg => Nat.beq b0 116 && Nat.beq n 1
  | .ishl => Nat.beq b0 120 && Nat.beq n 1
  | .lshl => Nat.beq b0 121 && Nat.beq n 1
  | .ishr => Nat.beq b0 122 && Nat.beq n 1
  | .iushr => Nat.beq b0 124 && Nat.beq n 1
  | .iand => Nat.beq b0 126 && Nat.beq n 1
  | .land => Nat.beq b0 127 && Nat.beq n 1
  | .ior => Nat.beq b0 128 && Nat.beq n 1
  | .lor => Nat.beq b0 129 && Nat.beq n 1
  | .ixor => Nat.beq b0 130 && Nat.beq n 1
  | .i2l => Nat.beq b0 133 && Nat.beq n 1
  | .l2i => Nat.beq b0 136 && Nat.beq n 1
  | .i2b => Nat.beq b0 145 && Nat.beq n 1
  | .i2s => Nat.beq b0 147 && Nat.beq n 1
  | .lcmp => Nat.beq b0 148 && Nat.beq n 1
  | .ireturn => Nat.beq b0 172 && Nat.beq n 1
  | .lreturn => Nat.beq b0 173 && Nat.beq n 1
  | .areturn => Nat.beq b0 176 && Nat.beq n 1
  | .return_ => Nat.beq b0 177 && Nat.beq n 1
  | .arraylength => Nat.beq b0 190 && Nat.beq n 1
  | .iload_n k => Nat.beq b0 (26 + k.val) && Nat.beq n 1
  | .lload_n k => Nat.beq b0 (30 + k.val) && Nat.beq n 1
  | .aload_n k => Nat.beq b0 (42 + k.val) && Nat.beq n 1
  | .istore_n k => Nat.beq b0 (59 + k.val) && Nat.beq n 1
  | .lstore_n k => Nat.beq b0 (63 + k.val) && Nat.beq n 1
  | .astore_n k => Nat.beq b0 (75 + k.val) && Nat.beq n 1
  | .lconst k => Nat.beq b0 (9 + k.val) && Nat.beq n 1
  | .iconst x => Nat.ble 2 b0 && (Nat.ble b0 8 && (decide (x = (b0 : Int) - 3) && Nat.beq n 1))
  | .ldc a => Nat.beq b0 18 && (Nat.beq a b1 && Nat.beq n 2)
  | .iload a => Nat.beq b0 21 && (Nat.beq a b1 && Nat.beq n 2)
  | .lload a => Nat.beq b0 22 && (Nat.beq a b1 && Nat.beq n 2)
  | .aload a => Nat.beq b0 25 && (Nat.beq a b1 && Nat.beq n 2)
  | .istore a => Nat.beq b0 54 && (Nat.beq a b1 && Nat.beq n 2)
  | .lstore a => Nat.beq b0 55 && (Nat.beq a b1 && Nat.beq n 2)
  | .astore a => Nat.beq b0 58 && (Nat.beq a b1 && Nat.beq n 2)
  | .bipush a => Nat.beq b0 16 && (decide (a = Jvm.ClassFile.Reader.signed 8 b1) && Nat.beq n 2)
  | .ldc_w a => Nat.beq b0 19 && (Nat.beq a (b1 * 256 + b2) && Nat.beq n 3)
  | .ldc2_w a => Nat.beq b0 20 && (Nat.beq a (b1 * 256 + b2) && Nat.beq n 3)
  | .getstatic a => Nat.beq b0 178 && (Nat.beq a (b1 * 256 + b2) && Nat.beq n 3)
  | .getfield a => Nat.beq b0 180 && (Nat.beq a (b1 * 256 + b2) && Nat.beq n 3)
  | .putfield a => Nat.beq b0 181 && (Nat.beq a (b1 * 256 + b2) && Nat.beq n 3)
  | .invokevirtual a => Nat.beq b0 182 && (Nat.beq a (b1 * 256 + b2) && Nat.beq n 3)
  | .invokespecial a => Nat.beq b0 183 && (Nat.beq a (b1 * 256 + b2) && Nat.beq n 3)
  | .invokestatic a => Nat.beq b0 184 && (Nat.beq a (b1 * 256 + b2) && Nat.beq n 3)
  | .new a => Nat.beq b0 187 && (Nat.beq a (b1 * 256 + b2) && Nat.beq n 3)
  | .anewarray a => Nat.beq b0 189 && (Nat.beq a (b1 * 256 + b2) && Nat.beq n 3)
  | .sipush a => Nat.beq b0 17 && (decide (a = Jvm.ClassFile.Reader.signed 16 (b1 * 256 + b2)) && Nat.beq n 3)
  | .goto a => Nat.beq b0 167 && (decide (a = Jvm.ClassFile.Reader.signed 16 (b1 * 256 + b2)) && Nat.beq n 3)
  | .ifnull a => Nat.beq b0 198 && (decide (a = Jvm.ClassFile.Reader.signed 16 (b1 * 256 + b2)) && Nat.beq n 3)
  | .ifnonnull a => Nat.beq b0 199 && (decide (a = Jvm.ClassFile.Reader.signed 16 (b1 * 256 + b2)) && Nat.beq n 3)
  | .ifCond .eq a => Nat.beq b0 153 && (decide (a = Jvm.ClassFile.Reader.signed 16 (b1 * 256 + b2)) && Nat.beq n 3)
  | .ifCond .ne a => Nat.beq b0 154 && (decide (a = Jvm.ClassFile.Reader.signed 16 (b1 * 256 + b2)) && Nat.beq n 3)
  | .ifCond .lt a => Nat.beq b0 155 && (decide (a = Jvm.ClassFile.Reader.signed 16 (b1 * 256 + b2)) && Nat.beq n 3)
  | .ifCond .ge a => Nat.beq b0 156 && (decide (a = Jvm.ClassFile.Reader.signed 16 (b1 * 256 + b2)) && Nat.beq n 3)
  | .ifCond .gt a => Nat.beq b0 157 && (decide (a = Jvm.ClassFile.Reader.signed 16 (b1 * 256 + b2)) && Nat.beq n 3)
  | .ifCond .le a => Nat.beq b0 158 && (decide (a = Jvm.ClassFile.Reader.signed 16 (b1 * 256 + b2)) && Nat.beq n 3)
  | .if_icmp .eq a => Nat.beq b0 159 && (decide (a = Jvm.ClassFile.Reader.signed 16 (b1 * 256 + b2)) && Nat.beq n 3)
  | .if_icmp .ne a => Nat.beq b0 160 && (decide (a = Jvm.ClassFile.Reader.signed 16 (b1 * 256 + b2)) && Nat.beq n 3)
  | .if_icmp .lt a => Nat.beq b0 161 && (decide (a = Jvm.ClassFile.Reader.signed 16 (b1 * 256 + b2)) && Nat.beq n 3)
  | .if_icmp .ge a => Nat.beq b0 162 && (decide (a = Jvm.ClassFile.Reader.signed 16 (b1 * 256 + b2)) && Nat.beq n 3)
  | .if_icmp .gt a => Nat.beq b0 163 && (decide (a = Jvm.ClassFile.Reader.signed 16 (b1 * 256 + b2)) && Nat.beq n 3)
  | .if_icmp .le a => Nat.beq b0 164 && (decide (a = Jvm.ClassFile.Reader.signed 16 (b1 * 256 + b2)) && Nat.beq n 3)
  | .iinc a c => Nat.beq b0 132 && (Nat.beq a b1 && (decide (c = Jvm.ClassFile.Reader.signed 8 b2) && Nat.beq n 3))
  | _ => false
theorem k9d_fit_ok {code : ByteArray} {pc b0 b1 b2 n : Nat} (i : Instr) (h : k9d_fit b0 b1 b2 n i = true) (h0 : k9d_u1 code pc b0) (h1 : 2 ≤ n → k9d_u1 code (pc + 1) b1) (h2 : 3 ≤ n → k9d_u1 code (pc + 2) b2) : decode code pc = .ok (i, n) := by
  cases i
  case aconst_null => exact k9d_f1 1 h h0 rfl rfl
  case iaload => exact k9d_f1 46 h h0 rfl rfl
  case laload => exact k9d_f1 47 h h0 rfl rfl
  case aaload => exact k9d_f1 50 h h0 rfl rfl
  case iastore => exact k9d_f1 79 h h0 rfl rfl
  case lastore => exact k9d_f1 80 h h0 rfl rfl
  case aastore => exact k9d_f1 83 h h0 rfl rfl
  case pop => exact k9d_f1 87 h h0 rfl rfl
  case pop2 => exact k9d_f1 88 h h0 rfl rfl
  case dup => exact k9d_f1 89 h h0 rfl rfl
  case dup_x1 => exact k9d_f1 90 h h0 rfl rfl
  case dup_x2 => exact k9d_f1 91 h h0 rfl rfl
  case dup2 => exact k9d_f1 92 h h0 rfl rfl
  case iadd => exact k9d_f1 96 h h0 rfl rfl
  case ladd => exact k9d_f1 97 h h0 rfl rfl
  case isub => exact k9d_f1 100 h h0 rfl rfl
  case imul => exact k9d_f1 104 h h0 rfl rfl
  case lmul => exact k9d_f1 105 h h0 rfl rfl
  case idiv => exact k9d_f1 108 h h0 rfl rfl
  case irem => exact k9d_f1 112 h h0 rfl rfl
  case ineg => exact k9d_f1 116 h h0 rfl rfl
  case ishl => exact k9d_f1 120 h h0 rfl rfl
  case lshl => exact k9d_f1 121 h h0 rfl rfl
  case ishr => exact k9d_f1 122 h h0 rfl rfl
  case iushr => exact k9d_f1 124 h h0 rfl rfl
  case iand => exact k9d_f1 126 h h0 rfl rfl
  case land => exact k9d_f1 127 h h0 rfl rfl
  case ior => exact k9d_f1 128 h h0 rfl rfl
  case lor => exact k9d_f1 129 h h0 rfl rfl
  case ixor => exact k9d_f1 130 h h0 rfl rfl
  case i2l => exact k9d_f1 133 h h0 rfl rfl
  case l2i => exact k9d_f1 136 h h0 rfl rfl
  case i2b => exact k9d_f1 145 h h0 rfl rfl
  case i2s => exact k9d_f1 147 h h0 rfl rfl
  case lcmp => exact k9d_f1 148 h h0 rfl rfl
  case ireturn => exact k9d_f1 172 h h0 rfl rfl
  case lreturn => exact k9d_f1 173 h h0 rfl rfl
  case areturn => exact k9d_f1 176 h h0 rfl rfl
  case return_ => exact k9d_f1 177 h h0 rfl rfl
  case arraylength => exact k9d_f1 190 h h0 rfl rfl
  case iload_n k => exact match k, h with
    | ⟨0, _⟩, h => k9d_f1 26 h h0 rfl rfl
    | ⟨1, _⟩, h => k9d_f1 27 h h0 rfl rfl
    | ⟨2, _⟩, h => k9d_f1 28 h h0 rfl rfl
    | ⟨3, _⟩, h => k9d_f1 29 h h0 rfl rfl
    | ⟨j + 4, hj⟩, _ => absurd hj (by omega)
  case lload_n k => exact match k, h with
    | ⟨0, _⟩, h => k9d_f1 30 h h0 rfl rfl
    | ⟨1, _⟩, h => k9d_f1 31 h h0 rfl rfl
    | ⟨2, _⟩, h => k9d_f1 32 h h0 rfl rfl
    | ⟨3, _⟩, h => k9d_f1 33 h h0 rfl rfl
    | ⟨j + 4, hj⟩, _ => absurd hj (by omega)
  case aload_n k => exact match k, h with
    | ⟨0, _⟩, h => k9d_f1 42 h h0 rfl rfl
    | ⟨1, _⟩, h => k9d_f1 43 h h0 rfl rfl
    | ⟨2, _⟩, h => k9d_f1 44 h h0 rfl rfl
    | ⟨3, _⟩, h => k9d_f1 45 h h0 rfl rfl
    | ⟨j + 4, hj⟩, _ => absurd hj (by omega)
  case istore_n k => exact match k, h with
    | ⟨0, _⟩, h => k9d_f1 59 h h0 rfl rfl
    | ⟨1, _⟩, h => k9d_f1 60 h h0 rfl rfl
    | ⟨2, _⟩, h => k9d_f1 61 h h0 rfl rfl
    | ⟨3, _⟩, h => k9d_f1 62 h h0 rfl rfl
    | ⟨j + 4, hj⟩, _ => absurd hj (by omega)
  case lstore_n k => exact match k, h with
    | ⟨0, _⟩, h => k9d_f1 63 h h0 rfl rfl
    | ⟨1, _⟩, h => k9d_f1 64 h h0 rfl rfl
    | ⟨2, _⟩, h => k9d_f1 65 h h0 rfl rfl
    | ⟨3, _⟩, h => k9d_f1 66 h h0 rfl rfl
    | ⟨j + 4, hj⟩, _ => absurd hj (by omega)
  case astore_n k => exact match k, h with
    | ⟨0, _⟩, h => k9d_f1 75 h h0 rfl rfl
    | ⟨1, _⟩, h => k9d_f1 76 h h0 rfl rfl
    | ⟨2, _⟩, h => k9d_f1 77 h h0 rfl rfl
    | ⟨3, _⟩, h => k9d_f1 78 h h0 rfl rfl
    | ⟨j + 4, hj⟩, _ => absurd hj (by omega)
  case lconst k => exact match k, h with
    | ⟨0, _⟩, h => k9d_f1 9 h h0 rfl rfl
    | ⟨1, _⟩, h => k9d_f1 10 h h0 rfl rfl
    | ⟨j + 2, hj⟩, _ => absurd hj (by omega)
  case iconst x =>
    have h3 : (Nat.ble 2 b0 && (Nat.ble b0 8 && (decide (x = (b0 : Int) - 3) && Nat.beq n 1))) = true := h
    rw [Bool.and_eq_true, Bool.and_eq_true, Bool.and_eq_true, decide_eq_true_eq] at h3
    obtain ⟨g1, g2, g3, g4⟩ := h3
    have g5 := Nat.le_of_ble_eq_true g1
    have g6 := Nat.le_of_ble_eq_true g2
    clear h g1 g2
    have g7 : b0 = 2 ∨ b0 = 3 ∨ b0 = 4 ∨ b0 = 5 ∨ b0 = 6 ∨ b0 = 7 ∨ b0 = 8 := by omega
    rcases g7 with rfl | rfl | rfl | rfl | rfl | rfl | rfl
    · have g8 : x = (-1) := by omega
      subst g8
      exact k9d_f1 2 (by rw [g4]; rfl) h0 rfl rfl
    · have g8 : x = 0 := by omega
      subst g8
      exact k9d_f1 3 (by rw [g4]; rfl) h0 rfl rfl
    · have g8 : x = 1 := by omega
      subst g8
      exact k9d_f1 4 (by rw [g4]; rfl) h0 rfl rfl
    · have g8 : x = 2 := by omega
      subst g8
      exact k9d_f1 5 (by rw [g4]; rfl) h0 rfl rfl
    · have g8 : x = 3 := by omega
      subst g8
      exact k9d_f1 6 (by rw [g4]; rfl) h0 rfl rfl
    · have g8 : x = 4 := by omega
      subst g8
      exact k9d_f1 7 (by rw [g4]; rfl) h0 rfl rfl
    · have g8 : x = 5 := by omega
      subst g8
      exact k9d_f1 8 (by rw [g4]; rfl) h0 rfl rfl
  case ldc a => exact k9d_f2 18 h h0 h1 rfl rfl
  case iload a => exact k9d_f2 21 h h0 h1 rfl rfl
  case lload a => exact k9d_f2 22 h h0 h1 rfl rfl
  case aload a => exact k9d_f2 25 h h0 h1 rfl rfl
  case istore a => exact k9d_f2 54 h h0 h1 rfl rfl
  case lstore a => exact k9d_f2 55 h h0 h1 rfl rfl
  case astore a => exact k9d_f2 58 h h0 h1 rfl rfl
  case bipush a => exact k9d_f2s 16 h h0 h1 rfl rfl
  case ldc_w a => exact k9d_f3 19 h h0 h1 h2 rfl rfl
  case ldc2_w a => exact k9d_f3 20 h h0 h1 h2 rfl rfl
  case getstatic a => exact k9d_f3 178 h h0 h1 h2 rfl rfl
  case getfield a => exact k9d_f3 180 h h0 h1 h2 rfl rfl
  case putfield a => exact k9d_f3 181 h h0 h1 h2 rfl rfl
  case invokevirtual a => exact k9d_f3 182 h h0 h1 h2 rfl rfl
  case invokespecial a => exact k9d_f3 183 h h0 h1 h2 rfl rfl
  case invokestatic a => exact k9d_f3 184 h h0 h1 h2 rfl rfl
  case new a => exact k9d_f3 187 h h0 h1 h2 rfl rfl
  case anewarray a => exact k9d_f3 189 h h0 h1 h2 rfl rfl
  case sipush a => exact k9d_f4 17 h h0 h1 h2 rfl rfl
  case goto a => exact k9d_f4 167 h h0 h1 h2 rfl rfl
  case ifnull a => exact k9d_f4 198 h h0 h1 h2 rfl rfl
  case ifnonnull a => exact k9d_f4 199 h h0 h1 h2 rfl rfl
  case ifCond c a =>
    cases c
    case eq => exact k9d_f4 153 h h0 h1 h2 rfl rfl
    case ne => exact k9d_f4 154 h h0 h1 h2 rfl rfl
    case lt => exact k9d_f4 155 h h0 h1 h2 rfl rfl
    case ge => exact k9d_f4 156 h h0 h1 h2 rfl rfl
    case gt => exact k9d_f4 157 h h0 h1 h2 rfl rfl
    case le => exact k9d_f4 158 h h0 h1 h2 rfl rfl
  case if_icmp c a =>
    cases c
    case eq => exact k9d_f4 159 h h0 h1 h2 rfl rfl
    case ne => exact k9d_f4 160 h h0 h1 h2 rfl rfl
    case lt => exact k9d_f4 161 h h0 h1 h2 rfl rfl
    case ge => exact k9d_f4 162 h h0 h1 h2 rfl rfl
    case gt => exact k9d_f4 163 h h0 h1 h2 rfl rfl
    case le => exact k9d_f4 164 h h0 h1 h2 rfl rfl
  case iinc a c => exact k9d_f5 h h0 h1 h2 rfl rfl
  all_goals exact absurd (show false = true from h) Bool.false_ne_true
theorem k9d_at {code : ByteArray} {p : Nat} {b : UInt8} {bs : List UInt8} (h : code.data.toList.drop p = b :: bs) : k9d_u1 code p b.toNat ∧ code.data.toList.drop (p + 1) = bs := by
  obtain ⟨⟨l⟩⟩ := code
  have hd : l.drop p = b :: bs := h
  have hl : p < l.length := by
    apply Nat.lt_of_not_le
    intro hc
    rw [List.drop_eq_nil_of_le hc] at hd
    cases hd
  rw [List.drop_eq_getElem_cons hl] at hd
  have h1 := (List.cons.inj hd).1
  refine ⟨?_, (List.cons.inj hd).2⟩
  have hs : p < (ByteArray.mk (Array.mk l)).size := hl
  have e : Jvm.ClassFile.Reader.runAt (Jvm.ClassFile.Reader.u1 : Jvm.ClassFile.Decoder Nat) (ByteArray.mk (Array.mk l)) p = Jvm.ClassFile.Reader.runAt (if h : p < (ByteArray.mk (Array.mk l)).size then (do set (p + 1); Pure.pure ((ByteArray.mk (Array.mk l))[p]'h).toNat : Jvm.ClassFile.Decoder Nat) else throw (Jvm.ClassFile.HasTruncated.truncated p)) (ByteArray.mk (Array.mk l)) p := rfl
  show Jvm.ClassFile.Reader.runAt (Jvm.ClassFile.Reader.u1 : Jvm.ClassFile.Decoder Nat) (ByteArray.mk (Array.mk l)) p = _
  rw [e, dif_pos hs]
  show Except.ok ((l[p]'hl).toNat, p + 1) = Except.ok (b.toNat, p + 1)
  rw [h1]
def k9d_fb (bs : List UInt8) (r : Instr × Nat) : Bool :=
  match bs with
  | [] => false
  | [b0] => k9d_fit b0.toNat 0 0 r.2 r.1 && Nat.ble r.2 1
  | [b0, b1] => k9d_fit b0.toNat b1.toNat 0 r.2 r.1 && Nat.ble r.2 2
  | b0 :: b1 :: b2 :: _ => k9d_fit b0.toNat b1.toNat b2.toNat r.2 r.1
theorem k9d_fb_ok {code : ByteArray} {p : Nat} : ∀ (bs : List UInt8) (r : Instr × Nat), code.data.toList.drop p = bs → k9d_fb bs r = true → decode code p = .ok r
  | [], _, _, h => absurd (show false = true from h) Bool.false_ne_true
  | [b0], (i, n), hb, h => by
    have h' : (k9d_fit b0.toNat 0 0 n i && Nat.ble n 1) = true := h
    rw [Bool.and_eq_true] at h'
    have hn := Nat.le_of_ble_eq_true h'.2
    exact k9d_fit_ok i h'.1 (k9d_at hb).1 (fun hx => absurd hx (by omega)) (fun hx => absurd hx (by omega))
  | [b0, b1], (i, n), hb, h => by
    have h' : (k9d_fit b0.toNat b1.toNat 0 n i && Nat.ble n 2) = true := h
    rw [Bool.and_eq_true] at h'
    have hn := Nat.le_of_ble_eq_true h'.2
    exact k9d_fit_ok i h'.1 (k9d_at hb).1 (fun _ => (k9d_at (k9d_at hb).2).1) (fun hx => absurd hx (by omega))
  | b0 :: b1 :: b2 :: bs, (i, n), hb, h => k9d_fit_ok i h (k9d_at hb).1 (fun _ => (k9d_at (k9d_at hb).2).1) (fun _ => (k9d_at (k9d_at (k9d_at hb).2).2).1)
theorem k9d_dec {code : ByteArray} {pc : Nat} {r : Instr × Nat} (h : k9d_fb (code.data.toList.drop pc) r = true) : decode code pc = .ok r := k9d_fb_ok _ _ rfl h
def k9d_hd : List k9_W → Nat
  | [] => 0
  | w :: _ => w.1
def k9d_chk (y : Nat) (B : ByteArray) (tp : Nat → Nat) : Nat → List UInt8 → List k9_N → List k9_W → Bool
  | 0, _, _, _ => true
  | _ + 1, _, [], _ => true
  | _ + 1, _, _ :: _, [] => false
  | m + 1, bs, q :: cs, w :: ws => (decide (q = (0, 0, 0, 0, 0)) || ((k9d_fb bs (k9_ins q w tp) || decide (decode B w.1 = .ok (k9_ins q w tp))) && ((!(k9_fal q) || Nat.beq (k9d_hd ws) (w.1 + (k9_ins q w tp).2)) && (k9d_fs y q w || k9_sid y q w)))) && ((List.isEmpty cs || Nat.ble w.1 (k9d_hd ws)) && k9d_chk y B tp m (bs.drop (k9d_hd ws - w.1)) cs ws)
theorem k9d_hd_n (ws : List k9_W) : k9d_hd ws = (k9_nth (0, 0, 0, 0) ws 0).1 := by cases ws <;> rfl
theorem k9d_chk_at {y : Nat} {B : ByteArray} {tp : Nat → Nat} : ∀ (m : Nat) (bs : List UInt8) (cs : List k9_N) (ws : List k9_W), k9d_chk y B tp m bs cs ws = true → (cs = [] ∨ B.data.toList.drop (k9d_hd ws) = bs) → ∀ ix, ix < m → k9_nth (0, 0, 0, 0, 0) cs ix ≠ (0, 0, 0, 0, 0) → decode B (k9_nth (0, 0, 0, 0) ws ix).1 = .ok (k9_ins (k9_nth (0, 0, 0, 0, 0) cs ix) (k9_nth (0, 0, 0, 0) ws ix) tp) ∧ ((!(k9_fal (k9_nth (0, 0, 0, 0, 0) cs ix)) || Nat.beq (k9_nth (0, 0, 0, 0) ws (ix + 1)).1 ((k9_nth (0, 0, 0, 0) ws ix).1 + (k9_ins (k9_nth (0, 0, 0, 0, 0) cs ix) (k9_nth (0, 0, 0, 0) ws ix) tp).2)) && k9_sid y (k9_nth (0, 0, 0, 0, 0) cs ix) (k9_nth (0, 0, 0, 0) ws ix)) = true := by
  intro m
  induction m with
  | zero => intro _ _ _ _ _ ix hix _; exact absurd hix (Nat.not_lt_zero ix)
  | succ m ih =>
    intro bs cs ws h hb ix hix hne
    cases cs with
    | nil => exact absurd (by cases ix <;> rfl) hne
    | cons q cs =>
      cases ws with
      | nil => exact absurd (show false = true from h) Bool.false_ne_true
      | cons w ws =>
        have hb' : B.data.toList.drop w.1 = bs := by
          rcases hb with hb | hb
          · cases hb
          · exact hb
        have h' : ((decide (q = (0, 0, 0, 0, 0)) || ((k9d_fb bs (k9_ins q w tp) || decide (decode B w.1 = .ok (k9_ins q w tp))) && ((!(k9_fal q) || Nat.beq (k9d_hd ws) (w.1 + (k9_ins q w tp).2)) && (k9d_fs y q w || k9_sid y q w)))) && ((List.isEmpty cs || Nat.ble w.1 (k9d_hd ws)) && k9d_chk y B tp m (bs.drop (k9d_hd ws - w.1)) cs ws)) = true := h
        rw [Bool.and_eq_true, Bool.and_eq_true] at h'
        obtain ⟨g1, g2, g3⟩ := h'
        cases ix with
        | zero =>
          rw [Bool.or_eq_true, decide_eq_true_eq, Bool.and_eq_true, Bool.or_eq_true, decide_eq_true_eq] at g1
          rcases g1 with g1 | ⟨g4, g5⟩
          · exact absurd g1 hne
          · refine ⟨?_, ?_⟩
            · rcases g4 with g4 | g4
              · exact k9d_fb_ok _ _ hb' g4
              · exact g4
            · rw [k9d_hd_n, Bool.and_eq_true] at g5
              rw [Bool.and_eq_true]
              refine ⟨g5.1, ?_⟩
              rcases (Bool.or_eq_true _ _).mp g5.2 with g6 | g6
              · exact k9d_fs_ok q g6
              · exact g6
        | succ ix =>
          refine ih _ cs ws g3 ?_ ix (Nat.lt_of_succ_lt_succ hix) hne
          rw [Bool.or_eq_true] at g2
          rcases g2 with g2 | g2
          · exact Or.inl (List.isEmpty_iff.mp g2)
          · have g6 := Nat.le_of_ble_eq_true g2
            right
            rw [← hb', List.drop_drop]
            congr 1
            omega
def k9d_sq {α : Type} : List (List α) → Bool
  | [] => true
  | c :: r => (Nat.beq c.length 16 || (List.isEmpty r && Nat.ble c.length 16)) && k9d_sq r
theorem k9d_al {α : Type} (z : α) (e : List α) : ∀ (c : List α) (n : Nat), n < c.length → k9_nth z (c ++ e) n = k9_nth z c n
  | [], n, h => absurd h (Nat.not_lt_zero n)
  | _ :: _, 0, _ => rfl
  | _ :: c, n + 1, h => k9d_al z e c n (Nat.lt_of_succ_lt_succ h)
theorem k9d_ar {α : Type} (z : α) (e : List α) : ∀ (c : List α) (n : Nat), k9_nth z (c ++ e) (c.length + n) = k9_nth z e n
  | [], n => by
    show k9_nth z e (0 + n) = k9_nth z e n
    rw [Nat.zero_add]
  | a :: c, n => by
    rw [List.length_cons, show c.length + 1 + n = (c.length + n) + 1 from by omega]
    exact k9d_ar z e c n
theorem k9d_fl {α : Type} (z : α) : ∀ (L : List (List α)) (n : Nat), k9d_sq L = true → k9_nt2 z L n = k9_nth z L.flatten n
  | [], n, _ => by
    unfold k9_nt2
    rw [k9d_nil, List.flatten_nil, k9d_nil, k9d_nil]
  | c :: r, n, h => by
    have h' : ((Nat.beq c.length 16 || (List.isEmpty r && Nat.ble c.length 16)) && k9d_sq r) = true := h
    rw [Bool.and_eq_true, Bool.or_eq_true, Bool.and_eq_true] at h'
    rw [List.flatten_cons]
    by_cases hn : n < 16
    · unfold k9_nt2
      rw [Nat.div_eq_of_lt hn, Nat.mod_eq_of_lt hn]
      show k9_nth z c n = _
      by_cases hc : n < c.length
      · rw [k9d_al z _ c n hc]
      · rcases h'.1 with h1 | h1
        · exact absurd (Nat.eq_of_beq_eq_true h1) (by omega)
        · rw [List.isEmpty_iff.mp h1.1, List.flatten_nil, List.append_nil]
    · obtain ⟨m, rfl⟩ : ∃ m, n = 16 + m := ⟨n - 16, by omega⟩
      have e1 : k9_nt2 z (c :: r) (16 + m) = k9_nt2 z r m := by
        unfold k9_nt2
        rw [show (16 + m) / 16 = m / 16 + 1 from by omega, show (16 + m) % 16 = m % 16 from by omega]
        rfl
      rw [e1]
      rcases h'.1 with h1 | h1
      · rw [k9d_fl z r m h'.2, ← Nat.eq_of_beq_eq_true h1, k9d_ar]
      · rw [k9d_fl z r m h'.2, List.isEmpty_iff.mp h1.1, List.flatten_nil, List.append_nil, k9d_nil]
        exact (k9_nth_end z c _ (Nat.le_trans (Nat.le_of_ble_eq_true h1.2) (Nat.le_add_right 16 m))).symm
theorem k9d_nd {α : Type} (z : α) : ∀ (k : Nat) (l : List α) (j : Nat), k9_nth z (l.drop k) j = k9_nth z l (k + j)
  | 0, l, j => by rw [List.drop_zero, Nat.zero_add]
  | k + 1, [], j => by rw [List.drop_nil, k9d_nil, k9d_nil]
  | k + 1, a :: l, j => by
    rw [List.drop_succ_cons, k9d_nd z k l j, show k + 1 + j = (k + j) + 1 from by omega]
    rfl
theorem k9d_ch {y m k pc : Nat} {B : ByteArray} {tp : Nat → Nat} {cs : List (List k9_N)} {ws : List k9_W} (hB : k9_by y = B) (ht : k9_pc y = tp) (hc : k9_nt2 [] k9_codes y = cs) (hq : k9d_sq cs = true) (hw : k9_nt2 [] k9_raws y = ws) (hp : Nat.beq (k9_nth (0, 0, 0, 0) ws k).1 pc = true) (h : k9d_chk y B tp m (B.data.toList.drop pc) (cs.flatten.drop k) (ws.drop k) = true) (ix : Nat) (h1 : k ≤ ix) (hne : k9_cod y ix ≠ (0, 0, 0, 0, 0)) (hr : k + m ≤ ix → k9_okP y ix) : k9_okP y ix := by
  by_cases h2 : ix < k + m
  · subst hB
    subst ht
    subst hc
    subst hw
    have h3 := k9d_chk_at m _ _ _ h (Or.inr (by rw [k9d_hd_n, k9d_nd, Nat.add_zero, Nat.eq_of_beq_eq_true hp])) (ix - k) (by omega)
    rw [k9d_nd, k9d_nd, k9d_nd, show k + (ix - k) = ix from by omega, show k + (ix - k + 1) = ix + 1 from by omega] at h3
    have e : k9_cod y ix = k9_nth (0, 0, 0, 0, 0) (k9_nt2 [] k9_codes y).flatten ix := k9d_fl _ _ _ hq
    unfold k9_okP k9_ok1
    rw [e] at hne ⊢
    exact h3 hne
  · exact hr (by omega)
theorem k9d_end {y n : Nat} {cs : List (List k9_N)} (hc : k9_nt2 [] k9_codes y = cs) (hq : k9d_sq cs = true) (hl : Nat.ble cs.flatten.length n = true) (ix : Nat) (h1 : n ≤ ix) (hne : k9_cod y ix ≠ (0, 0, 0, 0, 0)) : k9_okP y ix := by
  subst hc
  have e : k9_cod y ix = k9_nth (0, 0, 0, 0, 0) (k9_nt2 [] k9_codes y).flatten ix := k9d_fl _ _ _ hq
  rw [e] at hne
  exact absurd (k9_nth_end _ _ _ (Nat.le_trans (Nat.le_of_ble_eq_true hl) h1)) hne
