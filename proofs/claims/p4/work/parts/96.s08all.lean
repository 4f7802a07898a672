theorem k9_nth_end {α : Type} (z : α) : ∀ (l : List α) (n : Nat), l.length ≤ n → k9_nth z l n = z
  | [], n, _ => by cases n <;> rfl
  | _ :: _, 0, h => by cases h
  | _ :: l, n + 1, h => k9_nth_end z l n (Nat.le_of_succ_le_succ h)
theorem k9_ok_of {y n : Nat} (h : ((List.range n).all (k9_okb y)) = true) (hl : (k9_nth [] k9_codes y).length = n) (ix : Nat) (hne : k9_cod y ix ≠ (0, 0, 0, 0, 0)) : k9_okP y ix := by
  by_cases hx : ix < n
  · have h1 := List.all_eq_true.mp h ix (List.mem_range.mpr hx)
    simp only [k9_okb, Bool.or_eq_true, Bool.and_eq_true, decide_eq_true_eq] at h1
    rcases h1 with h1 | h1
    · exact absurd h1 hne
    · exact h1
  · exact absurd (k9_nth_end _ _ _ (by rw [hl]; omega)) hne
theorem k9_ok_ch {y n c : Nat} (h : ((List.range n).all (fun j => k9_okb y (c + j))) = true) (ix : Nat) (h1 : c ≤ ix) (h2 : ix < c + n) (hne : k9_cod y ix ≠ (0, 0, 0, 0, 0)) : k9_okP y ix := by
  have h3 := List.all_eq_true.mp h (ix - c) (List.mem_range.mpr (by omega))
  rw [Nat.add_sub_cancel' h1] at h3
  simp only [k9_okb, Bool.or_eq_true, Bool.and_eq_true, decide_eq_true_eq] at h3
  rcases h3 with h3 | h3
  · exact absurd h3 hne
  · exact h3
theorem k9_law_len : (k9_nth [] k9_codes 247).length = 1055 := by decide +kernel
theorem k9_all_law (ix : Nat) (hne : k9_cod 247 ix ≠ (0, 0, 0, 0, 0)) : k9_okP 247 ix := by
  by_cases h0 : ix < 40
  · exact k9_ok_ch k9_ql0 ix (by omega) (by omega) hne
  by_cases h1 : ix < 80
  · exact k9_ok_ch k9_ql1 ix (by omega) (by omega) hne
  by_cases h2 : ix < 120
  · exact k9_ok_ch k9_ql2 ix (by omega) (by omega) hne
  by_cases h3 : ix < 160
  · exact k9_ok_ch k9_ql3 ix (by omega) (by omega) hne
  by_cases h4 : ix < 200
  · exact k9_ok_ch k9_ql4 ix (by omega) (by omega) hne
  by_cases h5 : ix < 240
  · exact k9_ok_ch k9_ql5 ix (by omega) (by omega) hne
  by_cases h6 : ix < 280
  · exact k9_ok_ch k9_ql6 ix (by omega) (by omega) hne
  by_cases h7 : ix < 320
  · exact k9_ok_ch k9_ql7 ix (by omega) (by omega) hne
  by_cases h8 : ix < 360
  · exact k9_ok_ch k9_ql8 ix (by omega) (by omega) hne
  by_cases h9 : ix < 400
  · exact k9_ok_ch k9_ql9 ix (by omega) (by omega) hne
  by_cases h10 : ix < 440
  · exact k9_ok_ch k9_ql10 ix (by omega) (by omega) hne
  by_cases h11 : ix < 480
  · exact k9_ok_ch k9_ql11 ix (by omega) (by omega) hne
  by_cases h12 : ix < 520
  · exact k9_ok_ch k9_ql12 ix (by omega) (by omega) hne
  by_cases h13 : ix < 560
  · exact k9_ok_ch k9_ql13 ix (by omega) (by omega) hne
  by_cases h14 : ix < 600
  · exact k9_ok_ch k9_ql14 ix (by omega) (by omega) hne
  by_cases h15 : ix < 640
  · exact k9_ok_ch k9_ql15 ix (by omega) (by omega) hne
  by_cases h16 : ix < 680
  · exact k9_ok_ch k9_ql16 ix (by omega) (by omega) hne
  by_cases h17 : ix < 720
  · exact k9_ok_ch k9_ql17 ix (by omega) (by omega) hne
  by_cases h18 : ix < 760
  · exact k9_ok_ch k9_ql18 ix (by omega) (by omega) hne
  by_cases h19 : ix < 800
  · exact k9_ok_ch k9_ql19 ix (by omega) (by omega) hne
  by_cases h20 : ix < 840
  · exact k9_ok_ch k9_ql20 ix (by omega) (by omega) hne
  by_cases h21 : ix < 880
  · exact k9_ok_ch k9_ql21 ix (by omega) (by omega) hne
  by_cases h22 : ix < 920
  · exact k9_ok_ch k9_ql22 ix (by omega) (by omega) hne
  by_cases h23 : ix < 960
  · exact k9_ok_ch k9_ql23 ix (by omega) (by omega) hne
  by_cases h24 : ix < 1000
  · exact k9_ok_ch k9_ql24 ix (by omega) (by omega) hne
  by_cases h25 : ix < 1040
  · exact k9_ok_ch k9_ql25 ix (by omega) (by omega) hne
  by_cases h26 : ix < 1080
  · exact k9_ok_ch k9_ql26 ix (by omega) (by omega) hne
  · exact absurd (k9_nth_end _ _ _ (by rw [k9_law_len]; omega)) hne
theorem k9_all (y ix : Nat) (hy : y < k9_law + 1) (hne : k9_cod y ix ≠ (0, 0, 0, 0, 0)) : k9_okP y ix :=
  match y, hy, hne with
  | 0, _, hne => k9_ok_of k9_q0 rfl ix hne
  | 1, _, hne => k9_ok_of k9_q1 rfl ix hne
  | 2, _, hne => k9_ok_of k9_q2 rfl ix hne
  | 3, _, hne => k9_ok_of k9_q3 rfl ix hne
  | 4, _, hne => k9_ok_of k9_q4 rfl ix hne
  | 5, _, hne => k9_ok_of k9_q5 rfl ix hne
  | 6, _, hne => k9_ok_of k9_q6 rfl ix hne
  | 7, _, hne => k9_ok_of k9_q7 rfl ix hne
  | 8, _, hne => k9_ok_of k9_q8 rfl ix hne
  | 9, _, hne => k9_ok_of k9_q9 rfl ix hne
  | 10, _, hne => k9_ok_of k9_q10 rfl ix hne
  | 11, _, hne => k9_ok_of k9_q11 rfl ix hne
  | 12, _, hne => k9_ok_of k9_q12 rfl ix hne
  | 13, _, hne => k9_ok_of k9_q13 rfl ix hne
  | 14, _, hne => k9_ok_of k9_q14 rfl ix hne
  | 15, _, hne => k9_ok_of k9_q15 rfl ix hne
  | 16, _, hne => k9_ok_of k9_q16 rfl ix hne
  | 17, _, hne => k9_ok_of k9_q17 rfl ix hne
  | 18, _, hne => k9_ok_of k9_q18 rfl ix hne
  | 19, _, hne => k9_ok_of k9_q19 rfl ix hne
  | 20, _, hne => k9_ok_of k9_q20 rfl ix hne
  | 21, _, hne => k9_ok_of k9_q21 rfl ix hne
  | 22, _, hne => k9_ok_of k9_q22 rfl ix hne
  | 23, _, hne => k9_ok_of k9_q23 rfl ix hne
  | 24, _, hne => k9_ok_of k9_q24 rfl ix hne
  | 25, _, hne => k9_ok_of k9_q25 rfl ix hne
  | 26, _, hne => k9_ok_of k9_q26 rfl ix hne
  | 27, _, hne => k9_ok_of k9_q27 rfl ix hne
  | 28, _, hne => k9_ok_of k9_q28 rfl ix hne
  | 29, _, hne => k9_ok_of k9_q29 rfl ix hne
  | 30, _, hne => k9_ok_of k9_q30 rfl ix hne
  | 31, _, hne => k9_ok_of k9_q31 rfl ix hne
  | 32, _, hne => k9_ok_of k9_q32 rfl ix hne
  | 33, _, hne => k9_ok_of k9_q33 rfl ix hne
  | 34, _, hne => k9_ok_of k9_q34 rfl ix hne
  | 35, _, hne => k9_ok_of k9_q35 rfl ix hne
  | 36, _, hne => k9_ok_of k9_q36 rfl ix hne
  | 37, _, hne => k9_ok_of k9_q37 rfl ix hne
  | 38, _, hne => k9_ok_of k9_q38 rfl ix hne
  | 39, _, hne => k9_ok_of k9_q39 rfl ix hne
  | 40, _, hne => k9_ok_of k9_q40 rfl ix hne
  | 41, _, hne => k9_ok_of k9_q41 rfl ix hne
  | 42, _, hne => k9_ok_of k9_q42 rfl ix hne
  | 43, _, hne => k9_ok_of k9_q43 rfl ix hne
  | 44, _, hne => k9_ok_of k9_q44 rfl ix hne
  | 45, _, hne => k9_ok_of k9_q45 rfl ix hne
  | 46, _, hne => k9_ok_of k9_q46 rfl ix hne
  | 47, _, hne => k9_ok_of k9_q47 rfl ix hne
  | 48, _, hne => k9_ok_of k9_q48 rfl ix hne
  | 49, _, hne => k9_ok_of k9_q49 rfl ix hne
  | 50, _, hne => k9_ok_of k9_q50 rfl ix hne
  | 51, _, hne => k9_ok_of k9_q51 rfl ix hne
  | 52, _, hne => k9_ok_of k9_q52 rfl ix hne
  | 53, _, hne => k9_ok_of k9_q53 rfl ix hne
  | 54, _, hne => k9_ok_of k9_q54 rfl ix hne
  | 55, _, hne => k9_ok_of k9_q55 rfl ix hne
  | 56, _, hne => k9_ok_of k9_q56 rfl ix hne
  | 57, _, hne => k9_ok_of k9_q57 rfl ix hne
  | 58, _, hne => k9_ok_of k9_q58 rfl ix hne
  | 59, _, hne => k9_ok_of k9_q59 rfl ix hne
  | 60, _, hne => k9_ok_of k9_q60 rfl ix hne
  | 61, _, hne => k9_ok_of k9_q61 rfl ix hne
  | 62, _, hne => k9_ok_of k9_q62 rfl ix hne
  | 63, _, hne => k9_ok_of k9_q63 rfl ix hne
  | 64, _, hne => k9_ok_of k9_q64 rfl ix hne
  | 65, _, hne => k9_ok_of k9_q65 rfl ix hne
  | 66, _, hne => k9_ok_of k9_q66 rfl ix hne
  | 67, _, hne => k9_ok_of k9_q67 rfl ix hne
  | 68, _, hne => k9_ok_of k9_q68 rfl ix hne
  | 69, _, hne => k9_ok_of k9_q69 rfl ix hne
  | 70, _, hne => k9_ok_of k9_q70 rfl ix hne
  | 71, _, hne => k9_ok_of k9_q71 rfl ix hne
  | 72, _, hne => k9_ok_of k9_q72 rfl ix hne
  | 73, _, hne => k9_ok_of k9_q73 rfl ix hne
  | 74, _, hne => k9_ok_of k9_q74 rfl ix hne
  | 75, _, hne => k9_ok_of k9_q75 rfl ix hne
  | 76, _, hne => k9_ok_of k9_q76 rfl ix hne
  | 77, _, hne => k9_ok_of k9_q77 rfl ix hne
  | 78, _, hne => k9_ok_of k9_q78 rfl ix hne
  | 79, _, hne => k9_ok_of k9_q79 rfl ix hne
  | 80, _, hne => k9_ok_of k9_q80 rfl ix hne
  | 81, _, hne => k9_ok_of k9_q81 rfl ix hne
  | 82, _, hne => k9_ok_of k9_q82 rfl ix hne
  | 83, _, hne => k9_ok_of k9_q83 rfl ix hne
  | 84, _, hne => k9_ok_of k9_q84 rfl ix hne
  | 85, _, hne => k9_ok_of k9_q85 rfl ix hne
  | 86, _, hne => k9_ok_of k9_q86 rfl ix hne
  | 87, _, hne => k9_ok_of k9_q87 rfl ix hne
  | 88, _, hne => k9_ok_of k9_q88 rfl ix hne
  | 89, _, hne => k9_ok_of k9_q89 rfl ix hne
  | 90, _, hne => k9_ok_of k9_q90 rfl ix hne
  | 91, _, hne => k9_ok_of k9_q91 rfl ix hne
  | 92, _, hne => k9_ok_of k9_q92 rfl ix hne
  | 93, _, hne => k9_ok_of k9_q93 rfl ix hne
  | 94, _, hne => k9_ok_of k9_q94 rfl ix hne
  | 95, _, hne => k9_ok_of k9_q95 rfl ix hne
  | 96, _, hne => k9_ok_of k9_q96 rfl ix hne
  | 97, _, hne => k9_ok_of k9_q97 rfl ix hne
  | 98, _, hne => k9_ok_of k9_q98 rfl ix hne
  | 99, _, hne => k9_ok_of k9_q99 rfl ix hne
  | 100, _, hne => k9_ok_of k9_q100 rfl ix hne
  | 101, _, hne => k9_ok_of k9_q101 rfl ix hne
  | 102, _, hne => k9_ok_of k9_q102 rfl ix hne
  | 103, _, hne => k9_ok_of k9_q103 rfl ix hne
  | 104, _, hne => k9_ok_of k9_q104 rfl ix hne
  | 105, _, hne => k9_ok_of k9_q105 rfl ix hne
  | 106, _, hne => k9_ok_of k9_q106 rfl ix hne
  | 107, _, hne => k9_ok_of k9_q107 rfl ix hne
  | 108, _, hne => k9_ok_of k9_q108 rfl ix hne
  | 109, _, hne => k9_ok_of k9_q109 rfl ix hne
  | 110, _, hne => k9_ok_of k9_q110 rfl ix hne
  | 111, _, hne => k9_ok_of k9_q111 rfl ix hne
  | 112, _, hne => k9_ok_of k9_q112 rfl ix hne
  | 113, _, hne => k9_ok_of k9_q113 rfl ix hne
  | 114, _, hne => k9_ok_of k9_q114 rfl ix hne
  | 115, _, hne => k9_ok_of k9_q115 rfl ix hne
  | 116, _, hne => k9_ok_of k9_q116 rfl ix hne
  | 117, _, hne => k9_ok_of k9_q117 rfl ix hne
  | 118, _, hne => k9_ok_of k9_q118 rfl ix hne
  | 119, _, hne => k9_ok_of k9_q119 rfl ix hne
  | 120, _, hne => k9_ok_of k9_q120 rfl ix hne
  | 121, _, hne => k9_ok_of k9_q121 rfl ix hne
  | 122, _, hne => k9_ok_of k9_q122 rfl ix hne
  | 123, _, hne => k9_ok_of k9_q123 rfl ix hne
  | 124, _, hne => k9_ok_of k9_q124 rfl ix hne
  | 125, _, hne => k9_ok_of k9_q125 rfl ix hne
  | 126, _, hne => k9_ok_of k9_q126 rfl ix hne
  | 127, _, hne => k9_ok_of k9_q127 rfl ix hne
  | 128, _, hne => k9_ok_of k9_q128 rfl ix hne
  | 129, _, hne => k9_ok_of k9_q129 rfl ix hne
  | 130, _, hne => k9_ok_of k9_q130 rfl ix hne
  | 131, _, hne => k9_ok_of k9_q131 rfl ix hne
  | 132, _, hne => k9_ok_of k9_q132 rfl ix hne
  | 133, _, hne => k9_ok_of k9_q133 rfl ix hne
  | 134, _, hne => k9_ok_of k9_q134 rfl ix hne
  | 135, _, hne => k9_ok_of k9_q135 rfl ix hne
  | 136, _, hne => k9_ok_of k9_q136 rfl ix hne
  | 137, _, hne => k9_ok_of k9_q137 rfl ix hne
  | 138, _, hne => k9_ok_of k9_q138 rfl ix hne
  | 139, _, hne => k9_ok_of k9_q139 rfl ix hne
  | 140, _, hne => k9_ok_of k9_q140 rfl ix hne
  | 141, _, hne => k9_ok_of k9_q141 rfl ix hne
  | 142, _, hne => k9_ok_of k9_q142 rfl ix hne
  | 143, _, hne => k9_ok_of k9_q143 rfl ix hne
  | 144, _, hne => k9_ok_of k9_q144 rfl ix hne
  | 145, _, hne => k9_ok_of k9_q145 rfl ix hne
  | 146, _, hne => k9_ok_of k9_q146 rfl ix hne
  | 147, _, hne => k9_ok_of k9_q147 rfl ix hne
  | 148, _, hne => k9_ok_of k9_q148 rfl ix hne
  | 149, _, hne => k9_ok_of k9_q149 rfl ix hne
  | 150, _, hne => k9_ok_of k9_q150 rfl ix hne
  | 151, _, hne => k9_ok_of k9_q151 rfl ix hne
  | 152, _, hne => k9_ok_of k9_q152 rfl ix hne
  | 153, _, hne => k9_ok_of k9_q153 rfl ix hne
  | 154, _, hne => k9_ok_of k9_q154 rfl ix hne
  | 155, _, hne => k9_ok_of k9_q155 rfl ix hne
  | 156, _, hne => k9_ok_of k9_q156 rfl ix hne
  | 157, _, hne => k9_ok_of k9_q157 rfl ix hne
  | 158, _, hne => k9_ok_of k9_q158 rfl ix hne
  | 159, _, hne => k9_ok_of k9_q159 rfl ix hne
  | 160, _, hne => k9_ok_of k9_q160 rfl ix hne
  | 161, _, hne => k9_ok_of k9_q161 rfl ix hne
  | 162, _, hne => k9_ok_of k9_q162 rfl ix hne
  | 163, _, hne => k9_ok_of k9_q163 rfl ix hne
  | 164, _, hne => k9_ok_of k9_q164 rfl ix hne
  | 165, _, hne => k9_ok_of k9_q165 rfl ix hne
  | 166, _, hne => k9_ok_of k9_q166 rfl ix hne
  | 167, _, hne => k9_ok_of k9_q167 rfl ix hne
  | 168, _, hne => k9_ok_of k9_q168 rfl ix hne
  | 169, _, hne => k9_ok_of k9_q169 rfl ix hne
  | 170, _, hne => k9_ok_of k9_q170 rfl ix hne
  | 171, _, hne => k9_ok_of k9_q171 rfl ix hne
  | 172, _, hne => k9_ok_of k9_q172 rfl ix hne
  | 173, _, hne => k9_ok_of k9_q173 rfl ix hne
  | 174, _, hne => k9_ok_of k9_q174 rfl ix hne
  | 175, _, hne => k9_ok_of k9_q175 rfl ix hne
  | 176, _, hne => k9_ok_of k9_q176 rfl ix hne
  | 177, _, hne => k9_ok_of k9_q177 rfl ix hne
  | 178, _, hne => k9_ok_of k9_q178 rfl ix hne
  | 179, _, hne => k9_ok_of k9_q179 rfl ix hne
  | 180, _, hne => k9_ok_of k9_q180 rfl ix hne
  | 181, _, hne => k9_ok_of k9_q181 rfl ix hne
  | 182, _, hne => k9_ok_of k9_q182 rfl ix hne
  | 183, _, hne => k9_ok_of k9_q183 rfl ix hne
  | 184, _, hne => k9_ok_of k9_q184 rfl ix hne
  | 185, _, hne => k9_ok_of k9_q185 rfl ix hne
  | 186, _, hne => k9_ok_of k9_q186 rfl ix hne
  | 187, _, hne => k9_ok_of k9_q187 rfl ix hne
  | 188, _, hne => k9_ok_of k9_q188 rfl ix hne
  | 189, _, hne => k9_ok_of k9_q189 rfl ix hne
  | 190, _, hne => k9_ok_of k9_q190 rfl ix hne
  | 191, _, hne => k9_ok_of k9_q191 rfl ix hne
  | 192, _, hne => k9_ok_of k9_q192 rfl ix hne
  | 193, _, hne => k9_ok_of k9_q193 rfl ix hne
  | 194, _, hne => k9_ok_of k9_q194 rfl ix hne
  | 195, _, hne => k9_ok_of k9_q195 rfl ix hne
  | 196, _, hne => k9_ok_of k9_q196 rfl ix hne
  | 197, _, hne => k9_ok_of k9_q197 rfl ix hne
  | 198, _, hne => k9_ok_of k9_q198 rfl ix hne
  | 199, _, hne => k9_ok_of k9_q199 rfl ix hne
  | 200, _, hne => k9_ok_of k9_q200 rfl ix hne
  | 201, _, hne => k9_ok_of k9_q201 rfl ix hne
  | 202, _, hne => k9_ok_of k9_q202 rfl ix hne
  | 203, _, hne => k9_ok_of k9_q203 rfl ix hne
  | 204, _, hne => k9_ok_of k9_q204 rfl ix hne
  | 205, _, hne => k9_ok_of k9_q205 rfl ix hne
  | 206, _, hne => k9_ok_of k9_q206 rfl ix hne
  | 207, _, hne => k9_ok_of k9_q207 rfl ix hne
  | 208, _, hne => k9_ok_of k9_q208 rfl ix hne
  | 209, _, hne => k9_ok_of k9_q209 rfl ix hne
  | 210, _, hne => k9_ok_of k9_q210 rfl ix hne
  | 211, _, hne => k9_ok_of k9_q211 rfl ix hne
  | 212, _, hne => k9_ok_of k9_q212 rfl ix hne
  | 213, _, hne => k9_ok_of k9_q213 rfl ix hne
  | 214, _, hne => k9_ok_of k9_q214 rfl ix hne
  | 215, _, hne => k9_ok_of k9_q215 rfl ix hne
  | 216, _, hne => k9_ok_of k9_q216 rfl ix hne
  | 217, _, hne => k9_ok_of k9_q217 rfl ix hne
  | 218, _, hne => k9_ok_of k9_q218 rfl ix hne
  | 219, _, hne => k9_ok_of k9_q219 rfl ix hne
  | 220, _, hne => k9_ok_of k9_q220 rfl ix hne
  | 221, _, hne => k9_ok_of k9_q221 rfl ix hne
  | 222, _, hne => k9_ok_of k9_q222 rfl ix hne
  | 223, _, hne => k9_ok_of k9_q223 rfl ix hne
  | 224, _, hne => k9_ok_of k9_q224 rfl ix hne
  | 225, _, hne => k9_ok_of k9_q225 rfl ix hne
  | 226, _, hne => k9_ok_of k9_q226 rfl ix hne
  | 227, _, hne => k9_ok_of k9_q227 rfl ix hne
  | 228, _, hne => k9_ok_of k9_q228 rfl ix hne
  | 229, _, hne => k9_ok_of k9_q229 rfl ix hne
  | 230, _, hne => k9_ok_of k9_q230 rfl ix hne
  | 231, _, hne => k9_ok_of k9_q231 rfl ix hne
  | 232, _, hne => k9_ok_of k9_q232 rfl ix hne
  | 233, _, hne => k9_ok_of k9_q233 rfl ix hne
  | 234, _, hne => k9_ok_of k9_q234 rfl ix hne
  | 235, _, hne => k9_ok_of k9_q235 rfl ix hne
  | 236, _, hne => k9_ok_of k9_q236 rfl ix hne
  | 237, _, hne => k9_ok_of k9_q237 rfl ix hne
  | 238, _, hne => k9_ok_of k9_q238 rfl ix hne
  | 239, _, hne => k9_ok_of k9_q239 rfl ix hne
  | 240, _, hne => k9_ok_of k9_q240 rfl ix hne
  | 241, _, hne => k9_ok_of k9_q241 rfl ix hne
  | 242, _, hne => k9_ok_of k9_q242 rfl ix hne
  | 243, _, hne => k9_ok_of k9_q243 rfl ix hne
  | 244, _, hne => k9_ok_of k9_q244 rfl ix hne
  | 245, _, hne => k9_ok_of k9_q245 rfl ix hne
  | 246, _, hne => k9_ok_of k9_q246 rfl ix hne
  | 247, _, hne => k9_all_law ix hne
  | y + 248, hy, _ => absurd hy (by show ¬ y + 248 < 248; omega)
theorem k9_pc0_all : ((List.range (k9_law + 1)).all (fun z => Nat.beq (k9_pc z 0) 0)) = true := by decide +kernel
theorem k9_pc0 (z : Nat) (hz : z < k9_law + 1) : k9_pc z 0 = 0 := Nat.eq_of_beq_eq_true (List.all_eq_true.mp k9_pc0_all z (List.mem_range.mpr hz))
