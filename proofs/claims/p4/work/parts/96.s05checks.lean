/-! CHECKS, by the kernel -/
theorem k9_t1 {w : Cond} (hw : w ∈ tables_1_1) : w ∈ lw_tbl := List.mem_append_right _ (List.mem_append_left _ hw)
theorem k9_t2 {w : Cond} (hw : w ∈ tables_1_2) : w ∈ lw_tbl := List.mem_append_right _ (List.mem_append_right _ (List.mem_append_left _ hw))
theorem k9_t3 {w : Cond} (hw : w ∈ tables_1_3) : w ∈ lw_tbl := List.mem_append_right _ (List.mem_append_right _ (List.mem_append_right _ (List.mem_append_left _ hw)))
theorem k9_t4 {w : Cond} (hw : w ∈ tables_1_4) : w ∈ lw_tbl := List.mem_append_right _ (List.mem_append_right _ (List.mem_append_right _ (List.mem_append_right _ (List.mem_append_left _ hw))))
theorem k9_t5 {w : Cond} (hw : w ∈ tables_1_5) : w ∈ lw_tbl := List.mem_append_right _ (List.mem_append_right _ (List.mem_append_right _ (List.mem_append_right _ (List.mem_append_right _ (List.mem_append_left _ hw)))))
theorem k9_t6 {w : Cond} (hw : w ∈ tables_1_6) : w ∈ lw_tbl := List.mem_append_right _ (List.mem_append_right _ (List.mem_append_right _ (List.mem_append_right _ (List.mem_append_right _ (List.mem_append_right _ (List.mem_append_left _ hw))))))
theorem k9_t7 {w : Cond} (hw : w ∈ tables_1_7) : w ∈ lw_tbl := List.mem_append_right _ (List.mem_append_right _ (List.mem_append_right _ (List.mem_append_right _ (List.mem_append_right _ (List.mem_append_right _ (List.mem_append_right _ (hw)))))))
theorem k9_cw0 : k9_cwd 0 ∈ lw_tbl := k9_t2 (List.mem_of_getElem? (i := 128) rfl)
theorem k9_cw1 : k9_cwd 1 ∈ lw_tbl := k9_t2 (List.mem_of_getElem? (i := 131) rfl)
theorem k9_cw2 : k9_cwd 2 ∈ lw_tbl := k9_t2 (List.mem_of_getElem? (i := 136) rfl)
theorem k9_cw3 : k9_cwd 3 ∈ lw_tbl := k9_t2 (List.mem_of_getElem? (i := 182) rfl)
theorem k9_cw4 : k9_cwd 4 ∈ lw_tbl := k9_t2 (List.mem_of_getElem? (i := 178) rfl)
theorem k9_cw5 : k9_cwd 5 ∈ lw_tbl := k9_t2 (List.mem_of_getElem? (i := 186) rfl)
theorem k9_cw6 : k9_cwd 6 ∈ lw_tbl := k9_t2 (List.mem_of_getElem? (i := 190) rfl)
theorem k9_cw7 : k9_cwd 7 ∈ lw_tbl := k9_t2 (List.mem_of_getElem? (i := 194) rfl)
theorem k9_cw8 : k9_cwd 8 ∈ lw_tbl := k9_t2 (List.mem_of_getElem? (i := 142) rfl)
theorem k9_cw9 : k9_cwd 9 ∈ lw_tbl := k9_t2 (List.mem_of_getElem? (i := 210) rfl)
theorem k9_cw10 : k9_cwd 10 ∈ lw_tbl := k9_t2 (List.mem_of_getElem? (i := 214) rfl)
theorem k9_cw11 : k9_cwd 11 ∈ lw_tbl := k9_t3 (List.mem_of_getElem? (i := 59) rfl)
theorem k9_cw12 : k9_cwd 12 ∈ lw_tbl := k9_t3 (List.mem_of_getElem? (i := 69) rfl)
theorem k9_cw13 : k9_cwd 13 ∈ lw_tbl := k9_t3 (List.mem_of_getElem? (i := 82) rfl)
theorem k9_cw14 : k9_cwd 14 ∈ lw_tbl := k9_t4 (List.mem_of_getElem? (i := 28) rfl)
theorem k9_cw15 : k9_cwd 15 ∈ lw_tbl := k9_t4 (List.mem_of_getElem? (i := 40) rfl)
theorem k9_cw16 : k9_cwd 16 ∈ lw_tbl := k9_t3 (List.mem_of_getElem? (i := 229) rfl)
theorem k9_cw17 : k9_cwd 17 ∈ lw_tbl := k9_t3 (List.mem_of_getElem? (i := 233) rfl)
theorem k9_cw18 : k9_cwd 18 ∈ lw_tbl := k9_t4 (List.mem_of_getElem? (i := 1) rfl)
theorem k9_cw19 : k9_cwd 19 ∈ lw_tbl := k9_t4 (List.mem_of_getElem? (i := 101) rfl)
theorem k9_cw20 : k9_cwd 20 ∈ lw_tbl := k9_t3 (List.mem_of_getElem? (i := 63) rfl)
theorem k9_cw21 : k9_cwd 21 ∈ lw_tbl := k9_t3 (List.mem_of_getElem? (i := 77) rfl)
theorem k9_cw22 : k9_cwd 22 ∈ lw_tbl := k9_t3 (List.mem_of_getElem? (i := 112) rfl)
theorem k9_cw23 : k9_cwd 23 ∈ lw_tbl := k9_t3 (List.mem_of_getElem? (i := 89) rfl)
theorem k9_cw24 : k9_cwd 24 ∈ lw_tbl := k9_t3 (List.mem_of_getElem? (i := 86) rfl)
theorem k9_cw25 : k9_cwd 25 ∈ lw_tbl := k9_t3 (List.mem_of_getElem? (i := 237) rfl)
theorem k9_cw26 : k9_cwd 26 ∈ lw_tbl := k9_t3 (List.mem_of_getElem? (i := 205) rfl)
theorem k9_cw27 : k9_cwd 27 ∈ lw_tbl := k9_t3 (List.mem_of_getElem? (i := 221) rfl)
theorem k9_cw28 : k9_cwd 28 ∈ lw_tbl := k9_t3 (List.mem_of_getElem? (i := 213) rfl)
theorem k9_cw29 : k9_cwd 29 ∈ lw_tbl := k9_t3 (List.mem_of_getElem? (i := 217) rfl)
theorem k9_cw30 : k9_cwd 30 ∈ lw_tbl := k9_t3 (List.mem_of_getElem? (i := 209) rfl)
theorem k9_cw31 : k9_cwd 31 ∈ lw_tbl := k9_t4 (List.mem_of_getElem? (i := 32) rfl)
theorem k9_cw32 : k9_cwd 32 ∈ lw_tbl := k9_t4 (List.mem_of_getElem? (i := 5) rfl)
theorem k9_cw33 : k9_cwd 33 ∈ lw_tbl := k9_t4 (List.mem_of_getElem? (i := 10) rfl)
theorem k9_cw34 : k9_cwd 34 ∈ lw_tbl := k9_t2 (List.mem_of_getElem? (i := 223) rfl)
theorem k9_cw35 : k9_cwd 35 ∈ lw_tbl := k9_t3 (List.mem_of_getElem? (i := 39) rfl)
theorem k9_cw36 : k9_cwd 36 ∈ lw_tbl := k9_t2 (List.mem_of_getElem? (i := 231) rfl)
theorem k9_cw37 : k9_cwd 37 ∈ lw_tbl := k9_t2 (List.mem_of_getElem? (i := 235) rfl)
theorem k9_cw38 : k9_cwd 38 ∈ lw_tbl := k9_t2 (List.mem_of_getElem? (i := 239) rfl)
theorem k9_cw39 : k9_cwd 39 ∈ lw_tbl := k9_t3 (List.mem_of_getElem? (i := 3) rfl)
theorem k9_cw40 : k9_cwd 40 ∈ lw_tbl := k9_t3 (List.mem_of_getElem? (i := 14) rfl)
theorem k9_cw41 : k9_cwd 41 ∈ lw_tbl := k9_t3 (List.mem_of_getElem? (i := 7) rfl)
theorem k9_cw42 : k9_cwd 42 ∈ lw_tbl := k9_t3 (List.mem_of_getElem? (i := 25) rfl)
theorem k9_cw43 : k9_cwd 43 ∈ lw_tbl := k9_t3 (List.mem_of_getElem? (i := 18) rfl)
theorem k9_cw44 : k9_cwd 44 ∈ lw_tbl := k9_t3 (List.mem_of_getElem? (i := 10) rfl)
theorem k9_cw45 : k9_cwd 45 ∈ lw_tbl := k9_t3 (List.mem_of_getElem? (i := 21) rfl)
theorem k9_cw46 : k9_cwd 46 ∈ lw_tbl := k9_t3 (List.mem_of_getElem? (i := 28) rfl)
theorem k9_cw47 : k9_cwd 47 ∈ lw_tbl := k9_t3 (List.mem_of_getElem? (i := 32) rfl)
theorem k9_cw48 : k9_cwd 48 ∈ lw_tbl := k9_t3 (List.mem_of_getElem? (i := 93) rfl)
theorem k9_cw49 : k9_cwd 49 ∈ lw_tbl := k9_t3 (List.mem_of_getElem? (i := 101) rfl)
theorem k9_cw50 : k9_cwd 50 ∈ lw_tbl := k9_t3 (List.mem_of_getElem? (i := 104) rfl)
theorem k9_cw51 : k9_cwd 51 ∈ lw_tbl := k9_t3 (List.mem_of_getElem? (i := 108) rfl)
theorem k9_cw52 : k9_cwd 52 ∈ lw_tbl := k9_t3 (List.mem_of_getElem? (i := 97) rfl)
theorem k9_cw53 : k9_cwd 53 ∈ lw_tbl := k9_t4 (List.mem_of_getElem? (i := 75) rfl)
theorem k9_cw54 : k9_cwd 54 ∈ lw_tbl := k9_t3 (List.mem_of_getElem? (i := 54) rfl)
theorem k9_cw55 : k9_cwd 55 ∈ lw_tbl := k9_t3 (List.mem_of_getElem? (i := 116) rfl)
theorem k9_cw56 : k9_cwd 56 ∈ lw_tbl := k9_t3 (List.mem_of_getElem? (i := 120) rfl)
theorem k9_cw57 : k9_cwd 57 ∈ lw_tbl := k9_t3 (List.mem_of_getElem? (i := 124) rfl)
theorem k9_cw58 : k9_cwd 58 ∈ lw_tbl := k9_t3 (List.mem_of_getElem? (i := 128) rfl)
theorem k9_cw59 : k9_cwd 59 ∈ lw_tbl := k9_t3 (List.mem_of_getElem? (i := 136) rfl)
theorem k9_cw60 : k9_cwd 60 ∈ lw_tbl := k9_t3 (List.mem_of_getElem? (i := 144) rfl)
theorem k9_cw61 : k9_cwd 61 ∈ lw_tbl := k9_t3 (List.mem_of_getElem? (i := 153) rfl)
theorem k9_cw62 : k9_cwd 62 ∈ lw_tbl := k9_t3 (List.mem_of_getElem? (i := 165) rfl)
theorem k9_cw63 : k9_cwd 63 ∈ lw_tbl := k9_t3 (List.mem_of_getElem? (i := 175) rfl)
theorem k9_cw64 : k9_cwd 64 ∈ lw_tbl := k9_t3 (List.mem_of_getElem? (i := 184) rfl)
theorem k9_cw65 : k9_cwd 65 ∈ lw_tbl := k9_t4 (List.mem_of_getElem? (i := 49) rfl)
theorem k9_cw66 : k9_cwd 66 ∈ lw_tbl := k9_t4 (List.mem_of_getElem? (i := 62) rfl)
theorem k9_cw67 : k9_cwd 67 ∈ lw_tbl := k9_t2 (List.mem_of_getElem? (i := 198) rfl)
theorem k9_cw68 : k9_cwd 68 ∈ lw_tbl := k9_t2 (List.mem_of_getElem? (i := 202) rfl)
theorem k9_cw69 : k9_cwd 69 ∈ lw_tbl := k9_t4 (List.mem_of_getElem? (i := 160) rfl)
theorem k9_cw70 : k9_cwd 70 ∈ lw_tbl := k9_t4 (List.mem_of_getElem? (i := 169) rfl)
theorem k9_cw71 : k9_cwd 71 ∈ lw_tbl := k9_t4 (List.mem_of_getElem? (i := 111) rfl)
theorem k9_cw72 : k9_cwd 72 ∈ lw_tbl := k9_t4 (List.mem_of_getElem? (i := 119) rfl)
theorem k9_cw73 : k9_cwd 73 ∈ lw_tbl := k9_t4 (List.mem_of_getElem? (i := 124) rfl)
theorem k9_cw74 : k9_cwd 74 ∈ lw_tbl := k9_t4 (List.mem_of_getElem? (i := 132) rfl)
theorem k9_cw75 : k9_cwd 75 ∈ lw_tbl := k9_t4 (List.mem_of_getElem? (i := 140) rfl)
theorem k9_cw76 : k9_cwd 76 ∈ lw_tbl := k9_t4 (List.mem_of_getElem? (i := 148) rfl)
theorem k9_cw77 : k9_cwd 77 ∈ lw_tbl := k9_t4 (List.mem_of_getElem? (i := 177) rfl)
theorem k9_cw78 : k9_cwd 78 ∈ lw_tbl := k9_t4 (List.mem_of_getElem? (i := 189) rfl)
theorem k9_cw79 : k9_cwd 79 ∈ lw_tbl := k9_t5 (List.mem_of_getElem? (i := 43) rfl)
theorem k9_cw80 : k9_cwd 80 ∈ lw_tbl := k9_t4 (List.mem_of_getElem? (i := 205) rfl)
theorem k9_cw81 : k9_cwd 81 ∈ lw_tbl := k9_t4 (List.mem_of_getElem? (i := 223) rfl)
theorem k9_cw82 : k9_cwd 82 ∈ lw_tbl := k9_t4 (List.mem_of_getElem? (i := 228) rfl)
theorem k9_cw83 : k9_cwd 83 ∈ lw_tbl := k9_t4 (List.mem_of_getElem? (i := 185) rfl)
theorem k9_cw84 : k9_cwd 84 ∈ lw_tbl := k9_t4 (List.mem_of_getElem? (i := 193) rfl)
theorem k9_cw85 : k9_cwd 85 ∈ lw_tbl := k9_t4 (List.mem_of_getElem? (i := 197) rfl)
theorem k9_cw86 : k9_cwd 86 ∈ lw_tbl := k9_t4 (List.mem_of_getElem? (i := 200) rfl)
theorem k9_cw87 : k9_cwd 87 ∈ lw_tbl := k9_t4 (List.mem_of_getElem? (i := 211) rfl)
theorem k9_cw88 : k9_cwd 88 ∈ lw_tbl := k9_t4 (List.mem_of_getElem? (i := 215) rfl)
theorem k9_cw89 : k9_cwd 89 ∈ lw_tbl := k9_t4 (List.mem_of_getElem? (i := 236) rfl)
theorem k9_cw90 : k9_cwd 90 ∈ lw_tbl := k9_t5 (List.mem_of_getElem? (i := 4) rfl)
theorem k9_cw91 : k9_cwd 91 ∈ lw_tbl := k9_t2 (List.mem_of_getElem? (i := 158) rfl)
theorem k9_cw92 : k9_cwd 92 ∈ lw_tbl := k9_t4 (List.mem_of_getElem? (i := 19) rfl)
theorem k9_cw93 : k9_cwd 93 ∈ lw_tbl := k9_t5 (List.mem_of_getElem? (i := 12) rfl)
theorem k9_cw94 : k9_cwd 94 ∈ lw_tbl := k9_t2 (List.mem_of_getElem? (i := 170) rfl)
theorem k9_cw95 : k9_cwd 95 ∈ lw_tbl := k9_t2 (List.mem_of_getElem? (i := 166) rfl)
theorem k9_cw96 : k9_cwd 96 ∈ lw_tbl := k9_t5 (List.mem_of_getElem? (i := 16) rfl)
theorem k9_cw97 : k9_cwd 97 ∈ lw_tbl := k9_t5 (List.mem_of_getElem? (i := 20) rfl)
theorem k9_cw98 : k9_cwd 98 ∈ lw_tbl := k9_t5 (List.mem_of_getElem? (i := 34) rfl)
theorem k9_cw99 : k9_cwd 99 ∈ lw_tbl := k9_t2 (List.mem_of_getElem? (i := 125) rfl)
theorem k9_cw100 : k9_cwd 100 ∈ lw_tbl := k9_t2 (List.mem_of_getElem? (i := 150) rfl)
theorem k9_cw101 : k9_cwd 101 ∈ lw_tbl := k9_t2 (List.mem_of_getElem? (i := 174) rfl)
theorem k9_cw102 : k9_cwd 102 ∈ lw_tbl := k9_t2 (List.mem_of_getElem? (i := 206) rfl)
theorem k9_cw103 : k9_cwd 103 ∈ lw_tbl := k9_t2 (List.mem_of_getElem? (i := 219) rfl)
theorem k9_cw104 : k9_cwd 104 ∈ lw_tbl := k9_t2 (List.mem_of_getElem? (i := 227) rfl)
theorem k9_cw105 : k9_cwd 105 ∈ lw_tbl := k9_t3 (List.mem_of_getElem? (i := 43) rfl)
theorem k9_cw106 : k9_cwd 106 ∈ lw_tbl := k9_t3 (List.mem_of_getElem? (i := 132) rfl)
theorem k9_cw107 : k9_cwd 107 ∈ lw_tbl := k9_t3 (List.mem_of_getElem? (i := 140) rfl)
theorem k9_cw108 : k9_cwd 108 ∈ lw_tbl := k9_t3 (List.mem_of_getElem? (i := 149) rfl)
theorem k9_cw109 : k9_cwd 109 ∈ lw_tbl := k9_t3 (List.mem_of_getElem? (i := 161) rfl)
theorem k9_cw110 : k9_cwd 110 ∈ lw_tbl := k9_t3 (List.mem_of_getElem? (i := 171) rfl)
theorem k9_cw111 : k9_cwd 111 ∈ lw_tbl := k9_t3 (List.mem_of_getElem? (i := 180) rfl)
theorem k9_cw112 : k9_cwd 112 ∈ lw_tbl := k9_t3 (List.mem_of_getElem? (i := 188) rfl)
theorem k9_cw113 : k9_cwd 113 ∈ lw_tbl := k9_t3 (List.mem_of_getElem? (i := 193) rfl)
theorem k9_cw114 : k9_cwd 114 ∈ lw_tbl := k9_t3 (List.mem_of_getElem? (i := 197) rfl)
theorem k9_cw115 : k9_cwd 115 ∈ lw_tbl := k9_t4 (List.mem_of_getElem? (i := 15) rfl)
theorem k9_cw116 : k9_cwd 116 ∈ lw_tbl := k9_t4 (List.mem_of_getElem? (i := 24) rfl)
theorem k9_cw117 : k9_cwd 117 ∈ lw_tbl := k9_t4 (List.mem_of_getElem? (i := 36) rfl)
theorem k9_cw118 : k9_cwd 118 ∈ lw_tbl := k9_t4 (List.mem_of_getElem? (i := 44) rfl)
theorem k9_cw119 : k9_cwd 119 ∈ lw_tbl := k9_t4 (List.mem_of_getElem? (i := 53) rfl)
theorem k9_cw120 : k9_cwd 120 ∈ lw_tbl := k9_t4 (List.mem_of_getElem? (i := 58) rfl)
theorem k9_cw121 : k9_cwd 121 ∈ lw_tbl := k9_t4 (List.mem_of_getElem? (i := 67) rfl)
theorem k9_cw122 : k9_cwd 122 ∈ lw_tbl := k9_t4 (List.mem_of_getElem? (i := 79) rfl)
theorem k9_cw123 : k9_cwd 123 ∈ lw_tbl := k9_t4 (List.mem_of_getElem? (i := 83) rfl)
theorem k9_cw124 : k9_cwd 124 ∈ lw_tbl := k9_t4 (List.mem_of_getElem? (i := 93) rfl)
theorem k9_cw125 : k9_cwd 125 ∈ lw_tbl := k9_t4 (List.mem_of_getElem? (i := 97) rfl)
theorem k9_cw126 : k9_cwd 126 ∈ lw_tbl := k9_t4 (List.mem_of_getElem? (i := 107) rfl)
theorem k9_cw127 : k9_cwd 127 ∈ lw_tbl := k9_t4 (List.mem_of_getElem? (i := 115) rfl)
theorem k9_cw128 : k9_cwd 128 ∈ lw_tbl := k9_t4 (List.mem_of_getElem? (i := 128) rfl)
theorem k9_cw129 : k9_cwd 129 ∈ lw_tbl := k9_t4 (List.mem_of_getElem? (i := 136) rfl)
theorem k9_cw130 : k9_cwd 130 ∈ lw_tbl := k9_t4 (List.mem_of_getElem? (i := 144) rfl)
theorem k9_cw131 : k9_cwd 131 ∈ lw_tbl := k9_t4 (List.mem_of_getElem? (i := 152) rfl)
theorem k9_cw132 : k9_cwd 132 ∈ lw_tbl := k9_t4 (List.mem_of_getElem? (i := 156) rfl)
theorem k9_cw133 : k9_cwd 133 ∈ lw_tbl := k9_t4 (List.mem_of_getElem? (i := 165) rfl)
theorem k9_cw134 : k9_cwd 134 ∈ lw_tbl := k9_t4 (List.mem_of_getElem? (i := 173) rfl)
theorem k9_cw135 : k9_cwd 135 ∈ lw_tbl := k9_t4 (List.mem_of_getElem? (i := 181) rfl)
theorem k9_cw136 : k9_cwd 136 ∈ lw_tbl := k9_t4 (List.mem_of_getElem? (i := 219) rfl)
theorem k9_cw137 : k9_cwd 137 ∈ lw_tbl := k9_t4 (List.mem_of_getElem? (i := 232) rfl)
theorem k9_cw138 : k9_cwd 138 ∈ lw_tbl := k9_t5 (List.mem_of_getElem? (i := 0) rfl)
theorem k9_cw139 : k9_cwd 139 ∈ lw_tbl := k9_t5 (List.mem_of_getElem? (i := 8) rfl)
theorem k9_cw140 : k9_cwd 140 ∈ lw_tbl := k9_t5 (List.mem_of_getElem? (i := 24) rfl)
theorem k9_cw141 : k9_cwd 141 ∈ lw_tbl := k9_t5 (List.mem_of_getElem? (i := 30) rfl)
theorem k9_cw142 : k9_cwd 142 ∈ lw_tbl := k9_t5 (List.mem_of_getElem? (i := 39) rfl)
theorem k9_cw143 : k9_cwd 143 ∈ lw_tbl := k9_t5 (List.mem_of_getElem? (i := 47) rfl)
theorem k9_cw144 : k9_cwd 144 ∈ lw_tbl := k9_t2 (List.mem_of_getElem? (i := 154) rfl)
theorem k9_cw145 : k9_cwd 145 ∈ lw_tbl := k9_t3 (List.mem_of_getElem? (i := 46) rfl)
theorem k9_cw146 : k9_cwd 146 ∈ lw_tbl := k9_t2 (List.mem_of_getElem? (i := 162) rfl)
theorem k9_cw147 : k9_cwd 147 ∈ lw_tbl := k9_t2 (List.mem_of_getElem? (i := 146) rfl)
theorem k9_cw148 : k9_cwd 148 ∈ lw_tbl := k9_t3 (List.mem_of_getElem? (i := 50) rfl)
theorem k9_cw149 : k9_cwd 149 ∈ lw_tbl := k9_t3 (List.mem_of_getElem? (i := 225) rfl)
theorem k9_cw150 : k9_cwd 150 ∈ lw_tbl := k9_t3 (List.mem_of_getElem? (i := 201) rfl)
theorem k9_cw151 : k9_cwd 151 ∈ lw_tbl := k9_t4 (List.mem_of_getElem? (i := 71) rfl)
theorem k9_cw152 : k9_cwd 152 ∈ lw_tbl := k9_t4 (List.mem_of_getElem? (i := 87) rfl)
theorem k9_cw153 : k9_cwd 153 ∈ lw_tbl := k9_t5 (List.mem_of_getElem? (i := 220) rfl)
theorem k9_cw154 : k9_cwd 154 ∈ lw_tbl := k9_t6 (List.mem_of_getElem? (i := 4) rfl)
theorem k9_cw155 : k9_cwd 155 ∈ lw_tbl := k9_t6 (List.mem_of_getElem? (i := 97) rfl)
theorem k9_cw156 : k9_cwd 156 ∈ lw_tbl := k9_t5 (List.mem_of_getElem? (i := 231) rfl)
theorem k9_cw157 : k9_cwd 157 ∈ lw_tbl := k9_t5 (List.mem_of_getElem? (i := 224) rfl)
theorem k9_cw158 : k9_cwd 158 ∈ lw_tbl := k9_t5 (List.mem_of_getElem? (i := 217) rfl)
theorem k9_cw159 : k9_cwd 159 ∈ lw_tbl := k9_t5 (List.mem_of_getElem? (i := 228) rfl)
theorem k9_cw160 : k9_cwd 160 ∈ lw_tbl := k9_t6 (List.mem_of_getElem? (i := 0) rfl)
theorem k9_cw161 : k9_cwd 161 ∈ lw_tbl := k9_t6 (List.mem_of_getElem? (i := 7) rfl)
theorem k9_cw162 : k9_cwd 162 ∈ lw_tbl := k9_t6 (List.mem_of_getElem? (i := 11) rfl)
theorem k9_cw163 : k9_cwd 163 ∈ lw_tbl := k9_t6 (List.mem_of_getElem? (i := 15) rfl)
theorem k9_cw164 : k9_cwd 164 ∈ lw_tbl := k9_t5 (List.mem_of_getElem? (i := 236) rfl)
theorem k9_cw165 : k9_cwd 165 ∈ lw_tbl := k9_t6 (List.mem_of_getElem? (i := 19) rfl)
theorem k9_cw166 : k9_cwd 166 ∈ lw_tbl := k9_t6 (List.mem_of_getElem? (i := 31) rfl)
theorem k9_cw167 : k9_cwd 167 ∈ lw_tbl := k9_t6 (List.mem_of_getElem? (i := 35) rfl)
theorem k9_cw168 : k9_cwd 168 ∈ lw_tbl := k9_t6 (List.mem_of_getElem? (i := 39) rfl)
theorem k9_cw169 : k9_cwd 169 ∈ lw_tbl := k9_t6 (List.mem_of_getElem? (i := 79) rfl)
theorem k9_cw170 : k9_cwd 170 ∈ lw_tbl := k9_t6 (List.mem_of_getElem? (i := 90) rfl)
theorem k9_cw171 : k9_cwd 171 ∈ lw_tbl := k9_t6 (List.mem_of_getElem? (i := 83) rfl)
theorem k9_cw172 : k9_cwd 172 ∈ lw_tbl := k9_t6 (List.mem_of_getElem? (i := 75) rfl)
theorem k9_cw173 : k9_cwd 173 ∈ lw_tbl := k9_t6 (List.mem_of_getElem? (i := 86) rfl)
theorem k9_cw174 : k9_cwd 174 ∈ lw_tbl := k9_t6 (List.mem_of_getElem? (i := 71) rfl)
theorem k9_cw175 : k9_cwd 175 ∈ lw_tbl := k9_t6 (List.mem_of_getElem? (i := 67) rfl)
theorem k9_cw176 : k9_cwd 176 ∈ lw_tbl := k9_t6 (List.mem_of_getElem? (i := 63) rfl)
theorem k9_cw177 : k9_cwd 177 ∈ lw_tbl := k9_t6 (List.mem_of_getElem? (i := 59) rfl)
theorem k9_cw178 : k9_cwd 178 ∈ lw_tbl := k9_t6 (List.mem_of_getElem? (i := 55) rfl)
theorem k9_cw179 : k9_cwd 179 ∈ lw_tbl := k9_t6 (List.mem_of_getElem? (i := 51) rfl)
theorem k9_cw180 : k9_cwd 180 ∈ lw_tbl := k9_t6 (List.mem_of_getElem? (i := 47) rfl)
theorem k9_cw181 : k9_cwd 181 ∈ lw_tbl := k9_t6 (List.mem_of_getElem? (i := 43) rfl)
theorem k9_cw182 : k9_cwd 182 ∈ lw_tbl := k9_t6 (List.mem_of_getElem? (i := 121) rfl)
theorem k9_cw183 : k9_cwd 183 ∈ lw_tbl := k9_t6 (List.mem_of_getElem? (i := 118) rfl)
theorem k9_cw184 : k9_cwd 184 ∈ lw_tbl := k9_t6 (List.mem_of_getElem? (i := 23) rfl)
theorem k9_cw185 : k9_cwd 185 ∈ lw_tbl := k9_t6 (List.mem_of_getElem? (i := 27) rfl)
theorem k9_cw186 : k9_cwd 186 ∈ lw_tbl := k9_t6 (List.mem_of_getElem? (i := 110) rfl)
theorem k9_cw187 : k9_cwd 187 ∈ lw_tbl := k9_t6 (List.mem_of_getElem? (i := 114) rfl)
theorem k9_cw188 : k9_cwd 188 ∈ lw_tbl := k9_t6 (List.mem_of_getElem? (i := 105) rfl)
theorem k9_cw189 : k9_cwd 189 ∈ lw_tbl := k9_t6 (List.mem_of_getElem? (i := 101) rfl)
theorem k9_cw190 : k9_cwd 190 ∈ lw_tbl := k9_t6 (List.mem_of_getElem? (i := 129) rfl)
theorem k9_cw191 : k9_cwd 191 ∈ lw_tbl := k9_t6 (List.mem_of_getElem? (i := 141) rfl)
theorem k9_cw192 : k9_cwd 192 ∈ lw_tbl := k9_t6 (List.mem_of_getElem? (i := 94) rfl)
theorem k9_cw193 : k9_cwd 193 ∈ lw_tbl := k9_t6 (List.mem_of_getElem? (i := 133) rfl)
theorem k9_cw194 : k9_cwd 194 ∈ lw_tbl := k9_t6 (List.mem_of_getElem? (i := 125) rfl)
theorem k9_cw195 : k9_cwd 195 ∈ lw_tbl := k9_t6 (List.mem_of_getElem? (i := 137) rfl)
theorem k9_cw196 : k9_cwd 196 ∈ lw_tbl := k9_t6 (List.mem_of_getElem? (i := 146) rfl)
theorem k9_cw197 : k9_cwd 197 ∈ lw_tbl := k9_t6 (List.mem_of_getElem? (i := 154) rfl)
theorem k9_cw198 : k9_cwd 198 ∈ lw_tbl := k9_t6 (List.mem_of_getElem? (i := 150) rfl)
theorem k9_cw199 : k9_cwd 199 ∈ lw_tbl := k9_t6 (List.mem_of_getElem? (i := 162) rfl)
theorem k9_cw200 : k9_cwd 200 ∈ lw_tbl := k9_t6 (List.mem_of_getElem? (i := 158) rfl)
theorem k9_cw201 : k9_cwd 201 ∈ lw_tbl := k9_t6 (List.mem_of_getElem? (i := 170) rfl)
theorem k9_cw202 : k9_cwd 202 ∈ lw_tbl := k9_t6 (List.mem_of_getElem? (i := 166) rfl)
theorem k9_cw203 : k9_cwd 203 ∈ lw_tbl := k9_t6 (List.mem_of_getElem? (i := 174) rfl)
theorem k9_cw204 : k9_cwd 204 ∈ lw_tbl := k9_t6 (List.mem_of_getElem? (i := 178) rfl)
theorem k9_cw205 : k9_cwd 205 ∈ lw_tbl := k9_t6 (List.mem_of_getElem? (i := 186) rfl)
theorem k9_cw206 : k9_cwd 206 ∈ lw_tbl := k9_t6 (List.mem_of_getElem? (i := 190) rfl)
theorem k9_cw207 : k9_cwd 207 ∈ lw_tbl := k9_t6 (List.mem_of_getElem? (i := 182) rfl)
theorem k9_cw208 : k9_cwd 208 ∈ lw_tbl := k9_t6 (List.mem_of_getElem? (i := 198) rfl)
theorem k9_cw209 : k9_cwd 209 ∈ lw_tbl := k9_t6 (List.mem_of_getElem? (i := 202) rfl)
theorem k9_cw210 : k9_cwd 210 ∈ lw_tbl := k9_t6 (List.mem_of_getElem? (i := 206) rfl)
theorem k9_cw211 : k9_cwd 211 ∈ lw_tbl := k9_t6 (List.mem_of_getElem? (i := 194) rfl)
theorem k9_cw212 : k9_cwd 212 ∈ lw_tbl := k9_t6 (List.mem_of_getElem? (i := 210) rfl)
theorem k9_cw213 : k9_cwd 213 ∈ lw_tbl := k9_t6 (List.mem_of_getElem? (i := 214) rfl)
theorem k9_cw214 : k9_cwd 214 ∈ lw_tbl := k9_t6 (List.mem_of_getElem? (i := 218) rfl)
theorem k9_cw215 : k9_cwd 215 ∈ lw_tbl := k9_t6 (List.mem_of_getElem? (i := 223) rfl)
theorem k9_cw216 : k9_cwd 216 ∈ lw_tbl := k9_t6 (List.mem_of_getElem? (i := 231) rfl)
theorem k9_cw217 : k9_cwd 217 ∈ lw_tbl := k9_t6 (List.mem_of_getElem? (i := 227) rfl)
theorem k9_cw218 : k9_cwd 218 ∈ lw_tbl := k9_t6 (List.mem_of_getElem? (i := 235) rfl)
theorem k9_cw219 : k9_cwd 219 ∈ lw_tbl := k9_t6 (List.mem_of_getElem? (i := 239) rfl)
theorem k9_cw220 : k9_cwd 220 ∈ lw_tbl := k9_t7 (List.mem_of_getElem? (i := 3) rfl)
theorem k9_cw221 : k9_cwd 221 ∈ lw_tbl := k9_t7 (List.mem_of_getElem? (i := 7) rfl)
theorem k9_cw222 : k9_cwd 222 ∈ lw_tbl := k9_t7 (List.mem_of_getElem? (i := 11) rfl)
theorem k9_cw223 : k9_cwd 223 ∈ lw_tbl := k9_t7 (List.mem_of_getElem? (i := 16) rfl)
theorem k9_cw224 : k9_cwd 224 ∈ lw_tbl := k9_t7 (List.mem_of_getElem? (i := 20) rfl)
theorem k9_cw225 : k9_cwd 225 ∈ lw_tbl := k9_t7 (List.mem_of_getElem? (i := 24) rfl)
theorem k9_cw226 : k9_cwd 226 ∈ lw_tbl := k9_t7 (List.mem_of_getElem? (i := 28) rfl)
theorem k9_cw227 : k9_cwd 227 ∈ lw_tbl := k9_t7 (List.mem_of_getElem? (i := 32) rfl)
theorem k9_cw228 : k9_cwd 228 ∈ lw_tbl := k9_t7 (List.mem_of_getElem? (i := 36) rfl)
theorem k9_cw229 : k9_cwd 229 ∈ lw_tbl := k9_t7 (List.mem_of_getElem? (i := 55) rfl)
theorem k9_cw230 : k9_cwd 230 ∈ lw_tbl := k9_t7 (List.mem_of_getElem? (i := 52) rfl)
theorem k9_cw231 : k9_cwd 231 ∈ lw_tbl := k9_t7 (List.mem_of_getElem? (i := 48) rfl)
theorem k9_cw232 : k9_cwd 232 ∈ lw_tbl := k9_t7 (List.mem_of_getElem? (i := 59) rfl)
theorem k9_cw233 : k9_cwd 233 ∈ lw_tbl := k9_t7 (List.mem_of_getElem? (i := 63) rfl)
theorem k9_cw234 : k9_cwd 234 ∈ lw_tbl := k9_t7 (List.mem_of_getElem? (i := 67) rfl)
theorem k9_cw235 : k9_cwd 235 ∈ lw_tbl := k9_t7 (List.mem_of_getElem? (i := 40) rfl)
theorem k9_cw236 : k9_cwd 236 ∈ lw_tbl := k9_t7 (List.mem_of_getElem? (i := 44) rfl)
theorem k9_cw237 : k9_cwd 237 ∈ lw_tbl := k9_t7 (List.mem_of_getElem? (i := 71) rfl)
theorem k9_cw238 : k9_cwd 238 ∈ lw_tbl := k9_t7 (List.mem_of_getElem? (i := 75) rfl)
theorem k9_cw239 : k9_cwd 239 ∈ lw_tbl := k9_t7 (List.mem_of_getElem? (i := 79) rfl)
theorem k9_cw240 : k9_cwd 240 ∈ lw_tbl := k9_t7 (List.mem_of_getElem? (i := 87) rfl)
theorem k9_cw241 : k9_cwd 241 ∈ lw_tbl := k9_t7 (List.mem_of_getElem? (i := 90) rfl)
theorem k9_cw242 : k9_cwd 242 ∈ lw_tbl := k9_t7 (List.mem_of_getElem? (i := 83) rfl)
theorem k9_cw243 : k9_cwd 243 ∈ lw_tbl := k9_t7 (List.mem_of_getElem? (i := 94) rfl)
theorem k9_cw244 : k9_cwd 244 ∈ lw_tbl := k9_t7 (List.mem_of_getElem? (i := 99) rfl)
theorem k9_cw245 : k9_cwd 245 ∈ lw_tbl := k9_t7 (List.mem_of_getElem? (i := 103) rfl)
theorem k9_cw246 : k9_cwd 246 ∈ lw_tbl := k9_t7 (List.mem_of_getElem? (i := 107) rfl)
theorem k9_cws (z : Nat) (hz : z < k9_law) : k9_cwd z ∈ lw_tbl :=
  match z, hz with
  | 0, _ => k9_cw0
  | 1, _ => k9_cw1
  | 2, _ => k9_cw2
  | 3, _ => k9_cw3
  | 4, _ => k9_cw4
  | 5, _ => k9_cw5
  | 6, _ => k9_cw6
  | 7, _ => k9_cw7
  | 8, _ => k9_cw8
  | 9, _ => k9_cw9
  | 10, _ => k9_cw10
  | 11, _ => k9_cw11
  | 12, _ => k9_cw12
  | 13, _ => k9_cw13
  | 14, _ => k9_cw14
  | 15, _ => k9_cw15
  | 16, _ => k9_cw16
  | 17, _ => k9_cw17
  | 18, _ => k9_cw18
  | 19, _ => k9_cw19
  | 20, _ => k9_cw20
  | 21, _ => k9_cw21
  | 22, _ => k9_cw22
  | 23, _ => k9_cw23
  | 24, _ => k9_cw24
  | 25, _ => k9_cw25
  | 26, _ => k9_cw26
  | 27, _ => k9_cw27
  | 28, _ => k9_cw28
  | 29, _ => k9_cw29
  | 30, _ => k9_cw30
  | 31, _ => k9_cw31
  | 32, _ => k9_cw32
  | 33, _ => k9_cw33
  | 34, _ => k9_cw34
  | 35, _ => k9_cw35
  | 36, _ => k9_cw36
  | 37, _ => k9_cw37
  | 38, _ => k9_cw38
  | 39, _ => k9_cw39
  | 40, _ => k9_cw40
  | 41, _ => k9_cw41
  | 42, _ => k9_cw42
  | 43, _ => k9_cw43
  | 44, _ => k9_cw44
  | 45, _ => k9_cw45
  | 46, _ => k9_cw46
  | 47, _ => k9_cw47
  | 48, _ => k9_cw48
  | 49, _ => k9_cw49
  | 50, _ => k9_cw50
  | 51, _ => k9_cw51
  | 52, _ => k9_cw52
  | 53, _ => k9_cw53
  | 54, _ => k9_cw54
  | 55, _ => k9_cw55
  | 56, _ => k9_cw56
  | 57, _ => k9_cw57
  | 58, _ => k9_cw58
  | 59, _ => k9_cw59
  | 60, _ => k9_cw60
  | 61, _ => k9_cw61
  | 62, _ => k9_cw62
  | 63, _ => k9_cw63
  | 64, _ => k9_cw64
  | 65, _ => k9_cw65
  | 66, _ => k9_cw66
  | 67, _ => k9_cw67
  | 68, _ => k9_cw68
  | 69, _ => k9_cw69
  | 70, _ => k9_cw70
  | 71, _ => k9_cw71
  | 72, _ => k9_cw72
  | 73, _ => k9_cw73
  | 74, _ => k9_cw74
  | 75, _ => k9_cw75
  | 76, _ => k9_cw76
  | 77, _ => k9_cw77
  | 78, _ => k9_cw78
  | 79, _ => k9_cw79
  | 80, _ => k9_cw80
  | 81, _ => k9_cw81
  | 82, _ => k9_cw82
  | 83, _ => k9_cw83
  | 84, _ => k9_cw84
  | 85, _ => k9_cw85
  | 86, _ => k9_cw86
  | 87, _ => k9_cw87
  | 88, _ => k9_cw88
  | 89, _ => k9_cw89
  | 90, _ => k9_cw90
  | 91, _ => k9_cw91
  | 92, _ => k9_cw92
  | 93, _ => k9_cw93
  | 94, _ => k9_cw94
  | 95, _ => k9_cw95
  | 96, _ => k9_cw96
  | 97, _ => k9_cw97
  | 98, _ => k9_cw98
  | 99, _ => k9_cw99
  | 100, _ => k9_cw100
  | 101, _ => k9_cw101
  | 102, _ => k9_cw102
  | 103, _ => k9_cw103
  | 104, _ => k9_cw104
  | 105, _ => k9_cw105
  | 106, _ => k9_cw106
  | 107, _ => k9_cw107
  | 108, _ => k9_cw108
  | 109, _ => k9_cw109
  | 110, _ => k9_cw110
  | 111, _ => k9_cw111
  | 112, _ => k9_cw112
  | 113, _ => k9_cw113
  | 114, _ => k9_cw114
  | 115, _ => k9_cw115
  | 116, _ => k9_cw116
  | 117, _ => k9_cw117
  | 118, _ => k9_cw118
  | 119, _ => k9_cw119
  | 120, _ => k9_cw120
  | 121, _ => k9_cw121
  | 122, _ => k9_cw122
  | 123, _ => k9_cw123
  | 124, _ => k9_cw124
  | 125, _ => k9_cw125
  | 126, _ => k9_cw126
  | 127, _ => k9_cw127
  | 128, _ => k9_cw128
  | 129, _ => k9_cw129
  | 130, _ => k9_cw130
  | 131, _ => k9_cw131
  | 132, _ => k9_cw132
  | 133, _ => k9_cw133
  | 134, _ => k9_cw134
  | 135, _ => k9_cw135
  | 136, _ => k9_cw136
  | 137, _ => k9_cw137
  | 138, _ => k9_cw138
  | 139, _ => k9_cw139
  | 140, _ => k9_cw140
  | 141, _ => k9_cw141
  | 142, _ => k9_cw142
  | 143, _ => k9_cw143
  | 144, _ => k9_cw144
  | 145, _ => k9_cw145
  | 146, _ => k9_cw146
  | 147, _ => k9_cw147
  | 148, _ => k9_cw148
  | 149, _ => k9_cw149
  | 150, _ => k9_cw150
  | 151, _ => k9_cw151
  | 152, _ => k9_cw152
  | 153, _ => k9_cw153
  | 154, _ => k9_cw154
  | 155, _ => k9_cw155
  | 156, _ => k9_cw156
  | 157, _ => k9_cw157
  | 158, _ => k9_cw158
  | 159, _ => k9_cw159
  | 160, _ => k9_cw160
  | 161, _ => k9_cw161
  | 162, _ => k9_cw162
  | 163, _ => k9_cw163
  | 164, _ => k9_cw164
  | 165, _ => k9_cw165
  | 166, _ => k9_cw166
  | 167, _ => k9_cw167
  | 168, _ => k9_cw168
  | 169, _ => k9_cw169
  | 170, _ => k9_cw170
  | 171, _ => k9_cw171
  | 172, _ => k9_cw172
  | 173, _ => k9_cw173
  | 174, _ => k9_cw174
  | 175, _ => k9_cw175
  | 176, _ => k9_cw176
  | 177, _ => k9_cw177
  | 178, _ => k9_cw178
  | 179, _ => k9_cw179
  | 180, _ => k9_cw180
  | 181, _ => k9_cw181
  | 182, _ => k9_cw182
  | 183, _ => k9_cw183
  | 184, _ => k9_cw184
  | 185, _ => k9_cw185
  | 186, _ => k9_cw186
  | 187, _ => k9_cw187
  | 188, _ => k9_cw188
  | 189, _ => k9_cw189
  | 190, _ => k9_cw190
  | 191, _ => k9_cw191
  | 192, _ => k9_cw192
  | 193, _ => k9_cw193
  | 194, _ => k9_cw194
  | 195, _ => k9_cw195
  | 196, _ => k9_cw196
  | 197, _ => k9_cw197
  | 198, _ => k9_cw198
  | 199, _ => k9_cw199
  | 200, _ => k9_cw200
  | 201, _ => k9_cw201
  | 202, _ => k9_cw202
  | 203, _ => k9_cw203
  | 204, _ => k9_cw204
  | 205, _ => k9_cw205
  | 206, _ => k9_cw206
  | 207, _ => k9_cw207
  | 208, _ => k9_cw208
  | 209, _ => k9_cw209
  | 210, _ => k9_cw210
  | 211, _ => k9_cw211
  | 212, _ => k9_cw212
  | 213, _ => k9_cw213
  | 214, _ => k9_cw214
  | 215, _ => k9_cw215
  | 216, _ => k9_cw216
  | 217, _ => k9_cw217
  | 218, _ => k9_cw218
  | 219, _ => k9_cw219
  | 220, _ => k9_cw220
  | 221, _ => k9_cw221
  | 222, _ => k9_cw222
  | 223, _ => k9_cw223
  | 224, _ => k9_cw224
  | 225, _ => k9_cw225
  | 226, _ => k9_cw226
  | 227, _ => k9_cw227
  | 228, _ => k9_cw228
  | 229, _ => k9_cw229
  | 230, _ => k9_cw230
  | 231, _ => k9_cw231
  | 232, _ => k9_cw232
  | 233, _ => k9_cw233
  | 234, _ => k9_cw234
  | 235, _ => k9_cw235
  | 236, _ => k9_cw236
  | 237, _ => k9_cw237
  | 238, _ => k9_cw238
  | 239, _ => k9_cw239
  | 240, _ => k9_cw240
  | 241, _ => k9_cw241
  | 242, _ => k9_cw242
  | 243, _ => k9_cw243
  | 244, _ => k9_cw244
  | 245, _ => k9_cw245
  | 246, _ => k9_cw246
  | z + 247, hz => absurd hz (by show ¬ z + 247 < 247; omega)
theorem k9_Bi0 : k9_B0 = [402, 404, 406, 408, 410, 412, 414, 416, 418, 420, 422, 424, 426, 428, 430, 200, 202, 204, 206, 208, 210, 120, 122, 124, 126, 128, 130, 132, 134, 164, 166, 168, 170, 172, 174, 176, 178, 180, 182, 184, 186, 188, 190, 226, 228, 230, 232, 234, 250, 252].filterMap (fun i => lw_tbl[i]?) := by decide +kernel
theorem k9_Bg0 : k9_B0.all goodWord = true := by decide +kernel
theorem k9_Bi1 : k9_B1 = [254, 256, 258, 260, 271, 273, 290, 292, 294, 296, 298, 300, 319, 321, 323, 325, 327, 329, 331, 347, 349, 351, 353, 355, 375, 377, 379, 381, 383, 1138, 1140, 1142, 1144, 1146, 1148, 1150, 1152, 1154, 1156, 1158, 1160, 1162, 1164, 1166, 1168, 1170, 1172, 1174, 1176, 1178].filterMap (fun i => lw_tbl[i]?) := by decide +kernel
theorem k9_Bg1 : k9_B1.all goodWord = true := by decide +kernel
theorem k9_Bi2 : k9_B2 = [1180, 1182, 1184, 1186, 1188, 1190, 1192, 1194, 1196, 1198, 1200, 1202, 1204, 1206, 1208, 1210, 1212, 1214, 1216, 1218, 1220, 1222, 1224, 1226, 1228, 1230, 1232, 1234, 1236, 1238, 1240, 1242, 72, 73, 74, 75, 76, 77, 78, 79, 80, 81, 82, 83, 438, 441, 446, 492, 3, 487].filterMap (fun i => lw_tbl[i]?) := by decide +kernel
theorem k9_Bg2 : k9_B2.all goodWord = true := by decide +kernel
theorem k9_Bi3 : k9_B3 = [488, 495, 496, 499, 500, 504, 4, 451, 452, 519, 520, 523, 524, 608, 609, 618, 619, 631, 632, 817, 818, 829, 830, 778, 779, 783, 21, 791, 22, 890, 891, 612, 613, 626, 627, 661, 662, 639, 636, 786, 787, 754, 755, 770, 771, 762, 763, 767, 19, 758].filterMap (fun i => lw_tbl[i]?) := by decide +kernel
theorem k9_Bg3 : k9_B3.all goodWord = true := by decide +kernel
theorem k9_Bi4 : k9_B4 = [759, 821, 822, 794, 795, 800, 23, 532, 533, 588, 589, 540, 541, 545, 6, 549, 7, 553, 8, 564, 10, 557, 9, 575, 12, 568, 11, 560, 571, 578, 581, 582, 642, 643, 651, 15, 654, 658, 16, 647, 14, 864, 865, 603, 604, 666, 17, 669, 670, 673].filterMap (fun i => lw_tbl[i]?) := by decide +kernel
theorem k9_Bg4 : k9_B4.all goodWord = true := by decide +kernel
theorem k9_Bi5 : k9_B5 = [674, 677, 678, 685, 686, 693, 694, 702, 703, 714, 715, 724, 725, 733, 734, 838, 839, 851, 852, 507, 508, 512, 5, 949, 950, 958, 959, 900, 901, 908, 909, 913, 914, 921, 922, 929, 930, 937, 938, 966, 967, 978, 979, 1073, 995, 1012, 1013, 1017, 1018, 974].filterMap (fun i => lw_tbl[i]?) := by decide +kernel
theorem k9_Bg5 : k9_B5.all goodWord = true := by decide +kernel
theorem k9_Bi6 : k9_B6 = [975, 983, 26, 987, 27, 990, 1001, 28, 1005, 29, 1025, 1026, 1033, 1034, 467, 468, 808, 809, 1041, 1042, 479, 480, 475, 476, 1045, 1046, 1050, 30, 1063, 1064, 434, 435, 459, 460, 483, 484, 515, 516, 528, 529, 536, 537, 592, 593, 681, 682, 689, 690, 698, 699].filterMap (fun i => lw_tbl[i]?) := by decide +kernel
theorem k9_Bg6 : k9_B6.all goodWord = true := by decide +kernel
theorem k9_Bi7 : k9_B7 = [710, 711, 720, 721, 729, 730, 737, 738, 742, 743, 746, 747, 804, 805, 813, 814, 825, 826, 833, 834, 842, 843, 847, 848, 856, 857, 868, 869, 872, 873, 882, 883, 886, 887, 896, 897, 904, 905, 917, 918, 925, 926, 933, 934, 941, 942, 945, 946, 954, 955].filterMap (fun i => lw_tbl[i]?) := by decide +kernel
theorem k9_Bg7 : k9_B7.all goodWord = true := by decide +kernel
theorem k9_Bi8 : k9_B8 = [962, 963, 970, 971, 1008, 1009, 1021, 1022, 1029, 1030, 1037, 1038, 1053, 1054, 1059, 1060, 1068, 1069, 1076, 1077, 464, 1, 596, 472, 2, 456, 0, 600, 13, 775, 20, 751, 18, 861, 24, 877, 25, 1250, 1274, 33, 1367, 1261, 1254, 31, 1246, 1247, 1257, 1258, 1270, 32].filterMap (fun i => lw_tbl[i]?) := by decide +kernel
theorem k9_Bg8 : k9_B8.all goodWord = true := by decide +kernel
theorem k9_Bi9 : k9_B9 = [1277, 1281, 34, 1285, 35, 1265, 1266, 1288, 1289, 1300, 1301, 1304, 1305, 1308, 1309, 1349, 46, 1360, 48, 1353, 47, 1345, 45, 1356, 1341, 44, 1337, 43, 1333, 42, 1329, 41, 1325, 40, 1321, 39, 1317, 38, 1312, 1313, 1391, 1388, 52, 1293, 36, 1297, 37, 1380, 1384, 51].filterMap (fun i => lw_tbl[i]?) := by decide +kernel
theorem k9_Bg9 : k9_B9.all goodWord = true := by decide +kernel
theorem k9_Bi10 : k9_B10 = [1375, 50, 1371, 49, 1399, 53, 1411, 55, 1363, 1364, 1403, 54, 1394, 1395, 1406, 1407, 1415, 1416, 1424, 56, 1419, 1420, 1432, 57, 1427, 1428, 1440, 58, 1435, 1436, 1443, 1444, 1447, 1448, 1456, 59, 1460, 60, 1451, 1452, 1468, 61, 1472, 62, 1476, 63, 1463, 1464, 1479, 1480].filterMap (fun i => lw_tbl[i]?) := by decide +kernel
theorem k9_Bg10 : k9_B10.all goodWord = true := by decide +kernel
theorem k9_Bi11 : k9_B11 = [1483, 1484, 1487, 1488, 1492, 1493, 1501, 64, 1496, 1497, 1504, 1505, 1508, 1509, 1512, 1513, 1516, 1517, 1520, 1521, 1525, 1526, 1529, 1530, 1533, 1534, 1537, 1538, 1541, 1542, 1545, 1546, 1565, 1562, 66, 1558, 65, 1569, 67, 1573, 68, 1577, 69, 1549, 1550, 1553, 1554, 1580, 1581, 1584].filterMap (fun i => lw_tbl[i]?) := by decide +kernel
theorem k9_Bg11 : k9_B11.all goodWord = true := by decide +kernel
theorem k9_Bi12 : k9_B12 = [1585, 1588, 1589, 1597, 70, 1600, 1592, 1593, 1603, 1604, 1608, 1609, 1612, 1613, 1616, 1617, 84, 623, 624, 585, 586, 707, 708, 440, 445, 443, 448, 107, 490, 116, 117, 118, 119, 108, 112, 115, 502, 526, 634, 781, 789, 785, 893, 894, 105, 154, 156, 157, 615, 158].filterMap (fun i => lw_tbl[i]?) := by decide +kernel
theorem k9_Bg12 : k9_B12.all goodWord = true := by decide +kernel
theorem k9_Bi13 : k9_B13 = [159, 160, 616, 161, 617, 162, 621, 163, 629, 630, 144, 635, 146, 149, 150, 638, 152, 270, 269, 765, 761, 797, 798, 219, 223, 222, 224, 225, 543, 573, 547, 566, 551, 555, 577, 559, 562, 570, 245, 243, 221, 584, 247, 246, 587, 148, 249, 645, 649, 656].filterMap (fun i => lw_tbl[i]?) := by decide +kernel
theorem k9_Bg13 : k9_B13.all goodWord = true := by decide +kernel
theorem k9_Bi14 : k9_B14 = [147, 151, 153, 155, 653, 248, 193, 114, 111, 109, 244, 606, 198, 607, 199, 195, 611, 622, 625, 641, 660, 664, 196, 145, 197, 696, 705, 706, 717, 718, 727, 372, 854, 282, 510, 286, 287, 288, 289, 284, 952, 309, 311, 313, 911, 317, 315, 316, 318, 340].filterMap (fun i => lw_tbl[i]?) := by decide +kernel
theorem k9_Bg14 : k9_B14.all goodWord = true := by decide +kernel
theorem k9_Bi15 : k9_B15 = [344, 994, 997, 342, 1015, 345, 977, 346, 981, 985, 989, 999, 1003, 992, 365, 367, 369, 371, 374, 478, 1048, 1066, 437, 387, 194, 106, 450, 454, 462, 366, 466, 470, 486, 494, 498, 393, 506, 518, 522, 389, 531, 220, 539, 390, 580, 595, 598, 668, 672, 676].filterMap (fun i => lw_tbl[i]?) := by decide +kernel
theorem k9_Bg15 : k9_B15.all goodWord = true := by decide +kernel
theorem k9_Bi16 : k9_B16 = [684, 692, 701, 713, 723, 732, 740, 749, 401, 392, 802, 807, 391, 753, 373, 474, 811, 757, 773, 816, 820, 388, 828, 110, 602, 836, 837, 113, 845, 850, 859, 875, 889, 394, 310, 899, 907, 312, 912, 920, 928, 395, 936, 398, 314, 948, 283, 957, 285, 396].filterMap (fun i => lw_tbl[i]?) := by decide +kernel
theorem k9_Bg16 : k9_B16.all goodWord = true := by decide +kernel
theorem k9_Bi17 : k9_B17 = [965, 341, 973, 1011, 1016, 1024, 1032, 1040, 1044, 1056, 1057, 370, 1062, 368, 1071, 1072, 343, 397, 399, 400, 777, 769, 793, 863, 879, 880, 1085, 1249, 1086, 1087, 1088, 1089, 1252, 1260, 1120, 1263, 1121, 1122, 1272, 1090, 1268, 1276, 1279, 1283, 1114, 1115, 1113, 1291, 1295, 1091].filterMap (fun i => lw_tbl[i]?) := by decide +kernel
theorem k9_Bg17 : k9_B17.all goodWord = true := by decide +kernel
theorem k9_Bi18 : k9_B18 = [1092, 1099, 1347, 1106, 1101, 1343, 1351, 1355, 1100, 1358, 1339, 1319, 1335, 1331, 1327, 1323, 1103, 1102, 1104, 1105, 1315, 1093, 1094, 1095, 1096, 1097, 1098, 1107, 1126, 1390, 1386, 1377, 1378, 1124, 1123, 1125, 1379, 1127, 1382, 1128, 1136, 1369, 1373, 1129, 1130, 1131, 1132, 1413, 1133, 1366].filterMap (fun i => lw_tbl[i]?) := by decide +kernel
theorem k9_Bg18 : k9_B18.all goodWord = true := by decide +kernel
theorem k9_Bi19 : k9_B19 = [1397, 1401, 1409, 1422, 1430, 1438, 1135, 1458, 1134, 1454, 1466, 1470, 1474, 1490, 1499, 1137, 1523, 1108, 1109, 1110, 1111, 1112, 1118, 1119, 1560, 1556, 1564, 1117, 1567, 1571, 1575, 1116, 1595, 1599, 1606, 433, 1245, 458, 1256, 482, 1264, 514, 1287, 527, 1307, 535, 1311, 591, 1362, 680].filterMap (fun i => lw_tbl[i]?) := by decide +kernel
theorem k9_Bg19 : k9_B19.all goodWord = true := by decide +kernel
theorem k9_Bi20 : k9_B20 = [1393, 688, 1405, 697, 1414, 709, 1418, 719, 1426, 728, 1434, 736, 1442, 741, 1446, 745, 1450, 803, 1462, 812, 1478, 824, 1482, 832, 1486, 841, 1491, 846, 1495, 855, 1503, 867, 1507, 871, 1511, 881, 1515, 885, 1519, 895, 1524, 903, 1528, 916, 1532, 924, 1536, 932, 1540, 940].filterMap (fun i => lw_tbl[i]?) := by decide +kernel
theorem k9_Bg20 : k9_B20.all goodWord = true := by decide +kernel
theorem k9_Bi21 : k9_B21 = [1544, 944, 1299, 953, 1303, 961, 1548, 969, 1552, 1007, 1579, 1020, 1583, 1028, 1587, 1619, 1036, 1591, 1052, 1602, 1058, 1607, 1067, 1611, 1075, 1615, 91, 92, 85, 86, 87, 88, 89, 90, 93, 94, 96, 97, 98, 99, 100, 102, 103, 104, 137, 138, 139, 141, 142, 143].filterMap (fun i => lw_tbl[i]?) := by decide +kernel
theorem k9_Bg21 : k9_B21.all goodWord = true := by decide +kernel
theorem k9_Bi22 : k9_B22 = [213, 214, 216, 217, 218, 237, 238, 240, 241, 242, 263, 264, 266, 267, 268, 276, 277, 279, 280, 281, 303, 304, 306, 307, 308, 334, 335, 337, 338, 339, 358, 360, 362, 363, 364, 386, 1079, 1080, 1081, 1082, 1083, 1084].filterMap (fun i => lw_tbl[i]?) := by decide +kernel
theorem k9_Bg22 : k9_B22.all goodWord = true := by decide +kernel
theorem k9_Bin {B : List Cond} {ps : List Nat} (h : B = ps.filterMap (fun i => lw_tbl[i]?)) {w : Cond} (hw : w ∈ B) : w ∈ lw_tbl := by
  rw [h] at hw
  obtain ⟨i, -, hi⟩ := List.mem_filterMap.mp hw
  exact List.mem_of_getElem? hi
theorem k9_TBn_mem : ∀ w ∈ k9_TBn, w ∈ lw_tbl ∧ goodWord w = true := by
  intro w hw
  unfold k9_TBn at hw
  simp only [List.mem_append] at hw
  rcases hw with hw | hw | hw | hw | hw | hw | hw | hw | hw | hw | hw | hw | hw | hw | hw | hw | hw | hw | hw | hw | hw | hw | hw
  · exact ⟨k9_Bin k9_Bi0 hw, List.all_eq_true.mp k9_Bg0 w hw⟩
  · exact ⟨k9_Bin k9_Bi1 hw, List.all_eq_true.mp k9_Bg1 w hw⟩
  · exact ⟨k9_Bin k9_Bi2 hw, List.all_eq_true.mp k9_Bg2 w hw⟩
  · exact ⟨k9_Bin k9_Bi3 hw, List.all_eq_true.mp k9_Bg3 w hw⟩
  · exact ⟨k9_Bin k9_Bi4 hw, List.all_eq_true.mp k9_Bg4 w hw⟩
  · exact ⟨k9_Bin k9_Bi5 hw, List.all_eq_true.mp k9_Bg5 w hw⟩
  · exact ⟨k9_Bin k9_Bi6 hw, List.all_eq_true.mp k9_Bg6 w hw⟩
  · exact ⟨k9_Bin k9_Bi7 hw, List.all_eq_true.mp k9_Bg7 w hw⟩
  · exact ⟨k9_Bin k9_Bi8 hw, List.all_eq_true.mp k9_Bg8 w hw⟩
  · exact ⟨k9_Bin k9_Bi9 hw, List.all_eq_true.mp k9_Bg9 w hw⟩
  · exact ⟨k9_Bin k9_Bi10 hw, List.all_eq_true.mp k9_Bg10 w hw⟩
  · exact ⟨k9_Bin k9_Bi11 hw, List.all_eq_true.mp k9_Bg11 w hw⟩
  · exact ⟨k9_Bin k9_Bi12 hw, List.all_eq_true.mp k9_Bg12 w hw⟩
  · exact ⟨k9_Bin k9_Bi13 hw, List.all_eq_true.mp k9_Bg13 w hw⟩
  · exact ⟨k9_Bin k9_Bi14 hw, List.all_eq_true.mp k9_Bg14 w hw⟩
  · exact ⟨k9_Bin k9_Bi15 hw, List.all_eq_true.mp k9_Bg15 w hw⟩
  · exact ⟨k9_Bin k9_Bi16 hw, List.all_eq_true.mp k9_Bg16 w hw⟩
  · exact ⟨k9_Bin k9_Bi17 hw, List.all_eq_true.mp k9_Bg17 w hw⟩
  · exact ⟨k9_Bin k9_Bi18 hw, List.all_eq_true.mp k9_Bg18 w hw⟩
  · exact ⟨k9_Bin k9_Bi19 hw, List.all_eq_true.mp k9_Bg19 w hw⟩
  · exact ⟨k9_Bin k9_Bi20 hw, List.all_eq_true.mp k9_Bg20 w hw⟩
  · exact ⟨k9_Bin k9_Bi21 hw, List.all_eq_true.mp k9_Bg21 w hw⟩
  · exact ⟨k9_Bin k9_Bi22 hw, List.all_eq_true.mp k9_Bg22 w hw⟩
theorem k9_TB_mem : ∀ w ∈ k9_TB, w ∈ lw_tbl := by
  intro w hw
  rcases List.mem_append.mp hw with hw | hw
  · obtain ⟨z, hz, rfl⟩ := List.mem_map.mp hw
    exact k9_cws z (List.mem_range.mp hz)
  · exact (k9_TBn_mem w hw).1
theorem k9_TB_good : k9_TB.all goodWord = true := by
  refine List.all_eq_true.mpr fun w hw => ?_
  rcases List.mem_append.mp hw with hw | hw
  · obtain ⟨z, hz, rfl⟩ := List.mem_map.mp hw
    rfl
  · exact (k9_TBn_mem w hw).2
theorem k9_TBn_in {w : Cond} (h : w ∈ k9_TBn) : w ∈ k9_TB := List.mem_append_right _ h
theorem k9_TBc_in {z : Nat} (hz : z < k9_law) : Cond.code (k9_nm z) (k9_by z) (k9_ml z) (k9_rt z) ∈ k9_TB := List.mem_append_left _ (List.mem_map.mpr ⟨z, List.mem_range.mpr hz, rfl⟩)
theorem k9_NS_at : k9_NS = k9_NSi.filterMap (fun i => lw_tbl[i]?) := by decide +kernel
theorem k9_NS_mem : ∀ w ∈ k9_NS, w ∈ lw_tbl := by
  intro w hw
  rw [k9_NS_at] at hw
  obtain ⟨i, -, hi⟩ := List.mem_filterMap.mp hw
  exact List.mem_of_getElem? hi
def k9_isN : Cond → Bool
  | .methodLinkNest _ _ _ _ => true
  | _ => false
theorem k9_NS_isN : k9_NS.all k9_isN = true := by decide +kernel
theorem k9_NS_warm {w : Cond} (hw : w ∈ k9_NS) {s U : State} (hW : s.WarmedH U.vm) (h : va_Nw w s) : va_Nw w U := by
  have h1 := List.all_eq_true.mp k9_NS_isN w hw
  cases w <;> first | exact va_Nw.warmM hW h | cases h1
def k9_tyf (k j : Nat) : FieldType := (parseFieldDescriptor ((k9_vc k).2.1 j).2.2.1).getD .int
theorem k9_kd {k : Nat} (h : k9_ob k = true) : vwCl[k9_ci k]? = some ((k9_vc k).1, (k9_vc k).2.1, (k9_vc k).2.2) ∧ (∀ w ∈ u_ws (k9_vc k).1 (k9_vc k).2.1 (k9_vc k).2.2, w ∈ k9_TB) ∧ (∀ j, j < (k9_vc k).2.2 → parseFieldDescriptor ((k9_vc k).2.1 j).2.2.1 = some (k9_tyf k j)) ∧ (∀ a, a < (k9_vc k).2.2 → ∀ b, b < (k9_vc k).2.2 → a ≠ b → ((k9_vc k).2.1 a).2.1 ≠ ((k9_vc k).2.1 b).2.1) := by
  simp only [k9_ob, Bool.and_eq_true] at h
  have h1 := Nat.le_of_ble_eq_true h.1.2
  have h2 := Nat.le_of_ble_eq_true h.2
  have h3 : k = 1 ∨ k = 2 ∨ k = 3 ∨ k = 4 ∨ k = 5 ∨ k = 6 ∨ k = 7 ∨ k = 8 ∨ k = 9 ∨ k = 10 ∨ k = 11 ∨ k = 12 := by omega
  clear h h1 h2
  rcases h3 with rfl | rfl | rfl | rfl | rfl | rfl | rfl | rfl | rfl | rfl | rfl | rfl
  all_goals exact ⟨rfl, fun w hw => k9_TBn_in ((by decide +kernel : ∀ w ∈ u_ws _ _ _, w ∈ k9_TBn) w hw), by decide +kernel, by decide +kernel⟩
theorem k9_et_0 : k9_et 0 = 0 := rfl
theorem k9_cells_nd : va_nd (k9_cells.map (fun q => q.1 * 1000 + q.2)) = true := by decide +kernel
def k9_okr (q : Nat × Nat) : Bool := Nat.beq q.1 0 || decide (q ∈ k9_cells) || Nat.ble 9 (k9_et q.1)
theorem k9_fr_ok : (k9_cells.all fun q => (List.range (k9_vc q.1).2.2).all fun s => !(Nat.beq (k9_ft q.1 s) 2) || k9_okr (k9_fr q.1 s q.2)) = true := by decide +kernel
theorem k9_ar_ok : (k9_cells.all fun q => !(Nat.beq (k9_et q.1) 3) || (List.range (k9_len q.1)).all fun j => k9_okr (k9_ar q.1 q.2 j)) = true := by decide +kernel
theorem k9_tab_in {k : Nat} (h : Nat.beq (k9_et k) 9 = true) : ∃ q, q ∈ k9_tabs ∧ q.1 = k := by
  have h0 : ∀ k < 91, Nat.beq (k9_et k) 9 = true → k = 80 ∨ k = 81 ∨ k = 82 ∨ k = 83 := by decide +kernel
  have h1 : k < 91 := by
    apply Nat.lt_of_not_le
    intro hk
    have h2 : ∀ (l : List Nat) (n : Nat), l.length ≤ n → k9_nth 0 l n = 0 := by
      intro l
      induction l with
      | nil => intro n _; cases n <;> rfl
      | cons a l ih =>
        intro n hn
        cases n with
        | zero => cases hn
        | succ n => exact ih n (Nat.le_of_succ_le_succ hn)
    have h3 : k9_et k = 0 := h2 k9_ets k hk
    rw [h3] at h
    cases h
  rcases h0 k h1 h with rfl | rfl | rfl | rfl
  · exact ⟨_, List.mem_of_getElem? (i := 0) rfl, rfl⟩
  · exact ⟨_, List.mem_of_getElem? (i := 1) rfl, rfl⟩
  · exact ⟨_, List.mem_of_getElem? (i := 2) rfl, rfl⟩
  · exact ⟨_, List.mem_of_getElem? (i := 3) rfl, rfl⟩
theorem k9_math_max : Cond.static Lib.Math.max.name ∈ k9_TB ∧ Cond.initialized "java/lang/Math" ∈ k9_TB ∧ Cond.code Lib.Math.max.name Lib.Math.max.code 2 (some .int) ∈ k9_TB := ⟨k9_TBn_in (by decide +kernel), k9_TBn_in (by decide +kernel), k9_TBn_in (by decide +kernel)⟩
theorem k9_math_min : Cond.static Lib.Math.min.name ∈ k9_TB ∧ Cond.initialized "java/lang/Math" ∈ k9_TB ∧ Cond.code Lib.Math.min.name Lib.Math.min.code 2 (some .int) ∈ k9_TB := ⟨k9_TBn_in (by decide +kernel), k9_TBn_in (by decide +kernel), k9_TBn_in (by decide +kernel)⟩
theorem k9_math_abs : Cond.static Lib.Math.abs.name ∈ k9_TB ∧ Cond.initialized "java/lang/Math" ∈ k9_TB ∧ Cond.code Lib.Math.abs.name Lib.Math.abs.code 1 (some .int) ∈ k9_TB := ⟨k9_TBn_in (by decide +kernel), k9_TBn_in (by decide +kernel), k9_TBn_in (by decide +kernel)⟩
def k9_mpl : List k9_W := [
  (0, 134, 144, 0), (0, 134, 145, 0), (0, 134, 146, 0), (0, 134, 147, 148), (0, 134, 149, 150), (0, 134, 151, 152), (0, 134, 153, 154), (0, 134, 155, 156), (0, 134, 157, 158), (0, 134, 159, 160),
  (0, 134, 161, 162), (0, 134, 163, 164), (0, 134, 165, 166), (0, 134, 167, 168), (0, 134, 169, 170), (0, 134, 171, 172), (0, 134, 173, 174), (0, 134, 175, 176), (0, 134, 177, 178), (0, 134, 179, 180),
  (0, 135, 181, 182), (0, 135, 183, 184), (0, 135, 185, 186), (0, 135, 187, 0), (0, 135, 188, 0), (0, 138, 189, 190), (0, 138, 191, 192), (0, 138, 193, 194), (0, 138, 195, 196), (0, 138, 197, 198),
  (0, 138, 199, 200), (0, 138, 201, 202), (0, 138, 203, 204), (0, 138, 205, 206), (0, 136, 207, 208), (0, 136, 209, 210), (0, 136, 211, 212), (0, 136, 213, 214), (0, 136, 215, 216), (0, 136, 217, 218),
  (0, 136, 219, 220), (0, 136, 221, 222), (0, 136, 223, 224), (0, 136, 225, 226), (0, 136, 227, 0), (0, 136, 228, 0), (0, 136, 229, 0), (0, 137, 230, 231), (0, 137, 232, 233), (0, 137, 234, 235),
  (0, 137, 236, 0), (0, 137, 237, 238), (0, 137, 239, 240), (0, 133, 241, 242), (0, 133, 243, 244), (0, 133, 245, 246), (0, 133, 247, 248), (0, 133, 249, 250), (0, 133, 251, 252), (0, 133, 253, 254),
  (0, 133, 255, 256), (0, 133, 257, 258), (0, 133, 259, 260), (0, 133, 261, 262), (0, 133, 263, 264), (0, 133, 265, 266), (0, 133, 267, 268), (0, 139, 269, 270), (0, 139, 271, 272), (0, 139, 273, 274),
  (0, 139, 275, 276), (0, 140, 277, 278), (0, 140, 279, 280), (0, 140, 281, 282), (0, 140, 283, 284), (0, 140, 285, 286), (0, 140, 287, 288), (0, 141, 289, 290), (0, 141, 291, 292), (0, 141, 293, 0),
  (0, 141, 294, 0), (0, 141, 295, 296), (0, 141, 297, 298), (0, 141, 299, 300), (0, 141, 301, 302), (0, 141, 303, 304), (0, 141, 305, 0), (0, 141, 306, 307), (0, 141, 308, 309), (0, 142, 310, 311),
  (0, 142, 312, 313), (0, 142, 314, 315), (0, 142, 316, 317), (0, 142, 318, 319), (0, 142, 320, 321), (0, 142, 322, 323), (0, 142, 324, 325), (0, 142, 326, 327), (0, 142, 328, 329), (0, 132, 330, 331),
  (0, 132, 332, 333), (0, 132, 334, 335), (0, 132, 336, 337), (0, 132, 338, 339), (0, 132, 340, 341), (0, 132, 342, 343), (0, 132, 344, 345), (0, 132, 346, 347), (0, 132, 348, 349), (0, 132, 350, 351),
  (0, 132, 352, 353), (0, 132, 354, 355), (0, 132, 356, 357), (0, 132, 358, 359), (0, 132, 360, 361), (0, 132, 362, 363), (0, 132, 364, 365), (0, 132, 366, 367), (0, 132, 368, 369), (0, 132, 370, 371),
  (0, 132, 372, 373), (0, 132, 374, 375), (0, 132, 376, 377), (0, 132, 378, 379), (0, 132, 380, 381), (0, 132, 382, 383), (0, 132, 384, 385), (0, 132, 386, 387), (0, 132, 388, 389), (0, 132, 390, 391),
  (0, 132, 392, 393), (0, 132, 394, 395), (0, 132, 396, 397), (0, 132, 398, 399), (0, 132, 400, 401), (0, 132, 402, 403), (0, 132, 404, 405), (0, 132, 406, 407), (0, 132, 408, 409), (0, 132, 410, 411),
  (0, 132, 412, 413), (0, 132, 414, 415), (0, 132, 416, 417), (0, 132, 418, 419), (0, 132, 420, 421), (0, 132, 422, 0), (0, 132, 423, 424), (0, 132, 425, 426), (0, 132, 427, 428), (0, 132, 429, 430),
  (0, 132, 431, 432), (0, 132, 433, 434), (0, 132, 435, 436), (0, 143, 437, 0), (0, 143, 438, 439), (0, 143, 440, 0), (0, 143, 441, 0), (0, 143, 442, 443), (0, 143, 444, 445), (0, 143, 446, 447),
  (0, 143, 448, 449), (0, 143, 450, 0), (0, 143, 451, 452), (0, 143, 453, 454), (0, 143, 455, 456), (0, 143, 457, 458), (0, 143, 459, 460), (0, 143, 461, 462), (0, 143, 463, 464), (0, 143, 465, 466),
  (0, 143, 467, 468), (0, 143, 469, 470), (0, 143, 471, 472), (0, 143, 473, 0), (0, 143, 474, 475), (0, 143, 476, 477), (0, 143, 478, 479), (0, 143, 480, 481), (0, 143, 482, 483), (0, 143, 484, 485),
  (0, 143, 486, 487), (0, 143, 488, 489), (0, 143, 490, 0), (0, 143, 491, 492), (0, 143, 493, 494), (0, 143, 495, 496), (0, 143, 497, 0), (0, 143, 498, 499), (0, 143, 500, 501), (0, 143, 502, 503),
  (0, 143, 504, 505), (0, 143, 506, 507), (0, 143, 508, 509), (0, 143, 510, 511), (0, 143, 512, 513), (0, 143, 514, 515), (0, 143, 516, 517), (0, 143, 518, 519), (0, 143, 520, 521), (0, 143, 522, 523),
  (0, 143, 524, 525), (0, 143, 526, 527), (0, 143, 528, 529), (0, 143, 530, 531), (0, 143, 532, 533), (0, 143, 534, 535), (0, 143, 536, 537), (0, 143, 538, 539), (0, 143, 540, 541), (0, 143, 542, 543),
  (0, 143, 544, 545), (0, 143, 546, 547), (0, 143, 548, 549), (0, 143, 550, 551), (0, 143, 552, 553), (0, 143, 554, 555), (0, 143, 556, 557), (0, 143, 558, 559), (0, 143, 560, 561), (0, 143, 562, 563),
  (0, 143, 564, 565), (0, 143, 566, 567), (0, 143, 568, 569), (0, 143, 570, 571), (0, 143, 572, 573), (0, 143, 574, 575), (0, 143, 576, 577), (0, 143, 578, 579), (0, 143, 580, 581), (0, 143, 582, 0),
  (0, 143, 583, 584), (0, 143, 585, 586), (0, 143, 587, 588), (0, 143, 589, 590), (0, 143, 591, 592), (0, 143, 593, 594), (0, 143, 595, 596), (0, 143, 597, 598), (0, 143, 599, 600), (0, 143, 601, 602),
  (0, 143, 603, 604), (0, 143, 605, 0), (0, 143, 606, 607), (0, 143, 608, 609), (0, 143, 610, 611), (0, 143, 612, 613), (0, 143, 614, 615)]
def k9_mokb (z : Nat) : Bool := match k9_nth (0, 0, 0, 0) k9_mpl z with
  | (a, b, c, d) => (decide (k9_TBn[b]? = some (.initialized (k9_nm z).cls)) && plainName (k9_nm z).cls && decide ((k9_nm z).cls ≠ "java/lang/invoke/MethodHandle") && decide ((k9_nm z).cls ≠ "java/lang/invoke/VarHandle") && Nat.ble (k9_ml z) 31) &&
    (bif k9_st z then decide (k9_TBn[c]? = some (.static (k9_nm z))) else
      decide (k9_TBn[c]? = some (.instanceMethod (k9_nm z))) && decide (k9_TBn[d]? = some (.selects (k9_nm z).cls (k9_nm z) (k9_nm z))) && decide ((k9_vc (k9_mk z)).1 = (k9_nm z).cls) && k9_ob (k9_mk z) && !(Nat.beq (k9_mk z) 0) && !(Nat.ble 9 (k9_et (k9_mk z))))
theorem k9_mokb_all : ((List.range k9_law).all k9_mokb) = true := by decide +kernel
/-- what is asked of a method that is called: its words, by their places -/
def k9_mok (z : Nat) : Prop := (Cond.code (k9_nm z) (k9_by z) (k9_ml z) (k9_rt z) ∈ k9_TB ∧ Cond.initialized (k9_nm z).cls ∈ k9_TB ∧ plainName (k9_nm z).cls = true ∧ (k9_nm z).cls ≠ "java/lang/invoke/MethodHandle" ∧ (k9_nm z).cls ≠ "java/lang/invoke/VarHandle" ∧ k9_ml z ≤ 31) ∧
  (k9_st z = true → Cond.static (k9_nm z) ∈ k9_TB) ∧ (k9_st z = false → Cond.instanceMethod (k9_nm z) ∈ k9_TB ∧ Cond.selects (k9_nm z).cls (k9_nm z) (k9_nm z) ∈ k9_TB ∧ (k9_vc (k9_mk z)).1 = (k9_nm z).cls ∧ k9_ob (k9_mk z) = true ∧ Nat.beq (k9_mk z) 0 = false ∧ Nat.ble 9 (k9_et (k9_mk z)) = false)
theorem k9_mok_all (z : Nat) (hz : z < k9_law) : k9_mok z := by
  have h := List.all_eq_true.mp k9_mokb_all z (List.mem_range.mpr hz)
  unfold k9_mokb at h
  generalize k9_nth (0, 0, 0, 0) k9_mpl z = q at h
  obtain ⟨a, b, c, d⟩ := q
  simp only [Bool.and_eq_true, decide_eq_true_eq] at h
  obtain ⟨⟨⟨⟨⟨h2, h3⟩, h4⟩, h5⟩, h6⟩, h7⟩ := h
  refine ⟨⟨k9_TBc_in hz, k9_TBn_in (List.mem_of_getElem? h2), h3, h4, h5, Nat.le_of_ble_eq_true h6⟩, fun hs => ?_, fun hs => ?_⟩
  · rw [hs] at h7
    exact k9_TBn_in (List.mem_of_getElem? (of_decide_eq_true h7))
  · rw [hs] at h7
    simp only [cond_false, Bool.and_eq_true, decide_eq_true_eq, Bool.not_eq_true'] at h7
    obtain ⟨⟨⟨⟨⟨g1, g2⟩, g3⟩, g4⟩, g5⟩, g6⟩ := h7
    exact ⟨k9_TBn_in (List.mem_of_getElem? g1), k9_TBn_in (List.mem_of_getElem? g2), g3, g4, g5, g6⟩
