/-! CHECKS, by the kernel -/
theorem k9_t1 {w : Cond} (hw : w ∈ tables_1_1) : w ∈ lw_tbl := List.mem_append_right _ (List.mem_append_left _ hw)
theorem k9_t2 {w : Cond} (hw : w ∈ tables_1_2) : w ∈ lw_tbl := List.mem_append_right _ (List.mem_append_right _ (List.mem_append_left _ hw))
theorem k9_t3 {w : Cond} (hw : w ∈ tables_1_3) : w ∈ lw_tbl := List.mem_append_right _ (List.mem_append_right _ (List.mem_append_right _ (List.mem_append_left _ hw)))
theorem k9_t4 {w : Cond} (hw : w ∈ tables_1_4) : w ∈ lw_tbl := List.mem_append_right _ (List.mem_append_right _ (List.mem_append_right _ (List.mem_append_right _ (List.mem_append_left _ hw))))
theorem k9_t5 {w : Cond} (hw : w ∈ tables_1_5) : w ∈ lw_tbl := List.mem_append_right _ (List.mem_append_right _ (List.mem_append_right _ (List.mem_append_right _ (List.mem_append_right _ (List.mem_append_left _ hw)))))
theorem k9_t6 {w : Cond} (hw : w ∈ tables_1_6) : w ∈ lw_tbl := List.mem_append_right _ (List.mem_append_right _ (List.mem_append_right _ (List.mem_append_right _ (List.mem_append_right _ (List.mem_append_right _ (List.mem_append_left _ hw))))))
theorem k9_t7 {w : Cond} (hw : w ∈ tables_1_7) : w ∈ lw_tbl := List.mem_append_right _ (List.mem_append_right _ (List.mem_append_right _ (List.mem_append_right _ (List.mem_append_right _ (List.mem_append_right _ (List.mem_append_right _ (hw)))))))
theorem k9_cw0 : k9_cwd 0 ∈ lw_tbl := k9_t2 (List.mem_of_getElem? (i := 128) rfl)
theorem k9_cw1 : k9_cwd 1 ∈ lw_tbl := k9_t2 (List.mem_of_getElem? (i := 131) rfl)
theorem k9_cw2 : k9_cwd 2 ∈ lw_tbl := k9_t2 (List.mem_of_getElem? (i := 136) rfl)
theorem k9_cw3 : k9_cwd 3 ∈ lw_tbl := k9_t2 (List.mem_of_getElem? (i := 182) rfl)
theorem k9_cw4 : k9_cwd 4 ∈ lw_tbl := k9_t2 (List.mem_of_getElem? (i := 178) rfl)
theorem k9_cw5 : k9_cwd 5 ∈ lw_tbl := k9_t2 (List.mem_of_getElem? (i := 186) rfl)
theorem k9_cw6 : k9_cwd 6 ∈ lw_tbl := k9_t2 (List.mem_of_getElem? (i := 190) rfl)
theorem k9_cw7 : k9_cwd 7 ∈ lw_tbl := k9_t2 (List.mem_of_getElem? (i := 194) rfl)
theorem k9_cw8 : k9_cwd 8 ∈ lw_tbl := k9_t2 (List.mem_of_getElem? (i := 142) rfl)
theorem k9_cw9 : k9_cwd 9 ∈ lw_tbl := k9_t2 (List.mem_of_getElem? (i := 210) rfl)
theorem k9_cw10 : k9_cwd 10 ∈ lw_tbl := k9_t2 (List.mem_of_getElem? (i := 214) rfl)
theorem k9_cw11 : k9_cwd 11 ∈ lw_tbl := k9_t3 (List.mem_of_getElem? (i := 59) rfl)
theorem k9_cw12 : k9_cwd 12 ∈ lw_tbl := k9_t3 (List.mem_of_getElem? (i := 69) rfl)
theorem k9_cw13 : k9_cwd 13 ∈ lw_tbl := k9_t3 (List.mem_of_getElem? (i := 82) rfl)
theorem k9_cw14 : k9_cwd 14 ∈ lw_tbl := k9_t4 (List.mem_of_getElem? (i := 28) rfl)
theorem k9_cw15 : k9_cwd 15 ∈ lw_tbl := k9_t4 (List.mem_of_getElem? (i := 40) rfl)
theorem k9_cw16 : k9_cwd 16 ∈ lw_tbl := k9_t3 (List.mem_of_getElem? (i := 229) rfl)
theorem k9_cw17 : k9_cwd 17 ∈ lw_tbl := k9_t3 (List.mem_of_getElem? (i := 233) rfl)
theorem k9_cw18 : k9_cwd 18 ∈ lw_tbl := k9_t4 (List.mem_of_getElem? (i := 1) rfl)
theorem k9_cw19 : k9_cwd 19 ∈ lw_tbl := k9_t4 (List.mem_of_getElem? (i := 101) rfl)
theorem k9_cw20 : k9_cwd 20 ∈ lw_tbl := k9_t3 (List.mem_of_getElem? (i := 63) rfl)
theorem k9_cw21 : k9_cwd 21 ∈ lw_tbl := k9_t3 (List.mem_of_getElem? (i := 77) rfl)
theorem k9_cw22 : k9_cwd 22 ∈ lw_tbl := k9_t3 (List.mem_of_getElem? (i := 112) rfl)
theorem k9_cw23 : k9_cwd 23 ∈ lw_tbl := k9_t3 (List.mem_of_getElem? (i := 89) rfl)
theorem k9_cw24 : k9_cwd 24 ∈ lw_tbl := k9_t3 (List.mem_of_getElem? (i := 86) rfl)
theorem k9_cw25 : k9_cwd 25 ∈ lw_tbl := k9_t3 (List.mem_of_getElem? (i := 237) rfl)
theorem k9_cw26 : k9_cwd 26 ∈ lw_tbl := k9_t3 (List.mem_of_getElem? (i := 205) rfl)
theorem k9_cw27 : k9_cwd 27 ∈ lw_tbl := k9_t3 (List.mem_of_getElem? (i := 221) rfl)
theorem k9_cw28 : k9_cwd 28 ∈ lw_tbl := k9_t3 (List.mem_of_getElem? (i := 213) rfl)
theorem k9_cw29 : k9_cwd 29 ∈ lw_tbl := k9_t3 (List.mem_of_getElem? (i := 217) rfl)
theorem k9_cw30 : k9_cwd 30 ∈ lw_tbl := k9_t3 (List.mem_of_getElem? (i := 209) rfl)
theorem k9_cw31 : k9_cwd 31 ∈ lw_tbl := k9_t4 (List.mem_of_getElem? (i := 32) rfl)
theorem k9_cw32 : k9_cwd 32 ∈ lw_tbl := k9_t4 (List.mem_of_getElem? (i := 5) rfl)
theorem k9_cw33 : k9_cwd 33 ∈ lw_tbl := k9_t4 (List.mem_of_getElem? (i := 10) rfl)
theorem k9_cw34 : k9_cwd 34 ∈ lw_tbl := k9_t2 (List.mem_of_getElem? (i := 223) rfl)
theorem k9_cw35 : k9_cwd 35 ∈ lw_tbl := k9_t3 (List.mem_of_getElem? (i := 39) rfl)
theorem k9_cw36 : k9_cwd 36 ∈ lw_tbl := k9_t2 (List.mem_of_getElem? (i := 231) rfl)
theorem k9_cw37 : k9_cwd 37 ∈ lw_tbl := k9_t2 (List.mem_of_getElem? (i := 235) rfl)
theorem k9_cw38 : k9_cwd 38 ∈ lw_tbl := k9_t2 (List.mem_of_getElem? (i := 239) rfl)
theorem k9_cw39 : k9_cwd 39 ∈ lw_tbl := k9_t3 (List.mem_of_getElem? (i := 3) rfl)
theorem k9_cw40 : k9_cwd 40 ∈ lw_tbl := k9_t3 (List.mem_of_getElem? (i := 14) rfl)
theorem k9_cw41 : k9_cwd 41 ∈ lw_tbl := k9_t3 (List.mem_of_getElem? (i := 7) rfl)
theorem k9_cw42 : k9_cwd 42 ∈ lw_tbl := k9_t3 (List.mem_of_getElem? (i := 25) rfl)
theorem k9_cw43 : k9_cwd 43 ∈ lw_tbl := k9_t3 (List.mem_of_getElem? (i := 18) rfl)
theorem k9_cw44 : k9_cwd 44 ∈ lw_tbl := k9_t3 (List.mem_of_getElem? (i := 10) rfl)
theorem k9_cw45 : k9_cwd 45 ∈ lw_tbl := k9_t3 (List.mem_of_getElem? (i := 21) rfl)
theorem k9_cw46 : k9_cwd 46 ∈ lw_tbl := k9_t3 (List.mem_of_getElem? (i := 28) rfl)
theorem k9_cw47 : k9_cwd 47 ∈ lw_tbl := k9_t3 (List.mem_of_getElem? (i := 32) rfl)
theorem k9_cw48 : k9_cwd 48 ∈ lw_tbl := k9_t3 (List.mem_of_getElem? (i := 93) rfl)
theorem k9_cw49 : k9_cwd 49 ∈ lw_tbl := k9_t3 (List.mem_of_getElem? (i := 101) rfl)
theorem k9_cw50 : k9_cwd 50 ∈ lw_tbl := k9_t3 (List.mem_of_getElem? (i := 104) rfl)
theorem k9_cw51 : k9_cwd 51 ∈ lw_tbl := k9_t3 (List.mem_of_getElem? (i := 108) rfl)
theorem k9_cw52 : k9_cwd 52 ∈ lw_tbl := k9_t3 (List.mem_of_getElem? (i := 97) rfl)
theorem k9_cw53 : k9_cwd 53 ∈ lw_tbl := k9_t4 (List.mem_of_getElem? (i := 75) rfl)
theorem k9_cw54 : k9_cwd 54 ∈ lw_tbl := k9_t3 (List.mem_of_getElem? (i := 54) rfl)
theorem k9_cw55 : k9_cwd 55 ∈ lw_tbl := k9_t3 (List.mem_of_getElem? (i := 116) rfl)
theorem k9_cw56 : k9_cwd 56 ∈ lw_tbl := k9_t3 (List.mem_of_getElem? (i := 120) rfl)
theorem k9_cw57 : k9_cwd 57 ∈ lw_tbl := k9_t3 (List.mem_of_getElem? (i := 124) rfl)
theorem k9_cw58 : k9_cwd 58 ∈ lw_tbl := k9_t3 (List.mem_of_getElem? (i := 128) rfl)
theorem k9_cw59 : k9_cwd 59 ∈ lw_tbl := k9_t3 (List.mem_of_getElem? (i := 136) rfl)
theorem k9_cw60 : k9_cwd 60 ∈ lw_tbl := k9_t3 (List.mem_of_getElem? (i := 144) rfl)
theorem k9_cw61 : k9_cwd 61 ∈ lw_tbl := k9_t3 (List.mem_of_getElem? (i := 153) rfl)
theorem k9_cw62 : k9_cwd 62 ∈ lw_tbl := k9_t3 (List.mem_of_getElem? (i := 165) rfl)
theorem k9_cw63 : k9_cwd 63 ∈ lw_tbl := k9_t3 (List.mem_of_getElem? (i := 175) rfl)
theorem k9_cw64 : k9_cwd 64 ∈ lw_tbl := k9_t3 (List.mem_of_getElem? (i := 184) rfl)
theorem k9_cw65 : k9_cwd 65 ∈ lw_tbl := k9_t4 (List.mem_of_getElem? (i := 49) rfl)
theorem k9_cw66 : k9_cwd 66 ∈ lw_tbl := k9_t4 (List.mem_of_getElem? (i := 62) rfl)
theorem k9_cw67 : k9_cwd 67 ∈ lw_tbl := k9_t2 (List.mem_of_getElem? (i := 198) rfl)
theorem k9_cw68 : k9_cwd 68 ∈ lw_tbl := k9_t2 (List.mem_of_getElem? (i := 202) rfl)
theorem k9_cw69 : k9_cwd 69 ∈ lw_tbl := k9_t4 (List.mem_of_getElem? (i := 160) rfl)
theorem k9_cw70 : k9_cwd 70 ∈ lw_tbl := k9_t4 (List.mem_of_getElem? (i := 169) rfl)
theorem k9_cw71 : k9_cwd 71 ∈ lw_tbl := k9_t4 (List.mem_of_getElem? (i := 111) rfl)
theorem k9_cw72 : k9_cwd 72 ∈ lw_tbl := k9_t4 (List.mem_of_getElem? (i := 119) rfl)
theorem k9_cw73 : k9_cwd 73 ∈ lw_tbl := k9_t4 (List.mem_of_getElem? (i := 124) rfl)
theorem k9_cw74 : k9_cwd 74 ∈ lw_tbl := k9_t4 (List.mem_of_getElem? (i := 132) rfl)
theorem k9_cw75 : k9_cwd 75 ∈ lw_tbl := k9_t4 (List.mem_of_getElem? (i := 140) rfl)
theorem k9_cw76 : k9_cwd 76 ∈ lw_tbl := k9_t4 (List.mem_of_getElem? (i := 148) rfl)
theorem k9_cw77 : k9_cwd 77 ∈ lw_tbl := k9_t4 (List.mem_of_getElem? (i := 177) rfl)
theorem k9_cw78 : k9_cwd 78 ∈ lw_tbl := k9_t4 (List.mem_of_getElem? (i := 189) rfl)
theorem k9_cw79 : k9_cwd 79 ∈ lw_tbl := k9_t5 (List.mem_of_getElem? (i := 43) rfl)
theorem k9_cw80 : k9_cwd 80 ∈ lw_tbl := k9_t4 (List.mem_of_getElem? (i := 205) rfl)
theorem k9_cw81 : k9_cwd 81 ∈ lw_tbl := k9_t4 (List.mem_of_getElem? (i := 223) rfl)
theorem k9_cw82 : k9_cwd 82 ∈ lw_tbl := k9_t4 (List.mem_of_getElem? (i := 228) rfl)
theorem k9_cw83 : k9_cwd 83 ∈ lw_tbl := k9_t4 (List.mem_of_getElem? (i := 185) rfl)
theorem k9_cw84 : k9_cwd 84 ∈ lw_tbl := k9_t4 (List.mem_of_getElem? (i := 193) rfl)
theorem k9_cw85 : k9_cwd 85 ∈ lw_tbl := k9_t4 (List.mem_of_getElem? (i := 197) rfl)
theorem k9_cw86 : k9_cwd 86 ∈ lw_tbl := k9_t4 (List.mem_of_getElem? (i := 200) rfl)
theorem k9_cw87 : k9_cwd 87 ∈ lw_tbl := k9_t4 (List.mem_of_getElem? (i := 211) rfl)
theorem k9_cw88 : k9_cwd 88 ∈ lw_tbl := k9_t4 (List.mem_of_getElem? (i := 215) rfl)
theorem k9_cw89 : k9_cwd 89 ∈ lw_tbl := k9_t4 (List.mem_of_getElem? (i := 236) rfl)
theorem k9_cw90 : k9_cwd 90 ∈ lw_tbl := k9_t5 (List.mem_of_getElem? (i := 4) rfl)
theorem k9_cw91 : k9_cwd 91 ∈ lw_tbl := k9_t2 (List.mem_of_getElem? (i := 158) rfl)
theorem k9_cw92 : k9_cwd 92 ∈ lw_tbl := k9_t4 (List.mem_of_getElem? (i := 19) rfl)
theorem k9_cw93 : k9_cwd 93 ∈ lw_tbl := k9_t5 (List.mem_of_getElem? (i := 12) rfl)
theorem k9_cw94 : k9_cwd 94 ∈ lw_tbl := k9_t2 (List.mem_of_getElem? (i := 170) rfl)
theorem k9_cw95 : k9_cwd 95 ∈ lw_tbl := k9_t2 (List.mem_of_getElem? (i := 166) rfl)
theorem k9_cw96 : k9_cwd 96 ∈ lw_tbl := k9_t5 (List.mem_of_getElem? (i := 16) rfl)
theorem k9_cw97 : k9_cwd 97 ∈ lw_tbl := k9_t5 (List.mem_of_getElem? (i := 20) rfl)
theorem k9_cw98 : k9_cwd 98 ∈ lw_tbl := k9_t5 (List.mem_of_getElem? (i := 34) rfl)
theorem k9_cw99 : k9_cwd 99 ∈ lw_tbl := k9_t2 (List.mem_of_getElem? (i := 125) rfl)
theorem k9_cw100 : k9_cwd 100 ∈ lw_tbl := k9_t2 (List.mem_of_getElem? (i := 150) rfl)
theorem k9_cw101 : k9_cwd 101 ∈ lw_tbl := k9_t2 (List.mem_of_getElem? (i := 174) rfl)
theorem k9_cw102 : k9_cwd 102 ∈ lw_tbl := k9_t2 (List.mem_of_getElem? (i := 206) rfl)
theorem k9_cw103 : k9_cwd 103 ∈ lw_tbl := k9_t2 (List.mem_of_getElem? (i := 219) rfl)
theorem k9_cw104 : k9_cwd 104 ∈ lw_tbl := k9_t2 (List.mem_of_getElem? (i := 227) rfl)
theorem k9_cw105 : k9_cwd 105 ∈ lw_tbl := k9_t3 (List.mem_of_getElem? (i := 43) rfl)
theorem k9_cw106 : k9_cwd 106 ∈ lw_tbl := k9_t3 (List.mem_of_getElem? (i := 132) rfl)
theorem k9_cw107 : k9_cwd 107 ∈ lw_tbl := k9_t3 (List.mem_of_getElem? (i := 140) rfl)
theorem k9_cw108 : k9_cwd 108 ∈ lw_tbl := k9_t3 (List.mem_of_getElem? (i := 149) rfl)
theorem k9_cw109 : k9_cwd 109 ∈ lw_tbl := k9_t3 (List.mem_of_getElem? (i := 161) rfl)
theorem k9_cw110 : k9_cwd 110 ∈ lw_tbl := k9_t3 (List.mem_of_getElem? (i := 171) rfl)
theorem k9_cw111 : k9_cwd 111 ∈ lw_tbl := k9_t3 (List.mem_of_getElem? (i := 180) rfl)
theorem k9_cw112 : k9_cwd 112 ∈ lw_tbl := k9_t3 (List.mem_of_getElem? (i := 188) rfl)
theorem k9_cw113 : k9_cwd 113 ∈ lw_tbl := k9_t3 (List.mem_of_getElem? (i := 193) rfl)
theorem k9_cw114 : k9_cwd 114 ∈ lw_tbl := k9_t3 (List.mem_of_getElem? (i := 197) rfl)
theorem k9_cw115 : k9_cwd 115 ∈ lw_tbl := k9_t4 (List.mem_of_getElem? (i := 15) rfl)
theorem k9_cw116 : k9_cwd 116 ∈ lw_tbl := k9_t4 (List.mem_of_getElem? (i := 24) rfl)
theorem k9_cw117 : k9_cwd 117 ∈ lw_tbl := k9_t4 (List.mem_of_getElem? (i := 36) rfl)
theorem k9_cw118 : k9_cwd 118 ∈ lw_tbl := k9_t4 (List.mem_of_getElem? (i := 44) rfl)
theorem k9_cw119 : k9_cwd 119 ∈ lw_tbl := k9_t4 (List.mem_of_getElem? (i := 53) rfl)
theorem k9_cw120 : k9_cwd 120 ∈ lw_tbl := k9_t4 (List.mem_of_getElem? (i := 58) rfl)
theorem k9_cw121 : k9_cwd 121 ∈ lw_tbl := k9_t4 (List.mem_of_getElem? (i := 67) rfl)
theorem k9_cw122 : k9_cwd 122 ∈ lw_tbl := k9_t4 (List.mem_of_getElem? (i := 79) rfl)
theorem k9_cw123 : k9_cwd 123 ∈ lw_tbl := k9_t4 (List.mem_of_getElem? (i := 83) rfl)
theorem k9_cw124 : k9_cwd 124 ∈ lw_tbl := k9_t4 (List.mem_of_getElem? (i := 93) rfl)
theorem k9_cw125 : k9_cwd 125 ∈ lw_tbl := k9_t4 (List.mem_of_getElem? (i := 97) rfl)
theorem k9_cw126 : k9_cwd 126 ∈ lw_tbl := k9_t4 (List.mem_of_getElem? (i := 107) rfl)
theorem k9_cw127 : k9_cwd 127 ∈ lw_tbl := k9_t4 (List.mem_of_getElem? (i := 115) rfl)
theorem k9_cw128 : k9_cwd 128 ∈ lw_tbl := k9_t4 (List.mem_of_getElem? (i := 128) rfl)
theorem k9_cw129 : k9_cwd 129 ∈ lw_tbl := k9_t4 (List.mem_of_getElem? (i := 136) rfl)
theorem k9_cw130 : k9_cwd 130 ∈ lw_tbl := k9_t4 (List.mem_of_getElem? (i := 144) rfl)
theorem k9_cw131 : k9_cwd 131 ∈ lw_tbl := k9_t4 (List.mem_of_getElem? (i := 152) rfl)
theorem k9_cw132 : k9_cwd 132 ∈ lw_tbl := k9_t4 (List.mem_of_getElem? (i := 156) rfl)
theorem k9_cw133 : k9_cwd 133 ∈ lw_tbl := k9_t4 (List.mem_of_getElem? (i := 165) rfl)
theorem k9_cw134 : k9_cwd 134 ∈ lw_tbl := k9_t4 (List.mem_of_getElem? (i := 173) rfl)
theorem k9_cw135 : k9_cwd 135 ∈ lw_tbl := k9_t4 (List.mem_of_getElem? (i := 181) rfl)
theorem k9_cw136 : k9_cwd 136 ∈ lw_tbl := k9_t4 (List.mem_of_getElem? (i := 219) rfl)
theorem k9_cw137 : k9_cwd 137 ∈ lw_tbl := k9_t4 (List.mem_of_getElem? (i := 232) rfl)
theorem k9_cw138 : k9_cwd 138 ∈ lw_tbl := k9_t5 (List.mem_of_getElem? (i := 0) rfl)
theorem k9_cw139 : k9_cwd 139 ∈ lw_tbl := k9_t5 (List.mem_of_getElem? (i := 8) rfl)
theorem k9_cw140 : k9_cwd 140 ∈ lw_tbl := k9_t5 (List.mem_of_getElem? (i := 24) rfl)
theorem k9_cw141 : k9_cwd 141 ∈ lw_tbl := k9_t5 (List.mem_of_getElem? (i := 30) rfl)
theorem k9_cw142 : k9_cwd 142 ∈ lw_tbl := k9_t5 (List.mem_of_getElem? (i := 39) rfl)
theorem k9_cw143 : k9_cwd 143 ∈ lw_tbl := k9_t5 (List.mem_of_getElem? (i := 47) rfl)
theorem k9_cw144 : k9_cwd 144 ∈ lw_tbl := k9_t2 (List.mem_of_getElem? (i := 154) rfl)
theorem k9_cw145 : k9_cwd 145 ∈ lw_tbl := k9_t3 (List.mem_of_getElem? (i := 46) rfl)
theorem k9_cw146 : k9_cwd 146 ∈ lw_tbl := k9_t2 (List.mem_of_getElem? (i := 162) rfl)
theorem k9_cw147 : k9_cwd 147 ∈ lw_tbl := k9_t2 (List.mem_of_getElem? (i := 146) rfl)
theorem k9_cw148 : k9_cwd 148 ∈ lw_tbl := k9_t3 (List.mem_of_getElem? (i := 50) rfl)
theorem k9_cw149 : k9_cwd 149 ∈ lw_tbl := k9_t3 (List.mem_of_getElem? (i := 225) rfl)
theorem k9_cw150 : k9_cwd 150 ∈ lw_tbl := k9_t3 (List.mem_of_getElem? (i := 201) rfl)
theorem k9_cw151 : k9_cwd 151 ∈ lw_tbl := k9_t4 (List.mem_of_getElem? (i := 71) rfl)
theorem k9_cw152 : k9_cwd 152 ∈ lw_tbl := k9_t4 (List.mem_of_getElem? (i := 87) rfl)
theorem k9_cw153 : k9_cwd 153 ∈ lw_tbl := k9_t5 (List.mem_of_getElem? (i := 220) rfl)
theorem k9_cw154 : k9_cwd 154 ∈ lw_tbl := k9_t6 (List.mem_of_getElem? (i := 4) rfl)
theorem k9_cw155 : k9_cwd 155 ∈ lw_tbl := k9_t6 (List.mem_of_getElem? (i := 97) rfl)
theorem k9_cw156 : k9_cwd 156 ∈ lw_tbl := k9_t5 (List.mem_of_getElem? (i := 231) rfl)
theorem k9_cw157 : k9_cwd 157 ∈ lw_tbl := k9_t5 (List.mem_of_getElem? (i := 224) rfl)
theorem k9_cw158 : k9_cwd 158 ∈ lw_tbl := k9_t5 (List.mem_of_getElem? (i := 217) rfl)
theorem k9_cw159 : k9_cwd 159 ∈ lw_tbl := k9_t5 (List.mem_of_getElem? (i := 228) rfl)
theorem k9_cw160 : k9_cwd 160 ∈ lw_tbl := k9_t6 (List.mem_of_getElem? (i := 0) rfl)
theorem k9_cw161 : k9_cwd 161 ∈ lw_tbl := k9_t6 (List.mem_of_getElem? (i := 7) rfl)
theorem k9_cw162 : k9_cwd 162 ∈ lw_tbl := k9_t6 (List.mem_of_getElem? (i := 11) rfl)
theorem k9_cw163 : k9_cwd 163 ∈ lw_tbl := k9_t6 (List.mem_of_getElem? (i := 15) rfl)
theorem k9_cw164 : k9_cwd 164 ∈ lw_tbl := k9_t5 (List.mem_of_getElem? (i := 236) rfl)
theorem k9_cw165 : k9_cwd 165 ∈ lw_tbl := k9_t6 (List.mem_of_getElem? (i := 19) rfl)
theorem k9_cw166 : k9_cwd 166 ∈ lw_tbl := k9_t6 (List.mem_of_getElem? (i := 31) rfl)
theorem k9_cw167 : k9_cwd 167 ∈ lw_tbl := k9_t6 (List.mem_of_getElem? (i := 35) rfl)
theorem k9_cw168 : k9_cwd 168 ∈ lw_tbl := k9_t6 (List.mem_of_getElem? (i := 39) rfl)
theorem k9_cw169 : k9_cwd 169 ∈ lw_tbl := k9_t6 (List.mem_of_getElem? (i := 79) rfl)
theorem k9_cw170 : k9_cwd 170 ∈ lw_tbl := k9_t6 (List.mem_of_getElem? (i := 90) rfl)
theorem k9_cw171 : k9_cwd 171 ∈ lw_tbl := k9_t6 (List.mem_of_getElem? (i := 83) rfl)
theorem k9_cw172 : k9_cwd 172 ∈ lw_tbl := k9_t6 (List.mem_of_getElem? (i := 75) rfl)
theorem k9_cw173 : k9_cwd 173 ∈ lw_tbl := k9_t6 (List.mem_of_getElem? (i := 86) rfl)
theorem k9_cw174 : k9_cwd 174 ∈ lw_tbl := k9_t6 (List.mem_of_getElem? (i := 71) rfl)
theorem k9_cw175 : k9_cwd 175 ∈ lw_tbl := k9_t6 (List.mem_of_getElem? (i := 67) rfl)
theorem k9_cw176 : k9_cwd 176 ∈ lw_tbl := k9_t6 (List.mem_of_getElem? (i := 63) rfl)
theorem k9_cw177 : k9_cwd 177 ∈ lw_tbl := k9_t6 (List.mem_of_getElem? (i := 59) rfl)
theorem k9_cw178 : k9_cwd 178 ∈ lw_tbl := k9_t6 (List.mem_of_getElem? (i := 55) rfl)
theorem k9_cw179 : k9_cwd 179 ∈ lw_tbl := k9_t6 (List.mem_of_getElem? (i := 51) rfl)
theorem k9_cw180 : k9_cwd 180 ∈ lw_tbl := k9_t6 (List.mem_of_getElem? (i := 47) rfl)
theorem k9_cw181 : k9_cwd 181 ∈ lw_tbl := k9_t6 (List.mem_of_getElem? (i := 43) rfl)
theorem k9_cw182 : k9_cwd 182 ∈ lw_tbl := k9_t6 (List.mem_of_getElem? (i := 121) rfl)
theorem k9_cw183 : k9_cwd 183 ∈ lw_tbl := k9_t6 (List.mem_of_getElem? (i := 118) rfl)
theorem k9_cw184 : k9_cwd 184 ∈ lw_tbl := k9_t6 (List.mem_of_getElem? (i := 23) rfl)
theorem k9_cw185 : k9_cwd 185 ∈ lw_tbl := k9_t6 (List.mem_of_getElem? (i := 27) rfl)
theorem k9_cw186 : k9_cwd 186 ∈ lw_tbl := k9_t6 (List.mem_of_getElem? (i := 110) rfl)
theorem k9_cw187 : k9_cwd 187 ∈ lw_tbl := k9_t6 (List.mem_of_getElem? (i := 114) rfl)
theorem k9_cw188 : k9_cwd 188 ∈ lw_tbl := k9_t6 (List.mem_of_getElem? (i := 105) rfl)
theorem k9_cw189 : k9_cwd 189 ∈ lw_tbl := k9_t6 (List.mem_of_getElem? (i := 101) rfl)
theorem k9_cw190 : k9_cwd 190 ∈ lw_tbl := k9_t6 (List.mem_of_getElem? (i := 129) rfl)
theorem k9_cw191 : k9_cwd 191 ∈ lw_tbl := k9_t6 (List.mem_of_getElem? (i := 141) rfl)
theorem k9_cw192 : k9_cwd 192 ∈ lw_tbl := k9_t6 (List.mem_of_getElem? (i := 94) rfl)
theorem k9_cw193 : k9_cwd 193 ∈ lw_tbl := k9_t6 (List.mem_of_getElem? (i := 133) rfl)
theorem k9_cw194 : k9_cwd 194 ∈ lw_tbl := k9_t6 (List.mem_of_getElem? (i := 125) rfl)
theorem k9_cw195 : k9_cwd 195 ∈ lw_tbl := k9_t6 (List.mem_of_getElem? (i := 137) rfl)
theorem k9_cw196 : k9_cwd 196 ∈ lw_tbl := k9_t6 (List.mem_of_getElem? (i := 146) rfl)
theorem k9_cw197 : k9_cwd 197 ∈ lw_tbl := k9_t6 (List.mem_of_getElem? (i := 154) rfl)
theorem k9_cw198 : k9_cwd 198 ∈ lw_tbl := k9_t6 (List.mem_of_getElem? (i := 150) rfl)
theorem k9_cw199 : k9_cwd 199 ∈ lw_tbl := k9_t6 (List.mem_of_getElem? (i := 162) rfl)
theorem k9_cw200 : k9_cwd 200 ∈ lw_tbl := k9_t6 (List.mem_of_getElem? (i := 158) rfl)
theorem k9_cw201 : k9_cwd 201 ∈ lw_tbl := k9_t6 (List.mem_of_getElem? (i := 170) rfl)
theorem k9_cw202 : k9_cwd 202 ∈ lw_tbl := k9_t6 (List.mem_of_getElem? (i := 166) rfl)
theorem k9_cw203 : k9_cwd 203 ∈ lw_tbl := k9_t6 (List.mem_of_getElem? (i := 174) rfl)
theorem k9_cw204 : k9_cwd 204 ∈ lw_tbl := k9_t6 (List.mem_of_getElem? (i := 178) rfl)
theorem k9_cw205 : k9_cwd 205 ∈ lw_tbl := k9_t6 (List.mem_of_getElem? (i := 186) rfl)
theorem k9_cw206 : k9_cwd 206 ∈ lw_tbl := k9_t6 (List.mem_of_getElem? (i := 190) rfl)
theorem k9_cw207 : k9_cwd 207 ∈ lw_tbl := k9_t6 (List.mem_of_getElem? (i := 182) rfl)
theorem k9_cw208 : k9_cwd 208 ∈ lw_tbl := k9_t6 (List.mem_of_getElem? (i := 198) rfl)
theorem k9_cw209 : k9_cwd 209 ∈ lw_tbl := k9_t6 (List.mem_of_getElem? (i := 202) rfl)
theorem k9_cw210 : k9_cwd 210 ∈ lw_tbl := k9_t6 (List.mem_of_getElem? (i := 206) rfl)
theorem k9_cw211 : k9_cwd 211 ∈ lw_tbl := k9_t6 (List.mem_of_getElem? (i := 194) rfl)
theorem k9_cw212 : k9_cwd 212 ∈ lw_tbl := k9_t6 (List.mem_of_getElem? (i := 210) rfl)
theorem k9_cw213 : k9_cwd 213 ∈ lw_tbl := k9_t6 (List.mem_of_getElem? (i := 214) rfl)
theorem k9_cw214 : k9_cwd 214 ∈ lw_tbl := k9_t6 (List.mem_of_getElem? (i := 218) rfl)
theorem k9_cw215 : k9_cwd 215 ∈ lw_tbl := k9_t6 (List.mem_of_getElem? (i := 223) rfl)
theorem k9_cw216 : k9_cwd 216 ∈ lw_tbl := k9_t6 (List.mem_of_getElem? (i := 231) rfl)
theorem k9_cw217 : k9_cwd 217 ∈ lw_tbl := k9_t6 (List.mem_of_getElem? (i := 227) rfl)
theorem k9_cw218 : k9_cwd 218 ∈ lw_tbl := k9_t6 (List.mem_of_getElem? (i := 235) rfl)
theorem k9_cw219 : k9_cwd 219 ∈ lw_tbl := k9_t6 (List.mem_of_getElem? (i := 239) rfl)
theorem k9_cw220 : k9_cwd 220 ∈ lw_tbl := k9_t7 (List.mem_of_getElem? (i := 3) rfl)
theorem k9_cw221 : k9_cwd 221 ∈ lw_tbl := k9_t7 (List.mem_of_getElem? (i := 7) rfl)
theorem k9_cw222 : k9_cwd 222 ∈ lw_tbl := k9_t7 (List.mem_of_getElem? (i := 11) rfl)
theorem k9_cw223 : k9_cwd 223 ∈ lw_tbl := k9_t7 (List.mem_of_getElem? (i := 16) rfl)
theorem k9_cw224 : k9_cwd 224 ∈ lw_tbl := k9_t7 (List.mem_of_getElem? (i := 20) rfl)
theorem k9_cw225 : k9_cwd 225 ∈ lw_tbl := k9_t7 (List.mem_of_getElem? (i := 24) rfl)
theorem k9_cw226 : k9_cwd 226 ∈ lw_tbl := k9_t7 (List.mem_of_getElem? (i := 28) rfl)
theorem k9_cw227 : k9_cwd 227 ∈ lw_tbl := k9_t7 (List.mem_of_getElem? (i := 32) rfl)
theorem k9_cw228 : k9_cwd 228 ∈ lw_tbl := k9_t7 (List.mem_of_getElem? (i := 36) rfl)
theorem k9_cw229 : k9_cwd 229 ∈ lw_tbl := k9_t7 (List.mem_of_getElem? (i := 55) rfl)
theorem k9_cw230 : k9_cwd 230 ∈ lw_tbl := k9_t7 (List.mem_of_getElem? (i := 52) rfl)
theorem k9_cw231 : k9_cwd 231 ∈ lw_tbl := k9_t7 (List.mem_of_getElem? (i := 48) rfl)
theorem k9_cw232 : k9_cwd 232 ∈ lw_tbl := k9_t7 (List.mem_of_getElem? (i := 59) rfl)
theorem k9_cw233 : k9_cwd 233 ∈ lw_tbl := k9_t7 (List.mem_of_getElem? (i := 63) rfl)
theorem k9_cw234 : k9_cwd 234 ∈ lw_tbl := k9_t7 (List.mem_of_getElem? (i := 67) rfl)
theorem k9_cw235 : k9_cwd 235 ∈ lw_tbl := k9_t7 (List.mem_of_getElem? (i := 40) rfl)
theorem k9_cw236 : k9_cwd 236 ∈ lw_tbl := k9_t7 (List.mem_of_getElem? (i := 44) rfl)
theorem k9_cw237 : k9_cwd 237 ∈ lw_tbl := k9_t7 (List.mem_of_getElem? (i := 71) rfl)
theorem k9_cw238 : k9_cwd 238 ∈ lw_tbl := k9_t7 (List.mem_of_getElem? (i := 75) rfl)
theorem k9_cw239 : k9_cwd 239 ∈ lw_tbl := k9_t7 (List.mem_of_getElem? (i := 79) rfl)
theorem k9_cw240 : k9_cwd 240 ∈ lw_tbl := k9_t7 (List.mem_of_getElem? (i := 87) rfl)
theorem k9_cw241 : k9_cwd 241 ∈ lw_tbl := k9_t7 (List.mem_of_getElem? (i := 90) rfl)
theorem k9_cw242 : k9_cwd 242 ∈ lw_tbl := k9_t7 (List.mem_of_getElem? (i := 83) rfl)
theorem k9_cw243 : k9_cwd 243 ∈ lw_tbl := k9_t7 (List.mem_of_getElem? (i := 94) rfl)
theorem k9_cw244 : k9_cwd 244 ∈ lw_tbl := k9_t7 (List.mem_of_getElem? (i := 99) rfl)
theorem k9_cw245 : k9_cwd 245 ∈ lw_tbl := k9_t7 (List.mem_of_getElem? (i := 103) rfl)
theorem k9_cw246 : k9_cwd 246 ∈ lw_tbl := k9_t7 (List.mem_of_getElem? (i := 107) rfl)
theorem k9_cws (z : Nat) (hz : z < k9_law) : k9_cwd z ∈ lw_tbl :=
  match z, hz with
  | 0, _ => k9_cw0
  | 1, _ => k9_cw1
  | 2, _ => k9_cw2
  | 3, _ => k9_cw3
  | 4, _ => k9_cw4
  | 5, _ => k9_cw5
  | 6, _ => k9_cw6
  | 7, _ => k9_cw7
  | 8, _ => k9_cw8
  | 9, _ => k9_cw9
  | 10, _ => k9_cw10
  | 11, _ => k9_cw11
  | 12, _ => k9_cw12
  | 13, _ => k9_cw13
  | 14, _ => k9_cw14
  | 15, _ => k9_cw15
  | 16, _ => k9_cw16
  | 17, _ => k9_cw17
  | 18, _ => k9_cw18
  | 19, _ => k9_cw19
  | 20, _ => k9_cw20
  | 21, _ => k9_cw21
  | 22, _ => k9_cw22
  | 23, _ => k9_cw23
  | 24, _ => k9_cw24
  | 25, _ => k9_cw25
  | 26, _ => k9_cw26
  | 27, _ => k9_cw27
  | 28, _ => k9_cw28
  | 29, _ => k9_cw29
  | 30, _ => k9_cw30
  | 31, _ => k9_cw31
  | 32, _ => k9_cw32
  | 33, _ => k9_cw33
  | 34, _ => k9_cw34
  | 35, _ => k9_cw35
  | 36, _ => k9_cw36
  | 37, _ => k9_cw37
  | 38, _ => k9_cw38
  | 39, _ => k9_cw39
  | 40, _ => k9_cw40
  | 41, _ => k9_cw41
  | 42, _ => k9_cw42
  | 43, _ => k9_cw43
  | 44, _ => k9_cw44
  | 45, _ => k9_cw45
  | 46, _ => k9_cw46
  | 47, _ => k9_cw47
  | 48, _ => k9_cw48
  | 49, _ => k9_cw49
  | 50, _ => k9_cw50
  | 51, _ => k9_cw51
  | 52, _ => k9_cw52
  | 53, _ => k9_cw53
  | 54, _ => k9_cw54
  | 55, _ => k9_cw55
  | 56, _ => k9_cw56
  | 57, _ => k9_cw57
  | 58, _ => k9_cw58
  | 59, _ => k9_cw59
  | 60, _ => k9_cw60
  | 61, _ => k9_cw61
  | 62, _ => k9_cw62
  | 63, _ => k9_cw63
  | 64, _ => k9_cw64
  | 65, _ => k9_cw65
  | 66, _ => k9_cw66
  | 67, _ => k9_cw67
  | 68, _ => k9_cw68
  | 69, _ => k9_cw69
  | 70, _ => k9_cw70
  | 71, _ => k9_cw71
  | 72, _ => k9_cw72
  | 73, _ => k9_cw73
  | 74, _ => k9_cw74
  | 75, _ => k9_cw75
  | 76, _ => k9_cw76
  | 77, _ => k9_cw77
  | 78, _ => k9_cw78
  | 79, _ => k9_cw79
  | 80, _ => k9_cw80
  | 81, _ => k9_cw81
  | 82, _ => k9_cw82
  | 83, _ => k9_cw83
  | 84, _ => k9_cw84
  | 85, _ => k9_cw85
  | 86, _ => k9_cw86
  | 87, _ => k9_cw87
  | 88, _ => k9_cw88
  | 89, _ => k9_cw89
  | 90, _ => k9_cw90
  | 91, _ => k9_cw91
  | 92, _ => k9_cw92
  | 93, _ => k9_cw93
  | 94, _ => k9_cw94
  | 95, _ => k9_cw95
  | 96, _ => k9_cw96
  | 97, _ => k9_cw97
  | 98, _ => k9_cw98
  | 99, _ => k9_cw99
  | 100, _ => k9_cw100
  | 101, _ => k9_cw101
  | 102, _ => k9_cw102
  | 103, _ => k9_cw103
  | 104, _ => k9_cw104
  | 105, _ => k9_cw105
  | 106, _ => k9_cw106
  | 107, _ => k9_cw107
  | 108, _ => k9_cw108
  | 109, _ => k9_cw109
  | 110, _ => k9_cw110
  | 111, _ => k9_cw111
  | 112, _ => k9_cw112
  | 113, _ => k9_cw113
  | 114, _ => k9_cw114
  | 115, _ => k9_cw115
  | 116, _ => k9_cw116
  | 117, _ => k9_cw117
  | 118, _ => k9_cw118
  | 119, _ => k9_cw119
  | 120, _ => k9_cw120
  | 121, _ => k9_cw121
  | 122, _ => k9_cw122
  | 123, _ => k9_cw123
  | 124, _ => k9_cw124
  | 125, _ => k9_cw125
  | 126, _ => k9_cw126
  | 127, _ => k9_cw127
  | 128, _ => k9_cw128
  | 129, _ => k9_cw129
  | 130, _ => k9_cw130
  | 131, _ => k9_cw131
  | 132, _ => k9_cw132
  | 133, _ => k9_cw133
  | 134, _ => k9_cw134
  | 135, _ => k9_cw135
  | 136, _ => k9_cw136
  | 137, _ => k9_cw137
  | 138, _ => k9_cw138
  | 139, _ => k9_cw139
  | 140, _ => k9_cw140
  | 141, _ => k9_cw141
  | 142, _ => k9_cw142
  | 143, _ => k9_cw143
  | 144, _ => k9_cw144
  | 145, _ => k9_cw145
  | 146, _ => k9_cw146
  | 147, _ => k9_cw147
  | 148, _ => k9_cw148
  | 149, _ => k9_cw149
  | 150, _ => k9_cw150
  | 151, _ => k9_cw151
  | 152, _ => k9_cw152
  | 153, _ => k9_cw153
  | 154, _ => k9_cw154
  | 155, _ => k9_cw155
  | 156, _ => k9_cw156
  | 157, _ => k9_cw157
  | 158, _ => k9_cw158
  | 159, _ => k9_cw159
  | 160, _ => k9_cw160
  | 161, _ => k9_cw161
  | 162, _ => k9_cw162
  | 163, _ => k9_cw163
  | 164, _ => k9_cw164
  | 165, _ => k9_cw165
  | 166, _ => k9_cw166
  | 167, _ => k9_cw167
  | 168, _ => k9_cw168
  | 169, _ => k9_cw169
  | 170, _ => k9_cw170
  | 171, _ => k9_cw171
  | 172, _ => k9_cw172
  | 173, _ => k9_cw173
  | 174, _ => k9_cw174
  | 175, _ => k9_cw175
  | 176, _ => k9_cw176
  | 177, _ => k9_cw177
  | 178, _ => k9_cw178
  | 179, _ => k9_cw179
  | 180, _ => k9_cw180
  | 181, _ => k9_cw181
  | 182, _ => k9_cw182
  | 183, _ => k9_cw183
  | 184, _ => k9_cw184
  | 185, _ => k9_cw185
  | 186, _ => k9_cw186
  | 187, _ => k9_cw187
  | 188, _ => k9_cw188
  | 189, _ => k9_cw189
  | 190, _ => k9_cw190
  | 191, _ => k9_cw191
  | 192, _ => k9_cw192
  | 193, _ => k9_cw193
  | 194, _ => k9_cw194
  | 195, _ => k9_cw195
  | 196, _ => k9_cw196
  | 197, _ => k9_cw197
  | 198, _ => k9_cw198
  | 199, _ => k9_cw199
  | 200, _ => k9_cw200
  | 201, _ => k9_cw201
  | 202, _ => k9_cw202
  | 203, _ => k9_cw203
  | 204, _ => k9_cw204
  | 205, _ => k9_cw205
  | 206, _ => k9_cw206
  | 207, _ => k9_cw207
  | 208, _ => k9_cw208
  | 209, _ => k9_cw209
  | 210, _ => k9_cw210
  | 211, _ => k9_cw211
  | 212, _ => k9_cw212
  | 213, _ => k9_cw213
  | 214, _ => k9_cw214
  | 215, _ => k9_cw215
  | 216, _ => k9_cw216
  | 217, _ => k9_cw217
  | 218, _ => k9_cw218
  | 219, _ => k9_cw219
  | 220, _ => k9_cw220
  | 221, _ => k9_cw221
  | 222, _ => k9_cw222
  | 223, _ => k9_cw223
  | 224, _ => k9_cw224
  | 225, _ => k9_cw225
  | 226, _ => k9_cw226
  | 227, _ => k9_cw227
  | 228, _ => k9_cw228
  | 229, _ => k9_cw229
  | 230, _ => k9_cw230
  | 231, _ => k9_cw231
  | 232, _ => k9_cw232
  | 233, _ => k9_cw233
  | 234, _ => k9_cw234
  | 235, _ => k9_cw235
  | 236, _ => k9_cw236
  | 237, _ => k9_cw237
  | 238, _ => k9_cw238
  | 239, _ => k9_cw239
  | 240, _ => k9_cw240
  | 241, _ => k9_cw241
  | 242, _ => k9_cw242
  | 243, _ => k9_cw243
  | 244, _ => k9_cw244
  | 245, _ => k9_cw245
  | 246, _ => k9_cw246
  | z + 247, hz => absurd hz (by show ¬ z + 247 < 247; omega)
def k9d_tb (k : Nat) : List Cond := match k with
  | 0 => k2_sels lw_privs
  | 1 => tables_1_1
  | 2 => tables_1_2
  | 3 => tables_1_3
  | 4 => tables_1_4
  | 5 => tables_1_5
  | 6 => tables_1_6
  | 7 => tables_1_7
  | _ => []
theorem k9d_tb_in {k : Nat} {w : Cond} (hw : w ∈ k9d_tb k) : w ∈ lw_tbl := match k, hw with
  | 0, hw => List.mem_append_left _ hw
  | 1, hw => k9_t1 hw
  | 2, hw => k9_t2 hw
  | 3, hw => k9_t3 hw
  | 4, hw => k9_t4 hw
  | 5, hw => k9_t5 hw
  | 6, hw => k9_t6 hw
  | 7, hw => k9_t7 hw
  | _ + 8, hw => absurd hw List.not_mem_nil
theorem k9_Bi0 : k9_B0 = [(2, 91), (2, 93), (2, 95), (2, 97), (2, 99), (2, 101), (2, 103), (2, 105), (2, 107), (2, 109), (2, 111), (2, 113), (2, 115), (2, 117), (2, 119), (1, 129), (1, 131), (1, 133), (1, 135), (1, 137), (1, 139), (1, 49), (1, 51), (1, 53), (1, 55), (1, 57), (1, 59), (1, 61), (1, 63), (1, 93), (1, 95), (1, 97), (1, 99), (1, 101), (1, 103), (1, 105), (1, 107), (1, 109), (1, 111), (1, 113), (1, 115), (1, 117), (1, 119), (1, 155), (1, 157), (1, 159), (1, 161), (1, 163), (1, 179), (1, 181)].filterMap (fun q => (k9d_tb q.1)[q.2]?) := by decide +kernel
theorem k9_Bg0 : k9_B0.all goodWord = true := by decide +kernel
theorem k9_Bi1 : k9_B1 = [(1, 183), (1, 185), (1, 187), (1, 189), (1, 200), (1, 202), (1, 219), (1, 221), (1, 223), (1, 225), (1, 227), (1, 229), (2, 8), (2, 10), (2, 12), (2, 14), (2, 16), (2, 18), (2, 20), (2, 36), (2, 38), (2, 40), (2, 42), (2, 44), (2, 64), (2, 66), (2, 68), (2, 70), (2, 72), (5, 107), (5, 109), (5, 111), (5, 113), (5, 115), (5, 117), (5, 119), (5, 121), (5, 123), (5, 125), (5, 127), (5, 129), (5, 131), (5, 133), (5, 135), (5, 137), (5, 139), (5, 141), (5, 143), (5, 145), (5, 147)].filterMap (fun q => (k9d_tb q.1)[q.2]?) := by decide +kernel
theorem k9_Bg1 : k9_B1.all goodWord = true := by decide +kernel
theorem k9_Bi2 : k9_B2 = [(5, 149), (5, 151), (5, 153), (5, 155), (5, 157), (5, 159), (5, 161), (5, 163), (5, 165), (5, 167), (5, 169), (5, 171), (5, 173), (5, 175), (5, 177), (5, 179), (5, 181), (5, 183), (5, 185), (5, 187), (5, 189), (5, 191), (5, 193), (5, 195), (5, 197), (5, 199), (5, 201), (5, 203), (5, 205), (5, 207), (5, 209), (5, 211), (1, 1), (1, 2), (1, 3), (1, 4), (1, 5), (1, 6), (1, 7), (1, 8), (1, 9), (1, 10), (1, 11), (1, 12), (2, 127), (2, 130), (2, 135), (2, 181), (0, 3), (2, 176)].filterMap (fun q => (k9d_tb q.1)[q.2]?) := by decide +kernel
theorem k9_Bg2 : k9_B2.all goodWord = true := by decide +kernel
theorem k9_Bi3 : k9_B3 = [(2, 177), (2, 184), (2, 185), (2, 188), (2, 189), (2, 193), (0, 4), (2, 140), (2, 141), (2, 208), (2, 209), (2, 212), (2, 213), (3, 57), (3, 58), (3, 67), (3, 68), (3, 80), (3, 81), (4, 26), (4, 27), (4, 38), (4, 39), (3, 227), (3, 228), (3, 232), (0, 21), (4, 0), (0, 22), (4, 99), (4, 100), (3, 61), (3, 62), (3, 75), (3, 76), (3, 110), (3, 111), (3, 88), (3, 85), (3, 235), (3, 236), (3, 203), (3, 204), (3, 219), (3, 220), (3, 211), (3, 212), (3, 216), (0, 19), (3, 207)].filterMap (fun q => (k9d_tb q.1)[q.2]?) := by decide +kernel
theorem k9_Bg3 : k9_B3.all goodWord = true := by decide +kernel
theorem k9_Bi4 : k9_B4 = [(3, 208), (4, 30), (4, 31), (4, 3), (4, 4), (4, 9), (0, 23), (2, 221), (2, 222), (3, 37), (3, 38), (2, 229), (2, 230), (2, 234), (0, 6), (2, 238), (0, 7), (3, 2), (0, 8), (3, 13), (0, 10), (3, 6), (0, 9), (3, 24), (0, 12), (3, 17), (0, 11), (3, 9), (3, 20), (3, 27), (3, 30), (3, 31), (3, 91), (3, 92), (3, 100), (0, 15), (3, 103), (3, 107), (0, 16), (3, 96), (0, 14), (4, 73), (4, 74), (3, 52), (3, 53), (3, 115), (0, 17), (3, 118), (3, 119), (3, 122)].filterMap (fun q => (k9d_tb q.1)[q.2]?) := by decide +kernel
theorem k9_Bg4 : k9_B4.all goodWord = true := by decide +kernel
theorem k9_Bi5 : k9_B5 = [(3, 123), (3, 126), (3, 127), (3, 134), (3, 135), (3, 142), (3, 143), (3, 151), (3, 152), (3, 163), (3, 164), (3, 173), (3, 174), (3, 182), (3, 183), (4, 47), (4, 48), (4, 60), (4, 61), (2, 196), (2, 197), (2, 201), (0, 5), (4, 158), (4, 159), (4, 167), (4, 168), (4, 109), (4, 110), (4, 117), (4, 118), (4, 122), (4, 123), (4, 130), (4, 131), (4, 138), (4, 139), (4, 146), (4, 147), (4, 175), (4, 176), (4, 187), (4, 188), (5, 42), (4, 204), (4, 221), (4, 222), (4, 226), (4, 227), (4, 183)].filterMap (fun q => (k9d_tb q.1)[q.2]?) := by decide +kernel
theorem k9_Bg5 : k9_B5.all goodWord = true := by decide +kernel
theorem k9_Bi6 : k9_B6 = [(4, 184), (4, 192), (0, 26), (4, 196), (0, 27), (4, 199), (4, 210), (0, 28), (4, 214), (0, 29), (4, 234), (4, 235), (5, 2), (5, 3), (2, 156), (2, 157), (4, 17), (4, 18), (5, 10), (5, 11), (2, 168), (2, 169), (2, 164), (2, 165), (5, 14), (5, 15), (5, 19), (0, 30), (5, 32), (5, 33), (2, 123), (2, 124), (2, 148), (2, 149), (2, 172), (2, 173), (2, 204), (2, 205), (2, 217), (2, 218), (2, 225), (2, 226), (3, 41), (3, 42), (3, 130), (3, 131), (3, 138), (3, 139), (3, 147), (3, 148)].filterMap (fun q => (k9d_tb q.1)[q.2]?) := by decide +kernel
theorem k9_Bg6 : k9_B6.all goodWord = true := by decide +kernel
theorem k9_Bi7 : k9_B7 = [(3, 159), (3, 160), (3, 169), (3, 170), (3, 178), (3, 179), (3, 186), (3, 187), (3, 191), (3, 192), (3, 195), (3, 196), (4, 13), (4, 14), (4, 22), (4, 23), (4, 34), (4, 35), (4, 42), (4, 43), (4, 51), (4, 52), (4, 56), (4, 57), (4, 65), (4, 66), (4, 77), (4, 78), (4, 81), (4, 82), (4, 91), (4, 92), (4, 95), (4, 96), (4, 105), (4, 106), (4, 113), (4, 114), (4, 126), (4, 127), (4, 134), (4, 135), (4, 142), (4, 143), (4, 150), (4, 151), (4, 154), (4, 155), (4, 163), (4, 164)].filterMap (fun q => (k9d_tb q.1)[q.2]?) := by decide +kernel
theorem k9_Bg7 : k9_B7.all goodWord = true := by decide +kernel
theorem k9_Bi8 : k9_B8 = [(4, 171), (4, 172), (4, 179), (4, 180), (4, 217), (4, 218), (4, 230), (4, 231), (4, 238), (4, 239), (5, 6), (5, 7), (5, 22), (5, 23), (5, 28), (5, 29), (5, 37), (5, 38), (5, 45), (5, 46), (2, 153), (0, 1), (3, 45), (2, 161), (0, 2), (2, 145), (0, 0), (3, 49), (0, 13), (3, 224), (0, 20), (3, 200), (0, 18), (4, 70), (0, 24), (4, 86), (0, 25), (5, 219), (6, 3), (0, 33), (6, 96), (5, 230), (5, 223), (0, 31), (5, 215), (5, 216), (5, 226), (5, 227), (5, 239), (0, 32)].filterMap (fun q => (k9d_tb q.1)[q.2]?) := by decide +kernel
theorem k9_Bg8 : k9_B8.all goodWord = true := by decide +kernel
theorem k9_Bi9 : k9_B9 = [(6, 6), (6, 10), (0, 34), (6, 14), (0, 35), (5, 234), (5, 235), (6, 17), (6, 18), (6, 29), (6, 30), (6, 33), (6, 34), (6, 37), (6, 38), (6, 78), (0, 46), (6, 89), (0, 48), (6, 82), (0, 47), (6, 74), (0, 45), (6, 85), (6, 70), (0, 44), (6, 66), (0, 43), (6, 62), (0, 42), (6, 58), (0, 41), (6, 54), (0, 40), (6, 50), (0, 39), (6, 46), (0, 38), (6, 41), (6, 42), (6, 120), (6, 117), (0, 52), (6, 22), (0, 36), (6, 26), (0, 37), (6, 109), (6, 113), (0, 51)].filterMap (fun q => (k9d_tb q.1)[q.2]?) := by decide +kernel
theorem k9_Bg9 : k9_B9.all goodWord = true := by decide +kernel
theorem k9_Bi10 : k9_B10 = [(6, 104), (0, 50), (6, 100), (0, 49), (6, 128), (0, 53), (6, 140), (0, 55), (6, 92), (6, 93), (6, 132), (0, 54), (6, 123), (6, 124), (6, 135), (6, 136), (6, 144), (6, 145), (6, 153), (0, 56), (6, 148), (6, 149), (6, 161), (0, 57), (6, 156), (6, 157), (6, 169), (0, 58), (6, 164), (6, 165), (6, 172), (6, 173), (6, 176), (6, 177), (6, 185), (0, 59), (6, 189), (0, 60), (6, 180), (6, 181), (6, 197), (0, 61), (6, 201), (0, 62), (6, 205), (0, 63), (6, 192), (6, 193), (6, 208), (6, 209)].filterMap (fun q => (k9d_tb q.1)[q.2]?) := by decide +kernel
theorem k9_Bg10 : k9_B10.all goodWord = true := by decide +kernel
theorem k9_Bi11 : k9_B11 = [(6, 212), (6, 213), (6, 216), (6, 217), (6, 221), (6, 222), (6, 230), (0, 64), (6, 225), (6, 226), (6, 233), (6, 234), (6, 237), (6, 238), (7, 1), (7, 2), (7, 5), (7, 6), (7, 9), (7, 10), (7, 14), (7, 15), (7, 18), (7, 19), (7, 22), (7, 23), (7, 26), (7, 27), (7, 30), (7, 31), (7, 34), (7, 35), (7, 54), (7, 51), (0, 66), (7, 47), (0, 65), (7, 58), (0, 67), (7, 62), (0, 68), (7, 66), (0, 69), (7, 38), (7, 39), (7, 42), (7, 43), (7, 69), (7, 70), (7, 73)].filterMap (fun q => (k9d_tb q.1)[q.2]?) := by decide +kernel
theorem k9_Bg11 : k9_B11.all goodWord = true := by decide +kernel
theorem k9_Bi12 : k9_B12 = [(7, 74), (7, 77), (7, 78), (7, 86), (0, 70), (7, 89), (7, 81), (7, 82), (7, 92), (7, 93), (7, 97), (7, 98), (7, 101), (7, 102), (7, 105), (7, 106), (1, 13), (3, 72), (3, 73), (3, 34), (3, 35), (3, 156), (3, 157), (2, 129), (2, 134), (2, 132), (2, 137), (1, 36), (2, 179), (1, 45), (1, 46), (1, 47), (1, 48), (1, 37), (1, 41), (1, 44), (2, 191), (2, 215), (3, 83), (3, 230), (3, 238), (3, 234), (4, 102), (4, 103), (1, 34), (1, 83), (1, 85), (1, 86), (3, 64), (1, 87)].filterMap (fun q => (k9d_tb q.1)[q.2]?) := by decide +kernel
theorem k9_Bg12 : k9_B12.all goodWord = true := by decide +kernel
theorem k9_Bi13 : k9_B13 = [(1, 88), (1, 89), (3, 65), (1, 90), (3, 66), (1, 91), (3, 70), (1, 92), (3, 78), (3, 79), (1, 73), (3, 84), (1, 75), (1, 78), (1, 79), (3, 87), (1, 81), (1, 199), (1, 198), (3, 214), (3, 210), (4, 6), (4, 7), (1, 148), (1, 152), (1, 151), (1, 153), (1, 154), (2, 232), (3, 22), (2, 236), (3, 15), (3, 0), (3, 4), (3, 26), (3, 8), (3, 11), (3, 19), (1, 174), (1, 172), (1, 150), (3, 33), (1, 176), (1, 175), (3, 36), (1, 77), (1, 178), (3, 94), (3, 98), (3, 105)].filterMap (fun q => (k9d_tb q.1)[q.2]?) := by decide +kernel
theorem k9_Bg13 : k9_B13.all goodWord = true := by decide +kernel
theorem k9_Bi14 : k9_B14 = [(1, 76), (1, 80), (1, 82), (1, 84), (3, 102), (1, 177), (1, 122), (1, 43), (1, 40), (1, 38), (1, 173), (3, 55), (1, 127), (3, 56), (1, 128), (1, 124), (3, 60), (3, 71), (3, 74), (3, 90), (3, 109), (3, 113), (1, 125), (1, 74), (1, 126), (3, 145), (3, 154), (3, 155), (3, 166), (3, 167), (3, 176), (2, 61), (4, 63), (1, 211), (2, 199), (1, 215), (1, 216), (1, 217), (1, 218), (1, 213), (4, 161), (1, 238), (2, 0), (2, 2), (4, 120), (2, 6), (2, 4), (2, 5), (2, 7), (2, 29)].filterMap (fun q => (k9d_tb q.1)[q.2]?) := by decide +kernel
theorem k9_Bg14 : k9_B14.all goodWord = true := by decide +kernel
theorem k9_Bi15 : k9_B15 = [(2, 33), (4, 203), (4, 206), (2, 31), (4, 224), (2, 34), (4, 186), (2, 35), (4, 190), (4, 194), (4, 198), (4, 208), (4, 212), (4, 201), (2, 54), (2, 56), (2, 58), (2, 60), (2, 63), (2, 167), (5, 17), (5, 35), (2, 126), (2, 76), (1, 123), (1, 35), (2, 139), (2, 143), (2, 151), (2, 55), (2, 155), (2, 159), (2, 175), (2, 183), (2, 187), (2, 82), (2, 195), (2, 207), (2, 211), (2, 78), (2, 220), (1, 149), (2, 228), (2, 79), (3, 29), (3, 44), (3, 47), (3, 117), (3, 121), (3, 125)].filterMap (fun q => (k9d_tb q.1)[q.2]?) := by decide +kernel
theorem k9_Bg15 : k9_B15.all goodWord = true := by decide +kernel
theorem k9_Bi16 : k9_B16 = [(3, 133), (3, 141), (3, 150), (3, 162), (3, 172), (3, 181), (3, 189), (3, 198), (2, 90), (2, 81), (4, 11), (4, 16), (2, 80), (3, 202), (2, 62), (2, 163), (4, 20), (3, 206), (3, 222), (4, 25), (4, 29), (2, 77), (4, 37), (1, 39), (3, 51), (4, 45), (4, 46), (1, 42), (4, 54), (4, 59), (4, 68), (4, 84), (4, 98), (2, 83), (1, 239), (4, 108), (4, 116), (2, 1), (4, 121), (4, 129), (4, 137), (2, 84), (4, 145), (2, 87), (2, 3), (4, 157), (1, 212), (4, 166), (1, 214), (2, 85)].filterMap (fun q => (k9d_tb q.1)[q.2]?) := by decide +kernel
theorem k9_Bg16 : k9_B16.all goodWord = true := by decide +kernel
theorem k9_Bi17 : k9_B17 = [(4, 174), (2, 30), (4, 182), (4, 220), (4, 225), (4, 233), (5, 1), (5, 9), (5, 13), (5, 25), (5, 26), (2, 59), (5, 31), (2, 57), (5, 40), (5, 41), (2, 32), (2, 86), (2, 88), (2, 89), (3, 226), (3, 218), (4, 2), (4, 72), (4, 88), (4, 89), (5, 54), (5, 218), (5, 55), (5, 56), (5, 57), (5, 58), (5, 221), (5, 229), (5, 89), (5, 232), (5, 90), (5, 91), (6, 1), (5, 59), (5, 237), (6, 5), (6, 8), (6, 12), (5, 83), (5, 84), (5, 82), (6, 20), (6, 24), (5, 60)].filterMap (fun q => (k9d_tb q.1)[q.2]?) := by decide +kernel
theorem k9_Bg17 : k9_B17.all goodWord = true := by decide +kernel
theorem k9_Bi18 : k9_B18 = [(5, 61), (5, 68), (6, 76), (5, 75), (5, 70), (6, 72), (6, 80), (6, 84), (5, 69), (6, 87), (6, 68), (6, 48), (6, 64), (6, 60), (6, 56), (6, 52), (5, 72), (5, 71), (5, 73), (5, 74), (6, 44), (5, 62), (5, 63), (5, 64), (5, 65), (5, 66), (5, 67), (5, 76), (5, 95), (6, 119), (6, 115), (6, 106), (6, 107), (5, 93), (5, 92), (5, 94), (6, 108), (5, 96), (6, 111), (5, 97), (5, 105), (6, 98), (6, 102), (5, 98), (5, 99), (5, 100), (5, 101), (6, 142), (5, 102), (6, 95)].filterMap (fun q => (k9d_tb q.1)[q.2]?) := by decide +kernel
theorem k9_Bg18 : k9_B18.all goodWord = true := by decide +kernel
theorem k9_Bi19 : k9_B19 = [(6, 126), (6, 130), (6, 138), (6, 151), (6, 159), (6, 167), (5, 104), (6, 187), (5, 103), (6, 183), (6, 195), (6, 199), (6, 203), (6, 219), (6, 228), (5, 106), (7, 12), (5, 77), (5, 78), (5, 79), (5, 80), (5, 81), (5, 87), (5, 88), (7, 49), (7, 45), (7, 53), (5, 86), (7, 56), (7, 60), (7, 64), (5, 85), (7, 84), (7, 88), (7, 95), (2, 122), (5, 214), (2, 147), (5, 225), (2, 171), (5, 233), (2, 203), (6, 16), (2, 216), (6, 36), (2, 224), (6, 40), (3, 40), (6, 91), (3, 129)].filterMap (fun q => (k9d_tb q.1)[q.2]?) := by decide +kernel
theorem k9_Bg19 : k9_B19.all goodWord = true := by decide +kernel
theorem k9_Bi20 : k9_B20 = [(6, 122), (3, 137), (6, 134), (3, 146), (6, 143), (3, 158), (6, 147), (3, 168), (6, 155), (3, 177), (6, 163), (3, 185), (6, 171), (3, 190), (6, 175), (3, 194), (6, 179), (4, 12), (6, 191), (4, 21), (6, 207), (4, 33), (6, 211), (4, 41), (6, 215), (4, 50), (6, 220), (4, 55), (6, 224), (4, 64), (6, 232), (4, 76), (6, 236), (4, 80), (7, 0), (4, 90), (7, 4), (4, 94), (7, 8), (4, 104), (7, 13), (4, 112), (7, 17), (4, 125), (7, 21), (4, 133), (7, 25), (4, 141), (7, 29), (4, 149)].filterMap (fun q => (k9d_tb q.1)[q.2]?) := by decide +kernel
theorem k9_Bg20 : k9_B20.all goodWord = true := by decide +kernel
theorem k9_Bi21 : k9_B21 = [(7, 33), (4, 153), (6, 28), (4, 162), (6, 32), (4, 170), (7, 37), (4, 178), (7, 41), (4, 216), (7, 68), (4, 229), (7, 72), (4, 237), (7, 76), (7, 108), (5, 5), (7, 80), (5, 21), (7, 91), (5, 27), (7, 96), (5, 36), (7, 100), (5, 44), (7, 104), (1, 20), (1, 21), (1, 14), (1, 15), (1, 16), (1, 17), (1, 18), (1, 19), (1, 22), (1, 23), (1, 25), (1, 26), (1, 27), (1, 28), (1, 29), (1, 31), (1, 32), (1, 33), (1, 66), (1, 67), (1, 68), (1, 70), (1, 71), (1, 72)].filterMap (fun q => (k9d_tb q.1)[q.2]?) := by decide +kernel
theorem k9_Bg21 : k9_B21.all goodWord = true := by decide +kernel
theorem k9_Bi22 : k9_B22 = [(1, 142), (1, 143), (1, 145), (1, 146), (1, 147), (1, 166), (1, 167), (1, 169), (1, 170), (1, 171), (1, 192), (1, 193), (1, 195), (1, 196), (1, 197), (1, 205), (1, 206), (1, 208), (1, 209), (1, 210), (1, 232), (1, 233), (1, 235), (1, 236), (1, 237), (2, 23), (2, 24), (2, 26), (2, 27), (2, 28), (2, 47), (2, 49), (2, 51), (2, 52), (2, 53), (2, 75), (5, 48), (5, 49), (5, 50), (5, 51), (5, 52), (5, 53)].filterMap (fun q => (k9d_tb q.1)[q.2]?) := by decide +kernel
theorem k9_Bg22 : k9_B22.all goodWord = true := by decide +kernel
theorem k9_Bin {B : List Cond} {ps : List (Nat × Nat)} (h : B = ps.filterMap (fun q => (k9d_tb q.1)[q.2]?)) {w : Cond} (hw : w ∈ B) : w ∈ lw_tbl := by
  rw [h] at hw
  obtain ⟨i, -, hi⟩ := List.mem_filterMap.mp hw
  exact k9d_tb_in (List.mem_of_getElem? hi)
theorem k9d_nth_in {x : Cond} : ∀ (L : List (List Cond)) (j : Nat), x ∈ k9_nth [] L j → x ∈ L.flatten
  | [], j, h => absurd (show x ∈ ([] : List Cond) from (by cases j <;> exact h)) List.not_mem_nil
  | a :: L, 0, h => by
    rw [List.flatten_cons]
    exact List.mem_append_left _ h
  | a :: L, j + 1, h => by
    rw [List.flatten_cons]
    exact List.mem_append_right _ (k9d_nth_in L j h)
theorem k9d_Bs_eq : k9d_Bs.flatten = k9_TBn := by
  simp only [k9d_Bs, k9_TBn, List.flatten_cons, List.flatten_nil, List.append_nil]
theorem k9d_wat_in {n : Nat} {w : Cond} (h : k9d_wat n = some w) : w ∈ k9_TBn := by
  rw [← k9d_Bs_eq]
  exact k9d_nth_in _ _ (List.mem_of_getElem? h)
theorem k9_TBn_mem : ∀ w ∈ k9_TBn, w ∈ lw_tbl ∧ goodWord w = true := by
  intro w hw
  unfold k9_TBn at hw
  simp only [List.mem_append] at hw
  rcases hw with hw | hw | hw | hw | hw | hw | hw | hw | hw | hw | hw | hw | hw | hw | hw | hw | hw | hw | hw | hw | hw | hw | hw
  · exact ⟨k9_Bin k9_Bi0 hw, List.all_eq_true.mp k9_Bg0 w hw⟩
  · exact ⟨k9_Bin k9_Bi1 hw, List.all_eq_true.mp k9_Bg1 w hw⟩
  · exact ⟨k9_Bin k9_Bi2 hw, List.all_eq_true.mp k9_Bg2 w hw⟩
  · exact ⟨k9_Bin k9_Bi3 hw, List.all_eq_true.mp k9_Bg3 w hw⟩
  · exact ⟨k9_Bin k9_Bi4 hw, List.all_eq_true.mp k9_Bg4 w hw⟩
  · exact ⟨k9_Bin k9_Bi5 hw, List.all_eq_true.mp k9_Bg5 w hw⟩
  · exact ⟨k9_Bin k9_Bi6 hw, List.all_eq_true.mp k9_Bg6 w hw⟩
  · exact ⟨k9_Bin k9_Bi7 hw, List.all_eq_true.mp k9_Bg7 w hw⟩
  · exact ⟨k9_Bin k9_Bi8 hw, List.all_eq_true.mp k9_Bg8 w hw⟩
  · exact ⟨k9_Bin k9_Bi9 hw, List.all_eq_true.mp k9_Bg9 w hw⟩
  · exact ⟨k9_Bin k9_Bi10 hw, List.all_eq_true.mp k9_Bg10 w hw⟩
  · exact ⟨k9_Bin k9_Bi11 hw, List.all_eq_true.mp k9_Bg11 w hw⟩
  · exact ⟨k9_Bin k9_Bi12 hw, List.all_eq_true.mp k9_Bg12 w hw⟩
  · exact ⟨k9_Bin k9_Bi13 hw, List.all_eq_true.mp k9_Bg13 w hw⟩
  · exact ⟨k9_Bin k9_Bi14 hw, List.all_eq_true.mp k9_Bg14 w hw⟩
  · exact ⟨k9_Bin k9_Bi15 hw, List.all_eq_true.mp k9_Bg15 w hw⟩
  · exact ⟨k9_Bin k9_Bi16 hw, List.all_eq_true.mp k9_Bg16 w hw⟩
  · exact ⟨k9_Bin k9_Bi17 hw, List.all_eq_true.mp k9_Bg17 w hw⟩
  · exact ⟨k9_Bin k9_Bi18 hw, List.all_eq_true.mp k9_Bg18 w hw⟩
  · exact ⟨k9_Bin k9_Bi19 hw, List.all_eq_true.mp k9_Bg19 w hw⟩
  · exact ⟨k9_Bin k9_Bi20 hw, List.all_eq_true.mp k9_Bg20 w hw⟩
  · exact ⟨k9_Bin k9_Bi21 hw, List.all_eq_true.mp k9_Bg21 w hw⟩
  · exact ⟨k9_Bin k9_Bi22 hw, List.all_eq_true.mp k9_Bg22 w hw⟩
theorem k9_TB_mem : ∀ w ∈ k9_TB, w ∈ lw_tbl := by
  intro w hw
  rcases List.mem_append.mp hw with hw | hw
  · obtain ⟨z, hz, rfl⟩ := List.mem_map.mp hw
    exact k9_cws z (List.mem_range.mp hz)
  · exact (k9_TBn_mem w hw).1
theorem k9_TB_good : k9_TB.all goodWord = true := by
  refine List.all_eq_true.mpr fun w hw => ?_
  rcases List.mem_append.mp hw with hw | hw
  · obtain ⟨z, hz, rfl⟩ := List.mem_map.mp hw
    rfl
  · exact (k9_TBn_mem w hw).2
theorem k9_TBn_in {w : Cond} (h : w ∈ k9_TBn) : w ∈ k9_TB := List.mem_append_right _ h
theorem k9_TBc_in {z : Nat} (hz : z < k9_law) : Cond.code (k9_nm z) (k9_by z) (k9_ml z) (k9_rt z) ∈ k9_TB := List.mem_append_left _ (List.mem_map.mpr ⟨z, List.mem_range.mpr hz, rfl⟩)
theorem k9_NS_at : k9_NS = k9_NSi.filterMap (fun i => lw_tbl[i]?) := by decide +kernel
theorem k9_NS_mem : ∀ w ∈ k9_NS, w ∈ lw_tbl := by
  intro w hw
  rw [k9_NS_at] at hw
  obtain ⟨i, -, hi⟩ := List.mem_filterMap.mp hw
  exact List.mem_of_getElem? hi
def k9_isN : Cond → Bool
  | .methodLinkNest _ _ _ _ => true
  | _ => false
theorem k9_NS_isN : k9_NS.all k9_isN = true := by decide +kernel
theorem k9_NS_warm {w : Cond} (hw : w ∈ k9_NS) {s U : State} (hW : s.WarmedH U.vm) (h : va_Nw w s) : va_Nw w U := by
  have h1 := List.all_eq_true.mp k9_NS_isN w hw
  cases w <;> first | exact va_Nw.warmM hW h | cases h1
def k9_tyf (k j : Nat) : FieldType := (parseFieldDescriptor ((k9_vc k).2.1 j).2.2.1).getD .int
theorem k9d_uw {C : String} {T : u_T} {N off : Nat} (h : ((List.range N).all (fun j => decide (k9d_wat (off + j) = some (u_lay C T j)))) = true) : ∀ w ∈ u_ws C T N, w ∈ k9_TB := by
  intro w hw
  obtain ⟨j, hj, rfl⟩ := List.mem_map.mp hw
  exact k9_TBn_in (k9d_wat_in (of_decide_eq_true (List.all_eq_true.mp h j hj)))
theorem k9_kd {k : Nat} (h : k9_ob k = true) : vwCl[k9_ci k]? = some ((k9_vc k).1, (k9_vc k).2.1, (k9_vc k).2.2) ∧ (∀ w ∈ u_ws (k9_vc k).1 (k9_vc k).2.1 (k9_vc k).2.2, w ∈ k9_TB) ∧ (∀ j, j < (k9_vc k).2.2 → parseFieldDescriptor ((k9_vc k).2.1 j).2.2.1 = some (k9_tyf k j)) ∧ (∀ a, a < (k9_vc k).2.2 → ∀ b, b < (k9_vc k).2.2 → a ≠ b → ((k9_vc k).2.1 a).2.1 ≠ ((k9_vc k).2.1 b).2.1) := by
  simp only [k9_ob, Bool.and_eq_true] at h
  have h1 := Nat.le_of_ble_eq_true h.1.2
  have h2 := Nat.le_of_ble_eq_true h.2
  have h3 : k = 1 ∨ k = 2 ∨ k = 3 ∨ k = 4 ∨ k = 5 ∨ k = 6 ∨ k = 7 ∨ k = 8 ∨ k = 9 ∨ k = 10 ∨ k = 11 ∨ k = 12 := by omega
  clear h h1 h2
  rcases h3 with rfl | rfl | rfl | rfl | rfl | rfl | rfl | rfl | rfl | rfl | rfl | rfl
  · exact ⟨rfl, k9d_uw (off := 0) (by decide +kernel), by decide +kernel, by decide +kernel⟩
  · exact ⟨rfl, k9d_uw (off := 15) (by decide +kernel), by decide +kernel, by decide +kernel⟩
  · exact ⟨rfl, k9d_uw (off := 21) (by decide +kernel), by decide +kernel, by decide +kernel⟩
  · exact ⟨rfl, k9d_uw (off := 29) (by decide +kernel), by decide +kernel, by decide +kernel⟩
  · exact ⟨rfl, k9d_uw (off := 43) (by decide +kernel), by decide +kernel, by decide +kernel⟩
  · exact ⟨rfl, k9d_uw (off := 48) (by decide +kernel), by decide +kernel, by decide +kernel⟩
  · exact ⟨rfl, k9d_uw (off := 54) (by decide +kernel), by decide +kernel, by decide +kernel⟩
  · exact ⟨rfl, k9d_uw (off := 56) (by decide +kernel), by decide +kernel, by decide +kernel⟩
  · exact ⟨rfl, k9d_uw (off := 62) (by decide +kernel), by decide +kernel, by decide +kernel⟩
  · exact ⟨rfl, k9d_uw (off := 69) (by decide +kernel), by decide +kernel, by decide +kernel⟩
  · exact ⟨rfl, k9d_uw (off := 74) (by decide +kernel), by decide +kernel, by decide +kernel⟩
  · exact ⟨rfl, k9d_uw (off := 79) (by decide +kernel), by decide +kernel, by decide +kernel⟩
theorem k9_et_0 : k9_et 0 = 0 := rfl
theorem k9_cells_nd : va_nd (k9_cells.map (fun q => q.1 * 1000 + q.2)) = true := by decide +kernel
def k9_okr (q : Nat × Nat) : Bool := Nat.beq q.1 0 || decide (q ∈ k9_cells) || Nat.ble 9 (k9_et q.1)
theorem k9_fr_ok : (k9_cells.all fun q => (List.range (k9_vc q.1).2.2).all fun s => !(Nat.beq (k9_ft q.1 s) 2) || k9_okr (k9_fr q.1 s q.2)) = true := by decide +kernel
theorem k9_ar_ok : (k9_cells.all fun q => !(Nat.beq (k9_et q.1) 3) || (List.range (k9_len q.1)).all fun j => k9_okr (k9_ar q.1 q.2 j)) = true := by decide +kernel
theorem k9_tab_in {k : Nat} (h : Nat.beq (k9_et k) 9 = true) : ∃ q, q ∈ k9_tabs ∧ q.1 = k := by
  have h0 : ∀ k < 91, Nat.beq (k9_et k) 9 = true → k = 80 ∨ k = 81 ∨ k = 82 ∨ k = 83 := by decide +kernel
  have h1 : k < 91 := by
    apply Nat.lt_of_not_le
    intro hk
    have h2 : ∀ (l : List Nat) (n : Nat), l.length ≤ n → k9_nth 0 l n = 0 := by
      intro l
      induction l with
      | nil => intro n _; cases n <;> rfl
      | cons a l ih =>
        intro n hn
        cases n with
        | zero => cases hn
        | succ n => exact ih n (Nat.le_of_succ_le_succ hn)
    have h3 : k9_et k = 0 := h2 k9_ets k hk
    rw [h3] at h
    cases h
  rcases h0 k h1 h with rfl | rfl | rfl | rfl
  · exact ⟨_, List.mem_of_getElem? (i := 0) rfl, rfl⟩
  · exact ⟨_, List.mem_of_getElem? (i := 1) rfl, rfl⟩
  · exact ⟨_, List.mem_of_getElem? (i := 2) rfl, rfl⟩
  · exact ⟨_, List.mem_of_getElem? (i := 3) rfl, rfl⟩
theorem k9_math_max : Cond.static Lib.Math.max.name ∈ k9_TB ∧ Cond.initialized "java/lang/Math" ∈ k9_TB ∧ Cond.code Lib.Math.max.name Lib.Math.max.code 2 (some .int) ∈ k9_TB := ⟨k9_TBn_in (k9d_wat_in (n := 617) (by decide +kernel)), k9_TBn_in (k9d_wat_in (n := 616) (by decide +kernel)), k9_TBn_in (k9d_wat_in (n := 618) (by decide +kernel))⟩
theorem k9_math_min : Cond.static Lib.Math.min.name ∈ k9_TB ∧ Cond.initialized "java/lang/Math" ∈ k9_TB ∧ Cond.code Lib.Math.min.name Lib.Math.min.code 2 (some .int) ∈ k9_TB := ⟨k9_TBn_in (k9d_wat_in (n := 619) (by decide +kernel)), k9_TBn_in (k9d_wat_in (n := 616) (by decide +kernel)), k9_TBn_in (k9d_wat_in (n := 620) (by decide +kernel))⟩
theorem k9_math_abs : Cond.static Lib.Math.abs.name ∈ k9_TB ∧ Cond.initialized "java/lang/Math" ∈ k9_TB ∧ Cond.code Lib.Math.abs.name Lib.Math.abs.code 1 (some .int) ∈ k9_TB := ⟨k9_TBn_in (k9d_wat_in (n := 621) (by decide +kernel)), k9_TBn_in (k9d_wat_in (n := 616) (by decide +kernel)), k9_TBn_in (k9d_wat_in (n := 622) (by decide +kernel))⟩
def k9_mpl : List k9_W := [
  (0, 134, 144, 0), (0, 134, 145, 0), (0, 134, 146, 0), (0, 134, 147, 148), (0, 134, 149, 150), (0, 134, 151, 152), (0, 134, 153, 154), (0, 134, 155, 156), (0, 134, 157, 158), (0, 134, 159, 160),
  (0, 134, 161, 162), (0, 134, 163, 164), (0, 134, 165, 166), (0, 134, 167, 168), (0, 134, 169, 170), (0, 134, 171, 172), (0, 134, 173, 174), (0, 134, 175, 176), (0, 134, 177, 178), (0, 134, 179, 180),
  (0, 135, 181, 182), (0, 135, 183, 184), (0, 135, 185, 186), (0, 135, 187, 0), (0, 135, 188, 0), (0, 138, 189, 190), (0, 138, 191, 192), (0, 138, 193, 194), (0, 138, 195, 196), (0, 138, 197, 198),
  (0, 138, 199, 200), (0, 138, 201, 202), (0, 138, 203, 204), (0, 138, 205, 206), (0, 136, 207, 208), (0, 136, 209, 210), (0, 136, 211, 212), (0, 136, 213, 214), (0, 136, 215, 216), (0, 136, 217, 218),
  (0, 136, 219, 220), (0, 136, 221, 222), (0, 136, 223, 224), (0, 136, 225, 226), (0, 136, 227, 0), (0, 136, 228, 0), (0, 136, 229, 0), (0, 137, 230, 231), (0, 137, 232, 233), (0, 137, 234, 235),
  (0, 137, 236, 0), (0, 137, 237, 238), (0, 137, 239, 240), (0, 133, 241, 242), (0, 133, 243, 244), (0, 133, 245, 246), (0, 133, 247, 248), (0, 133, 249, 250), (0, 133, 251, 252), (0, 133, 253, 254),
  (0, 133, 255, 256), (0, 133, 257, 258), (0, 133, 259, 260), (0, 133, 261, 262), (0, 133, 263, 264), (0, 133, 265, 266), (0, 133, 267, 268), (0, 139, 269, 270), (0, 139, 271, 272), (0, 139, 273, 274),
  (0, 139, 275, 276), (0, 140, 277, 278), (0, 140, 279, 280), (0, 140, 281, 282), (0, 140, 283, 284), (0, 140, 285, 286), (0, 140, 287, 288), (0, 141, 289, 290), (0, 141, 291, 292), (0, 141, 293, 0),
  (0, 141, 294, 0), (0, 141, 295, 296), (0, 141, 297, 298), (0, 141, 299, 300), (0, 141, 301, 302), (0, 141, 303, 304), (0, 141, 305, 0), (0, 141, 306, 307), (0, 141, 308, 309), (0, 142, 310, 311),
  (0, 142, 312, 313), (0, 142, 314, 315), (0, 142, 316, 317), (0, 142, 318, 319), (0, 142, 320, 321), (0, 142, 322, 323), (0, 142, 324, 325), (0, 142, 326, 327), (0, 142, 328, 329), (0, 132, 330, 331),
  (0, 132, 332, 333), (0, 132, 334, 335), (0, 132, 336, 337), (0, 132, 338, 339), (0, 132, 340, 341), (0, 132, 342, 343), (0, 132, 344, 345), (0, 132, 346, 347), (0, 132, 348, 349), (0, 132, 350, 351),
  (0, 132, 352, 353), (0, 132, 354, 355), (0, 132, 356, 357), (0, 132, 358, 359), (0, 132, 360, 361), (0, 132, 362, 363), (0, 132, 364, 365), (0, 132, 366, 367), (0, 132, 368, 369), (0, 132, 370, 371),
  (0, 132, 372, 373), (0, 132, 374, 375), (0, 132, 376, 377), (0, 132, 378, 379), (0, 132, 380, 381), (0, 132, 382, 383), (0, 132, 384, 385), (0, 132, 386, 387), (0, 132, 388, 389), (0, 132, 390, 391),
  (0, 132, 392, 393), (0, 132, 394, 395), (0, 132, 396, 397), (0, 132, 398, 399), (0, 132, 400, 401), (0, 132, 402, 403), (0, 132, 404, 405), (0, 132, 406, 407), (0, 132, 408, 409), (0, 132, 410, 411),
  (0, 132, 412, 413), (0, 132, 414, 415), (0, 132, 416, 417), (0, 132, 418, 419), (0, 132, 420, 421), (0, 132, 422, 0), (0, 132, 423, 424), (0, 132, 425, 426), (0, 132, 427, 428), (0, 132, 429, 430),
  (0, 132, 431, 432), (0, 132, 433, 434), (0, 132, 435, 436), (0, 143, 437, 0), (0, 143, 438, 439), (0, 143, 440, 0), (0, 143, 441, 0), (0, 143, 442, 443), (0, 143, 444, 445), (0, 143, 446, 447),
  (0, 143, 448, 449), (0, 143, 450, 0), (0, 143, 451, 452), (0, 143, 453, 454), (0, 143, 455, 456), (0, 143, 457, 458), (0, 143, 459, 460), (0, 143, 461, 462), (0, 143, 463, 464), (0, 143, 465, 466),
  (0, 143, 467, 468), (0, 143, 469, 470), (0, 143, 471, 472), (0, 143, 473, 0), (0, 143, 474, 475), (0, 143, 476, 477), (0, 143, 478, 479), (0, 143, 480, 481), (0, 143, 482, 483), (0, 143, 484, 485),
  (0, 143, 486, 487), (0, 143, 488, 489), (0, 143, 490, 0), (0, 143, 491, 492), (0, 143, 493, 494), (0, 143, 495, 496), (0, 143, 497, 0), (0, 143, 498, 499), (0, 143, 500, 501), (0, 143, 502, 503),
  (0, 143, 504, 505), (0, 143, 506, 507), (0, 143, 508, 509), (0, 143, 510, 511), (0, 143, 512, 513), (0, 143, 514, 515), (0, 143, 516, 517), (0, 143, 518, 519), (0, 143, 520, 521), (0, 143, 522, 523),
  (0, 143, 524, 525), (0, 143, 526, 527), (0, 143, 528, 529), (0, 143, 530, 531), (0, 143, 532, 533), (0, 143, 534, 535), (0, 143, 536, 537), (0, 143, 538, 539), (0, 143, 540, 541), (0, 143, 542, 543),
  (0, 143, 544, 545), (0, 143, 546, 547), (0, 143, 548, 549), (0, 143, 550, 551), (0, 143, 552, 553), (0, 143, 554, 555), (0, 143, 556, 557), (0, 143, 558, 559), (0, 143, 560, 561), (0, 143, 562, 563),
  (0, 143, 564, 565), (0, 143, 566, 567), (0, 143, 568, 569), (0, 143, 570, 571), (0, 143, 572, 573), (0, 143, 574, 575), (0, 143, 576, 577), (0, 143, 578, 579), (0, 143, 580, 581), (0, 143, 582, 0),
  (0, 143, 583, 584), (0, 143, 585, 586), (0, 143, 587, 588), (0, 143, 589, 590), (0, 143, 591, 592), (0, 143, 593, 594), (0, 143, 595, 596), (0, 143, 597, 598), (0, 143, 599, 600), (0, 143, 601, 602),
  (0, 143, 603, 604), (0, 143, 605, 0), (0, 143, 606, 607), (0, 143, 608, 609), (0, 143, 610, 611), (0, 143, 612, 613), (0, 143, 614, 615)]
def k9_mokb (z : Nat) : Bool := match k9_nth (0, 0, 0, 0) k9_mpl z with
  | (a, b, c, d) => (decide (k9d_wat b = some (.initialized (k9_nm z).cls)) && plainName (k9_nm z).cls && decide ((k9_nm z).cls ≠ "java/lang/invoke/MethodHandle") && decide ((k9_nm z).cls ≠ "java/lang/invoke/VarHandle") && Nat.ble (k9_ml z) 31) &&
    (bif k9_st z then decide (k9d_wat c = some (.static (k9_nm z))) else
      decide (k9d_wat c = some (.instanceMethod (k9_nm z))) && decide (k9d_wat d = some (.selects (k9_nm z).cls (k9_nm z) (k9_nm z))) && decide ((k9_vc (k9_mk z)).1 = (k9_nm z).cls) && k9_ob (k9_mk z) && !(Nat.beq (k9_mk z) 0) && !(Nat.ble 9 (k9_et (k9_mk z))))
theorem k9_mokb_all : ((List.range k9_law).all k9_mokb) = true := by decide +kernel
/-- what is asked of a method that is called: its words, by their places -/
def k9_mok (z : Nat) : Prop := (Cond.code (k9_nm z) (k9_by z) (k9_ml z) (k9_rt z) ∈ k9_TB ∧ Cond.initialized (k9_nm z).cls ∈ k9_TB ∧ plainName (k9_nm z).cls = true ∧ (k9_nm z).cls ≠ "java/lang/invoke/MethodHandle" ∧ (k9_nm z).cls ≠ "java/lang/invoke/VarHandle" ∧ k9_ml z ≤ 31) ∧
  (k9_st z = true → Cond.static (k9_nm z) ∈ k9_TB) ∧ (k9_st z = false → Cond.instanceMethod (k9_nm z) ∈ k9_TB ∧ Cond.selects (k9_nm z).cls (k9_nm z) (k9_nm z) ∈ k9_TB ∧ (k9_vc (k9_mk z)).1 = (k9_nm z).cls ∧ k9_ob (k9_mk z) = true ∧ Nat.beq (k9_mk z) 0 = false ∧ Nat.ble 9 (k9_et (k9_mk z)) = false)
theorem k9_mok_all (z : Nat) (hz : z < k9_law) : k9_mok z := by
  have h := List.all_eq_true.mp k9_mokb_all z (List.mem_range.mpr hz)
  unfold k9_mokb at h
  generalize k9_nth (0, 0, 0, 0) k9_mpl z = q at h
  obtain ⟨a, b, c, d⟩ := q
  simp only [Bool.and_eq_true, decide_eq_true_eq] at h
  obtain ⟨⟨⟨⟨⟨h2, h3⟩, h4⟩, h5⟩, h6⟩, h7⟩ := h
  refine ⟨⟨k9_TBc_in hz, k9_TBn_in (k9d_wat_in h2), h3, h4, h5, Nat.le_of_ble_eq_true h6⟩, fun hs => ?_, fun hs => ?_⟩
  · rw [hs] at h7
    exact k9_TBn_in (k9d_wat_in (of_decide_eq_true h7))
  · rw [hs] at h7
    simp only [cond_false, Bool.and_eq_true, decide_eq_true_eq, Bool.not_eq_true'] at h7
    obtain ⟨⟨⟨⟨⟨g1, g2⟩, g3⟩, g4⟩, g5⟩, g6⟩ := h7
    exact ⟨k9_TBn_in (k9d_wat_in g1), k9_TBn_in (k9d_wat_in g2), g3, g4, g5, g6⟩
