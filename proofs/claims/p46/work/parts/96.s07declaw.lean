/-! EACH INSTRUCTION: the rows -/
theorem k9d_sq0 : k9d_sq k9_c0 = true := by decide +kernel
theorem k9d_q0_0 : k9d_chk 0 prog_11_method_2_code (fun a => (k9_nth (0, 0, 0, 0) k9_w0 a).1) 64 (prog_11_method_2_code.data.toList.drop 0) (k9_c0.flatten.drop 0) (k9_w0.drop 0) = true := by decide +kernel
theorem k9d_a0 (ix : Nat) (hne : k9_cod 0 ix ≠ (0, 0, 0, 0, 0)) : k9_okP 0 ix :=
  k9d_ch (y := 0) (cs := k9_c0) (ws := k9_w0) (m := 64) (k := 0) (pc := 0) rfl rfl rfl k9d_sq0 rfl rfl k9d_q0_0 ix (Nat.zero_le ix) hne fun h1 =>
  k9d_end (y := 0) (cs := k9_c0) (n := 64) rfl k9d_sq0 (by decide +kernel) ix h1 hne
theorem k9d_sq1 : k9d_sq k9_c1 = true := by decide +kernel
theorem k9d_q1_0 : k9d_chk 1 prog_11_method_3_code (fun a => (k9_nth (0, 0, 0, 0) k9_w1 a).1) 64 (prog_11_method_3_code.data.toList.drop 0) (k9_c1.flatten.drop 0) (k9_w1.drop 0) = true := by decide +kernel
theorem k9d_a1 (ix : Nat) (hne : k9_cod 1 ix ≠ (0, 0, 0, 0, 0)) : k9_okP 1 ix :=
  k9d_ch (y := 1) (cs := k9_c1) (ws := k9_w1) (m := 64) (k := 0) (pc := 0) rfl rfl rfl k9d_sq1 rfl rfl k9d_q1_0 ix (Nat.zero_le ix) hne fun h1 =>
  k9d_end (y := 1) (cs := k9_c1) (n := 64) rfl k9d_sq1 (by decide +kernel) ix h1 hne
theorem k9d_sq2 : k9d_sq k9_c2 = true := by decide +kernel
theorem k9d_q2_0 : k9d_chk 2 prog_11_method_4_code (fun a => (k9_nth (0, 0, 0, 0) k9_w2 a).1) 64 (prog_11_method_4_code.data.toList.drop 0) (k9_c2.flatten.drop 0) (k9_w2.drop 0) = true := by decide +kernel
theorem k9d_a2 (ix : Nat) (hne : k9_cod 2 ix ≠ (0, 0, 0, 0, 0)) : k9_okP 2 ix :=
  k9d_ch (y := 2) (cs := k9_c2) (ws := k9_w2) (m := 64) (k := 0) (pc := 0) rfl rfl rfl k9d_sq2 rfl rfl k9d_q2_0 ix (Nat.zero_le ix) hne fun h1 =>
  k9d_end (y := 2) (cs := k9_c2) (n := 64) rfl k9d_sq2 (by decide +kernel) ix h1 hne
theorem k9d_sq3 : k9d_sq k9_c3 = true := by decide +kernel
theorem k9d_q3_0 : k9d_chk 3 prog_11_method_5_code (fun a => (k9_nth (0, 0, 0, 0) k9_w3 a).1) 64 (prog_11_method_5_code.data.toList.drop 0) (k9_c3.flatten.drop 0) (k9_w3.drop 0) = true := by decide +kernel
theorem k9d_a3 (ix : Nat) (hne : k9_cod 3 ix ≠ (0, 0, 0, 0, 0)) : k9_okP 3 ix :=
  k9d_ch (y := 3) (cs := k9_c3) (ws := k9_w3) (m := 64) (k := 0) (pc := 0) rfl rfl rfl k9d_sq3 rfl rfl k9d_q3_0 ix (Nat.zero_le ix) hne fun h1 =>
  k9d_end (y := 3) (cs := k9_c3) (n := 64) rfl k9d_sq3 (by decide +kernel) ix h1 hne
theorem k9d_sq4 : k9d_sq k9_c4 = true := by decide +kernel
theorem k9d_q4_0 : k9d_chk 4 prog_11_method_6_code (fun a => (k9_nth (0, 0, 0, 0) k9_w4 a).1) 64 (prog_11_method_6_code.data.toList.drop 0) (k9_c4.flatten.drop 0) (k9_w4.drop 0) = true := by decide +kernel
theorem k9d_a4 (ix : Nat) (hne : k9_cod 4 ix ≠ (0, 0, 0, 0, 0)) : k9_okP 4 ix :=
  k9d_ch (y := 4) (cs := k9_c4) (ws := k9_w4) (m := 64) (k := 0) (pc := 0) rfl rfl rfl k9d_sq4 rfl rfl k9d_q4_0 ix (Nat.zero_le ix) hne fun h1 =>
  k9d_end (y := 4) (cs := k9_c4) (n := 64) rfl k9d_sq4 (by decide +kernel) ix h1 hne
theorem k9d_sq5 : k9d_sq k9_c5 = true := by decide +kernel
theorem k9d_q5_0 : k9d_chk 5 prog_11_method_7_code (fun a => (k9_nth (0, 0, 0, 0) k9_w5 a).1) 64 (prog_11_method_7_code.data.toList.drop 0) (k9_c5.flatten.drop 0) (k9_w5.drop 0) = true := by decide +kernel
theorem k9d_a5 (ix : Nat) (hne : k9_cod 5 ix ≠ (0, 0, 0, 0, 0)) : k9_okP 5 ix :=
  k9d_ch (y := 5) (cs := k9_c5) (ws := k9_w5) (m := 64) (k := 0) (pc := 0) rfl rfl rfl k9d_sq5 rfl rfl k9d_q5_0 ix (Nat.zero_le ix) hne fun h1 =>
  k9d_end (y := 5) (cs := k9_c5) (n := 64) rfl k9d_sq5 (by decide +kernel) ix h1 hne
theorem k9d_sq6 : k9d_sq k9_c6 = true := by decide +kernel
theorem k9d_q6_0 : k9d_chk 6 prog_11_method_8_code (fun a => (k9_nth (0, 0, 0, 0) k9_w6 a).1) 64 (prog_11_method_8_code.data.toList.drop 0) (k9_c6.flatten.drop 0) (k9_w6.drop 0) = true := by decide +kernel
theorem k9d_a6 (ix : Nat) (hne : k9_cod 6 ix ≠ (0, 0, 0, 0, 0)) : k9_okP 6 ix :=
  k9d_ch (y := 6) (cs := k9_c6) (ws := k9_w6) (m := 64) (k := 0) (pc := 0) rfl rfl rfl k9d_sq6 rfl rfl k9d_q6_0 ix (Nat.zero_le ix) hne fun h1 =>
  k9d_end (y := 6) (cs := k9_c6) (n := 64) rfl k9d_sq6 (by decide +kernel) ix h1 hne
theorem k9d_sq7 : k9d_sq k9_c7 = true := by decide +kernel
theorem k9d_q7_0 : k9d_chk 7 prog_11_method_9_code (fun a => (k9_nth (0, 0, 0, 0) k9_w7 a).1) 64 (prog_11_method_9_code.data.toList.drop 0) (k9_c7.flatten.drop 0) (k9_w7.drop 0) = true := by decide +kernel
theorem k9d_a7 (ix : Nat) (hne : k9_cod 7 ix ≠ (0, 0, 0, 0, 0)) : k9_okP 7 ix :=
  k9d_ch (y := 7) (cs := k9_c7) (ws := k9_w7) (m := 64) (k := 0) (pc := 0) rfl rfl rfl k9d_sq7 rfl rfl k9d_q7_0 ix (Nat.zero_le ix) hne fun h1 =>
  k9d_end (y := 7) (cs := k9_c7) (n := 64) rfl k9d_sq7 (by decide +kernel) ix h1 hne
theorem k9d_sq8 : k9d_sq k9_c8 = true := by decide +kernel
theorem k9d_q8_0 : k9d_chk 8 prog_11_method_10_code (fun a => (k9_nth (0, 0, 0, 0) k9_w8 a).1) 64 (prog_11_method_10_code.data.toList.drop 0) (k9_c8.flatten.drop 0) (k9_w8.drop 0) = true := by decide +kernel
theorem k9d_a8 (ix : Nat) (hne : k9_cod 8 ix ≠ (0, 0, 0, 0, 0)) : k9_okP 8 ix :=
  k9d_ch (y := 8) (cs := k9_c8) (ws := k9_w8) (m := 64) (k := 0) (pc := 0) rfl rfl rfl k9d_sq8 rfl rfl k9d_q8_0 ix (Nat.zero_le ix) hne fun h1 =>
  k9d_end (y := 8) (cs := k9_c8) (n := 64) rfl k9d_sq8 (by decide +kernel) ix h1 hne
theorem k9d_sq9 : k9d_sq k9_c9 = true := by decide +kernel
theorem k9d_q9_0 : k9d_chk 9 prog_11_method_11_code (fun a => (k9_nth (0, 0, 0, 0) k9_w9 a).1) 64 (prog_11_method_11_code.data.toList.drop 0) (k9_c9.flatten.drop 0) (k9_w9.drop 0) = true := by decide +kernel
theorem k9d_a9 (ix : Nat) (hne : k9_cod 9 ix ≠ (0, 0, 0, 0, 0)) : k9_okP 9 ix :=
  k9d_ch (y := 9) (cs := k9_c9) (ws := k9_w9) (m := 64) (k := 0) (pc := 0) rfl rfl rfl k9d_sq9 rfl rfl k9d_q9_0 ix (Nat.zero_le ix) hne fun h1 =>
  k9d_end (y := 9) (cs := k9_c9) (n := 64) rfl k9d_sq9 (by decide +kernel) ix h1 hne
theorem k9d_sq10 : k9d_sq k9_c10 = true := by decide +kernel
theorem k9d_q10_0 : k9d_chk 10 prog_11_method_12_code (fun a => (k9_nth (0, 0, 0, 0) k9_w10 a).1) 64 (prog_11_method_12_code.data.toList.drop 0) (k9_c10.flatten.drop 0) (k9_w10.drop 0) = true := by decide +kernel
theorem k9d_a10 (ix : Nat) (hne : k9_cod 10 ix ≠ (0, 0, 0, 0, 0)) : k9_okP 10 ix :=
  k9d_ch (y := 10) (cs := k9_c10) (ws := k9_w10) (m := 64) (k := 0) (pc := 0) rfl rfl rfl k9d_sq10 rfl rfl k9d_q10_0 ix (Nat.zero_le ix) hne fun h1 =>
  k9d_end (y := 10) (cs := k9_c10) (n := 64) rfl k9d_sq10 (by decide +kernel) ix h1 hne
theorem k9d_sq11 : k9d_sq k9_c11 = true := by decide +kernel
theorem k9d_q11_0 : k9d_chk 11 prog_11_method_13_code (fun a => (k9_nth (0, 0, 0, 0) k9_w11 a).1) 64 (prog_11_method_13_code.data.toList.drop 0) (k9_c11.flatten.drop 0) (k9_w11.drop 0) = true := by decide +kernel
theorem k9d_a11 (ix : Nat) (hne : k9_cod 11 ix ≠ (0, 0, 0, 0, 0)) : k9_okP 11 ix :=
  k9d_ch (y := 11) (cs := k9_c11) (ws := k9_w11) (m := 64) (k := 0) (pc := 0) rfl rfl rfl k9d_sq11 rfl rfl k9d_q11_0 ix (Nat.zero_le ix) hne fun h1 =>
  k9d_end (y := 11) (cs := k9_c11) (n := 64) rfl k9d_sq11 (by decide +kernel) ix h1 hne
theorem k9d_sq12 : k9d_sq k9_c12 = true := by decide +kernel
theorem k9d_q12_0 : k9d_chk 12 prog_11_method_14_code (fun a => (k9_nth (0, 0, 0, 0) k9_w12 a).1) 64 (prog_11_method_14_code.data.toList.drop 0) (k9_c12.flatten.drop 0) (k9_w12.drop 0) = true := by decide +kernel
theorem k9d_a12 (ix : Nat) (hne : k9_cod 12 ix ≠ (0, 0, 0, 0, 0)) : k9_okP 12 ix :=
  k9d_ch (y := 12) (cs := k9_c12) (ws := k9_w12) (m := 64) (k := 0) (pc := 0) rfl rfl rfl k9d_sq12 rfl rfl k9d_q12_0 ix (Nat.zero_le ix) hne fun h1 =>
  k9d_end (y := 12) (cs := k9_c12) (n := 64) rfl k9d_sq12 (by decide +kernel) ix h1 hne
theorem k9d_sq13 : k9d_sq k9_c13 = true := by decide +kernel
theorem k9d_q13_0 : k9d_chk 13 prog_11_method_15_code (fun a => (k9_nth (0, 0, 0, 0) k9_w13 a).1) 64 (prog_11_method_15_code.data.toList.drop 0) (k9_c13.flatten.drop 0) (k9_w13.drop 0) = true := by decide +kernel
theorem k9d_a13 (ix : Nat) (hne : k9_cod 13 ix ≠ (0, 0, 0, 0, 0)) : k9_okP 13 ix :=
  k9d_ch (y := 13) (cs := k9_c13) (ws := k9_w13) (m := 64) (k := 0) (pc := 0) rfl rfl rfl k9d_sq13 rfl rfl k9d_q13_0 ix (Nat.zero_le ix) hne fun h1 =>
  k9d_end (y := 13) (cs := k9_c13) (n := 64) rfl k9d_sq13 (by decide +kernel) ix h1 hne
theorem k9d_sq14 : k9d_sq k9_c14 = true := by decide +kernel
theorem k9d_q14_0 : k9d_chk 14 prog_11_method_16_code (fun a => (k9_nth (0, 0, 0, 0) k9_w14 a).1) 64 (prog_11_method_16_code.data.toList.drop 0) (k9_c14.flatten.drop 0) (k9_w14.drop 0) = true := by decide +kernel
theorem k9d_a14 (ix : Nat) (hne : k9_cod 14 ix ≠ (0, 0, 0, 0, 0)) : k9_okP 14 ix :=
  k9d_ch (y := 14) (cs := k9_c14) (ws := k9_w14) (m := 64) (k := 0) (pc := 0) rfl rfl rfl k9d_sq14 rfl rfl k9d_q14_0 ix (Nat.zero_le ix) hne fun h1 =>
  k9d_end (y := 14) (cs := k9_c14) (n := 64) rfl k9d_sq14 (by decide +kernel) ix h1 hne
theorem k9d_sq15 : k9d_sq k9_c15 = true := by decide +kernel
theorem k9d_q15_0 : k9d_chk 15 prog_11_method_17_code (fun a => (k9_nth (0, 0, 0, 0) k9_w15 a).1) 64 (prog_11_method_17_code.data.toList.drop 0) (k9_c15.flatten.drop 0) (k9_w15.drop 0) = true := by decide +kernel
theorem k9d_a15 (ix : Nat) (hne : k9_cod 15 ix ≠ (0, 0, 0, 0, 0)) : k9_okP 15 ix :=
  k9d_ch (y := 15) (cs := k9_c15) (ws := k9_w15) (m := 64) (k := 0) (pc := 0) rfl rfl rfl k9d_sq15 rfl rfl k9d_q15_0 ix (Nat.zero_le ix) hne fun h1 =>
  k9d_end (y := 15) (cs := k9_c15) (n := 64) rfl k9d_sq15 (by decide +kernel) ix h1 hne
theorem k9d_sq16 : k9d_sq k9_c16 = true := by decide +kernel
theorem k9d_q16_0 : k9d_chk 16 prog_11_method_18_code (fun a => (k9_nth (0, 0, 0, 0) k9_w16 a).1) 64 (prog_11_method_18_code.data.toList.drop 0) (k9_c16.flatten.drop 0) (k9_w16.drop 0) = true := by decide +kernel
theorem k9d_a16 (ix : Nat) (hne : k9_cod 16 ix ≠ (0, 0, 0, 0, 0)) : k9_okP 16 ix :=
  k9d_ch (y := 16) (cs := k9_c16) (ws := k9_w16) (m := 64) (k := 0) (pc := 0) rfl rfl rfl k9d_sq16 rfl rfl k9d_q16_0 ix (Nat.zero_le ix) hne fun h1 =>
  k9d_end (y := 16) (cs := k9_c16) (n := 64) rfl k9d_sq16 (by decide +kernel) ix h1 hne
theorem k9d_sq17 : k9d_sq k9_c17 = true := by decide +kernel
theorem k9d_q17_0 : k9d_chk 17 prog_11_method_19_code (fun a => (k9_nth (0, 0, 0, 0) k9_w17 a).1) 64 (prog_11_method_19_code.data.toList.drop 0) (k9_c17.flatten.drop 0) (k9_w17.drop 0) = true := by decide +kernel
theorem k9d_a17 (ix : Nat) (hne : k9_cod 17 ix ≠ (0, 0, 0, 0, 0)) : k9_okP 17 ix :=
  k9d_ch (y := 17) (cs := k9_c17) (ws := k9_w17) (m := 64) (k := 0) (pc := 0) rfl rfl rfl k9d_sq17 rfl rfl k9d_q17_0 ix (Nat.zero_le ix) hne fun h1 =>
  k9d_end (y := 17) (cs := k9_c17) (n := 64) rfl k9d_sq17 (by decide +kernel) ix h1 hne
theorem k9d_sq18 : k9d_sq k9_c18 = true := by decide +kernel
theorem k9d_q18_0 : k9d_chk 18 prog_11_method_20_code (fun a => (k9_nth (0, 0, 0, 0) k9_w18 a).1) 64 (prog_11_method_20_code.data.toList.drop 0) (k9_c18.flatten.drop 0) (k9_w18.drop 0) = true := by decide +kernel
theorem k9d_a18 (ix : Nat) (hne : k9_cod 18 ix ≠ (0, 0, 0, 0, 0)) : k9_okP 18 ix :=
  k9d_ch (y := 18) (cs := k9_c18) (ws := k9_w18) (m := 64) (k := 0) (pc := 0) rfl rfl rfl k9d_sq18 rfl rfl k9d_q18_0 ix (Nat.zero_le ix) hne fun h1 =>
  k9d_end (y := 18) (cs := k9_c18) (n := 64) rfl k9d_sq18 (by decide +kernel) ix h1 hne
theorem k9d_sq19 : k9d_sq k9_c19 = true := by decide +kernel
theorem k9d_q19_0 : k9d_chk 19 prog_11_method_21_code (fun a => (k9_nth (0, 0, 0, 0) k9_w19 a).1) 64 (prog_11_method_21_code.data.toList.drop 0) (k9_c19.flatten.drop 0) (k9_w19.drop 0) = true := by decide +kernel
theorem k9d_a19 (ix : Nat) (hne : k9_cod 19 ix ≠ (0, 0, 0, 0, 0)) : k9_okP 19 ix :=
  k9d_ch (y := 19) (cs := k9_c19) (ws := k9_w19) (m := 64) (k := 0) (pc := 0) rfl rfl rfl k9d_sq19 rfl rfl k9d_q19_0 ix (Nat.zero_le ix) hne fun h1 =>
  k9d_end (y := 19) (cs := k9_c19) (n := 64) rfl k9d_sq19 (by decide +kernel) ix h1 hne
theorem k9d_sq20 : k9d_sq k9_c20 = true := by decide +kernel
theorem k9d_q20_0 : k9d_chk 20 prog_10_method_2_code (fun a => (k9_nth (0, 0, 0, 0) k9_w20 a).1) 64 (prog_10_method_2_code.data.toList.drop 0) (k9_c20.flatten.drop 0) (k9_w20.drop 0) = true := by decide +kernel
theorem k9d_a20 (ix : Nat) (hne : k9_cod 20 ix ≠ (0, 0, 0, 0, 0)) : k9_okP 20 ix :=
  k9d_ch (y := 20) (cs := k9_c20) (ws := k9_w20) (m := 64) (k := 0) (pc := 0) rfl rfl rfl k9d_sq20 rfl rfl k9d_q20_0 ix (Nat.zero_le ix) hne fun h1 =>
  k9d_end (y := 20) (cs := k9_c20) (n := 64) rfl k9d_sq20 (by decide +kernel) ix h1 hne
theorem k9d_sq21 : k9d_sq k9_c21 = true := by decide +kernel
theorem k9d_q21_0 : k9d_chk 21 prog_10_method_3_code (fun a => (k9_nth (0, 0, 0, 0) k9_w21 a).1) 64 (prog_10_method_3_code.data.toList.drop 0) (k9_c21.flatten.drop 0) (k9_w21.drop 0) = true := by decide +kernel
theorem k9d_q21_1 : k9d_chk 21 prog_10_method_3_code (fun a => (k9_nth (0, 0, 0, 0) k9_w21 a).1) 64 (prog_10_method_3_code.data.toList.drop 118) (k9_c21.flatten.drop 64) (k9_w21.drop 64) = true := by decide +kernel
theorem k9d_a21 (ix : Nat) (hne : k9_cod 21 ix ≠ (0, 0, 0, 0, 0)) : k9_okP 21 ix :=
  k9d_ch (y := 21) (cs := k9_c21) (ws := k9_w21) (m := 64) (k := 0) (pc := 0) rfl rfl rfl k9d_sq21 rfl rfl k9d_q21_0 ix (Nat.zero_le ix) hne fun h1 =>
  k9d_ch (y := 21) (cs := k9_c21) (ws := k9_w21) (m := 64) (k := 64) (pc := 118) rfl rfl rfl k9d_sq21 rfl (by decide +kernel) k9d_q21_1 ix h1 hne fun h2 =>
  k9d_end (y := 21) (cs := k9_c21) (n := 128) rfl k9d_sq21 (by decide +kernel) ix h2 hne
theorem k9d_sq22 : k9d_sq k9_c22 = true := by decide +kernel
theorem k9d_q22_0 : k9d_chk 22 prog_10_method_4_code (fun a => (k9_nth (0, 0, 0, 0) k9_w22 a).1) 64 (prog_10_method_4_code.data.toList.drop 0) (k9_c22.flatten.drop 0) (k9_w22.drop 0) = true := by decide +kernel
theorem k9d_a22 (ix : Nat) (hne : k9_cod 22 ix ≠ (0, 0, 0, 0, 0)) : k9_okP 22 ix :=
  k9d_ch (y := 22) (cs := k9_c22) (ws := k9_w22) (m := 64) (k := 0) (pc := 0) rfl rfl rfl k9d_sq22 rfl rfl k9d_q22_0 ix (Nat.zero_le ix) hne fun h1 =>
  k9d_end (y := 22) (cs := k9_c22) (n := 64) rfl k9d_sq22 (by decide +kernel) ix h1 hne
theorem k9d_sq23 : k9d_sq k9_c23 = true := by decide +kernel
theorem k9d_q23_0 : k9d_chk 23 prog_10_method_5_code (fun a => (k9_nth (0, 0, 0, 0) k9_w23 a).1) 64 (prog_10_method_5_code.data.toList.drop 0) (k9_c23.flatten.drop 0) (k9_w23.drop 0) = true := by decide +kernel
theorem k9d_a23 (ix : Nat) (hne : k9_cod 23 ix ≠ (0, 0, 0, 0, 0)) : k9_okP 23 ix :=
  k9d_ch (y := 23) (cs := k9_c23) (ws := k9_w23) (m := 64) (k := 0) (pc := 0) rfl rfl rfl k9d_sq23 rfl rfl k9d_q23_0 ix (Nat.zero_le ix) hne fun h1 =>
  k9d_end (y := 23) (cs := k9_c23) (n := 64) rfl k9d_sq23 (by decide +kernel) ix h1 hne
theorem k9d_sq24 : k9d_sq k9_c24 = true := by decide +kernel
theorem k9d_q24_0 : k9d_chk 24 prog_10_method_6_code (fun a => (k9_nth (0, 0, 0, 0) k9_w24 a).1) 64 (prog_10_method_6_code.data.toList.drop 0) (k9_c24.flatten.drop 0) (k9_w24.drop 0) = true := by decide +kernel
theorem k9d_a24 (ix : Nat) (hne : k9_cod 24 ix ≠ (0, 0, 0, 0, 0)) : k9_okP 24 ix :=
  k9d_ch (y := 24) (cs := k9_c24) (ws := k9_w24) (m := 64) (k := 0) (pc := 0) rfl rfl rfl k9d_sq24 rfl rfl k9d_q24_0 ix (Nat.zero_le ix) hne fun h1 =>
  k9d_end (y := 24) (cs := k9_c24) (n := 64) rfl k9d_sq24 (by decide +kernel) ix h1 hne
theorem k9d_sq25 : k9d_sq k9_c25 = true := by decide +kernel
theorem k9d_q25_0 : k9d_chk 25 prog_5_method_2_code (fun a => (k9_nth (0, 0, 0, 0) k9_w25 a).1) 64 (prog_5_method_2_code.data.toList.drop 0) (k9_c25.flatten.drop 0) (k9_w25.drop 0) = true := by decide +kernel
theorem k9d_a25 (ix : Nat) (hne : k9_cod 25 ix ≠ (0, 0, 0, 0, 0)) : k9_okP 25 ix :=
  k9d_ch (y := 25) (cs := k9_c25) (ws := k9_w25) (m := 64) (k := 0) (pc := 0) rfl rfl rfl k9d_sq25 rfl rfl k9d_q25_0 ix (Nat.zero_le ix) hne fun h1 =>
  k9d_end (y := 25) (cs := k9_c25) (n := 64) rfl k9d_sq25 (by decide +kernel) ix h1 hne
theorem k9d_sq26 : k9d_sq k9_c26 = true := by decide +kernel
theorem k9d_q26_0 : k9d_chk 26 prog_5_method_3_code (fun a => (k9_nth (0, 0, 0, 0) k9_w26 a).1) 64 (prog_5_method_3_code.data.toList.drop 0) (k9_c26.flatten.drop 0) (k9_w26.drop 0) = true := by decide +kernel
theorem k9d_a26 (ix : Nat) (hne : k9_cod 26 ix ≠ (0, 0, 0, 0, 0)) : k9_okP 26 ix :=
  k9d_ch (y := 26) (cs := k9_c26) (ws := k9_w26) (m := 64) (k := 0) (pc := 0) rfl rfl rfl k9d_sq26 rfl rfl k9d_q26_0 ix (Nat.zero_le ix) hne fun h1 =>
  k9d_end (y := 26) (cs := k9_c26) (n := 64) rfl k9d_sq26 (by decide +kernel) ix h1 hne
theorem k9d_sq27 : k9d_sq k9_c27 = true := by decide +kernel
theorem k9d_q27_0 : k9d_chk 27 prog_5_method_4_code (fun a => (k9_nth (0, 0, 0, 0) k9_w27 a).1) 64 (prog_5_method_4_code.data.toList.drop 0) (k9_c27.flatten.drop 0) (k9_w27.drop 0) = true := by decide +kernel
theorem k9d_a27 (ix : Nat) (hne : k9_cod 27 ix ≠ (0, 0, 0, 0, 0)) : k9_okP 27 ix :=
  k9d_ch (y := 27) (cs := k9_c27) (ws := k9_w27) (m := 64) (k := 0) (pc := 0) rfl rfl rfl k9d_sq27 rfl rfl k9d_q27_0 ix (Nat.zero_le ix) hne fun h1 =>
  k9d_end (y := 27) (cs := k9_c27) (n := 64) rfl k9d_sq27 (by decide +kernel) ix h1 hne
theorem k9d_sq28 : k9d_sq k9_c28 = true := by decide +kernel
theorem k9d_q28_0 : k9d_chk 28 prog_5_method_5_code (fun a => (k9_nth (0, 0, 0, 0) k9_w28 a).1) 64 (prog_5_method_5_code.data.toList.drop 0) (k9_c28.flatten.drop 0) (k9_w28.drop 0) = true := by decide +kernel
theorem k9d_a28 (ix : Nat) (hne : k9_cod 28 ix ≠ (0, 0, 0, 0, 0)) : k9_okP 28 ix :=
  k9d_ch (y := 28) (cs := k9_c28) (ws := k9_w28) (m := 64) (k := 0) (pc := 0) rfl rfl rfl k9d_sq28 rfl rfl k9d_q28_0 ix (Nat.zero_le ix) hne fun h1 =>
  k9d_end (y := 28) (cs := k9_c28) (n := 64) rfl k9d_sq28 (by decide +kernel) ix h1 hne
theorem k9d_sq29 : k9d_sq k9_c29 = true := by decide +kernel
theorem k9d_q29_0 : k9d_chk 29 prog_5_method_6_code (fun a => (k9_nth (0, 0, 0, 0) k9_w29 a).1) 64 (prog_5_method_6_code.data.toList.drop 0) (k9_c29.flatten.drop 0) (k9_w29.drop 0) = true := by decide +kernel
theorem k9d_a29 (ix : Nat) (hne : k9_cod 29 ix ≠ (0, 0, 0, 0, 0)) : k9_okP 29 ix :=
  k9d_ch (y := 29) (cs := k9_c29) (ws := k9_w29) (m := 64) (k := 0) (pc := 0) rfl rfl rfl k9d_sq29 rfl rfl k9d_q29_0 ix (Nat.zero_le ix) hne fun h1 =>
  k9d_end (y := 29) (cs := k9_c29) (n := 64) rfl k9d_sq29 (by decide +kernel) ix h1 hne
theorem k9d_sq30 : k9d_sq k9_c30 = true := by decide +kernel
theorem k9d_q30_0 : k9d_chk 30 prog_5_method_7_code (fun a => (k9_nth (0, 0, 0, 0) k9_w30 a).1) 64 (prog_5_method_7_code.data.toList.drop 0) (k9_c30.flatten.drop 0) (k9_w30.drop 0) = true := by decide +kernel
theorem k9d_a30 (ix : Nat) (hne : k9_cod 30 ix ≠ (0, 0, 0, 0, 0)) : k9_okP 30 ix :=
  k9d_ch (y := 30) (cs := k9_c30) (ws := k9_w30) (m := 64) (k := 0) (pc := 0) rfl rfl rfl k9d_sq30 rfl rfl k9d_q30_0 ix (Nat.zero_le ix) hne fun h1 =>
  k9d_end (y := 30) (cs := k9_c30) (n := 64) rfl k9d_sq30 (by decide +kernel) ix h1 hne
theorem k9d_sq31 : k9d_sq k9_c31 = true := by decide +kernel
theorem k9d_q31_0 : k9d_chk 31 prog_5_method_8_code (fun a => (k9_nth (0, 0, 0, 0) k9_w31 a).1) 64 (prog_5_method_8_code.data.toList.drop 0) (k9_c31.flatten.drop 0) (k9_w31.drop 0) = true := by decide +kernel
theorem k9d_a31 (ix : Nat) (hne : k9_cod 31 ix ≠ (0, 0, 0, 0, 0)) : k9_okP 31 ix :=
  k9d_ch (y := 31) (cs := k9_c31) (ws := k9_w31) (m := 64) (k := 0) (pc := 0) rfl rfl rfl k9d_sq31 rfl rfl k9d_q31_0 ix (Nat.zero_le ix) hne fun h1 =>
  k9d_end (y := 31) (cs := k9_c31) (n := 64) rfl k9d_sq31 (by decide +kernel) ix h1 hne
theorem k9d_sq32 : k9d_sq k9_c32 = true := by decide +kernel
theorem k9d_q32_0 : k9d_chk 32 prog_5_method_9_code (fun a => (k9_nth (0, 0, 0, 0) k9_w32 a).1) 64 (prog_5_method_9_code.data.toList.drop 0) (k9_c32.flatten.drop 0) (k9_w32.drop 0) = true := by decide +kernel
theorem k9d_q32_1 : k9d_chk 32 prog_5_method_9_code (fun a => (k9_nth (0, 0, 0, 0) k9_w32 a).1) 64 (prog_5_method_9_code.data.toList.drop 109) (k9_c32.flatten.drop 64) (k9_w32.drop 64) = true := by decide +kernel
theorem k9d_a32 (ix : Nat) (hne : k9_cod 32 ix ≠ (0, 0, 0, 0, 0)) : k9_okP 32 ix :=
  k9d_ch (y := 32) (cs := k9_c32) (ws := k9_w32) (m := 64) (k := 0) (pc := 0) rfl rfl rfl k9d_sq32 rfl rfl k9d_q32_0 ix (Nat.zero_le ix) hne fun h1 =>
  k9d_ch (y := 32) (cs := k9_c32) (ws := k9_w32) (m := 64) (k := 64) (pc := 109) rfl rfl rfl k9d_sq32 rfl (by decide +kernel) k9d_q32_1 ix h1 hne fun h2 =>
  k9d_end (y := 32) (cs := k9_c32) (n := 128) rfl k9d_sq32 (by decide +kernel) ix h2 hne
theorem k9d_sq33 : k9d_sq k9_c33 = true := by decide +kernel
theorem k9d_q33_0 : k9d_chk 33 prog_5_method_10_code (fun a => (k9_nth (0, 0, 0, 0) k9_w33 a).1) 64 (prog_5_method_10_code.data.toList.drop 0) (k9_c33.flatten.drop 0) (k9_w33.drop 0) = true := by decide +kernel
theorem k9d_a33 (ix : Nat) (hne : k9_cod 33 ix ≠ (0, 0, 0, 0, 0)) : k9_okP 33 ix :=
  k9d_ch (y := 33) (cs := k9_c33) (ws := k9_w33) (m := 64) (k := 0) (pc := 0) rfl rfl rfl k9d_sq33 rfl rfl k9d_q33_0 ix (Nat.zero_le ix) hne fun h1 =>
  k9d_end (y := 33) (cs := k9_c33) (n := 64) rfl k9d_sq33 (by decide +kernel) ix h1 hne
theorem k9d_sq34 : k9d_sq k9_c34 = true := by decide +kernel
theorem k9d_q34_0 : k9d_chk 34 prog_8_method_2_code (fun a => (k9_nth (0, 0, 0, 0) k9_w34 a).1) 64 (prog_8_method_2_code.data.toList.drop 0) (k9_c34.flatten.drop 0) (k9_w34.drop 0) = true := by decide +kernel
theorem k9d_a34 (ix : Nat) (hne : k9_cod 34 ix ≠ (0, 0, 0, 0, 0)) : k9_okP 34 ix :=
  k9d_ch (y := 34) (cs := k9_c34) (ws := k9_w34) (m := 64) (k := 0) (pc := 0) rfl rfl rfl k9d_sq34 rfl rfl k9d_q34_0 ix (Nat.zero_le ix) hne fun h1 =>
  k9d_end (y := 34) (cs := k9_c34) (n := 64) rfl k9d_sq34 (by decide +kernel) ix h1 hne
theorem k9d_sq35 : k9d_sq k9_c35 = true := by decide +kernel
theorem k9d_q35_0 : k9d_chk 35 prog_8_method_3_code (fun a => (k9_nth (0, 0, 0, 0) k9_w35 a).1) 64 (prog_8_method_3_code.data.toList.drop 0) (k9_c35.flatten.drop 0) (k9_w35.drop 0) = true := by decide +kernel
theorem k9d_a35 (ix : Nat) (hne : k9_cod 35 ix ≠ (0, 0, 0, 0, 0)) : k9_okP 35 ix :=
  k9d_ch (y := 35) (cs := k9_c35) (ws := k9_w35) (m := 64) (k := 0) (pc := 0) rfl rfl rfl k9d_sq35 rfl rfl k9d_q35_0 ix (Nat.zero_le ix) hne fun h1 =>
  k9d_end (y := 35) (cs := k9_c35) (n := 64) rfl k9d_sq35 (by decide +kernel) ix h1 hne
theorem k9d_sq36 : k9d_sq k9_c36 = true := by decide +kernel
theorem k9d_q36_0 : k9d_chk 36 prog_8_method_4_code (fun a => (k9_nth (0, 0, 0, 0) k9_w36 a).1) 64 (prog_8_method_4_code.data.toList.drop 0) (k9_c36.flatten.drop 0) (k9_w36.drop 0) = true := by decide +kernel
theorem k9d_a36 (ix : Nat) (hne : k9_cod 36 ix ≠ (0, 0, 0, 0, 0)) : k9_okP 36 ix :=
  k9d_ch (y := 36) (cs := k9_c36) (ws := k9_w36) (m := 64) (k := 0) (pc := 0) rfl rfl rfl k9d_sq36 rfl rfl k9d_q36_0 ix (Nat.zero_le ix) hne fun h1 =>
  k9d_end (y := 36) (cs := k9_c36) (n := 64) rfl k9d_sq36 (by decide +kernel) ix h1 hne
theorem k9d_sq37 : k9d_sq k9_c37 = true := by decide +kernel
theorem k9d_q37_0 : k9d_chk 37 prog_8_method_5_code (fun a => (k9_nth (0, 0, 0, 0) k9_w37 a).1) 64 (prog_8_method_5_code.data.toList.drop 0) (k9_c37.flatten.drop 0) (k9_w37.drop 0) = true := by decide +kernel
theorem k9d_a37 (ix : Nat) (hne : k9_cod 37 ix ≠ (0, 0, 0, 0, 0)) : k9_okP 37 ix :=
  k9d_ch (y := 37) (cs := k9_c37) (ws := k9_w37) (m := 64) (k := 0) (pc := 0) rfl rfl rfl k9d_sq37 rfl rfl k9d_q37_0 ix (Nat.zero_le ix) hne fun h1 =>
  k9d_end (y := 37) (cs := k9_c37) (n := 64) rfl k9d_sq37 (by decide +kernel) ix h1 hne
theorem k9d_sq38 : k9d_sq k9_c38 = true := by decide +kernel
theorem k9d_q38_0 : k9d_chk 38 prog_8_method_6_code (fun a => (k9_nth (0, 0, 0, 0) k9_w38 a).1) 64 (prog_8_method_6_code.data.toList.drop 0) (k9_c38.flatten.drop 0) (k9_w38.drop 0) = true := by decide +kernel
theorem k9d_a38 (ix : Nat) (hne : k9_cod 38 ix ≠ (0, 0, 0, 0, 0)) : k9_okP 38 ix :=
  k9d_ch (y := 38) (cs := k9_c38) (ws := k9_w38) (m := 64) (k := 0) (pc := 0) rfl rfl rfl k9d_sq38 rfl rfl k9d_q38_0 ix (Nat.zero_le ix) hne fun h1 =>
  k9d_end (y := 38) (cs := k9_c38) (n := 64) rfl k9d_sq38 (by decide +kernel) ix h1 hne
theorem k9d_sq39 : k9d_sq k9_c39 = true := by decide +kernel
theorem k9d_q39_0 : k9d_chk 39 prog_8_method_7_code (fun a => (k9_nth (0, 0, 0, 0) k9_w39 a).1) 64 (prog_8_method_7_code.data.toList.drop 0) (k9_c39.flatten.drop 0) (k9_w39.drop 0) = true := by decide +kernel
theorem k9d_q39_1 : k9d_chk 39 prog_8_method_7_code (fun a => (k9_nth (0, 0, 0, 0) k9_w39 a).1) 64 (prog_8_method_7_code.data.toList.drop 114) (k9_c39.flatten.drop 64) (k9_w39.drop 64) = true := by decide +kernel
theorem k9d_a39 (ix : Nat) (hne : k9_cod 39 ix ≠ (0, 0, 0, 0, 0)) : k9_okP 39 ix :=
  k9d_ch (y := 39) (cs := k9_c39) (ws := k9_w39) (m := 64) (k := 0) (pc := 0) rfl rfl rfl k9d_sq39 rfl rfl k9d_q39_0 ix (Nat.zero_le ix) hne fun h1 =>
  k9d_ch (y := 39) (cs := k9_c39) (ws := k9_w39) (m := 64) (k := 64) (pc := 114) rfl rfl rfl k9d_sq39 rfl (by decide +kernel) k9d_q39_1 ix h1 hne fun h2 =>
  k9d_end (y := 39) (cs := k9_c39) (n := 128) rfl k9d_sq39 (by decide +kernel) ix h2 hne
theorem k9d_sq40 : k9d_sq k9_c40 = true := by decide +kernel
theorem k9d_q40_0 : k9d_chk 40 prog_8_method_8_code (fun a => (k9_nth (0, 0, 0, 0) k9_w40 a).1) 64 (prog_8_method_8_code.data.toList.drop 0) (k9_c40.flatten.drop 0) (k9_w40.drop 0) = true := by decide +kernel
theorem k9d_a40 (ix : Nat) (hne : k9_cod 40 ix ≠ (0, 0, 0, 0, 0)) : k9_okP 40 ix :=
  k9d_ch (y := 40) (cs := k9_c40) (ws := k9_w40) (m := 64) (k := 0) (pc := 0) rfl rfl rfl k9d_sq40 rfl rfl k9d_q40_0 ix (Nat.zero_le ix) hne fun h1 =>
  k9d_end (y := 40) (cs := k9_c40) (n := 64) rfl k9d_sq40 (by decide +kernel) ix h1 hne
theorem k9d_sq41 : k9d_sq k9_c41 = true := by decide +kernel
theorem k9d_q41_0 : k9d_chk 41 prog_8_method_9_code (fun a => (k9_nth (0, 0, 0, 0) k9_w41 a).1) 64 (prog_8_method_9_code.data.toList.drop 0) (k9_c41.flatten.drop 0) (k9_w41.drop 0) = true := by decide +kernel
theorem k9d_a41 (ix : Nat) (hne : k9_cod 41 ix ≠ (0, 0, 0, 0, 0)) : k9_okP 41 ix :=
  k9d_ch (y := 41) (cs := k9_c41) (ws := k9_w41) (m := 64) (k := 0) (pc := 0) rfl rfl rfl k9d_sq41 rfl rfl k9d_q41_0 ix (Nat.zero_le ix) hne fun h1 =>
  k9d_end (y := 41) (cs := k9_c41) (n := 64) rfl k9d_sq41 (by decide +kernel) ix h1 hne
theorem k9d_sq42 : k9d_sq k9_c42 = true := by decide +kernel
theorem k9d_q42_0 : k9d_chk 42 prog_8_method_10_code (fun a => (k9_nth (0, 0, 0, 0) k9_w42 a).1) 64 (prog_8_method_10_code.data.toList.drop 0) (k9_c42.flatten.drop 0) (k9_w42.drop 0) = true := by decide +kernel
theorem k9d_a42 (ix : Nat) (hne : k9_cod 42 ix ≠ (0, 0, 0, 0, 0)) : k9_okP 42 ix :=
  k9d_ch (y := 42) (cs := k9_c42) (ws := k9_w42) (m := 64) (k := 0) (pc := 0) rfl rfl rfl k9d_sq42 rfl rfl k9d_q42_0 ix (Nat.zero_le ix) hne fun h1 =>
  k9d_end (y := 42) (cs := k9_c42) (n := 64) rfl k9d_sq42 (by decide +kernel) ix h1 hne
theorem k9d_sq43 : k9d_sq k9_c43 = true := by decide +kernel
theorem k9d_q43_0 : k9d_chk 43 prog_8_method_11_code (fun a => (k9_nth (0, 0, 0, 0) k9_w43 a).1) 64 (prog_8_method_11_code.data.toList.drop 0) (k9_c43.flatten.drop 0) (k9_w43.drop 0) = true := by decide +kernel
theorem k9d_a43 (ix : Nat) (hne : k9_cod 43 ix ≠ (0, 0, 0, 0, 0)) : k9_okP 43 ix :=
  k9d_ch (y := 43) (cs := k9_c43) (ws := k9_w43) (m := 64) (k := 0) (pc := 0) rfl rfl rfl k9d_sq43 rfl rfl k9d_q43_0 ix (Nat.zero_le ix) hne fun h1 =>
  k9d_end (y := 43) (cs := k9_c43) (n := 64) rfl k9d_sq43 (by decide +kernel) ix h1 hne
theorem k9d_sq44 : k9d_sq k9_c44 = true := by decide +kernel
theorem k9d_q44_0 : k9d_chk 44 prog_8_method_12_code (fun a => (k9_nth (0, 0, 0, 0) k9_w44 a).1) 64 (prog_8_method_12_code.data.toList.drop 0) (k9_c44.flatten.drop 0) (k9_w44.drop 0) = true := by decide +kernel
theorem k9d_a44 (ix : Nat) (hne : k9_cod 44 ix ≠ (0, 0, 0, 0, 0)) : k9_okP 44 ix :=
  k9d_ch (y := 44) (cs := k9_c44) (ws := k9_w44) (m := 64) (k := 0) (pc := 0) rfl rfl rfl k9d_sq44 rfl rfl k9d_q44_0 ix (Nat.zero_le ix) hne fun h1 =>
  k9d_end (y := 44) (cs := k9_c44) (n := 64) rfl k9d_sq44 (by decide +kernel) ix h1 hne
theorem k9d_sq45 : k9d_sq k9_c45 = true := by decide +kernel
theorem k9d_q45_0 : k9d_chk 45 prog_8_method_13_code (fun a => (k9_nth (0, 0, 0, 0) k9_w45 a).1) 64 (prog_8_method_13_code.data.toList.drop 0) (k9_c45.flatten.drop 0) (k9_w45.drop 0) = true := by decide +kernel
theorem k9d_a45 (ix : Nat) (hne : k9_cod 45 ix ≠ (0, 0, 0, 0, 0)) : k9_okP 45 ix :=
  k9d_ch (y := 45) (cs := k9_c45) (ws := k9_w45) (m := 64) (k := 0) (pc := 0) rfl rfl rfl k9d_sq45 rfl rfl k9d_q45_0 ix (Nat.zero_le ix) hne fun h1 =>
  k9d_end (y := 45) (cs := k9_c45) (n := 64) rfl k9d_sq45 (by decide +kernel) ix h1 hne
theorem k9d_sq46 : k9d_sq k9_c46 = true := by decide +kernel
theorem k9d_q46_0 : k9d_chk 46 prog_8_method_14_code (fun a => (k9_nth (0, 0, 0, 0) k9_w46 a).1) 64 (prog_8_method_14_code.data.toList.drop 0) (k9_c46.flatten.drop 0) (k9_w46.drop 0) = true := by decide +kernel
theorem k9d_a46 (ix : Nat) (hne : k9_cod 46 ix ≠ (0, 0, 0, 0, 0)) : k9_okP 46 ix :=
  k9d_ch (y := 46) (cs := k9_c46) (ws := k9_w46) (m := 64) (k := 0) (pc := 0) rfl rfl rfl k9d_sq46 rfl rfl k9d_q46_0 ix (Nat.zero_le ix) hne fun h1 =>
  k9d_end (y := 46) (cs := k9_c46) (n := 64) rfl k9d_sq46 (by decide +kernel) ix h1 hne
theorem k9d_sq47 : k9d_sq k9_c47 = true := by decide +kernel
theorem k9d_q47_0 : k9d_chk 47 prog_4_method_2_code (fun a => (k9_nth (0, 0, 0, 0) k9_w47 a).1) 64 (prog_4_method_2_code.data.toList.drop 0) (k9_c47.flatten.drop 0) (k9_w47.drop 0) = true := by decide +kernel
theorem k9d_a47 (ix : Nat) (hne : k9_cod 47 ix ≠ (0, 0, 0, 0, 0)) : k9_okP 47 ix :=
  k9d_ch (y := 47) (cs := k9_c47) (ws := k9_w47) (m := 64) (k := 0) (pc := 0) rfl rfl rfl k9d_sq47 rfl rfl k9d_q47_0 ix (Nat.zero_le ix) hne fun h1 =>
  k9d_end (y := 47) (cs := k9_c47) (n := 64) rfl k9d_sq47 (by decide +kernel) ix h1 hne
theorem k9d_sq48 : k9d_sq k9_c48 = true := by decide +kernel
theorem k9d_q48_0 : k9d_chk 48 prog_4_method_3_code (fun a => (k9_nth (0, 0, 0, 0) k9_w48 a).1) 64 (prog_4_method_3_code.data.toList.drop 0) (k9_c48.flatten.drop 0) (k9_w48.drop 0) = true := by decide +kernel
theorem k9d_q48_1 : k9d_chk 48 prog_4_method_3_code (fun a => (k9_nth (0, 0, 0, 0) k9_w48 a).1) 64 (prog_4_method_3_code.data.toList.drop 128) (k9_c48.flatten.drop 64) (k9_w48.drop 64) = true := by decide +kernel
theorem k9d_a48 (ix : Nat) (hne : k9_cod 48 ix ≠ (0, 0, 0, 0, 0)) : k9_okP 48 ix :=
  k9d_ch (y := 48) (cs := k9_c48) (ws := k9_w48) (m := 64) (k := 0) (pc := 0) rfl rfl rfl k9d_sq48 rfl rfl k9d_q48_0 ix (Nat.zero_le ix) hne fun h1 =>
  k9d_ch (y := 48) (cs := k9_c48) (ws := k9_w48) (m := 64) (k := 64) (pc := 128) rfl rfl rfl k9d_sq48 rfl (by decide +kernel) k9d_q48_1 ix h1 hne fun h2 =>
  k9d_end (y := 48) (cs := k9_c48) (n := 128) rfl k9d_sq48 (by decide +kernel) ix h2 hne
theorem k9d_sq49 : k9d_sq k9_c49 = true := by decide +kernel
theorem k9d_q49_0 : k9d_chk 49 prog_4_method_4_code (fun a => (k9_nth (0, 0, 0, 0) k9_w49 a).1) 64 (prog_4_method_4_code.data.toList.drop 0) (k9_c49.flatten.drop 0) (k9_w49.drop 0) = true := by decide +kernel
theorem k9d_a49 (ix : Nat) (hne : k9_cod 49 ix ≠ (0, 0, 0, 0, 0)) : k9_okP 49 ix :=
  k9d_ch (y := 49) (cs := k9_c49) (ws := k9_w49) (m := 64) (k := 0) (pc := 0) rfl rfl rfl k9d_sq49 rfl rfl k9d_q49_0 ix (Nat.zero_le ix) hne fun h1 =>
  k9d_end (y := 49) (cs := k9_c49) (n := 64) rfl k9d_sq49 (by decide +kernel) ix h1 hne
theorem k9d_sq50 : k9d_sq k9_c50 = true := by decide +kernel
theorem k9d_q50_0 : k9d_chk 50 prog_4_method_5_code (fun a => (k9_nth (0, 0, 0, 0) k9_w50 a).1) 64 (prog_4_method_5_code.data.toList.drop 0) (k9_c50.flatten.drop 0) (k9_w50.drop 0) = true := by decide +kernel
theorem k9d_q50_1 : k9d_chk 50 prog_4_method_5_code (fun a => (k9_nth (0, 0, 0, 0) k9_w50 a).1) 64 (prog_4_method_5_code.data.toList.drop 178) (k9_c50.flatten.drop 64) (k9_w50.drop 64) = true := by decide +kernel
theorem k9d_a50 (ix : Nat) (hne : k9_cod 50 ix ≠ (0, 0, 0, 0, 0)) : k9_okP 50 ix :=
  k9d_ch (y := 50) (cs := k9_c50) (ws := k9_w50) (m := 64) (k := 0) (pc := 0) rfl rfl rfl k9d_sq50 rfl rfl k9d_q50_0 ix (Nat.zero_le ix) hne fun h1 =>
  k9d_ch (y := 50) (cs := k9_c50) (ws := k9_w50) (m := 64) (k := 64) (pc := 178) rfl rfl rfl k9d_sq50 rfl (by decide +kernel) k9d_q50_1 ix h1 hne fun h2 =>
  k9d_end (y := 50) (cs := k9_c50) (n := 128) rfl k9d_sq50 (by decide +kernel) ix h2 hne
theorem k9d_sq51 : k9d_sq k9_c51 = true := by decide +kernel
theorem k9d_q51_0 : k9d_chk 51 prog_4_method_6_code (fun a => (k9_nth (0, 0, 0, 0) k9_w51 a).1) 64 (prog_4_method_6_code.data.toList.drop 0) (k9_c51.flatten.drop 0) (k9_w51.drop 0) = true := by decide +kernel
theorem k9d_a51 (ix : Nat) (hne : k9_cod 51 ix ≠ (0, 0, 0, 0, 0)) : k9_okP 51 ix :=
  k9d_ch (y := 51) (cs := k9_c51) (ws := k9_w51) (m := 64) (k := 0) (pc := 0) rfl rfl rfl k9d_sq51 rfl rfl k9d_q51_0 ix (Nat.zero_le ix) hne fun h1 =>
  k9d_end (y := 51) (cs := k9_c51) (n := 64) rfl k9d_sq51 (by decide +kernel) ix h1 hne
theorem k9d_sq52 : k9d_sq k9_c52 = true := by decide +kernel
theorem k9d_q52_0 : k9d_chk 52 prog_4_method_7_code (fun a => (k9_nth (0, 0, 0, 0) k9_w52 a).1) 64 (prog_4_method_7_code.data.toList.drop 0) (k9_c52.flatten.drop 0) (k9_w52.drop 0) = true := by decide +kernel
theorem k9d_a52 (ix : Nat) (hne : k9_cod 52 ix ≠ (0, 0, 0, 0, 0)) : k9_okP 52 ix :=
  k9d_ch (y := 52) (cs := k9_c52) (ws := k9_w52) (m := 64) (k := 0) (pc := 0) rfl rfl rfl k9d_sq52 rfl rfl k9d_q52_0 ix (Nat.zero_le ix) hne fun h1 =>
  k9d_end (y := 52) (cs := k9_c52) (n := 64) rfl k9d_sq52 (by decide +kernel) ix h1 hne
theorem k9d_sq53 : k9d_sq k9_c53 = true := by decide +kernel
theorem k9d_q53_0 : k9d_chk 53 prog_2_method_2_code (fun a => (k9_nth (0, 0, 0, 0) k9_w53 a).1) 64 (prog_2_method_2_code.data.toList.drop 0) (k9_c53.flatten.drop 0) (k9_w53.drop 0) = true := by decide +kernel
theorem k9d_a53 (ix : Nat) (hne : k9_cod 53 ix ≠ (0, 0, 0, 0, 0)) : k9_okP 53 ix :=
  k9d_ch (y := 53) (cs := k9_c53) (ws := k9_w53) (m := 64) (k := 0) (pc := 0) rfl rfl rfl k9d_sq53 rfl rfl k9d_q53_0 ix (Nat.zero_le ix) hne fun h1 =>
  k9d_end (y := 53) (cs := k9_c53) (n := 64) rfl k9d_sq53 (by decide +kernel) ix h1 hne
theorem k9d_sq54 : k9d_sq k9_c54 = true := by decide +kernel
theorem k9d_q54_0 : k9d_chk 54 prog_2_method_3_code (fun a => (k9_nth (0, 0, 0, 0) k9_w54 a).1) 64 (prog_2_method_3_code.data.toList.drop 0) (k9_c54.flatten.drop 0) (k9_w54.drop 0) = true := by decide +kernel
theorem k9d_q54_1 : k9d_chk 54 prog_2_method_3_code (fun a => (k9_nth (0, 0, 0, 0) k9_w54 a).1) 64 (prog_2_method_3_code.data.toList.drop 135) (k9_c54.flatten.drop 64) (k9_w54.drop 64) = true := by decide +kernel
theorem k9d_a54 (ix : Nat) (hne : k9_cod 54 ix ≠ (0, 0, 0, 0, 0)) : k9_okP 54 ix :=
  k9d_ch (y := 54) (cs := k9_c54) (ws := k9_w54) (m := 64) (k := 0) (pc := 0) rfl rfl rfl k9d_sq54 rfl rfl k9d_q54_0 ix (Nat.zero_le ix) hne fun h1 =>
  k9d_ch (y := 54) (cs := k9_c54) (ws := k9_w54) (m := 64) (k := 64) (pc := 135) rfl rfl rfl k9d_sq54 rfl (by decide +kernel) k9d_q54_1 ix h1 hne fun h2 =>
  k9d_end (y := 54) (cs := k9_c54) (n := 128) rfl k9d_sq54 (by decide +kernel) ix h2 hne
theorem k9d_sq55 : k9d_sq k9_c55 = true := by decide +kernel
theorem k9d_q55_0 : k9d_chk 55 prog_2_method_4_code (fun a => (k9_nth (0, 0, 0, 0) k9_w55 a).1) 64 (prog_2_method_4_code.data.toList.drop 0) (k9_c55.flatten.drop 0) (k9_w55.drop 0) = true := by decide +kernel
theorem k9d_a55 (ix : Nat) (hne : k9_cod 55 ix ≠ (0, 0, 0, 0, 0)) : k9_okP 55 ix :=
  k9d_ch (y := 55) (cs := k9_c55) (ws := k9_w55) (m := 64) (k := 0) (pc := 0) rfl rfl rfl k9d_sq55 rfl rfl k9d_q55_0 ix (Nat.zero_le ix) hne fun h1 =>
  k9d_end (y := 55) (cs := k9_c55) (n := 64) rfl k9d_sq55 (by decide +kernel) ix h1 hne
theorem k9d_sq56 : k9d_sq k9_c56 = true := by decide +kernel
theorem k9d_q56_0 : k9d_chk 56 prog_2_method_5_code (fun a => (k9_nth (0, 0, 0, 0) k9_w56 a).1) 64 (prog_2_method_5_code.data.toList.drop 0) (k9_c56.flatten.drop 0) (k9_w56.drop 0) = true := by decide +kernel
theorem k9d_a56 (ix : Nat) (hne : k9_cod 56 ix ≠ (0, 0, 0, 0, 0)) : k9_okP 56 ix :=
  k9d_ch (y := 56) (cs := k9_c56) (ws := k9_w56) (m := 64) (k := 0) (pc := 0) rfl rfl rfl k9d_sq56 rfl rfl k9d_q56_0 ix (Nat.zero_le ix) hne fun h1 =>
  k9d_end (y := 56) (cs := k9_c56) (n := 64) rfl k9d_sq56 (by decide +kernel) ix h1 hne
theorem k9d_sq57 : k9d_sq k9_c57 = true := by decide +kernel
theorem k9d_q57_0 : k9d_chk 57 prog_2_method_6_code (fun a => (k9_nth (0, 0, 0, 0) k9_w57 a).1) 64 (prog_2_method_6_code.data.toList.drop 0) (k9_c57.flatten.drop 0) (k9_w57.drop 0) = true := by decide +kernel
theorem k9d_a57 (ix : Nat) (hne : k9_cod 57 ix ≠ (0, 0, 0, 0, 0)) : k9_okP 57 ix :=
  k9d_ch (y := 57) (cs := k9_c57) (ws := k9_w57) (m := 64) (k := 0) (pc := 0) rfl rfl rfl k9d_sq57 rfl rfl k9d_q57_0 ix (Nat.zero_le ix) hne fun h1 =>
  k9d_end (y := 57) (cs := k9_c57) (n := 64) rfl k9d_sq57 (by decide +kernel) ix h1 hne
theorem k9d_sq58 : k9d_sq k9_c58 = true := by decide +kernel
theorem k9d_q58_0 : k9d_chk 58 prog_2_method_7_code (fun a => (k9_nth (0, 0, 0, 0) k9_w58 a).1) 64 (prog_2_method_7_code.data.toList.drop 0) (k9_c58.flatten.drop 0) (k9_w58.drop 0) = true := by decide +kernel
theorem k9d_a58 (ix : Nat) (hne : k9_cod 58 ix ≠ (0, 0, 0, 0, 0)) : k9_okP 58 ix :=
  k9d_ch (y := 58) (cs := k9_c58) (ws := k9_w58) (m := 64) (k := 0) (pc := 0) rfl rfl rfl k9d_sq58 rfl rfl k9d_q58_0 ix (Nat.zero_le ix) hne fun h1 =>
  k9d_end (y := 58) (cs := k9_c58) (n := 64) rfl k9d_sq58 (by decide +kernel) ix h1 hne
theorem k9d_sq59 : k9d_sq k9_c59 = true := by decide +kernel
theorem k9d_q59_0 : k9d_chk 59 prog_2_method_8_code (fun a => (k9_nth (0, 0, 0, 0) k9_w59 a).1) 64 (prog_2_method_8_code.data.toList.drop 0) (k9_c59.flatten.drop 0) (k9_w59.drop 0) = true := by decide +kernel
theorem k9d_a59 (ix : Nat) (hne : k9_cod 59 ix ≠ (0, 0, 0, 0, 0)) : k9_okP 59 ix :=
  k9d_ch (y := 59) (cs := k9_c59) (ws := k9_w59) (m := 64) (k := 0) (pc := 0) rfl rfl rfl k9d_sq59 rfl rfl k9d_q59_0 ix (Nat.zero_le ix) hne fun h1 =>
  k9d_end (y := 59) (cs := k9_c59) (n := 64) rfl k9d_sq59 (by decide +kernel) ix h1 hne
theorem k9d_sq60 : k9d_sq k9_c60 = true := by decide +kernel
theorem k9d_q60_0 : k9d_chk 60 prog_2_method_9_code (fun a => (k9_nth (0, 0, 0, 0) k9_w60 a).1) 64 (prog_2_method_9_code.data.toList.drop 0) (k9_c60.flatten.drop 0) (k9_w60.drop 0) = true := by decide +kernel
theorem k9d_a60 (ix : Nat) (hne : k9_cod 60 ix ≠ (0, 0, 0, 0, 0)) : k9_okP 60 ix :=
  k9d_ch (y := 60) (cs := k9_c60) (ws := k9_w60) (m := 64) (k := 0) (pc := 0) rfl rfl rfl k9d_sq60 rfl rfl k9d_q60_0 ix (Nat.zero_le ix) hne fun h1 =>
  k9d_end (y := 60) (cs := k9_c60) (n := 64) rfl k9d_sq60 (by decide +kernel) ix h1 hne
theorem k9d_sq61 : k9d_sq k9_c61 = true := by decide +kernel
theorem k9d_q61_0 : k9d_chk 61 prog_2_method_10_code (fun a => (k9_nth (0, 0, 0, 0) k9_w61 a).1) 64 (prog_2_method_10_code.data.toList.drop 0) (k9_c61.flatten.drop 0) (k9_w61.drop 0) = true := by decide +kernel
theorem k9d_a61 (ix : Nat) (hne : k9_cod 61 ix ≠ (0, 0, 0, 0, 0)) : k9_okP 61 ix :=
  k9d_ch (y := 61) (cs := k9_c61) (ws := k9_w61) (m := 64) (k := 0) (pc := 0) rfl rfl rfl k9d_sq61 rfl rfl k9d_q61_0 ix (Nat.zero_le ix) hne fun h1 =>
  k9d_end (y := 61) (cs := k9_c61) (n := 64) rfl k9d_sq61 (by decide +kernel) ix h1 hne
theorem k9d_sq62 : k9d_sq k9_c62 = true := by decide +kernel
theorem k9d_q62_0 : k9d_chk 62 prog_2_method_11_code (fun a => (k9_nth (0, 0, 0, 0) k9_w62 a).1) 64 (prog_2_method_11_code.data.toList.drop 0) (k9_c62.flatten.drop 0) (k9_w62.drop 0) = true := by decide +kernel
theorem k9d_a62 (ix : Nat) (hne : k9_cod 62 ix ≠ (0, 0, 0, 0, 0)) : k9_okP 62 ix :=
  k9d_ch (y := 62) (cs := k9_c62) (ws := k9_w62) (m := 64) (k := 0) (pc := 0) rfl rfl rfl k9d_sq62 rfl rfl k9d_q62_0 ix (Nat.zero_le ix) hne fun h1 =>
  k9d_end (y := 62) (cs := k9_c62) (n := 64) rfl k9d_sq62 (by decide +kernel) ix h1 hne
theorem k9d_sq63 : k9d_sq k9_c63 = true := by decide +kernel
theorem k9d_q63_0 : k9d_chk 63 prog_2_method_12_code (fun a => (k9_nth (0, 0, 0, 0) k9_w63 a).1) 64 (prog_2_method_12_code.data.toList.drop 0) (k9_c63.flatten.drop 0) (k9_w63.drop 0) = true := by decide +kernel
theorem k9d_a63 (ix : Nat) (hne : k9_cod 63 ix ≠ (0, 0, 0, 0, 0)) : k9_okP 63 ix :=
  k9d_ch (y := 63) (cs := k9_c63) (ws := k9_w63) (m := 64) (k := 0) (pc := 0) rfl rfl rfl k9d_sq63 rfl rfl k9d_q63_0 ix (Nat.zero_le ix) hne fun h1 =>
  k9d_end (y := 63) (cs := k9_c63) (n := 64) rfl k9d_sq63 (by decide +kernel) ix h1 hne
theorem k9d_sq64 : k9d_sq k9_c64 = true := by decide +kernel
theorem k9d_q64_0 : k9d_chk 64 prog_2_method_13_code (fun a => (k9_nth (0, 0, 0, 0) k9_w64 a).1) 64 (prog_2_method_13_code.data.toList.drop 0) (k9_c64.flatten.drop 0) (k9_w64.drop 0) = true := by decide +kernel
theorem k9d_a64 (ix : Nat) (hne : k9_cod 64 ix ≠ (0, 0, 0, 0, 0)) : k9_okP 64 ix :=
  k9d_ch (y := 64) (cs := k9_c64) (ws := k9_w64) (m := 64) (k := 0) (pc := 0) rfl rfl rfl k9d_sq64 rfl rfl k9d_q64_0 ix (Nat.zero_le ix) hne fun h1 =>
  k9d_end (y := 64) (cs := k9_c64) (n := 64) rfl k9d_sq64 (by decide +kernel) ix h1 hne
theorem k9d_sq65 : k9d_sq k9_c65 = true := by decide +kernel
theorem k9d_q65_0 : k9d_chk 65 prog_2_method_14_code (fun a => (k9_nth (0, 0, 0, 0) k9_w65 a).1) 64 (prog_2_method_14_code.data.toList.drop 0) (k9_c65.flatten.drop 0) (k9_w65.drop 0) = true := by decide +kernel
theorem k9d_a65 (ix : Nat) (hne : k9_cod 65 ix ≠ (0, 0, 0, 0, 0)) : k9_okP 65 ix :=
  k9d_ch (y := 65) (cs := k9_c65) (ws := k9_w65) (m := 64) (k := 0) (pc := 0) rfl rfl rfl k9d_sq65 rfl rfl k9d_q65_0 ix (Nat.zero_le ix) hne fun h1 =>
  k9d_end (y := 65) (cs := k9_c65) (n := 64) rfl k9d_sq65 (by decide +kernel) ix h1 hne
theorem k9d_sq66 : k9d_sq k9_c66 = true := by decide +kernel
theorem k9d_q66_0 : k9d_chk 66 prog_2_method_15_code (fun a => (k9_nth (0, 0, 0, 0) k9_w66 a).1) 64 (prog_2_method_15_code.data.toList.drop 0) (k9_c66.flatten.drop 0) (k9_w66.drop 0) = true := by decide +kernel
theorem k9d_a66 (ix : Nat) (hne : k9_cod 66 ix ≠ (0, 0, 0, 0, 0)) : k9_okP 66 ix :=
  k9d_ch (y := 66) (cs := k9_c66) (ws := k9_w66) (m := 64) (k := 0) (pc := 0) rfl rfl rfl k9d_sq66 rfl rfl k9d_q66_0 ix (Nat.zero_le ix) hne fun h1 =>
  k9d_end (y := 66) (cs := k9_c66) (n := 64) rfl k9d_sq66 (by decide +kernel) ix h1 hne
theorem k9d_sq67 : k9d_sq k9_c67 = true := by decide +kernel
theorem k9d_q67_0 : k9d_chk 67 prog_3_method_2_code (fun a => (k9_nth (0, 0, 0, 0) k9_w67 a).1) 64 (prog_3_method_2_code.data.toList.drop 0) (k9_c67.flatten.drop 0) (k9_w67.drop 0) = true := by decide +kernel
theorem k9d_a67 (ix : Nat) (hne : k9_cod 67 ix ≠ (0, 0, 0, 0, 0)) : k9_okP 67 ix :=
  k9d_ch (y := 67) (cs := k9_c67) (ws := k9_w67) (m := 64) (k := 0) (pc := 0) rfl rfl rfl k9d_sq67 rfl rfl k9d_q67_0 ix (Nat.zero_le ix) hne fun h1 =>
  k9d_end (y := 67) (cs := k9_c67) (n := 64) rfl k9d_sq67 (by decide +kernel) ix h1 hne
theorem k9d_sq68 : k9d_sq k9_c68 = true := by decide +kernel
theorem k9d_q68_0 : k9d_chk 68 prog_3_method_3_code (fun a => (k9_nth (0, 0, 0, 0) k9_w68 a).1) 64 (prog_3_method_3_code.data.toList.drop 0) (k9_c68.flatten.drop 0) (k9_w68.drop 0) = true := by decide +kernel
theorem k9d_a68 (ix : Nat) (hne : k9_cod 68 ix ≠ (0, 0, 0, 0, 0)) : k9_okP 68 ix :=
  k9d_ch (y := 68) (cs := k9_c68) (ws := k9_w68) (m := 64) (k := 0) (pc := 0) rfl rfl rfl k9d_sq68 rfl rfl k9d_q68_0 ix (Nat.zero_le ix) hne fun h1 =>
  k9d_end (y := 68) (cs := k9_c68) (n := 64) rfl k9d_sq68 (by decide +kernel) ix h1 hne
theorem k9d_sq69 : k9d_sq k9_c69 = true := by decide +kernel
theorem k9d_q69_0 : k9d_chk 69 prog_3_method_4_code (fun a => (k9_nth (0, 0, 0, 0) k9_w69 a).1) 64 (prog_3_method_4_code.data.toList.drop 0) (k9_c69.flatten.drop 0) (k9_w69.drop 0) = true := by decide +kernel
theorem k9d_a69 (ix : Nat) (hne : k9_cod 69 ix ≠ (0, 0, 0, 0, 0)) : k9_okP 69 ix :=
  k9d_ch (y := 69) (cs := k9_c69) (ws := k9_w69) (m := 64) (k := 0) (pc := 0) rfl rfl rfl k9d_sq69 rfl rfl k9d_q69_0 ix (Nat.zero_le ix) hne fun h1 =>
  k9d_end (y := 69) (cs := k9_c69) (n := 64) rfl k9d_sq69 (by decide +kernel) ix h1 hne
theorem k9d_sq70 : k9d_sq k9_c70 = true := by decide +kernel
theorem k9d_q70_0 : k9d_chk 70 prog_3_method_5_code (fun a => (k9_nth (0, 0, 0, 0) k9_w70 a).1) 64 (prog_3_method_5_code.data.toList.drop 0) (k9_c70.flatten.drop 0) (k9_w70.drop 0) = true := by decide +kernel
theorem k9d_a70 (ix : Nat) (hne : k9_cod 70 ix ≠ (0, 0, 0, 0, 0)) : k9_okP 70 ix :=
  k9d_ch (y := 70) (cs := k9_c70) (ws := k9_w70) (m := 64) (k := 0) (pc := 0) rfl rfl rfl k9d_sq70 rfl rfl k9d_q70_0 ix (Nat.zero_le ix) hne fun h1 =>
  k9d_end (y := 70) (cs := k9_c70) (n := 64) rfl k9d_sq70 (by decide +kernel) ix h1 hne
theorem k9d_sq71 : k9d_sq k9_c71 = true := by decide +kernel
theorem k9d_q71_0 : k9d_chk 71 prog_9_method_2_code (fun a => (k9_nth (0, 0, 0, 0) k9_w71 a).1) 64 (prog_9_method_2_code.data.toList.drop 0) (k9_c71.flatten.drop 0) (k9_w71.drop 0) = true := by decide +kernel
theorem k9d_a71 (ix : Nat) (hne : k9_cod 71 ix ≠ (0, 0, 0, 0, 0)) : k9_okP 71 ix :=
  k9d_ch (y := 71) (cs := k9_c71) (ws := k9_w71) (m := 64) (k := 0) (pc := 0) rfl rfl rfl k9d_sq71 rfl rfl k9d_q71_0 ix (Nat.zero_le ix) hne fun h1 =>
  k9d_end (y := 71) (cs := k9_c71) (n := 64) rfl k9d_sq71 (by decide +kernel) ix h1 hne
theorem k9d_sq72 : k9d_sq k9_c72 = true := by decide +kernel
theorem k9d_q72_0 : k9d_chk 72 prog_9_method_3_code (fun a => (k9_nth (0, 0, 0, 0) k9_w72 a).1) 64 (prog_9_method_3_code.data.toList.drop 0) (k9_c72.flatten.drop 0) (k9_w72.drop 0) = true := by decide +kernel
theorem k9d_a72 (ix : Nat) (hne : k9_cod 72 ix ≠ (0, 0, 0, 0, 0)) : k9_okP 72 ix :=
  k9d_ch (y := 72) (cs := k9_c72) (ws := k9_w72) (m := 64) (k := 0) (pc := 0) rfl rfl rfl k9d_sq72 rfl rfl k9d_q72_0 ix (Nat.zero_le ix) hne fun h1 =>
  k9d_end (y := 72) (cs := k9_c72) (n := 64) rfl k9d_sq72 (by decide +kernel) ix h1 hne
theorem k9d_sq73 : k9d_sq k9_c73 = true := by decide +kernel
theorem k9d_q73_0 : k9d_chk 73 prog_9_method_4_code (fun a => (k9_nth (0, 0, 0, 0) k9_w73 a).1) 64 (prog_9_method_4_code.data.toList.drop 0) (k9_c73.flatten.drop 0) (k9_w73.drop 0) = true := by decide +kernel
theorem k9d_a73 (ix : Nat) (hne : k9_cod 73 ix ≠ (0, 0, 0, 0, 0)) : k9_okP 73 ix :=
  k9d_ch (y := 73) (cs := k9_c73) (ws := k9_w73) (m := 64) (k := 0) (pc := 0) rfl rfl rfl k9d_sq73 rfl rfl k9d_q73_0 ix (Nat.zero_le ix) hne fun h1 =>
  k9d_end (y := 73) (cs := k9_c73) (n := 64) rfl k9d_sq73 (by decide +kernel) ix h1 hne
theorem k9d_sq74 : k9d_sq k9_c74 = true := by decide +kernel
theorem k9d_q74_0 : k9d_chk 74 prog_9_method_5_code (fun a => (k9_nth (0, 0, 0, 0) k9_w74 a).1) 64 (prog_9_method_5_code.data.toList.drop 0) (k9_c74.flatten.drop 0) (k9_w74.drop 0) = true := by decide +kernel
theorem k9d_a74 (ix : Nat) (hne : k9_cod 74 ix ≠ (0, 0, 0, 0, 0)) : k9_okP 74 ix :=
  k9d_ch (y := 74) (cs := k9_c74) (ws := k9_w74) (m := 64) (k := 0) (pc := 0) rfl rfl rfl k9d_sq74 rfl rfl k9d_q74_0 ix (Nat.zero_le ix) hne fun h1 =>
  k9d_end (y := 74) (cs := k9_c74) (n := 64) rfl k9d_sq74 (by decide +kernel) ix h1 hne
theorem k9d_sq75 : k9d_sq k9_c75 = true := by decide +kernel
theorem k9d_q75_0 : k9d_chk 75 prog_9_method_6_code (fun a => (k9_nth (0, 0, 0, 0) k9_w75 a).1) 64 (prog_9_method_6_code.data.toList.drop 0) (k9_c75.flatten.drop 0) (k9_w75.drop 0) = true := by decide +kernel
theorem k9d_a75 (ix : Nat) (hne : k9_cod 75 ix ≠ (0, 0, 0, 0, 0)) : k9_okP 75 ix :=
  k9d_ch (y := 75) (cs := k9_c75) (ws := k9_w75) (m := 64) (k := 0) (pc := 0) rfl rfl rfl k9d_sq75 rfl rfl k9d_q75_0 ix (Nat.zero_le ix) hne fun h1 =>
  k9d_end (y := 75) (cs := k9_c75) (n := 64) rfl k9d_sq75 (by decide +kernel) ix h1 hne
theorem k9d_sq76 : k9d_sq k9_c76 = true := by decide +kernel
theorem k9d_q76_0 : k9d_chk 76 prog_9_method_7_code (fun a => (k9_nth (0, 0, 0, 0) k9_w76 a).1) 64 (prog_9_method_7_code.data.toList.drop 0) (k9_c76.flatten.drop 0) (k9_w76.drop 0) = true := by decide +kernel
theorem k9d_a76 (ix : Nat) (hne : k9_cod 76 ix ≠ (0, 0, 0, 0, 0)) : k9_okP 76 ix :=
  k9d_ch (y := 76) (cs := k9_c76) (ws := k9_w76) (m := 64) (k := 0) (pc := 0) rfl rfl rfl k9d_sq76 rfl rfl k9d_q76_0 ix (Nat.zero_le ix) hne fun h1 =>
  k9d_end (y := 76) (cs := k9_c76) (n := 64) rfl k9d_sq76 (by decide +kernel) ix h1 hne
theorem k9d_sq77 : k9d_sq k9_c77 = true := by decide +kernel
theorem k9d_q77_0 : k9d_chk 77 prog_7_method_2_code (fun a => (k9_nth (0, 0, 0, 0) k9_w77 a).1) 64 (prog_7_method_2_code.data.toList.drop 0) (k9_c77.flatten.drop 0) (k9_w77.drop 0) = true := by decide +kernel
theorem k9d_a77 (ix : Nat) (hne : k9_cod 77 ix ≠ (0, 0, 0, 0, 0)) : k9_okP 77 ix :=
  k9d_ch (y := 77) (cs := k9_c77) (ws := k9_w77) (m := 64) (k := 0) (pc := 0) rfl rfl rfl k9d_sq77 rfl rfl k9d_q77_0 ix (Nat.zero_le ix) hne fun h1 =>
  k9d_end (y := 77) (cs := k9_c77) (n := 64) rfl k9d_sq77 (by decide +kernel) ix h1 hne
theorem k9d_sq78 : k9d_sq k9_c78 = true := by decide +kernel
theorem k9d_q78_0 : k9d_chk 78 prog_7_method_3_code (fun a => (k9_nth (0, 0, 0, 0) k9_w78 a).1) 64 (prog_7_method_3_code.data.toList.drop 0) (k9_c78.flatten.drop 0) (k9_w78.drop 0) = true := by decide +kernel
theorem k9d_a78 (ix : Nat) (hne : k9_cod 78 ix ≠ (0, 0, 0, 0, 0)) : k9_okP 78 ix :=
  k9d_ch (y := 78) (cs := k9_c78) (ws := k9_w78) (m := 64) (k := 0) (pc := 0) rfl rfl rfl k9d_sq78 rfl rfl k9d_q78_0 ix (Nat.zero_le ix) hne fun h1 =>
  k9d_end (y := 78) (cs := k9_c78) (n := 64) rfl k9d_sq78 (by decide +kernel) ix h1 hne
theorem k9d_sq79 : k9d_sq k9_c79 = true := by decide +kernel
theorem k9d_q79_0 : k9d_chk 79 prog_7_method_4_code (fun a => (k9_nth (0, 0, 0, 0) k9_w79 a).1) 64 (prog_7_method_4_code.data.toList.drop 0) (k9_c79.flatten.drop 0) (k9_w79.drop 0) = true := by decide +kernel
theorem k9d_a79 (ix : Nat) (hne : k9_cod 79 ix ≠ (0, 0, 0, 0, 0)) : k9_okP 79 ix :=
  k9d_ch (y := 79) (cs := k9_c79) (ws := k9_w79) (m := 64) (k := 0) (pc := 0) rfl rfl rfl k9d_sq79 rfl rfl k9d_q79_0 ix (Nat.zero_le ix) hne fun h1 =>
  k9d_end (y := 79) (cs := k9_c79) (n := 64) rfl k9d_sq79 (by decide +kernel) ix h1 hne
theorem k9d_sq80 : k9d_sq k9_c80 = true := by decide +kernel
theorem k9d_q80_0 : k9d_chk 80 prog_7_method_5_code (fun a => (k9_nth (0, 0, 0, 0) k9_w80 a).1) 64 (prog_7_method_5_code.data.toList.drop 0) (k9_c80.flatten.drop 0) (k9_w80.drop 0) = true := by decide +kernel
theorem k9d_a80 (ix : Nat) (hne : k9_cod 80 ix ≠ (0, 0, 0, 0, 0)) : k9_okP 80 ix :=
  k9d_ch (y := 80) (cs := k9_c80) (ws := k9_w80) (m := 64) (k := 0) (pc := 0) rfl rfl rfl k9d_sq80 rfl rfl k9d_q80_0 ix (Nat.zero_le ix) hne fun h1 =>
  k9d_end (y := 80) (cs := k9_c80) (n := 64) rfl k9d_sq80 (by decide +kernel) ix h1 hne
theorem k9d_sq81 : k9d_sq k9_c81 = true := by decide +kernel
theorem k9d_q81_0 : k9d_chk 81 prog_7_method_6_code (fun a => (k9_nth (0, 0, 0, 0) k9_w81 a).1) 64 (prog_7_method_6_code.data.toList.drop 0) (k9_c81.flatten.drop 0) (k9_w81.drop 0) = true := by decide +kernel
theorem k9d_a81 (ix : Nat) (hne : k9_cod 81 ix ≠ (0, 0, 0, 0, 0)) : k9_okP 81 ix :=
  k9d_ch (y := 81) (cs := k9_c81) (ws := k9_w81) (m := 64) (k := 0) (pc := 0) rfl rfl rfl k9d_sq81 rfl rfl k9d_q81_0 ix (Nat.zero_le ix) hne fun h1 =>
  k9d_end (y := 81) (cs := k9_c81) (n := 64) rfl k9d_sq81 (by decide +kernel) ix h1 hne
theorem k9d_sq82 : k9d_sq k9_c82 = true := by decide +kernel
theorem k9d_q82_0 : k9d_chk 82 prog_7_method_7_code (fun a => (k9_nth (0, 0, 0, 0) k9_w82 a).1) 64 (prog_7_method_7_code.data.toList.drop 0) (k9_c82.flatten.drop 0) (k9_w82.drop 0) = true := by decide +kernel
theorem k9d_a82 (ix : Nat) (hne : k9_cod 82 ix ≠ (0, 0, 0, 0, 0)) : k9_okP 82 ix :=
  k9d_ch (y := 82) (cs := k9_c82) (ws := k9_w82) (m := 64) (k := 0) (pc := 0) rfl rfl rfl k9d_sq82 rfl rfl k9d_q82_0 ix (Nat.zero_le ix) hne fun h1 =>
  k9d_end (y := 82) (cs := k9_c82) (n := 64) rfl k9d_sq82 (by decide +kernel) ix h1 hne
theorem k9d_sq83 : k9d_sq k9_c83 = true := by decide +kernel
theorem k9d_q83_0 : k9d_chk 83 prog_7_method_8_code (fun a => (k9_nth (0, 0, 0, 0) k9_w83 a).1) 64 (prog_7_method_8_code.data.toList.drop 0) (k9_c83.flatten.drop 0) (k9_w83.drop 0) = true := by decide +kernel
theorem k9d_a83 (ix : Nat) (hne : k9_cod 83 ix ≠ (0, 0, 0, 0, 0)) : k9_okP 83 ix :=
  k9d_ch (y := 83) (cs := k9_c83) (ws := k9_w83) (m := 64) (k := 0) (pc := 0) rfl rfl rfl k9d_sq83 rfl rfl k9d_q83_0 ix (Nat.zero_le ix) hne fun h1 =>
  k9d_end (y := 83) (cs := k9_c83) (n := 64) rfl k9d_sq83 (by decide +kernel) ix h1 hne
theorem k9d_sq84 : k9d_sq k9_c84 = true := by decide +kernel
theorem k9d_q84_0 : k9d_chk 84 prog_7_method_9_code (fun a => (k9_nth (0, 0, 0, 0) k9_w84 a).1) 64 (prog_7_method_9_code.data.toList.drop 0) (k9_c84.flatten.drop 0) (k9_w84.drop 0) = true := by decide +kernel
theorem k9d_a84 (ix : Nat) (hne : k9_cod 84 ix ≠ (0, 0, 0, 0, 0)) : k9_okP 84 ix :=
  k9d_ch (y := 84) (cs := k9_c84) (ws := k9_w84) (m := 64) (k := 0) (pc := 0) rfl rfl rfl k9d_sq84 rfl rfl k9d_q84_0 ix (Nat.zero_le ix) hne fun h1 =>
  k9d_end (y := 84) (cs := k9_c84) (n := 64) rfl k9d_sq84 (by decide +kernel) ix h1 hne
theorem k9d_sq85 : k9d_sq k9_c85 = true := by decide +kernel
theorem k9d_q85_0 : k9d_chk 85 prog_7_method_10_code (fun a => (k9_nth (0, 0, 0, 0) k9_w85 a).1) 64 (prog_7_method_10_code.data.toList.drop 0) (k9_c85.flatten.drop 0) (k9_w85.drop 0) = true := by decide +kernel
theorem k9d_a85 (ix : Nat) (hne : k9_cod 85 ix ≠ (0, 0, 0, 0, 0)) : k9_okP 85 ix :=
  k9d_ch (y := 85) (cs := k9_c85) (ws := k9_w85) (m := 64) (k := 0) (pc := 0) rfl rfl rfl k9d_sq85 rfl rfl k9d_q85_0 ix (Nat.zero_le ix) hne fun h1 =>
  k9d_end (y := 85) (cs := k9_c85) (n := 64) rfl k9d_sq85 (by decide +kernel) ix h1 hne
theorem k9d_sq86 : k9d_sq k9_c86 = true := by decide +kernel
theorem k9d_q86_0 : k9d_chk 86 prog_7_method_11_code (fun a => (k9_nth (0, 0, 0, 0) k9_w86 a).1) 64 (prog_7_method_11_code.data.toList.drop 0) (k9_c86.flatten.drop 0) (k9_w86.drop 0) = true := by decide +kernel
theorem k9d_a86 (ix : Nat) (hne : k9_cod 86 ix ≠ (0, 0, 0, 0, 0)) : k9_okP 86 ix :=
  k9d_ch (y := 86) (cs := k9_c86) (ws := k9_w86) (m := 64) (k := 0) (pc := 0) rfl rfl rfl k9d_sq86 rfl rfl k9d_q86_0 ix (Nat.zero_le ix) hne fun h1 =>
  k9d_end (y := 86) (cs := k9_c86) (n := 64) rfl k9d_sq86 (by decide +kernel) ix h1 hne
theorem k9d_sq87 : k9d_sq k9_c87 = true := by decide +kernel
theorem k9d_q87_0 : k9d_chk 87 prog_7_method_12_code (fun a => (k9_nth (0, 0, 0, 0) k9_w87 a).1) 64 (prog_7_method_12_code.data.toList.drop 0) (k9_c87.flatten.drop 0) (k9_w87.drop 0) = true := by decide +kernel
theorem k9d_a87 (ix : Nat) (hne : k9_cod 87 ix ≠ (0, 0, 0, 0, 0)) : k9_okP 87 ix :=
  k9d_ch (y := 87) (cs := k9_c87) (ws := k9_w87) (m := 64) (k := 0) (pc := 0) rfl rfl rfl k9d_sq87 rfl rfl k9d_q87_0 ix (Nat.zero_le ix) hne fun h1 =>
  k9d_end (y := 87) (cs := k9_c87) (n := 64) rfl k9d_sq87 (by decide +kernel) ix h1 hne
theorem k9d_sq88 : k9d_sq k9_c88 = true := by decide +kernel
theorem k9d_q88_0 : k9d_chk 88 prog_7_method_13_code (fun a => (k9_nth (0, 0, 0, 0) k9_w88 a).1) 64 (prog_7_method_13_code.data.toList.drop 0) (k9_c88.flatten.drop 0) (k9_w88.drop 0) = true := by decide +kernel
theorem k9d_q88_1 : k9d_chk 88 prog_7_method_13_code (fun a => (k9_nth (0, 0, 0, 0) k9_w88 a).1) 64 (prog_7_method_13_code.data.toList.drop 200) (k9_c88.flatten.drop 64) (k9_w88.drop 64) = true := by decide +kernel
theorem k9d_a88 (ix : Nat) (hne : k9_cod 88 ix ≠ (0, 0, 0, 0, 0)) : k9_okP 88 ix :=
  k9d_ch (y := 88) (cs := k9_c88) (ws := k9_w88) (m := 64) (k := 0) (pc := 0) rfl rfl rfl k9d_sq88 rfl rfl k9d_q88_0 ix (Nat.zero_le ix) hne fun h1 =>
  k9d_ch (y := 88) (cs := k9_c88) (ws := k9_w88) (m := 64) (k := 64) (pc := 200) rfl rfl rfl k9d_sq88 rfl (by decide +kernel) k9d_q88_1 ix h1 hne fun h2 =>
  k9d_end (y := 88) (cs := k9_c88) (n := 128) rfl k9d_sq88 (by decide +kernel) ix h2 hne
theorem k9d_sq89 : k9d_sq k9_c89 = true := by decide +kernel
theorem k9d_q89_0 : k9d_chk 89 prog_6_method_2_code (fun a => (k9_nth (0, 0, 0, 0) k9_w89 a).1) 64 (prog_6_method_2_code.data.toList.drop 0) (k9_c89.flatten.drop 0) (k9_w89.drop 0) = true := by decide +kernel
theorem k9d_a89 (ix : Nat) (hne : k9_cod 89 ix ≠ (0, 0, 0, 0, 0)) : k9_okP 89 ix :=
  k9d_ch (y := 89) (cs := k9_c89) (ws := k9_w89) (m := 64) (k := 0) (pc := 0) rfl rfl rfl k9d_sq89 rfl rfl k9d_q89_0 ix (Nat.zero_le ix) hne fun h1 =>
  k9d_end (y := 89) (cs := k9_c89) (n := 64) rfl k9d_sq89 (by decide +kernel) ix h1 hne
theorem k9d_sq90 : k9d_sq k9_c90 = true := by decide +kernel
theorem k9d_q90_0 : k9d_chk 90 prog_6_method_3_code (fun a => (k9_nth (0, 0, 0, 0) k9_w90 a).1) 64 (prog_6_method_3_code.data.toList.drop 0) (k9_c90.flatten.drop 0) (k9_w90.drop 0) = true := by decide +kernel
theorem k9d_a90 (ix : Nat) (hne : k9_cod 90 ix ≠ (0, 0, 0, 0, 0)) : k9_okP 90 ix :=
  k9d_ch (y := 90) (cs := k9_c90) (ws := k9_w90) (m := 64) (k := 0) (pc := 0) rfl rfl rfl k9d_sq90 rfl rfl k9d_q90_0 ix (Nat.zero_le ix) hne fun h1 =>
  k9d_end (y := 90) (cs := k9_c90) (n := 64) rfl k9d_sq90 (by decide +kernel) ix h1 hne
theorem k9d_sq91 : k9d_sq k9_c91 = true := by decide +kernel
theorem k9d_q91_0 : k9d_chk 91 prog_6_method_4_code (fun a => (k9_nth (0, 0, 0, 0) k9_w91 a).1) 64 (prog_6_method_4_code.data.toList.drop 0) (k9_c91.flatten.drop 0) (k9_w91.drop 0) = true := by decide +kernel
theorem k9d_a91 (ix : Nat) (hne : k9_cod 91 ix ≠ (0, 0, 0, 0, 0)) : k9_okP 91 ix :=
  k9d_ch (y := 91) (cs := k9_c91) (ws := k9_w91) (m := 64) (k := 0) (pc := 0) rfl rfl rfl k9d_sq91 rfl rfl k9d_q91_0 ix (Nat.zero_le ix) hne fun h1 =>
  k9d_end (y := 91) (cs := k9_c91) (n := 64) rfl k9d_sq91 (by decide +kernel) ix h1 hne
theorem k9d_sq92 : k9d_sq k9_c92 = true := by decide +kernel
theorem k9d_q92_0 : k9d_chk 92 prog_6_method_5_code (fun a => (k9_nth (0, 0, 0, 0) k9_w92 a).1) 64 (prog_6_method_5_code.data.toList.drop 0) (k9_c92.flatten.drop 0) (k9_w92.drop 0) = true := by decide +kernel
theorem k9d_a92 (ix : Nat) (hne : k9_cod 92 ix ≠ (0, 0, 0, 0, 0)) : k9_okP 92 ix :=
  k9d_ch (y := 92) (cs := k9_c92) (ws := k9_w92) (m := 64) (k := 0) (pc := 0) rfl rfl rfl k9d_sq92 rfl rfl k9d_q92_0 ix (Nat.zero_le ix) hne fun h1 =>
  k9d_end (y := 92) (cs := k9_c92) (n := 64) rfl k9d_sq92 (by decide +kernel) ix h1 hne
theorem k9d_sq93 : k9d_sq k9_c93 = true := by decide +kernel
theorem k9d_q93_0 : k9d_chk 93 prog_6_method_6_code (fun a => (k9_nth (0, 0, 0, 0) k9_w93 a).1) 64 (prog_6_method_6_code.data.toList.drop 0) (k9_c93.flatten.drop 0) (k9_w93.drop 0) = true := by decide +kernel
theorem k9d_a93 (ix : Nat) (hne : k9_cod 93 ix ≠ (0, 0, 0, 0, 0)) : k9_okP 93 ix :=
  k9d_ch (y := 93) (cs := k9_c93) (ws := k9_w93) (m := 64) (k := 0) (pc := 0) rfl rfl rfl k9d_sq93 rfl rfl k9d_q93_0 ix (Nat.zero_le ix) hne fun h1 =>
  k9d_end (y := 93) (cs := k9_c93) (n := 64) rfl k9d_sq93 (by decide +kernel) ix h1 hne
theorem k9d_sq94 : k9d_sq k9_c94 = true := by decide +kernel
theorem k9d_q94_0 : k9d_chk 94 prog_6_method_7_code (fun a => (k9_nth (0, 0, 0, 0) k9_w94 a).1) 64 (prog_6_method_7_code.data.toList.drop 0) (k9_c94.flatten.drop 0) (k9_w94.drop 0) = true := by decide +kernel
theorem k9d_a94 (ix : Nat) (hne : k9_cod 94 ix ≠ (0, 0, 0, 0, 0)) : k9_okP 94 ix :=
  k9d_ch (y := 94) (cs := k9_c94) (ws := k9_w94) (m := 64) (k := 0) (pc := 0) rfl rfl rfl k9d_sq94 rfl rfl k9d_q94_0 ix (Nat.zero_le ix) hne fun h1 =>
  k9d_end (y := 94) (cs := k9_c94) (n := 64) rfl k9d_sq94 (by decide +kernel) ix h1 hne
theorem k9d_sq95 : k9d_sq k9_c95 = true := by decide +kernel
theorem k9d_q95_0 : k9d_chk 95 prog_6_method_8_code (fun a => (k9_nth (0, 0, 0, 0) k9_w95 a).1) 64 (prog_6_method_8_code.data.toList.drop 0) (k9_c95.flatten.drop 0) (k9_w95.drop 0) = true := by decide +kernel
theorem k9d_a95 (ix : Nat) (hne : k9_cod 95 ix ≠ (0, 0, 0, 0, 0)) : k9_okP 95 ix :=
  k9d_ch (y := 95) (cs := k9_c95) (ws := k9_w95) (m := 64) (k := 0) (pc := 0) rfl rfl rfl k9d_sq95 rfl rfl k9d_q95_0 ix (Nat.zero_le ix) hne fun h1 =>
  k9d_end (y := 95) (cs := k9_c95) (n := 64) rfl k9d_sq95 (by decide +kernel) ix h1 hne
theorem k9d_sq96 : k9d_sq k9_c96 = true := by decide +kernel
theorem k9d_q96_0 : k9d_chk 96 prog_6_method_9_code (fun a => (k9_nth (0, 0, 0, 0) k9_w96 a).1) 64 (prog_6_method_9_code.data.toList.drop 0) (k9_c96.flatten.drop 0) (k9_w96.drop 0) = true := by decide +kernel
theorem k9d_a96 (ix : Nat) (hne : k9_cod 96 ix ≠ (0, 0, 0, 0, 0)) : k9_okP 96 ix :=
  k9d_ch (y := 96) (cs := k9_c96) (ws := k9_w96) (m := 64) (k := 0) (pc := 0) rfl rfl rfl k9d_sq96 rfl rfl k9d_q96_0 ix (Nat.zero_le ix) hne fun h1 =>
  k9d_end (y := 96) (cs := k9_c96) (n := 64) rfl k9d_sq96 (by decide +kernel) ix h1 hne
theorem k9d_sq97 : k9d_sq k9_c97 = true := by decide +kernel
theorem k9d_q97_0 : k9d_chk 97 prog_6_method_10_code (fun a => (k9_nth (0, 0, 0, 0) k9_w97 a).1) 64 (prog_6_method_10_code.data.toList.drop 0) (k9_c97.flatten.drop 0) (k9_w97.drop 0) = true := by decide +kernel
theorem k9d_a97 (ix : Nat) (hne : k9_cod 97 ix ≠ (0, 0, 0, 0, 0)) : k9_okP 97 ix :=
  k9d_ch (y := 97) (cs := k9_c97) (ws := k9_w97) (m := 64) (k := 0) (pc := 0) rfl rfl rfl k9d_sq97 rfl rfl k9d_q97_0 ix (Nat.zero_le ix) hne fun h1 =>
  k9d_end (y := 97) (cs := k9_c97) (n := 64) rfl k9d_sq97 (by decide +kernel) ix h1 hne
theorem k9d_sq98 : k9d_sq k9_c98 = true := by decide +kernel
theorem k9d_q98_0 : k9d_chk 98 prog_6_method_11_code (fun a => (k9_nth (0, 0, 0, 0) k9_w98 a).1) 64 (prog_6_method_11_code.data.toList.drop 0) (k9_c98.flatten.drop 0) (k9_w98.drop 0) = true := by decide +kernel
theorem k9d_a98 (ix : Nat) (hne : k9_cod 98 ix ≠ (0, 0, 0, 0, 0)) : k9_okP 98 ix :=
  k9d_ch (y := 98) (cs := k9_c98) (ws := k9_w98) (m := 64) (k := 0) (pc := 0) rfl rfl rfl k9d_sq98 rfl rfl k9d_q98_0 ix (Nat.zero_le ix) hne fun h1 =>
  k9d_end (y := 98) (cs := k9_c98) (n := 64) rfl k9d_sq98 (by decide +kernel) ix h1 hne
theorem k9d_sq99 : k9d_sq k9_c99 = true := by decide +kernel
theorem k9d_q99_0 : k9d_chk 99 prog_1_method_2_code (fun a => (k9_nth (0, 0, 0, 0) k9_w99 a).1) 64 (prog_1_method_2_code.data.toList.drop 0) (k9_c99.flatten.drop 0) (k9_w99.drop 0) = true := by decide +kernel
theorem k9d_a99 (ix : Nat) (hne : k9_cod 99 ix ≠ (0, 0, 0, 0, 0)) : k9_okP 99 ix :=
  k9d_ch (y := 99) (cs := k9_c99) (ws := k9_w99) (m := 64) (k := 0) (pc := 0) rfl rfl rfl k9d_sq99 rfl rfl k9d_q99_0 ix (Nat.zero_le ix) hne fun h1 =>
  k9d_end (y := 99) (cs := k9_c99) (n := 64) rfl k9d_sq99 (by decide +kernel) ix h1 hne
theorem k9d_sq100 : k9d_sq k9_c100 = true := by decide +kernel
theorem k9d_q100_0 : k9d_chk 100 prog_1_method_3_code (fun a => (k9_nth (0, 0, 0, 0) k9_w100 a).1) 64 (prog_1_method_3_code.data.toList.drop 0) (k9_c100.flatten.drop 0) (k9_w100.drop 0) = true := by decide +kernel
theorem k9d_a100 (ix : Nat) (hne : k9_cod 100 ix ≠ (0, 0, 0, 0, 0)) : k9_okP 100 ix :=
  k9d_ch (y := 100) (cs := k9_c100) (ws := k9_w100) (m := 64) (k := 0) (pc := 0) rfl rfl rfl k9d_sq100 rfl rfl k9d_q100_0 ix (Nat.zero_le ix) hne fun h1 =>
  k9d_end (y := 100) (cs := k9_c100) (n := 64) rfl k9d_sq100 (by decide +kernel) ix h1 hne
theorem k9d_sq101 : k9d_sq k9_c101 = true := by decide +kernel
theorem k9d_q101_0 : k9d_chk 101 prog_1_method_4_code (fun a => (k9_nth (0, 0, 0, 0) k9_w101 a).1) 64 (prog_1_method_4_code.data.toList.drop 0) (k9_c101.flatten.drop 0) (k9_w101.drop 0) = true := by decide +kernel
theorem k9d_a101 (ix : Nat) (hne : k9_cod 101 ix ≠ (0, 0, 0, 0, 0)) : k9_okP 101 ix :=
  k9d_ch (y := 101) (cs := k9_c101) (ws := k9_w101) (m := 64) (k := 0) (pc := 0) rfl rfl rfl k9d_sq101 rfl rfl k9d_q101_0 ix (Nat.zero_le ix) hne fun h1 =>
  k9d_end (y := 101) (cs := k9_c101) (n := 64) rfl k9d_sq101 (by decide +kernel) ix h1 hne
theorem k9d_sq102 : k9d_sq k9_c102 = true := by decide +kernel
theorem k9d_q102_0 : k9d_chk 102 prog_1_method_5_code (fun a => (k9_nth (0, 0, 0, 0) k9_w102 a).1) 64 (prog_1_method_5_code.data.toList.drop 0) (k9_c102.flatten.drop 0) (k9_w102.drop 0) = true := by decide +kernel
theorem k9d_a102 (ix : Nat) (hne : k9_cod 102 ix ≠ (0, 0, 0, 0, 0)) : k9_okP 102 ix :=
  k9d_ch (y := 102) (cs := k9_c102) (ws := k9_w102) (m := 64) (k := 0) (pc := 0) rfl rfl rfl k9d_sq102 rfl rfl k9d_q102_0 ix (Nat.zero_le ix) hne fun h1 =>
  k9d_end (y := 102) (cs := k9_c102) (n := 64) rfl k9d_sq102 (by decide +kernel) ix h1 hne
theorem k9d_sq103 : k9d_sq k9_c103 = true := by decide +kernel
theorem k9d_q103_0 : k9d_chk 103 prog_1_method_6_code (fun a => (k9_nth (0, 0, 0, 0) k9_w103 a).1) 64 (prog_1_method_6_code.data.toList.drop 0) (k9_c103.flatten.drop 0) (k9_w103.drop 0) = true := by decide +kernel
theorem k9d_a103 (ix : Nat) (hne : k9_cod 103 ix ≠ (0, 0, 0, 0, 0)) : k9_okP 103 ix :=
  k9d_ch (y := 103) (cs := k9_c103) (ws := k9_w103) (m := 64) (k := 0) (pc := 0) rfl rfl rfl k9d_sq103 rfl rfl k9d_q103_0 ix (Nat.zero_le ix) hne fun h1 =>
  k9d_end (y := 103) (cs := k9_c103) (n := 64) rfl k9d_sq103 (by decide +kernel) ix h1 hne
theorem k9d_sq104 : k9d_sq k9_c104 = true := by decide +kernel
theorem k9d_q104_0 : k9d_chk 104 prog_1_method_7_code (fun a => (k9_nth (0, 0, 0, 0) k9_w104 a).1) 64 (prog_1_method_7_code.data.toList.drop 0) (k9_c104.flatten.drop 0) (k9_w104.drop 0) = true := by decide +kernel
theorem k9d_a104 (ix : Nat) (hne : k9_cod 104 ix ≠ (0, 0, 0, 0, 0)) : k9_okP 104 ix :=
  k9d_ch (y := 104) (cs := k9_c104) (ws := k9_w104) (m := 64) (k := 0) (pc := 0) rfl rfl rfl k9d_sq104 rfl rfl k9d_q104_0 ix (Nat.zero_le ix) hne fun h1 =>
  k9d_end (y := 104) (cs := k9_c104) (n := 64) rfl k9d_sq104 (by decide +kernel) ix h1 hne
theorem k9d_sq105 : k9d_sq k9_c105 = true := by decide +kernel
theorem k9d_q105_0 : k9d_chk 105 prog_1_method_8_code (fun a => (k9_nth (0, 0, 0, 0) k9_w105 a).1) 64 (prog_1_method_8_code.data.toList.drop 0) (k9_c105.flatten.drop 0) (k9_w105.drop 0) = true := by decide +kernel
theorem k9d_a105 (ix : Nat) (hne : k9_cod 105 ix ≠ (0, 0, 0, 0, 0)) : k9_okP 105 ix :=
  k9d_ch (y := 105) (cs := k9_c105) (ws := k9_w105) (m := 64) (k := 0) (pc := 0) rfl rfl rfl k9d_sq105 rfl rfl k9d_q105_0 ix (Nat.zero_le ix) hne fun h1 =>
  k9d_end (y := 105) (cs := k9_c105) (n := 64) rfl k9d_sq105 (by decide +kernel) ix h1 hne
theorem k9d_sq106 : k9d_sq k9_c106 = true := by decide +kernel
theorem k9d_q106_0 : k9d_chk 106 prog_1_method_9_code (fun a => (k9_nth (0, 0, 0, 0) k9_w106 a).1) 64 (prog_1_method_9_code.data.toList.drop 0) (k9_c106.flatten.drop 0) (k9_w106.drop 0) = true := by decide +kernel
theorem k9d_a106 (ix : Nat) (hne : k9_cod 106 ix ≠ (0, 0, 0, 0, 0)) : k9_okP 106 ix :=
  k9d_ch (y := 106) (cs := k9_c106) (ws := k9_w106) (m := 64) (k := 0) (pc := 0) rfl rfl rfl k9d_sq106 rfl rfl k9d_q106_0 ix (Nat.zero_le ix) hne fun h1 =>
  k9d_end (y := 106) (cs := k9_c106) (n := 64) rfl k9d_sq106 (by decide +kernel) ix h1 hne
theorem k9d_sq107 : k9d_sq k9_c107 = true := by decide +kernel
theorem k9d_q107_0 : k9d_chk 107 prog_1_method_10_code (fun a => (k9_nth (0, 0, 0, 0) k9_w107 a).1) 64 (prog_1_method_10_code.data.toList.drop 0) (k9_c107.flatten.drop 0) (k9_w107.drop 0) = true := by decide +kernel
theorem k9d_a107 (ix : Nat) (hne : k9_cod 107 ix ≠ (0, 0, 0, 0, 0)) : k9_okP 107 ix :=
  k9d_ch (y := 107) (cs := k9_c107) (ws := k9_w107) (m := 64) (k := 0) (pc := 0) rfl rfl rfl k9d_sq107 rfl rfl k9d_q107_0 ix (Nat.zero_le ix) hne fun h1 =>
  k9d_end (y := 107) (cs := k9_c107) (n := 64) rfl k9d_sq107 (by decide +kernel) ix h1 hne
theorem k9d_sq108 : k9d_sq k9_c108 = true := by decide +kernel
theorem k9d_q108_0 : k9d_chk 108 prog_1_method_11_code (fun a => (k9_nth (0, 0, 0, 0) k9_w108 a).1) 64 (prog_1_method_11_code.data.toList.drop 0) (k9_c108.flatten.drop 0) (k9_w108.drop 0) = true := by decide +kernel
theorem k9d_a108 (ix : Nat) (hne : k9_cod 108 ix ≠ (0, 0, 0, 0, 0)) : k9_okP 108 ix :=
  k9d_ch (y := 108) (cs := k9_c108) (ws := k9_w108) (m := 64) (k := 0) (pc := 0) rfl rfl rfl k9d_sq108 rfl rfl k9d_q108_0 ix (Nat.zero_le ix) hne fun h1 =>
  k9d_end (y := 108) (cs := k9_c108) (n := 64) rfl k9d_sq108 (by decide +kernel) ix h1 hne
theorem k9d_sq109 : k9d_sq k9_c109 = true := by decide +kernel
theorem k9d_q109_0 : k9d_chk 109 prog_1_method_12_code (fun a => (k9_nth (0, 0, 0, 0) k9_w109 a).1) 64 (prog_1_method_12_code.data.toList.drop 0) (k9_c109.flatten.drop 0) (k9_w109.drop 0) = true := by decide +kernel
theorem k9d_a109 (ix : Nat) (hne : k9_cod 109 ix ≠ (0, 0, 0, 0, 0)) : k9_okP 109 ix :=
  k9d_ch (y := 109) (cs := k9_c109) (ws := k9_w109) (m := 64) (k := 0) (pc := 0) rfl rfl rfl k9d_sq109 rfl rfl k9d_q109_0 ix (Nat.zero_le ix) hne fun h1 =>
  k9d_end (y := 109) (cs := k9_c109) (n := 64) rfl k9d_sq109 (by decide +kernel) ix h1 hne
theorem k9d_sq110 : k9d_sq k9_c110 = true := by decide +kernel
theorem k9d_q110_0 : k9d_chk 110 prog_1_method_13_code (fun a => (k9_nth (0, 0, 0, 0) k9_w110 a).1) 64 (prog_1_method_13_code.data.toList.drop 0) (k9_c110.flatten.drop 0) (k9_w110.drop 0) = true := by decide +kernel
theorem k9d_a110 (ix : Nat) (hne : k9_cod 110 ix ≠ (0, 0, 0, 0, 0)) : k9_okP 110 ix :=
  k9d_ch (y := 110) (cs := k9_c110) (ws := k9_w110) (m := 64) (k := 0) (pc := 0) rfl rfl rfl k9d_sq110 rfl rfl k9d_q110_0 ix (Nat.zero_le ix) hne fun h1 =>
  k9d_end (y := 110) (cs := k9_c110) (n := 64) rfl k9d_sq110 (by decide +kernel) ix h1 hne
theorem k9d_sq111 : k9d_sq k9_c111 = true := by decide +kernel
theorem k9d_q111_0 : k9d_chk 111 prog_1_method_14_code (fun a => (k9_nth (0, 0, 0, 0) k9_w111 a).1) 64 (prog_1_method_14_code.data.toList.drop 0) (k9_c111.flatten.drop 0) (k9_w111.drop 0) = true := by decide +kernel
theorem k9d_a111 (ix : Nat) (hne : k9_cod 111 ix ≠ (0, 0, 0, 0, 0)) : k9_okP 111 ix :=
  k9d_ch (y := 111) (cs := k9_c111) (ws := k9_w111) (m := 64) (k := 0) (pc := 0) rfl rfl rfl k9d_sq111 rfl rfl k9d_q111_0 ix (Nat.zero_le ix) hne fun h1 =>
  k9d_end (y := 111) (cs := k9_c111) (n := 64) rfl k9d_sq111 (by decide +kernel) ix h1 hne
theorem k9d_sq112 : k9d_sq k9_c112 = true := by decide +kernel
theorem k9d_q112_0 : k9d_chk 112 prog_1_method_15_code (fun a => (k9_nth (0, 0, 0, 0) k9_w112 a).1) 64 (prog_1_method_15_code.data.toList.drop 0) (k9_c112.flatten.drop 0) (k9_w112.drop 0) = true := by decide +kernel
theorem k9d_a112 (ix : Nat) (hne : k9_cod 112 ix ≠ (0, 0, 0, 0, 0)) : k9_okP 112 ix :=
  k9d_ch (y := 112) (cs := k9_c112) (ws := k9_w112) (m := 64) (k := 0) (pc := 0) rfl rfl rfl k9d_sq112 rfl rfl k9d_q112_0 ix (Nat.zero_le ix) hne fun h1 =>
  k9d_end (y := 112) (cs := k9_c112) (n := 64) rfl k9d_sq112 (by decide +kernel) ix h1 hne
theorem k9d_sq113 : k9d_sq k9_c113 = true := by decide +kernel
theorem k9d_q113_0 : k9d_chk 113 prog_1_method_16_code (fun a => (k9_nth (0, 0, 0, 0) k9_w113 a).1) 64 (prog_1_method_16_code.data.toList.drop 0) (k9_c113.flatten.drop 0) (k9_w113.drop 0) = true := by decide +kernel
theorem k9d_a113 (ix : Nat) (hne : k9_cod 113 ix ≠ (0, 0, 0, 0, 0)) : k9_okP 113 ix :=
  k9d_ch (y := 113) (cs := k9_c113) (ws := k9_w113) (m := 64) (k := 0) (pc := 0) rfl rfl rfl k9d_sq113 rfl rfl k9d_q113_0 ix (Nat.zero_le ix) hne fun h1 =>
  k9d_end (y := 113) (cs := k9_c113) (n := 64) rfl k9d_sq113 (by decide +kernel) ix h1 hne
theorem k9d_sq114 : k9d_sq k9_c114 = true := by decide +kernel
theorem k9d_q114_0 : k9d_chk 114 prog_1_method_17_code (fun a => (k9_nth (0, 0, 0, 0) k9_w114 a).1) 64 (prog_1_method_17_code.data.toList.drop 0) (k9_c114.flatten.drop 0) (k9_w114.drop 0) = true := by decide +kernel
theorem k9d_a114 (ix : Nat) (hne : k9_cod 114 ix ≠ (0, 0, 0, 0, 0)) : k9_okP 114 ix :=
  k9d_ch (y := 114) (cs := k9_c114) (ws := k9_w114) (m := 64) (k := 0) (pc := 0) rfl rfl rfl k9d_sq114 rfl rfl k9d_q114_0 ix (Nat.zero_le ix) hne fun h1 =>
  k9d_end (y := 114) (cs := k9_c114) (n := 64) rfl k9d_sq114 (by decide +kernel) ix h1 hne
theorem k9d_sq115 : k9d_sq k9_c115 = true := by decide +kernel
theorem k9d_q115_0 : k9d_chk 115 prog_1_method_18_code (fun a => (k9_nth (0, 0, 0, 0) k9_w115 a).1) 64 (prog_1_method_18_code.data.toList.drop 0) (k9_c115.flatten.drop 0) (k9_w115.drop 0) = true := by decide +kernel
theorem k9d_a115 (ix : Nat) (hne : k9_cod 115 ix ≠ (0, 0, 0, 0, 0)) : k9_okP 115 ix :=
  k9d_ch (y := 115) (cs := k9_c115) (ws := k9_w115) (m := 64) (k := 0) (pc := 0) rfl rfl rfl k9d_sq115 rfl rfl k9d_q115_0 ix (Nat.zero_le ix) hne fun h1 =>
  k9d_end (y := 115) (cs := k9_c115) (n := 64) rfl k9d_sq115 (by decide +kernel) ix h1 hne
theorem k9d_sq116 : k9d_sq k9_c116 = true := by decide +kernel
theorem k9d_q116_0 : k9d_chk 116 prog_1_method_19_code (fun a => (k9_nth (0, 0, 0, 0) k9_w116 a).1) 64 (prog_1_method_19_code.data.toList.drop 0) (k9_c116.flatten.drop 0) (k9_w116.drop 0) = true := by decide +kernel
theorem k9d_q116_1 : k9d_chk 116 prog_1_method_19_code (fun a => (k9_nth (0, 0, 0, 0) k9_w116 a).1) 64 (prog_1_method_19_code.data.toList.drop 132) (k9_c116.flatten.drop 64) (k9_w116.drop 64) = true := by decide +kernel
theorem k9d_a116 (ix : Nat) (hne : k9_cod 116 ix ≠ (0, 0, 0, 0, 0)) : k9_okP 116 ix :=
  k9d_ch (y := 116) (cs := k9_c116) (ws := k9_w116) (m := 64) (k := 0) (pc := 0) rfl rfl rfl k9d_sq116 rfl rfl k9d_q116_0 ix (Nat.zero_le ix) hne fun h1 =>
  k9d_ch (y := 116) (cs := k9_c116) (ws := k9_w116) (m := 64) (k := 64) (pc := 132) rfl rfl rfl k9d_sq116 rfl (by decide +kernel) k9d_q116_1 ix h1 hne fun h2 =>
  k9d_end (y := 116) (cs := k9_c116) (n := 128) rfl k9d_sq116 (by decide +kernel) ix h2 hne
theorem k9d_sq117 : k9d_sq k9_c117 = true := by decide +kernel
theorem k9d_q117_0 : k9d_chk 117 prog_1_method_20_code (fun a => (k9_nth (0, 0, 0, 0) k9_w117 a).1) 64 (prog_1_method_20_code.data.toList.drop 0) (k9_c117.flatten.drop 0) (k9_w117.drop 0) = true := by decide +kernel
theorem k9d_a117 (ix : Nat) (hne : k9_cod 117 ix ≠ (0, 0, 0, 0, 0)) : k9_okP 117 ix :=
  k9d_ch (y := 117) (cs := k9_c117) (ws := k9_w117) (m := 64) (k := 0) (pc := 0) rfl rfl rfl k9d_sq117 rfl rfl k9d_q117_0 ix (Nat.zero_le ix) hne fun h1 =>
  k9d_end (y := 117) (cs := k9_c117) (n := 64) rfl k9d_sq117 (by decide +kernel) ix h1 hne
theorem k9d_sq118 : k9d_sq k9_c118 = true := by decide +kernel
theorem k9d_q118_0 : k9d_chk 118 prog_1_method_21_code (fun a => (k9_nth (0, 0, 0, 0) k9_w118 a).1) 64 (prog_1_method_21_code.data.toList.drop 0) (k9_c118.flatten.drop 0) (k9_w118.drop 0) = true := by decide +kernel
theorem k9d_a118 (ix : Nat) (hne : k9_cod 118 ix ≠ (0, 0, 0, 0, 0)) : k9_okP 118 ix :=
  k9d_ch (y := 118) (cs := k9_c118) (ws := k9_w118) (m := 64) (k := 0) (pc := 0) rfl rfl rfl k9d_sq118 rfl rfl k9d_q118_0 ix (Nat.zero_le ix) hne fun h1 =>
  k9d_end (y := 118) (cs := k9_c118) (n := 64) rfl k9d_sq118 (by decide +kernel) ix h1 hne
theorem k9d_sq119 : k9d_sq k9_c119 = true := by decide +kernel
theorem k9d_q119_0 : k9d_chk 119 prog_1_method_22_code (fun a => (k9_nth (0, 0, 0, 0) k9_w119 a).1) 64 (prog_1_method_22_code.data.toList.drop 0) (k9_c119.flatten.drop 0) (k9_w119.drop 0) = true := by decide +kernel
theorem k9d_a119 (ix : Nat) (hne : k9_cod 119 ix ≠ (0, 0, 0, 0, 0)) : k9_okP 119 ix :=
  k9d_ch (y := 119) (cs := k9_c119) (ws := k9_w119) (m := 64) (k := 0) (pc := 0) rfl rfl rfl k9d_sq119 rfl rfl k9d_q119_0 ix (Nat.zero_le ix) hne fun h1 =>
  k9d_end (y := 119) (cs := k9_c119) (n := 64) rfl k9d_sq119 (by decide +kernel) ix h1 hne
theorem k9d_sq120 : k9d_sq k9_c120 = true := by decide +kernel
theorem k9d_q120_0 : k9d_chk 120 prog_1_method_23_code (fun a => (k9_nth (0, 0, 0, 0) k9_w120 a).1) 64 (prog_1_method_23_code.data.toList.drop 0) (k9_c120.flatten.drop 0) (k9_w120.drop 0) = true := by decide +kernel
theorem k9d_a120 (ix : Nat) (hne : k9_cod 120 ix ≠ (0, 0, 0, 0, 0)) : k9_okP 120 ix :=
  k9d_ch (y := 120) (cs := k9_c120) (ws := k9_w120) (m := 64) (k := 0) (pc := 0) rfl rfl rfl k9d_sq120 rfl rfl k9d_q120_0 ix (Nat.zero_le ix) hne fun h1 =>
  k9d_end (y := 120) (cs := k9_c120) (n := 64) rfl k9d_sq120 (by decide +kernel) ix h1 hne
theorem k9d_sq121 : k9d_sq k9_c121 = true := by decide +kernel
theorem k9d_q121_0 : k9d_chk 121 prog_1_method_24_code (fun a => (k9_nth (0, 0, 0, 0) k9_w121 a).1) 64 (prog_1_method_24_code.data.toList.drop 0) (k9_c121.flatten.drop 0) (k9_w121.drop 0) = true := by decide +kernel
theorem k9d_a121 (ix : Nat) (hne : k9_cod 121 ix ≠ (0, 0, 0, 0, 0)) : k9_okP 121 ix :=
  k9d_ch (y := 121) (cs := k9_c121) (ws := k9_w121) (m := 64) (k := 0) (pc := 0) rfl rfl rfl k9d_sq121 rfl rfl k9d_q121_0 ix (Nat.zero_le ix) hne fun h1 =>
  k9d_end (y := 121) (cs := k9_c121) (n := 64) rfl k9d_sq121 (by decide +kernel) ix h1 hne
theorem k9d_sq122 : k9d_sq k9_c122 = true := by decide +kernel
theorem k9d_q122_0 : k9d_chk 122 prog_1_method_25_code (fun a => (k9_nth (0, 0, 0, 0) k9_w122 a).1) 64 (prog_1_method_25_code.data.toList.drop 0) (k9_c122.flatten.drop 0) (k9_w122.drop 0) = true := by decide +kernel
theorem k9d_a122 (ix : Nat) (hne : k9_cod 122 ix ≠ (0, 0, 0, 0, 0)) : k9_okP 122 ix :=
  k9d_ch (y := 122) (cs := k9_c122) (ws := k9_w122) (m := 64) (k := 0) (pc := 0) rfl rfl rfl k9d_sq122 rfl rfl k9d_q122_0 ix (Nat.zero_le ix) hne fun h1 =>
  k9d_end (y := 122) (cs := k9_c122) (n := 64) rfl k9d_sq122 (by decide +kernel) ix h1 hne
theorem k9d_sq123 : k9d_sq k9_c123 = true := by decide +kernel
theorem k9d_q123_0 : k9d_chk 123 prog_1_method_26_code (fun a => (k9_nth (0, 0, 0, 0) k9_w123 a).1) 64 (prog_1_method_26_code.data.toList.drop 0) (k9_c123.flatten.drop 0) (k9_w123.drop 0) = true := by decide +kernel
theorem k9d_a123 (ix : Nat) (hne : k9_cod 123 ix ≠ (0, 0, 0, 0, 0)) : k9_okP 123 ix :=
  k9d_ch (y := 123) (cs := k9_c123) (ws := k9_w123) (m := 64) (k := 0) (pc := 0) rfl rfl rfl k9d_sq123 rfl rfl k9d_q123_0 ix (Nat.zero_le ix) hne fun h1 =>
  k9d_end (y := 123) (cs := k9_c123) (n := 64) rfl k9d_sq123 (by decide +kernel) ix h1 hne
theorem k9d_sq124 : k9d_sq k9_c124 = true := by decide +kernel
theorem k9d_q124_0 : k9d_chk 124 prog_1_method_27_code (fun a => (k9_nth (0, 0, 0, 0) k9_w124 a).1) 64 (prog_1_method_27_code.data.toList.drop 0) (k9_c124.flatten.drop 0) (k9_w124.drop 0) = true := by decide +kernel
theorem k9d_a124 (ix : Nat) (hne : k9_cod 124 ix ≠ (0, 0, 0, 0, 0)) : k9_okP 124 ix :=
  k9d_ch (y := 124) (cs := k9_c124) (ws := k9_w124) (m := 64) (k := 0) (pc := 0) rfl rfl rfl k9d_sq124 rfl rfl k9d_q124_0 ix (Nat.zero_le ix) hne fun h1 =>
  k9d_end (y := 124) (cs := k9_c124) (n := 64) rfl k9d_sq124 (by decide +kernel) ix h1 hne
theorem k9d_sq125 : k9d_sq k9_c125 = true := by decide +kernel
theorem k9d_q125_0 : k9d_chk 125 prog_1_method_28_code (fun a => (k9_nth (0, 0, 0, 0) k9_w125 a).1) 64 (prog_1_method_28_code.data.toList.drop 0) (k9_c125.flatten.drop 0) (k9_w125.drop 0) = true := by decide +kernel
theorem k9d_q125_1 : k9d_chk 125 prog_1_method_28_code (fun a => (k9_nth (0, 0, 0, 0) k9_w125 a).1) 64 (prog_1_method_28_code.data.toList.drop 130) (k9_c125.flatten.drop 64) (k9_w125.drop 64) = true := by decide +kernel
theorem k9d_a125 (ix : Nat) (hne : k9_cod 125 ix ≠ (0, 0, 0, 0, 0)) : k9_okP 125 ix :=
  k9d_ch (y := 125) (cs := k9_c125) (ws := k9_w125) (m := 64) (k := 0) (pc := 0) rfl rfl rfl k9d_sq125 rfl rfl k9d_q125_0 ix (Nat.zero_le ix) hne fun h1 =>
  k9d_ch (y := 125) (cs := k9_c125) (ws := k9_w125) (m := 64) (k := 64) (pc := 130) rfl rfl rfl k9d_sq125 rfl (by decide +kernel) k9d_q125_1 ix h1 hne fun h2 =>
  k9d_end (y := 125) (cs := k9_c125) (n := 128) rfl k9d_sq125 (by decide +kernel) ix h2 hne
theorem k9d_sq126 : k9d_sq k9_c126 = true := by decide +kernel
theorem k9d_q126_0 : k9d_chk 126 prog_1_method_29_code (fun a => (k9_nth (0, 0, 0, 0) k9_w126 a).1) 64 (prog_1_method_29_code.data.toList.drop 0) (k9_c126.flatten.drop 0) (k9_w126.drop 0) = true := by decide +kernel
theorem k9d_a126 (ix : Nat) (hne : k9_cod 126 ix ≠ (0, 0, 0, 0, 0)) : k9_okP 126 ix :=
  k9d_ch (y := 126) (cs := k9_c126) (ws := k9_w126) (m := 64) (k := 0) (pc := 0) rfl rfl rfl k9d_sq126 rfl rfl k9d_q126_0 ix (Nat.zero_le ix) hne fun h1 =>
  k9d_end (y := 126) (cs := k9_c126) (n := 64) rfl k9d_sq126 (by decide +kernel) ix h1 hne
theorem k9d_sq127 : k9d_sq k9_c127 = true := by decide +kernel
theorem k9d_q127_0 : k9d_chk 127 prog_1_method_30_code (fun a => (k9_nth (0, 0, 0, 0) k9_w127 a).1) 64 (prog_1_method_30_code.data.toList.drop 0) (k9_c127.flatten.drop 0) (k9_w127.drop 0) = true := by decide +kernel
theorem k9d_a127 (ix : Nat) (hne : k9_cod 127 ix ≠ (0, 0, 0, 0, 0)) : k9_okP 127 ix :=
  k9d_ch (y := 127) (cs := k9_c127) (ws := k9_w127) (m := 64) (k := 0) (pc := 0) rfl rfl rfl k9d_sq127 rfl rfl k9d_q127_0 ix (Nat.zero_le ix) hne fun h1 =>
  k9d_end (y := 127) (cs := k9_c127) (n := 64) rfl k9d_sq127 (by decide +kernel) ix h1 hne
theorem k9d_sq128 : k9d_sq k9_c128 = true := by decide +kernel
theorem k9d_q128_0 : k9d_chk 128 prog_1_method_31_code (fun a => (k9_nth (0, 0, 0, 0) k9_w128 a).1) 64 (prog_1_method_31_code.data.toList.drop 0) (k9_c128.flatten.drop 0) (k9_w128.drop 0) = true := by decide +kernel
theorem k9d_a128 (ix : Nat) (hne : k9_cod 128 ix ≠ (0, 0, 0, 0, 0)) : k9_okP 128 ix :=
  k9d_ch (y := 128) (cs := k9_c128) (ws := k9_w128) (m := 64) (k := 0) (pc := 0) rfl rfl rfl k9d_sq128 rfl rfl k9d_q128_0 ix (Nat.zero_le ix) hne fun h1 =>
  k9d_end (y := 128) (cs := k9_c128) (n := 64) rfl k9d_sq128 (by decide +kernel) ix h1 hne
theorem k9d_sq129 : k9d_sq k9_c129 = true := by decide +kernel
theorem k9d_q129_0 : k9d_chk 129 prog_1_method_32_code (fun a => (k9_nth (0, 0, 0, 0) k9_w129 a).1) 64 (prog_1_method_32_code.data.toList.drop 0) (k9_c129.flatten.drop 0) (k9_w129.drop 0) = true := by decide +kernel
theorem k9d_a129 (ix : Nat) (hne : k9_cod 129 ix ≠ (0, 0, 0, 0, 0)) : k9_okP 129 ix :=
  k9d_ch (y := 129) (cs := k9_c129) (ws := k9_w129) (m := 64) (k := 0) (pc := 0) rfl rfl rfl k9d_sq129 rfl rfl k9d_q129_0 ix (Nat.zero_le ix) hne fun h1 =>
  k9d_end (y := 129) (cs := k9_c129) (n := 64) rfl k9d_sq129 (by decide +kernel) ix h1 hne
theorem k9d_sq130 : k9d_sq k9_c130 = true := by decide +kernel
theorem k9d_q130_0 : k9d_chk 130 prog_1_method_33_code (fun a => (k9_nth (0, 0, 0, 0) k9_w130 a).1) 64 (prog_1_method_33_code.data.toList.drop 0) (k9_c130.flatten.drop 0) (k9_w130.drop 0) = true := by decide +kernel
theorem k9d_a130 (ix : Nat) (hne : k9_cod 130 ix ≠ (0, 0, 0, 0, 0)) : k9_okP 130 ix :=
  k9d_ch (y := 130) (cs := k9_c130) (ws := k9_w130) (m := 64) (k := 0) (pc := 0) rfl rfl rfl k9d_sq130 rfl rfl k9d_q130_0 ix (Nat.zero_le ix) hne fun h1 =>
  k9d_end (y := 130) (cs := k9_c130) (n := 64) rfl k9d_sq130 (by decide +kernel) ix h1 hne
theorem k9d_sq131 : k9d_sq k9_c131 = true := by decide +kernel
theorem k9d_q131_0 : k9d_chk 131 prog_1_method_34_code (fun a => (k9_nth (0, 0, 0, 0) k9_w131 a).1) 64 (prog_1_method_34_code.data.toList.drop 0) (k9_c131.flatten.drop 0) (k9_w131.drop 0) = true := by decide +kernel
theorem k9d_a131 (ix : Nat) (hne : k9_cod 131 ix ≠ (0, 0, 0, 0, 0)) : k9_okP 131 ix :=
  k9d_ch (y := 131) (cs := k9_c131) (ws := k9_w131) (m := 64) (k := 0) (pc := 0) rfl rfl rfl k9d_sq131 rfl rfl k9d_q131_0 ix (Nat.zero_le ix) hne fun h1 =>
  k9d_end (y := 131) (cs := k9_c131) (n := 64) rfl k9d_sq131 (by decide +kernel) ix h1 hne
theorem k9d_sq132 : k9d_sq k9_c132 = true := by decide +kernel
theorem k9d_q132_0 : k9d_chk 132 prog_1_method_35_code (fun a => (k9_nth (0, 0, 0, 0) k9_w132 a).1) 64 (prog_1_method_35_code.data.toList.drop 0) (k9_c132.flatten.drop 0) (k9_w132.drop 0) = true := by decide +kernel
theorem k9d_a132 (ix : Nat) (hne : k9_cod 132 ix ≠ (0, 0, 0, 0, 0)) : k9_okP 132 ix :=
  k9d_ch (y := 132) (cs := k9_c132) (ws := k9_w132) (m := 64) (k := 0) (pc := 0) rfl rfl rfl k9d_sq132 rfl rfl k9d_q132_0 ix (Nat.zero_le ix) hne fun h1 =>
  k9d_end (y := 132) (cs := k9_c132) (n := 64) rfl k9d_sq132 (by decide +kernel) ix h1 hne
theorem k9d_sq133 : k9d_sq k9_c133 = true := by decide +kernel
theorem k9d_q133_0 : k9d_chk 133 prog_1_method_36_code (fun a => (k9_nth (0, 0, 0, 0) k9_w133 a).1) 64 (prog_1_method_36_code.data.toList.drop 0) (k9_c133.flatten.drop 0) (k9_w133.drop 0) = true := by decide +kernel
theorem k9d_a133 (ix : Nat) (hne : k9_cod 133 ix ≠ (0, 0, 0, 0, 0)) : k9_okP 133 ix :=
  k9d_ch (y := 133) (cs := k9_c133) (ws := k9_w133) (m := 64) (k := 0) (pc := 0) rfl rfl rfl k9d_sq133 rfl rfl k9d_q133_0 ix (Nat.zero_le ix) hne fun h1 =>
  k9d_end (y := 133) (cs := k9_c133) (n := 64) rfl k9d_sq133 (by decide +kernel) ix h1 hne
theorem k9d_sq134 : k9d_sq k9_c134 = true := by decide +kernel
theorem k9d_q134_0 : k9d_chk 134 prog_1_method_37_code (fun a => (k9_nth (0, 0, 0, 0) k9_w134 a).1) 64 (prog_1_method_37_code.data.toList.drop 0) (k9_c134.flatten.drop 0) (k9_w134.drop 0) = true := by decide +kernel
theorem k9d_a134 (ix : Nat) (hne : k9_cod 134 ix ≠ (0, 0, 0, 0, 0)) : k9_okP 134 ix :=
  k9d_ch (y := 134) (cs := k9_c134) (ws := k9_w134) (m := 64) (k := 0) (pc := 0) rfl rfl rfl k9d_sq134 rfl rfl k9d_q134_0 ix (Nat.zero_le ix) hne fun h1 =>
  k9d_end (y := 134) (cs := k9_c134) (n := 64) rfl k9d_sq134 (by decide +kernel) ix h1 hne
theorem k9d_sq135 : k9d_sq k9_c135 = true := by decide +kernel
theorem k9d_q135_0 : k9d_chk 135 prog_1_method_38_code (fun a => (k9_nth (0, 0, 0, 0) k9_w135 a).1) 64 (prog_1_method_38_code.data.toList.drop 0) (k9_c135.flatten.drop 0) (k9_w135.drop 0) = true := by decide +kernel
theorem k9d_a135 (ix : Nat) (hne : k9_cod 135 ix ≠ (0, 0, 0, 0, 0)) : k9_okP 135 ix :=
  k9d_ch (y := 135) (cs := k9_c135) (ws := k9_w135) (m := 64) (k := 0) (pc := 0) rfl rfl rfl k9d_sq135 rfl rfl k9d_q135_0 ix (Nat.zero_le ix) hne fun h1 =>
  k9d_end (y := 135) (cs := k9_c135) (n := 64) rfl k9d_sq135 (by decide +kernel) ix h1 hne
theorem k9d_sq136 : k9d_sq k9_c136 = true := by decide +kernel
theorem k9d_q136_0 : k9d_chk 136 prog_1_method_39_code (fun a => (k9_nth (0, 0, 0, 0) k9_w136 a).1) 64 (prog_1_method_39_code.data.toList.drop 0) (k9_c136.flatten.drop 0) (k9_w136.drop 0) = true := by decide +kernel
theorem k9d_a136 (ix : Nat) (hne : k9_cod 136 ix ≠ (0, 0, 0, 0, 0)) : k9_okP 136 ix :=
  k9d_ch (y := 136) (cs := k9_c136) (ws := k9_w136) (m := 64) (k := 0) (pc := 0) rfl rfl rfl k9d_sq136 rfl rfl k9d_q136_0 ix (Nat.zero_le ix) hne fun h1 =>
  k9d_end (y := 136) (cs := k9_c136) (n := 64) rfl k9d_sq136 (by decide +kernel) ix h1 hne
theorem k9d_sq137 : k9d_sq k9_c137 = true := by decide +kernel
theorem k9d_q137_0 : k9d_chk 137 prog_1_method_40_code (fun a => (k9_nth (0, 0, 0, 0) k9_w137 a).1) 64 (prog_1_method_40_code.data.toList.drop 0) (k9_c137.flatten.drop 0) (k9_w137.drop 0) = true := by decide +kernel
theorem k9d_a137 (ix : Nat) (hne : k9_cod 137 ix ≠ (0, 0, 0, 0, 0)) : k9_okP 137 ix :=
  k9d_ch (y := 137) (cs := k9_c137) (ws := k9_w137) (m := 64) (k := 0) (pc := 0) rfl rfl rfl k9d_sq137 rfl rfl k9d_q137_0 ix (Nat.zero_le ix) hne fun h1 =>
  k9d_end (y := 137) (cs := k9_c137) (n := 64) rfl k9d_sq137 (by decide +kernel) ix h1 hne
theorem k9d_sq138 : k9d_sq k9_c138 = true := by decide +kernel
theorem k9d_q138_0 : k9d_chk 138 prog_1_method_41_code (fun a => (k9_nth (0, 0, 0, 0) k9_w138 a).1) 64 (prog_1_method_41_code.data.toList.drop 0) (k9_c138.flatten.drop 0) (k9_w138.drop 0) = true := by decide +kernel
theorem k9d_a138 (ix : Nat) (hne : k9_cod 138 ix ≠ (0, 0, 0, 0, 0)) : k9_okP 138 ix :=
  k9d_ch (y := 138) (cs := k9_c138) (ws := k9_w138) (m := 64) (k := 0) (pc := 0) rfl rfl rfl k9d_sq138 rfl rfl k9d_q138_0 ix (Nat.zero_le ix) hne fun h1 =>
  k9d_end (y := 138) (cs := k9_c138) (n := 64) rfl k9d_sq138 (by decide +kernel) ix h1 hne
theorem k9d_sq139 : k9d_sq k9_c139 = true := by decide +kernel
theorem k9d_q139_0 : k9d_chk 139 prog_1_method_42_code (fun a => (k9_nth (0, 0, 0, 0) k9_w139 a).1) 64 (prog_1_method_42_code.data.toList.drop 0) (k9_c139.flatten.drop 0) (k9_w139.drop 0) = true := by decide +kernel
theorem k9d_a139 (ix : Nat) (hne : k9_cod 139 ix ≠ (0, 0, 0, 0, 0)) : k9_okP 139 ix :=
  k9d_ch (y := 139) (cs := k9_c139) (ws := k9_w139) (m := 64) (k := 0) (pc := 0) rfl rfl rfl k9d_sq139 rfl rfl k9d_q139_0 ix (Nat.zero_le ix) hne fun h1 =>
  k9d_end (y := 139) (cs := k9_c139) (n := 64) rfl k9d_sq139 (by decide +kernel) ix h1 hne
theorem k9d_sq140 : k9d_sq k9_c140 = true := by decide +kernel
theorem k9d_q140_0 : k9d_chk 140 prog_1_method_43_code (fun a => (k9_nth (0, 0, 0, 0) k9_w140 a).1) 64 (prog_1_method_43_code.data.toList.drop 0) (k9_c140.flatten.drop 0) (k9_w140.drop 0) = true := by decide +kernel
theorem k9d_a140 (ix : Nat) (hne : k9_cod 140 ix ≠ (0, 0, 0, 0, 0)) : k9_okP 140 ix :=
  k9d_ch (y := 140) (cs := k9_c140) (ws := k9_w140) (m := 64) (k := 0) (pc := 0) rfl rfl rfl k9d_sq140 rfl rfl k9d_q140_0 ix (Nat.zero_le ix) hne fun h1 =>
  k9d_end (y := 140) (cs := k9_c140) (n := 64) rfl k9d_sq140 (by decide +kernel) ix h1 hne
theorem k9d_sq141 : k9d_sq k9_c141 = true := by decide +kernel
theorem k9d_q141_0 : k9d_chk 141 prog_1_method_44_code (fun a => (k9_nth (0, 0, 0, 0) k9_w141 a).1) 64 (prog_1_method_44_code.data.toList.drop 0) (k9_c141.flatten.drop 0) (k9_w141.drop 0) = true := by decide +kernel
theorem k9d_a141 (ix : Nat) (hne : k9_cod 141 ix ≠ (0, 0, 0, 0, 0)) : k9_okP 141 ix :=
  k9d_ch (y := 141) (cs := k9_c141) (ws := k9_w141) (m := 64) (k := 0) (pc := 0) rfl rfl rfl k9d_sq141 rfl rfl k9d_q141_0 ix (Nat.zero_le ix) hne fun h1 =>
  k9d_end (y := 141) (cs := k9_c141) (n := 64) rfl k9d_sq141 (by decide +kernel) ix h1 hne
theorem k9d_sq142 : k9d_sq k9_c142 = true := by decide +kernel
theorem k9d_q142_0 : k9d_chk 142 prog_1_method_45_code (fun a => (k9_nth (0, 0, 0, 0) k9_w142 a).1) 64 (prog_1_method_45_code.data.toList.drop 0) (k9_c142.flatten.drop 0) (k9_w142.drop 0) = true := by decide +kernel
theorem k9d_a142 (ix : Nat) (hne : k9_cod 142 ix ≠ (0, 0, 0, 0, 0)) : k9_okP 142 ix :=
  k9d_ch (y := 142) (cs := k9_c142) (ws := k9_w142) (m := 64) (k := 0) (pc := 0) rfl rfl rfl k9d_sq142 rfl rfl k9d_q142_0 ix (Nat.zero_le ix) hne fun h1 =>
  k9d_end (y := 142) (cs := k9_c142) (n := 64) rfl k9d_sq142 (by decide +kernel) ix h1 hne
theorem k9d_sq143 : k9d_sq k9_c143 = true := by decide +kernel
theorem k9d_q143_0 : k9d_chk 143 prog_1_method_46_code (fun a => (k9_nth (0, 0, 0, 0) k9_w143 a).1) 64 (prog_1_method_46_code.data.toList.drop 0) (k9_c143.flatten.drop 0) (k9_w143.drop 0) = true := by decide +kernel
theorem k9d_a143 (ix : Nat) (hne : k9_cod 143 ix ≠ (0, 0, 0, 0, 0)) : k9_okP 143 ix :=
  k9d_ch (y := 143) (cs := k9_c143) (ws := k9_w143) (m := 64) (k := 0) (pc := 0) rfl rfl rfl k9d_sq143 rfl rfl k9d_q143_0 ix (Nat.zero_le ix) hne fun h1 =>
  k9d_end (y := 143) (cs := k9_c143) (n := 64) rfl k9d_sq143 (by decide +kernel) ix h1 hne
theorem k9d_sq144 : k9d_sq k9_c144 = true := by decide +kernel
theorem k9d_q144_0 : k9d_chk 144 prog_1_method_47_code (fun a => (k9_nth (0, 0, 0, 0) k9_w144 a).1) 64 (prog_1_method_47_code.data.toList.drop 0) (k9_c144.flatten.drop 0) (k9_w144.drop 0) = true := by decide +kernel
theorem k9d_a144 (ix : Nat) (hne : k9_cod 144 ix ≠ (0, 0, 0, 0, 0)) : k9_okP 144 ix :=
  k9d_ch (y := 144) (cs := k9_c144) (ws := k9_w144) (m := 64) (k := 0) (pc := 0) rfl rfl rfl k9d_sq144 rfl rfl k9d_q144_0 ix (Nat.zero_le ix) hne fun h1 =>
  k9d_end (y := 144) (cs := k9_c144) (n := 64) rfl k9d_sq144 (by decide +kernel) ix h1 hne
theorem k9d_sq145 : k9d_sq k9_c145 = true := by decide +kernel
theorem k9d_q145_0 : k9d_chk 145 prog_1_method_48_code (fun a => (k9_nth (0, 0, 0, 0) k9_w145 a).1) 64 (prog_1_method_48_code.data.toList.drop 0) (k9_c145.flatten.drop 0) (k9_w145.drop 0) = true := by decide +kernel
theorem k9d_a145 (ix : Nat) (hne : k9_cod 145 ix ≠ (0, 0, 0, 0, 0)) : k9_okP 145 ix :=
  k9d_ch (y := 145) (cs := k9_c145) (ws := k9_w145) (m := 64) (k := 0) (pc := 0) rfl rfl rfl k9d_sq145 rfl rfl k9d_q145_0 ix (Nat.zero_le ix) hne fun h1 =>
  k9d_end (y := 145) (cs := k9_c145) (n := 64) rfl k9d_sq145 (by decide +kernel) ix h1 hne
theorem k9d_sq146 : k9d_sq k9_c146 = true := by decide +kernel
theorem k9d_q146_0 : k9d_chk 146 prog_1_method_49_code (fun a => (k9_nth (0, 0, 0, 0) k9_w146 a).1) 64 (prog_1_method_49_code.data.toList.drop 0) (k9_c146.flatten.drop 0) (k9_w146.drop 0) = true := by decide +kernel
theorem k9d_a146 (ix : Nat) (hne : k9_cod 146 ix ≠ (0, 0, 0, 0, 0)) : k9_okP 146 ix :=
  k9d_ch (y := 146) (cs := k9_c146) (ws := k9_w146) (m := 64) (k := 0) (pc := 0) rfl rfl rfl k9d_sq146 rfl rfl k9d_q146_0 ix (Nat.zero_le ix) hne fun h1 =>
  k9d_end (y := 146) (cs := k9_c146) (n := 64) rfl k9d_sq146 (by decide +kernel) ix h1 hne
theorem k9d_sq147 : k9d_sq k9_c147 = true := by decide +kernel
theorem k9d_q147_0 : k9d_chk 147 prog_1_method_50_code (fun a => (k9_nth (0, 0, 0, 0) k9_w147 a).1) 64 (prog_1_method_50_code.data.toList.drop 0) (k9_c147.flatten.drop 0) (k9_w147.drop 0) = true := by decide +kernel
theorem k9d_a147 (ix : Nat) (hne : k9_cod 147 ix ≠ (0, 0, 0, 0, 0)) : k9_okP 147 ix :=
  k9d_ch (y := 147) (cs := k9_c147) (ws := k9_w147) (m := 64) (k := 0) (pc := 0) rfl rfl rfl k9d_sq147 rfl rfl k9d_q147_0 ix (Nat.zero_le ix) hne fun h1 =>
  k9d_end (y := 147) (cs := k9_c147) (n := 64) rfl k9d_sq147 (by decide +kernel) ix h1 hne
theorem k9d_sq148 : k9d_sq k9_c148 = true := by decide +kernel
theorem k9d_q148_0 : k9d_chk 148 prog_1_method_51_code (fun a => (k9_nth (0, 0, 0, 0) k9_w148 a).1) 64 (prog_1_method_51_code.data.toList.drop 0) (k9_c148.flatten.drop 0) (k9_w148.drop 0) = true := by decide +kernel
theorem k9d_a148 (ix : Nat) (hne : k9_cod 148 ix ≠ (0, 0, 0, 0, 0)) : k9_okP 148 ix :=
  k9d_ch (y := 148) (cs := k9_c148) (ws := k9_w148) (m := 64) (k := 0) (pc := 0) rfl rfl rfl k9d_sq148 rfl rfl k9d_q148_0 ix (Nat.zero_le ix) hne fun h1 =>
  k9d_end (y := 148) (cs := k9_c148) (n := 64) rfl k9d_sq148 (by decide +kernel) ix h1 hne
theorem k9d_sq149 : k9d_sq k9_c149 = true := by decide +kernel
theorem k9d_q149_0 : k9d_chk 149 prog_1_method_52_code (fun a => (k9_nth (0, 0, 0, 0) k9_w149 a).1) 64 (prog_1_method_52_code.data.toList.drop 0) (k9_c149.flatten.drop 0) (k9_w149.drop 0) = true := by decide +kernel
theorem k9d_a149 (ix : Nat) (hne : k9_cod 149 ix ≠ (0, 0, 0, 0, 0)) : k9_okP 149 ix :=
  k9d_ch (y := 149) (cs := k9_c149) (ws := k9_w149) (m := 64) (k := 0) (pc := 0) rfl rfl rfl k9d_sq149 rfl rfl k9d_q149_0 ix (Nat.zero_le ix) hne fun h1 =>
  k9d_end (y := 149) (cs := k9_c149) (n := 64) rfl k9d_sq149 (by decide +kernel) ix h1 hne
theorem k9d_sq150 : k9d_sq k9_c150 = true := by decide +kernel
theorem k9d_q150_0 : k9d_chk 150 prog_1_method_53_code (fun a => (k9_nth (0, 0, 0, 0) k9_w150 a).1) 64 (prog_1_method_53_code.data.toList.drop 0) (k9_c150.flatten.drop 0) (k9_w150.drop 0) = true := by decide +kernel
theorem k9d_a150 (ix : Nat) (hne : k9_cod 150 ix ≠ (0, 0, 0, 0, 0)) : k9_okP 150 ix :=
  k9d_ch (y := 150) (cs := k9_c150) (ws := k9_w150) (m := 64) (k := 0) (pc := 0) rfl rfl rfl k9d_sq150 rfl rfl k9d_q150_0 ix (Nat.zero_le ix) hne fun h1 =>
  k9d_end (y := 150) (cs := k9_c150) (n := 64) rfl k9d_sq150 (by decide +kernel) ix h1 hne
theorem k9d_sq151 : k9d_sq k9_c151 = true := by decide +kernel
theorem k9d_q151_0 : k9d_chk 151 prog_1_method_54_code (fun a => (k9_nth (0, 0, 0, 0) k9_w151 a).1) 64 (prog_1_method_54_code.data.toList.drop 0) (k9_c151.flatten.drop 0) (k9_w151.drop 0) = true := by decide +kernel
theorem k9d_a151 (ix : Nat) (hne : k9_cod 151 ix ≠ (0, 0, 0, 0, 0)) : k9_okP 151 ix :=
  k9d_ch (y := 151) (cs := k9_c151) (ws := k9_w151) (m := 64) (k := 0) (pc := 0) rfl rfl rfl k9d_sq151 rfl rfl k9d_q151_0 ix (Nat.zero_le ix) hne fun h1 =>
  k9d_end (y := 151) (cs := k9_c151) (n := 64) rfl k9d_sq151 (by decide +kernel) ix h1 hne
theorem k9d_sq152 : k9d_sq k9_c152 = true := by decide +kernel
theorem k9d_q152_0 : k9d_chk 152 prog_1_method_55_code (fun a => (k9_nth (0, 0, 0, 0) k9_w152 a).1) 64 (prog_1_method_55_code.data.toList.drop 0) (k9_c152.flatten.drop 0) (k9_w152.drop 0) = true := by decide +kernel
theorem k9d_a152 (ix : Nat) (hne : k9_cod 152 ix ≠ (0, 0, 0, 0, 0)) : k9_okP 152 ix :=
  k9d_ch (y := 152) (cs := k9_c152) (ws := k9_w152) (m := 64) (k := 0) (pc := 0) rfl rfl rfl k9d_sq152 rfl rfl k9d_q152_0 ix (Nat.zero_le ix) hne fun h1 =>
  k9d_end (y := 152) (cs := k9_c152) (n := 64) rfl k9d_sq152 (by decide +kernel) ix h1 hne
theorem k9d_sq153 : k9d_sq k9_c153 = true := by decide +kernel
theorem k9d_q153_0 : k9d_chk 153 prog_13_method_2_code (fun a => (k9_nth (0, 0, 0, 0) k9_w153 a).1) 64 (prog_13_method_2_code.data.toList.drop 0) (k9_c153.flatten.drop 0) (k9_w153.drop 0) = true := by decide +kernel
theorem k9d_a153 (ix : Nat) (hne : k9_cod 153 ix ≠ (0, 0, 0, 0, 0)) : k9_okP 153 ix :=
  k9d_ch (y := 153) (cs := k9_c153) (ws := k9_w153) (m := 64) (k := 0) (pc := 0) rfl rfl rfl k9d_sq153 rfl rfl k9d_q153_0 ix (Nat.zero_le ix) hne fun h1 =>
  k9d_end (y := 153) (cs := k9_c153) (n := 64) rfl k9d_sq153 (by decide +kernel) ix h1 hne
theorem k9d_sq154 : k9d_sq k9_c154 = true := by decide +kernel
theorem k9d_q154_0 : k9d_chk 154 prog_13_method_3_code (fun a => (k9_nth (0, 0, 0, 0) k9_w154 a).1) 64 (prog_13_method_3_code.data.toList.drop 0) (k9_c154.flatten.drop 0) (k9_w154.drop 0) = true := by decide +kernel
theorem k9d_a154 (ix : Nat) (hne : k9_cod 154 ix ≠ (0, 0, 0, 0, 0)) : k9_okP 154 ix :=
  k9d_ch (y := 154) (cs := k9_c154) (ws := k9_w154) (m := 64) (k := 0) (pc := 0) rfl rfl rfl k9d_sq154 rfl rfl k9d_q154_0 ix (Nat.zero_le ix) hne fun h1 =>
  k9d_end (y := 154) (cs := k9_c154) (n := 64) rfl k9d_sq154 (by decide +kernel) ix h1 hne
theorem k9d_sq155 : k9d_sq k9_c155 = true := by decide +kernel
theorem k9d_q155_0 : k9d_chk 155 prog_13_method_4_code (fun a => (k9_nth (0, 0, 0, 0) k9_w155 a).1) 64 (prog_13_method_4_code.data.toList.drop 0) (k9_c155.flatten.drop 0) (k9_w155.drop 0) = true := by decide +kernel
theorem k9d_a155 (ix : Nat) (hne : k9_cod 155 ix ≠ (0, 0, 0, 0, 0)) : k9_okP 155 ix :=
  k9d_ch (y := 155) (cs := k9_c155) (ws := k9_w155) (m := 64) (k := 0) (pc := 0) rfl rfl rfl k9d_sq155 rfl rfl k9d_q155_0 ix (Nat.zero_le ix) hne fun h1 =>
  k9d_end (y := 155) (cs := k9_c155) (n := 64) rfl k9d_sq155 (by decide +kernel) ix h1 hne
theorem k9d_sq156 : k9d_sq k9_c156 = true := by decide +kernel
theorem k9d_q156_0 : k9d_chk 156 prog_13_method_5_code (fun a => (k9_nth (0, 0, 0, 0) k9_w156 a).1) 64 (prog_13_method_5_code.data.toList.drop 0) (k9_c156.flatten.drop 0) (k9_w156.drop 0) = true := by decide +kernel
theorem k9d_a156 (ix : Nat) (hne : k9_cod 156 ix ≠ (0, 0, 0, 0, 0)) : k9_okP 156 ix :=
  k9d_ch (y := 156) (cs := k9_c156) (ws := k9_w156) (m := 64) (k := 0) (pc := 0) rfl rfl rfl k9d_sq156 rfl rfl k9d_q156_0 ix (Nat.zero_le ix) hne fun h1 =>
  k9d_end (y := 156) (cs := k9_c156) (n := 64) rfl k9d_sq156 (by decide +kernel) ix h1 hne
theorem k9d_sq157 : k9d_sq k9_c157 = true := by decide +kernel
theorem k9d_q157_0 : k9d_chk 157 prog_13_method_6_code (fun a => (k9_nth (0, 0, 0, 0) k9_w157 a).1) 64 (prog_13_method_6_code.data.toList.drop 0) (k9_c157.flatten.drop 0) (k9_w157.drop 0) = true := by decide +kernel
theorem k9d_a157 (ix : Nat) (hne : k9_cod 157 ix ≠ (0, 0, 0, 0, 0)) : k9_okP 157 ix :=
  k9d_ch (y := 157) (cs := k9_c157) (ws := k9_w157) (m := 64) (k := 0) (pc := 0) rfl rfl rfl k9d_sq157 rfl rfl k9d_q157_0 ix (Nat.zero_le ix) hne fun h1 =>
  k9d_end (y := 157) (cs := k9_c157) (n := 64) rfl k9d_sq157 (by decide +kernel) ix h1 hne
theorem k9d_sq158 : k9d_sq k9_c158 = true := by decide +kernel
theorem k9d_q158_0 : k9d_chk 158 prog_13_method_7_code (fun a => (k9_nth (0, 0, 0, 0) k9_w158 a).1) 64 (prog_13_method_7_code.data.toList.drop 0) (k9_c158.flatten.drop 0) (k9_w158.drop 0) = true := by decide +kernel
theorem k9d_a158 (ix : Nat) (hne : k9_cod 158 ix ≠ (0, 0, 0, 0, 0)) : k9_okP 158 ix :=
  k9d_ch (y := 158) (cs := k9_c158) (ws := k9_w158) (m := 64) (k := 0) (pc := 0) rfl rfl rfl k9d_sq158 rfl rfl k9d_q158_0 ix (Nat.zero_le ix) hne fun h1 =>
  k9d_end (y := 158) (cs := k9_c158) (n := 64) rfl k9d_sq158 (by decide +kernel) ix h1 hne
theorem k9d_sq159 : k9d_sq k9_c159 = true := by decide +kernel
theorem k9d_q159_0 : k9d_chk 159 prog_13_method_8_code (fun a => (k9_nth (0, 0, 0, 0) k9_w159 a).1) 64 (prog_13_method_8_code.data.toList.drop 0) (k9_c159.flatten.drop 0) (k9_w159.drop 0) = true := by decide +kernel
theorem k9d_q159_1 : k9d_chk 159 prog_13_method_8_code (fun a => (k9_nth (0, 0, 0, 0) k9_w159 a).1) 64 (prog_13_method_8_code.data.toList.drop 109) (k9_c159.flatten.drop 64) (k9_w159.drop 64) = true := by decide +kernel
theorem k9d_a159 (ix : Nat) (hne : k9_cod 159 ix ≠ (0, 0, 0, 0, 0)) : k9_okP 159 ix :=
  k9d_ch (y := 159) (cs := k9_c159) (ws := k9_w159) (m := 64) (k := 0) (pc := 0) rfl rfl rfl k9d_sq159 rfl rfl k9d_q159_0 ix (Nat.zero_le ix) hne fun h1 =>
  k9d_ch (y := 159) (cs := k9_c159) (ws := k9_w159) (m := 64) (k := 64) (pc := 109) rfl rfl rfl k9d_sq159 rfl (by decide +kernel) k9d_q159_1 ix h1 hne fun h2 =>
  k9d_end (y := 159) (cs := k9_c159) (n := 128) rfl k9d_sq159 (by decide +kernel) ix h2 hne
theorem k9d_sq160 : k9d_sq k9_c160 = true := by decide +kernel
theorem k9d_q160_0 : k9d_chk 160 prog_13_method_9_code (fun a => (k9_nth (0, 0, 0, 0) k9_w160 a).1) 64 (prog_13_method_9_code.data.toList.drop 0) (k9_c160.flatten.drop 0) (k9_w160.drop 0) = true := by decide +kernel
theorem k9d_a160 (ix : Nat) (hne : k9_cod 160 ix ≠ (0, 0, 0, 0, 0)) : k9_okP 160 ix :=
  k9d_ch (y := 160) (cs := k9_c160) (ws := k9_w160) (m := 64) (k := 0) (pc := 0) rfl rfl rfl k9d_sq160 rfl rfl k9d_q160_0 ix (Nat.zero_le ix) hne fun h1 =>
  k9d_end (y := 160) (cs := k9_c160) (n := 64) rfl k9d_sq160 (by decide +kernel) ix h1 hne
theorem k9d_sq161 : k9d_sq k9_c161 = true := by decide +kernel
theorem k9d_q161_0 : k9d_chk 161 prog_13_method_10_code (fun a => (k9_nth (0, 0, 0, 0) k9_w161 a).1) 64 (prog_13_method_10_code.data.toList.drop 0) (k9_c161.flatten.drop 0) (k9_w161.drop 0) = true := by decide +kernel
theorem k9d_a161 (ix : Nat) (hne : k9_cod 161 ix ≠ (0, 0, 0, 0, 0)) : k9_okP 161 ix :=
  k9d_ch (y := 161) (cs := k9_c161) (ws := k9_w161) (m := 64) (k := 0) (pc := 0) rfl rfl rfl k9d_sq161 rfl rfl k9d_q161_0 ix (Nat.zero_le ix) hne fun h1 =>
  k9d_end (y := 161) (cs := k9_c161) (n := 64) rfl k9d_sq161 (by decide +kernel) ix h1 hne
theorem k9d_sq162 : k9d_sq k9_c162 = true := by decide +kernel
theorem k9d_q162_0 : k9d_chk 162 prog_13_method_11_code (fun a => (k9_nth (0, 0, 0, 0) k9_w162 a).1) 64 (prog_13_method_11_code.data.toList.drop 0) (k9_c162.flatten.drop 0) (k9_w162.drop 0) = true := by decide +kernel
theorem k9d_a162 (ix : Nat) (hne : k9_cod 162 ix ≠ (0, 0, 0, 0, 0)) : k9_okP 162 ix :=
  k9d_ch (y := 162) (cs := k9_c162) (ws := k9_w162) (m := 64) (k := 0) (pc := 0) rfl rfl rfl k9d_sq162 rfl rfl k9d_q162_0 ix (Nat.zero_le ix) hne fun h1 =>
  k9d_end (y := 162) (cs := k9_c162) (n := 64) rfl k9d_sq162 (by decide +kernel) ix h1 hne
theorem k9d_sq163 : k9d_sq k9_c163 = true := by decide +kernel
theorem k9d_q163_0 : k9d_chk 163 prog_13_method_12_code (fun a => (k9_nth (0, 0, 0, 0) k9_w163 a).1) 64 (prog_13_method_12_code.data.toList.drop 0) (k9_c163.flatten.drop 0) (k9_w163.drop 0) = true := by decide +kernel
theorem k9d_a163 (ix : Nat) (hne : k9_cod 163 ix ≠ (0, 0, 0, 0, 0)) : k9_okP 163 ix :=
  k9d_ch (y := 163) (cs := k9_c163) (ws := k9_w163) (m := 64) (k := 0) (pc := 0) rfl rfl rfl k9d_sq163 rfl rfl k9d_q163_0 ix (Nat.zero_le ix) hne fun h1 =>
  k9d_end (y := 163) (cs := k9_c163) (n := 64) rfl k9d_sq163 (by decide +kernel) ix h1 hne
theorem k9d_sq164 : k9d_sq k9_c164 = true := by decide +kernel
theorem k9d_q164_0 : k9d_chk 164 prog_13_method_13_code (fun a => (k9_nth (0, 0, 0, 0) k9_w164 a).1) 64 (prog_13_method_13_code.data.toList.drop 0) (k9_c164.flatten.drop 0) (k9_w164.drop 0) = true := by decide +kernel
theorem k9d_q164_1 : k9d_chk 164 prog_13_method_13_code (fun a => (k9_nth (0, 0, 0, 0) k9_w164 a).1) 64 (prog_13_method_13_code.data.toList.drop 112) (k9_c164.flatten.drop 64) (k9_w164.drop 64) = true := by decide +kernel
theorem k9d_a164 (ix : Nat) (hne : k9_cod 164 ix ≠ (0, 0, 0, 0, 0)) : k9_okP 164 ix :=
  k9d_ch (y := 164) (cs := k9_c164) (ws := k9_w164) (m := 64) (k := 0) (pc := 0) rfl rfl rfl k9d_sq164 rfl rfl k9d_q164_0 ix (Nat.zero_le ix) hne fun h1 =>
  k9d_ch (y := 164) (cs := k9_c164) (ws := k9_w164) (m := 64) (k := 64) (pc := 112) rfl rfl rfl k9d_sq164 rfl (by decide +kernel) k9d_q164_1 ix h1 hne fun h2 =>
  k9d_end (y := 164) (cs := k9_c164) (n := 128) rfl k9d_sq164 (by decide +kernel) ix h2 hne
theorem k9d_sq165 : k9d_sq k9_c165 = true := by decide +kernel
theorem k9d_q165_0 : k9d_chk 165 prog_13_method_14_code (fun a => (k9_nth (0, 0, 0, 0) k9_w165 a).1) 64 (prog_13_method_14_code.data.toList.drop 0) (k9_c165.flatten.drop 0) (k9_w165.drop 0) = true := by decide +kernel
theorem k9d_a165 (ix : Nat) (hne : k9_cod 165 ix ≠ (0, 0, 0, 0, 0)) : k9_okP 165 ix :=
  k9d_ch (y := 165) (cs := k9_c165) (ws := k9_w165) (m := 64) (k := 0) (pc := 0) rfl rfl rfl k9d_sq165 rfl rfl k9d_q165_0 ix (Nat.zero_le ix) hne fun h1 =>
  k9d_end (y := 165) (cs := k9_c165) (n := 64) rfl k9d_sq165 (by decide +kernel) ix h1 hne
theorem k9d_sq166 : k9d_sq k9_c166 = true := by decide +kernel
theorem k9d_q166_0 : k9d_chk 166 prog_13_method_15_code (fun a => (k9_nth (0, 0, 0, 0) k9_w166 a).1) 64 (prog_13_method_15_code.data.toList.drop 0) (k9_c166.flatten.drop 0) (k9_w166.drop 0) = true := by decide +kernel
theorem k9d_a166 (ix : Nat) (hne : k9_cod 166 ix ≠ (0, 0, 0, 0, 0)) : k9_okP 166 ix :=
  k9d_ch (y := 166) (cs := k9_c166) (ws := k9_w166) (m := 64) (k := 0) (pc := 0) rfl rfl rfl k9d_sq166 rfl rfl k9d_q166_0 ix (Nat.zero_le ix) hne fun h1 =>
  k9d_end (y := 166) (cs := k9_c166) (n := 64) rfl k9d_sq166 (by decide +kernel) ix h1 hne
theorem k9d_sq167 : k9d_sq k9_c167 = true := by decide +kernel
theorem k9d_q167_0 : k9d_chk 167 prog_13_method_16_code (fun a => (k9_nth (0, 0, 0, 0) k9_w167 a).1) 64 (prog_13_method_16_code.data.toList.drop 0) (k9_c167.flatten.drop 0) (k9_w167.drop 0) = true := by decide +kernel
theorem k9d_a167 (ix : Nat) (hne : k9_cod 167 ix ≠ (0, 0, 0, 0, 0)) : k9_okP 167 ix :=
  k9d_ch (y := 167) (cs := k9_c167) (ws := k9_w167) (m := 64) (k := 0) (pc := 0) rfl rfl rfl k9d_sq167 rfl rfl k9d_q167_0 ix (Nat.zero_le ix) hne fun h1 =>
  k9d_end (y := 167) (cs := k9_c167) (n := 64) rfl k9d_sq167 (by decide +kernel) ix h1 hne
theorem k9d_sq168 : k9d_sq k9_c168 = true := by decide +kernel
theorem k9d_q168_0 : k9d_chk 168 prog_13_method_17_code (fun a => (k9_nth (0, 0, 0, 0) k9_w168 a).1) 64 (prog_13_method_17_code.data.toList.drop 0) (k9_c168.flatten.drop 0) (k9_w168.drop 0) = true := by decide +kernel
theorem k9d_a168 (ix : Nat) (hne : k9_cod 168 ix ≠ (0, 0, 0, 0, 0)) : k9_okP 168 ix :=
  k9d_ch (y := 168) (cs := k9_c168) (ws := k9_w168) (m := 64) (k := 0) (pc := 0) rfl rfl rfl k9d_sq168 rfl rfl k9d_q168_0 ix (Nat.zero_le ix) hne fun h1 =>
  k9d_end (y := 168) (cs := k9_c168) (n := 64) rfl k9d_sq168 (by decide +kernel) ix h1 hne
theorem k9d_sq169 : k9d_sq k9_c169 = true := by decide +kernel
theorem k9d_q169_0 : k9d_chk 169 prog_13_method_18_code (fun a => (k9_nth (0, 0, 0, 0) k9_w169 a).1) 64 (prog_13_method_18_code.data.toList.drop 0) (k9_c169.flatten.drop 0) (k9_w169.drop 0) = true := by decide +kernel
theorem k9d_a169 (ix : Nat) (hne : k9_cod 169 ix ≠ (0, 0, 0, 0, 0)) : k9_okP 169 ix :=
  k9d_ch (y := 169) (cs := k9_c169) (ws := k9_w169) (m := 64) (k := 0) (pc := 0) rfl rfl rfl k9d_sq169 rfl rfl k9d_q169_0 ix (Nat.zero_le ix) hne fun h1 =>
  k9d_end (y := 169) (cs := k9_c169) (n := 64) rfl k9d_sq169 (by decide +kernel) ix h1 hne
theorem k9d_sq170 : k9d_sq k9_c170 = true := by decide +kernel
theorem k9d_q170_0 : k9d_chk 170 prog_13_method_19_code (fun a => (k9_nth (0, 0, 0, 0) k9_w170 a).1) 64 (prog_13_method_19_code.data.toList.drop 0) (k9_c170.flatten.drop 0) (k9_w170.drop 0) = true := by decide +kernel
theorem k9d_a170 (ix : Nat) (hne : k9_cod 170 ix ≠ (0, 0, 0, 0, 0)) : k9_okP 170 ix :=
  k9d_ch (y := 170) (cs := k9_c170) (ws := k9_w170) (m := 64) (k := 0) (pc := 0) rfl rfl rfl k9d_sq170 rfl rfl k9d_q170_0 ix (Nat.zero_le ix) hne fun h1 =>
  k9d_end (y := 170) (cs := k9_c170) (n := 64) rfl k9d_sq170 (by decide +kernel) ix h1 hne
theorem k9d_sq171 : k9d_sq k9_c171 = true := by decide +kernel
theorem k9d_q171_0 : k9d_chk 171 prog_13_method_20_code (fun a => (k9_nth (0, 0, 0, 0) k9_w171 a).1) 64 (prog_13_method_20_code.data.toList.drop 0) (k9_c171.flatten.drop 0) (k9_w171.drop 0) = true := by decide +kernel
theorem k9d_a171 (ix : Nat) (hne : k9_cod 171 ix ≠ (0, 0, 0, 0, 0)) : k9_okP 171 ix :=
  k9d_ch (y := 171) (cs := k9_c171) (ws := k9_w171) (m := 64) (k := 0) (pc := 0) rfl rfl rfl k9d_sq171 rfl rfl k9d_q171_0 ix (Nat.zero_le ix) hne fun h1 =>
  k9d_end (y := 171) (cs := k9_c171) (n := 64) rfl k9d_sq171 (by decide +kernel) ix h1 hne
theorem k9d_sq172 : k9d_sq k9_c172 = true := by decide +kernel
theorem k9d_q172_0 : k9d_chk 172 prog_13_method_21_code (fun a => (k9_nth (0, 0, 0, 0) k9_w172 a).1) 64 (prog_13_method_21_code.data.toList.drop 0) (k9_c172.flatten.drop 0) (k9_w172.drop 0) = true := by decide +kernel
theorem k9d_a172 (ix : Nat) (hne : k9_cod 172 ix ≠ (0, 0, 0, 0, 0)) : k9_okP 172 ix :=
  k9d_ch (y := 172) (cs := k9_c172) (ws := k9_w172) (m := 64) (k := 0) (pc := 0) rfl rfl rfl k9d_sq172 rfl rfl k9d_q172_0 ix (Nat.zero_le ix) hne fun h1 =>
  k9d_end (y := 172) (cs := k9_c172) (n := 64) rfl k9d_sq172 (by decide +kernel) ix h1 hne
theorem k9d_sq173 : k9d_sq k9_c173 = true := by decide +kernel
theorem k9d_q173_0 : k9d_chk 173 prog_13_method_22_code (fun a => (k9_nth (0, 0, 0, 0) k9_w173 a).1) 64 (prog_13_method_22_code.data.toList.drop 0) (k9_c173.flatten.drop 0) (k9_w173.drop 0) = true := by decide +kernel
theorem k9d_a173 (ix : Nat) (hne : k9_cod 173 ix ≠ (0, 0, 0, 0, 0)) : k9_okP 173 ix :=
  k9d_ch (y := 173) (cs := k9_c173) (ws := k9_w173) (m := 64) (k := 0) (pc := 0) rfl rfl rfl k9d_sq173 rfl rfl k9d_q173_0 ix (Nat.zero_le ix) hne fun h1 =>
  k9d_end (y := 173) (cs := k9_c173) (n := 64) rfl k9d_sq173 (by decide +kernel) ix h1 hne
theorem k9d_sq174 : k9d_sq k9_c174 = true := by decide +kernel
theorem k9d_q174_0 : k9d_chk 174 prog_13_method_23_code (fun a => (k9_nth (0, 0, 0, 0) k9_w174 a).1) 64 (prog_13_method_23_code.data.toList.drop 0) (k9_c174.flatten.drop 0) (k9_w174.drop 0) = true := by decide +kernel
theorem k9d_q174_1 : k9d_chk 174 prog_13_method_23_code (fun a => (k9_nth (0, 0, 0, 0) k9_w174 a).1) 64 (prog_13_method_23_code.data.toList.drop 110) (k9_c174.flatten.drop 64) (k9_w174.drop 64) = true := by decide +kernel
theorem k9d_a174 (ix : Nat) (hne : k9_cod 174 ix ≠ (0, 0, 0, 0, 0)) : k9_okP 174 ix :=
  k9d_ch (y := 174) (cs := k9_c174) (ws := k9_w174) (m := 64) (k := 0) (pc := 0) rfl rfl rfl k9d_sq174 rfl rfl k9d_q174_0 ix (Nat.zero_le ix) hne fun h1 =>
  k9d_ch (y := 174) (cs := k9_c174) (ws := k9_w174) (m := 64) (k := 64) (pc := 110) rfl rfl rfl k9d_sq174 rfl (by decide +kernel) k9d_q174_1 ix h1 hne fun h2 =>
  k9d_end (y := 174) (cs := k9_c174) (n := 128) rfl k9d_sq174 (by decide +kernel) ix h2 hne
theorem k9d_sq175 : k9d_sq k9_c175 = true := by decide +kernel
theorem k9d_q175_0 : k9d_chk 175 prog_13_method_24_code (fun a => (k9_nth (0, 0, 0, 0) k9_w175 a).1) 64 (prog_13_method_24_code.data.toList.drop 0) (k9_c175.flatten.drop 0) (k9_w175.drop 0) = true := by decide +kernel
theorem k9d_a175 (ix : Nat) (hne : k9_cod 175 ix ≠ (0, 0, 0, 0, 0)) : k9_okP 175 ix :=
  k9d_ch (y := 175) (cs := k9_c175) (ws := k9_w175) (m := 64) (k := 0) (pc := 0) rfl rfl rfl k9d_sq175 rfl rfl k9d_q175_0 ix (Nat.zero_le ix) hne fun h1 =>
  k9d_end (y := 175) (cs := k9_c175) (n := 64) rfl k9d_sq175 (by decide +kernel) ix h1 hne
theorem k9d_sq176 : k9d_sq k9_c176 = true := by decide +kernel
theorem k9d_q176_0 : k9d_chk 176 prog_13_method_25_code (fun a => (k9_nth (0, 0, 0, 0) k9_w176 a).1) 64 (prog_13_method_25_code.data.toList.drop 0) (k9_c176.flatten.drop 0) (k9_w176.drop 0) = true := by decide +kernel
theorem k9d_a176 (ix : Nat) (hne : k9_cod 176 ix ≠ (0, 0, 0, 0, 0)) : k9_okP 176 ix :=
  k9d_ch (y := 176) (cs := k9_c176) (ws := k9_w176) (m := 64) (k := 0) (pc := 0) rfl rfl rfl k9d_sq176 rfl rfl k9d_q176_0 ix (Nat.zero_le ix) hne fun h1 =>
  k9d_end (y := 176) (cs := k9_c176) (n := 64) rfl k9d_sq176 (by decide +kernel) ix h1 hne
theorem k9d_sq177 : k9d_sq k9_c177 = true := by decide +kernel
theorem k9d_q177_0 : k9d_chk 177 prog_13_method_26_code (fun a => (k9_nth (0, 0, 0, 0) k9_w177 a).1) 64 (prog_13_method_26_code.data.toList.drop 0) (k9_c177.flatten.drop 0) (k9_w177.drop 0) = true := by decide +kernel
theorem k9d_a177 (ix : Nat) (hne : k9_cod 177 ix ≠ (0, 0, 0, 0, 0)) : k9_okP 177 ix :=
  k9d_ch (y := 177) (cs := k9_c177) (ws := k9_w177) (m := 64) (k := 0) (pc := 0) rfl rfl rfl k9d_sq177 rfl rfl k9d_q177_0 ix (Nat.zero_le ix) hne fun h1 =>
  k9d_end (y := 177) (cs := k9_c177) (n := 64) rfl k9d_sq177 (by decide +kernel) ix h1 hne
theorem k9d_sq178 : k9d_sq k9_c178 = true := by decide +kernel
theorem k9d_q178_0 : k9d_chk 178 prog_13_method_27_code (fun a => (k9_nth (0, 0, 0, 0) k9_w178 a).1) 64 (prog_13_method_27_code.data.toList.drop 0) (k9_c178.flatten.drop 0) (k9_w178.drop 0) = true := by decide +kernel
theorem k9d_a178 (ix : Nat) (hne : k9_cod 178 ix ≠ (0, 0, 0, 0, 0)) : k9_okP 178 ix :=
  k9d_ch (y := 178) (cs := k9_c178) (ws := k9_w178) (m := 64) (k := 0) (pc := 0) rfl rfl rfl k9d_sq178 rfl rfl k9d_q178_0 ix (Nat.zero_le ix) hne fun h1 =>
  k9d_end (y := 178) (cs := k9_c178) (n := 64) rfl k9d_sq178 (by decide +kernel) ix h1 hne
theorem k9d_sq179 : k9d_sq k9_c179 = true := by decide +kernel
theorem k9d_q179_0 : k9d_chk 179 prog_13_method_28_code (fun a => (k9_nth (0, 0, 0, 0) k9_w179 a).1) 64 (prog_13_method_28_code.data.toList.drop 0) (k9_c179.flatten.drop 0) (k9_w179.drop 0) = true := by decide +kernel
theorem k9d_a179 (ix : Nat) (hne : k9_cod 179 ix ≠ (0, 0, 0, 0, 0)) : k9_okP 179 ix :=
  k9d_ch (y := 179) (cs := k9_c179) (ws := k9_w179) (m := 64) (k := 0) (pc := 0) rfl rfl rfl k9d_sq179 rfl rfl k9d_q179_0 ix (Nat.zero_le ix) hne fun h1 =>
  k9d_end (y := 179) (cs := k9_c179) (n := 64) rfl k9d_sq179 (by decide +kernel) ix h1 hne
theorem k9d_sq180 : k9d_sq k9_c180 = true := by decide +kernel
theorem k9d_q180_0 : k9d_chk 180 prog_13_method_29_code (fun a => (k9_nth (0, 0, 0, 0) k9_w180 a).1) 64 (prog_13_method_29_code.data.toList.drop 0) (k9_c180.flatten.drop 0) (k9_w180.drop 0) = true := by decide +kernel
theorem k9d_a180 (ix : Nat) (hne : k9_cod 180 ix ≠ (0, 0, 0, 0, 0)) : k9_okP 180 ix :=
  k9d_ch (y := 180) (cs := k9_c180) (ws := k9_w180) (m := 64) (k := 0) (pc := 0) rfl rfl rfl k9d_sq180 rfl rfl k9d_q180_0 ix (Nat.zero_le ix) hne fun h1 =>
  k9d_end (y := 180) (cs := k9_c180) (n := 64) rfl k9d_sq180 (by decide +kernel) ix h1 hne
theorem k9d_sq181 : k9d_sq k9_c181 = true := by decide +kernel
theorem k9d_q181_0 : k9d_chk 181 prog_13_method_30_code (fun a => (k9_nth (0, 0, 0, 0) k9_w181 a).1) 64 (prog_13_method_30_code.data.toList.drop 0) (k9_c181.flatten.drop 0) (k9_w181.drop 0) = true := by decide +kernel
theorem k9d_q181_1 : k9d_chk 181 prog_13_method_30_code (fun a => (k9_nth (0, 0, 0, 0) k9_w181 a).1) 64 (prog_13_method_30_code.data.toList.drop 116) (k9_c181.flatten.drop 64) (k9_w181.drop 64) = true := by decide +kernel
theorem k9d_a181 (ix : Nat) (hne : k9_cod 181 ix ≠ (0, 0, 0, 0, 0)) : k9_okP 181 ix :=
  k9d_ch (y := 181) (cs := k9_c181) (ws := k9_w181) (m := 64) (k := 0) (pc := 0) rfl rfl rfl k9d_sq181 rfl rfl k9d_q181_0 ix (Nat.zero_le ix) hne fun h1 =>
  k9d_ch (y := 181) (cs := k9_c181) (ws := k9_w181) (m := 64) (k := 64) (pc := 116) rfl rfl rfl k9d_sq181 rfl (by decide +kernel) k9d_q181_1 ix h1 hne fun h2 =>
  k9d_end (y := 181) (cs := k9_c181) (n := 128) rfl k9d_sq181 (by decide +kernel) ix h2 hne
theorem k9d_sq182 : k9d_sq k9_c182 = true := by decide +kernel
theorem k9d_q182_0 : k9d_chk 182 prog_13_method_31_code (fun a => (k9_nth (0, 0, 0, 0) k9_w182 a).1) 64 (prog_13_method_31_code.data.toList.drop 0) (k9_c182.flatten.drop 0) (k9_w182.drop 0) = true := by decide +kernel
theorem k9d_q182_1 : k9d_chk 182 prog_13_method_31_code (fun a => (k9_nth (0, 0, 0, 0) k9_w182 a).1) 64 (prog_13_method_31_code.data.toList.drop 146) (k9_c182.flatten.drop 64) (k9_w182.drop 64) = true := by decide +kernel
theorem k9d_a182 (ix : Nat) (hne : k9_cod 182 ix ≠ (0, 0, 0, 0, 0)) : k9_okP 182 ix :=
  k9d_ch (y := 182) (cs := k9_c182) (ws := k9_w182) (m := 64) (k := 0) (pc := 0) rfl rfl rfl k9d_sq182 rfl rfl k9d_q182_0 ix (Nat.zero_le ix) hne fun h1 =>
  k9d_ch (y := 182) (cs := k9_c182) (ws := k9_w182) (m := 64) (k := 64) (pc := 146) rfl rfl rfl k9d_sq182 rfl (by decide +kernel) k9d_q182_1 ix h1 hne fun h2 =>
  k9d_end (y := 182) (cs := k9_c182) (n := 128) rfl k9d_sq182 (by decide +kernel) ix h2 hne
theorem k9d_sq183 : k9d_sq k9_c183 = true := by decide +kernel
theorem k9d_q183_0 : k9d_chk 183 prog_13_method_32_code (fun a => (k9_nth (0, 0, 0, 0) k9_w183 a).1) 64 (prog_13_method_32_code.data.toList.drop 0) (k9_c183.flatten.drop 0) (k9_w183.drop 0) = true := by decide +kernel
theorem k9d_q183_1 : k9d_chk 183 prog_13_method_32_code (fun a => (k9_nth (0, 0, 0, 0) k9_w183 a).1) 64 (prog_13_method_32_code.data.toList.drop 128) (k9_c183.flatten.drop 64) (k9_w183.drop 64) = true := by decide +kernel
theorem k9d_a183 (ix : Nat) (hne : k9_cod 183 ix ≠ (0, 0, 0, 0, 0)) : k9_okP 183 ix :=
  k9d_ch (y := 183) (cs := k9_c183) (ws := k9_w183) (m := 64) (k := 0) (pc := 0) rfl rfl rfl k9d_sq183 rfl rfl k9d_q183_0 ix (Nat.zero_le ix) hne fun h1 =>
  k9d_ch (y := 183) (cs := k9_c183) (ws := k9_w183) (m := 64) (k := 64) (pc := 128) rfl rfl rfl k9d_sq183 rfl (by decide +kernel) k9d_q183_1 ix h1 hne fun h2 =>
  k9d_end (y := 183) (cs := k9_c183) (n := 128) rfl k9d_sq183 (by decide +kernel) ix h2 hne
theorem k9d_sq184 : k9d_sq k9_c184 = true := by decide +kernel
theorem k9d_q184_0 : k9d_chk 184 prog_13_method_33_code (fun a => (k9_nth (0, 0, 0, 0) k9_w184 a).1) 64 (prog_13_method_33_code.data.toList.drop 0) (k9_c184.flatten.drop 0) (k9_w184.drop 0) = true := by decide +kernel
theorem k9d_a184 (ix : Nat) (hne : k9_cod 184 ix ≠ (0, 0, 0, 0, 0)) : k9_okP 184 ix :=
  k9d_ch (y := 184) (cs := k9_c184) (ws := k9_w184) (m := 64) (k := 0) (pc := 0) rfl rfl rfl k9d_sq184 rfl rfl k9d_q184_0 ix (Nat.zero_le ix) hne fun h1 =>
  k9d_end (y := 184) (cs := k9_c184) (n := 64) rfl k9d_sq184 (by decide +kernel) ix h1 hne
theorem k9d_sq185 : k9d_sq k9_c185 = true := by decide +kernel
theorem k9d_q185_0 : k9d_chk 185 prog_13_method_34_code (fun a => (k9_nth (0, 0, 0, 0) k9_w185 a).1) 64 (prog_13_method_34_code.data.toList.drop 0) (k9_c185.flatten.drop 0) (k9_w185.drop 0) = true := by decide +kernel
theorem k9d_a185 (ix : Nat) (hne : k9_cod 185 ix ≠ (0, 0, 0, 0, 0)) : k9_okP 185 ix :=
  k9d_ch (y := 185) (cs := k9_c185) (ws := k9_w185) (m := 64) (k := 0) (pc := 0) rfl rfl rfl k9d_sq185 rfl rfl k9d_q185_0 ix (Nat.zero_le ix) hne fun h1 =>
  k9d_end (y := 185) (cs := k9_c185) (n := 64) rfl k9d_sq185 (by decide +kernel) ix h1 hne
theorem k9d_sq186 : k9d_sq k9_c186 = true := by decide +kernel
theorem k9d_q186_0 : k9d_chk 186 prog_13_method_35_code (fun a => (k9_nth (0, 0, 0, 0) k9_w186 a).1) 64 (prog_13_method_35_code.data.toList.drop 0) (k9_c186.flatten.drop 0) (k9_w186.drop 0) = true := by decide +kernel
theorem k9d_a186 (ix : Nat) (hne : k9_cod 186 ix ≠ (0, 0, 0, 0, 0)) : k9_okP 186 ix :=
  k9d_ch (y := 186) (cs := k9_c186) (ws := k9_w186) (m := 64) (k := 0) (pc := 0) rfl rfl rfl k9d_sq186 rfl rfl k9d_q186_0 ix (Nat.zero_le ix) hne fun h1 =>
  k9d_end (y := 186) (cs := k9_c186) (n := 64) rfl k9d_sq186 (by decide +kernel) ix h1 hne
theorem k9d_sq187 : k9d_sq k9_c187 = true := by decide +kernel
theorem k9d_q187_0 : k9d_chk 187 prog_13_method_36_code (fun a => (k9_nth (0, 0, 0, 0) k9_w187 a).1) 64 (prog_13_method_36_code.data.toList.drop 0) (k9_c187.flatten.drop 0) (k9_w187.drop 0) = true := by decide +kernel
theorem k9d_a187 (ix : Nat) (hne : k9_cod 187 ix ≠ (0, 0, 0, 0, 0)) : k9_okP 187 ix :=
  k9d_ch (y := 187) (cs := k9_c187) (ws := k9_w187) (m := 64) (k := 0) (pc := 0) rfl rfl rfl k9d_sq187 rfl rfl k9d_q187_0 ix (Nat.zero_le ix) hne fun h1 =>
  k9d_end (y := 187) (cs := k9_c187) (n := 64) rfl k9d_sq187 (by decide +kernel) ix h1 hne
theorem k9d_sq188 : k9d_sq k9_c188 = true := by decide +kernel
theorem k9d_q188_0 : k9d_chk 188 prog_13_method_37_code (fun a => (k9_nth (0, 0, 0, 0) k9_w188 a).1) 64 (prog_13_method_37_code.data.toList.drop 0) (k9_c188.flatten.drop 0) (k9_w188.drop 0) = true := by decide +kernel
theorem k9d_q188_1 : k9d_chk 188 prog_13_method_37_code (fun a => (k9_nth (0, 0, 0, 0) k9_w188 a).1) 64 (prog_13_method_37_code.data.toList.drop 113) (k9_c188.flatten.drop 64) (k9_w188.drop 64) = true := by decide +kernel
theorem k9d_q188_2 : k9d_chk 188 prog_13_method_37_code (fun a => (k9_nth (0, 0, 0, 0) k9_w188 a).1) 64 (prog_13_method_37_code.data.toList.drop 230) (k9_c188.flatten.drop 128) (k9_w188.drop 128) = true := by decide +kernel
theorem k9d_q188_3 : k9d_chk 188 prog_13_method_37_code (fun a => (k9_nth (0, 0, 0, 0) k9_w188 a).1) 64 (prog_13_method_37_code.data.toList.drop 346) (k9_c188.flatten.drop 192) (k9_w188.drop 192) = true := by decide +kernel
theorem k9d_a188 (ix : Nat) (hne : k9_cod 188 ix ≠ (0, 0, 0, 0, 0)) : k9_okP 188 ix :=
  k9d_ch (y := 188) (cs := k9_c188) (ws := k9_w188) (m := 64) (k := 0) (pc := 0) rfl rfl rfl k9d_sq188 rfl rfl k9d_q188_0 ix (Nat.zero_le ix) hne fun h1 =>
  k9d_ch (y := 188) (cs := k9_c188) (ws := k9_w188) (m := 64) (k := 64) (pc := 113) rfl rfl rfl k9d_sq188 rfl (by decide +kernel) k9d_q188_1 ix h1 hne fun h2 =>
  k9d_ch (y := 188) (cs := k9_c188) (ws := k9_w188) (m := 64) (k := 128) (pc := 230) rfl rfl rfl k9d_sq188 rfl (by decide +kernel) k9d_q188_2 ix h2 hne fun h3 =>
  k9d_ch (y := 188) (cs := k9_c188) (ws := k9_w188) (m := 64) (k := 192) (pc := 346) rfl rfl rfl k9d_sq188 rfl (by decide +kernel) k9d_q188_3 ix h3 hne fun h4 =>
  k9d_end (y := 188) (cs := k9_c188) (n := 256) rfl k9d_sq188 (by decide +kernel) ix h4 hne
theorem k9d_sq189 : k9d_sq k9_c189 = true := by decide +kernel
theorem k9d_q189_0 : k9d_chk 189 prog_13_method_38_code (fun a => (k9_nth (0, 0, 0, 0) k9_w189 a).1) 64 (prog_13_method_38_code.data.toList.drop 0) (k9_c189.flatten.drop 0) (k9_w189.drop 0) = true := by decide +kernel
theorem k9d_a189 (ix : Nat) (hne : k9_cod 189 ix ≠ (0, 0, 0, 0, 0)) : k9_okP 189 ix :=
  k9d_ch (y := 189) (cs := k9_c189) (ws := k9_w189) (m := 64) (k := 0) (pc := 0) rfl rfl rfl k9d_sq189 rfl rfl k9d_q189_0 ix (Nat.zero_le ix) hne fun h1 =>
  k9d_end (y := 189) (cs := k9_c189) (n := 64) rfl k9d_sq189 (by decide +kernel) ix h1 hne
theorem k9d_sq190 : k9d_sq k9_c190 = true := by decide +kernel
theorem k9d_q190_0 : k9d_chk 190 prog_13_method_39_code (fun a => (k9_nth (0, 0, 0, 0) k9_w190 a).1) 64 (prog_13_method_39_code.data.toList.drop 0) (k9_c190.flatten.drop 0) (k9_w190.drop 0) = true := by decide +kernel
theorem k9d_a190 (ix : Nat) (hne : k9_cod 190 ix ≠ (0, 0, 0, 0, 0)) : k9_okP 190 ix :=
  k9d_ch (y := 190) (cs := k9_c190) (ws := k9_w190) (m := 64) (k := 0) (pc := 0) rfl rfl rfl k9d_sq190 rfl rfl k9d_q190_0 ix (Nat.zero_le ix) hne fun h1 =>
  k9d_end (y := 190) (cs := k9_c190) (n := 64) rfl k9d_sq190 (by decide +kernel) ix h1 hne
theorem k9d_sq191 : k9d_sq k9_c191 = true := by decide +kernel
theorem k9d_q191_0 : k9d_chk 191 prog_13_method_40_code (fun a => (k9_nth (0, 0, 0, 0) k9_w191 a).1) 64 (prog_13_method_40_code.data.toList.drop 0) (k9_c191.flatten.drop 0) (k9_w191.drop 0) = true := by decide +kernel
theorem k9d_q191_1 : k9d_chk 191 prog_13_method_40_code (fun a => (k9_nth (0, 0, 0, 0) k9_w191 a).1) 64 (prog_13_method_40_code.data.toList.drop 100) (k9_c191.flatten.drop 64) (k9_w191.drop 64) = true := by decide +kernel
theorem k9d_a191 (ix : Nat) (hne : k9_cod 191 ix ≠ (0, 0, 0, 0, 0)) : k9_okP 191 ix :=
  k9d_ch (y := 191) (cs := k9_c191) (ws := k9_w191) (m := 64) (k := 0) (pc := 0) rfl rfl rfl k9d_sq191 rfl rfl k9d_q191_0 ix (Nat.zero_le ix) hne fun h1 =>
  k9d_ch (y := 191) (cs := k9_c191) (ws := k9_w191) (m := 64) (k := 64) (pc := 100) rfl rfl rfl k9d_sq191 rfl (by decide +kernel) k9d_q191_1 ix h1 hne fun h2 =>
  k9d_end (y := 191) (cs := k9_c191) (n := 128) rfl k9d_sq191 (by decide +kernel) ix h2 hne
theorem k9d_sq192 : k9d_sq k9_c192 = true := by decide +kernel
theorem k9d_q192_0 : k9d_chk 192 prog_13_method_41_code (fun a => (k9_nth (0, 0, 0, 0) k9_w192 a).1) 64 (prog_13_method_41_code.data.toList.drop 0) (k9_c192.flatten.drop 0) (k9_w192.drop 0) = true := by decide +kernel
theorem k9d_a192 (ix : Nat) (hne : k9_cod 192 ix ≠ (0, 0, 0, 0, 0)) : k9_okP 192 ix :=
  k9d_ch (y := 192) (cs := k9_c192) (ws := k9_w192) (m := 64) (k := 0) (pc := 0) rfl rfl rfl k9d_sq192 rfl rfl k9d_q192_0 ix (Nat.zero_le ix) hne fun h1 =>
  k9d_end (y := 192) (cs := k9_c192) (n := 64) rfl k9d_sq192 (by decide +kernel) ix h1 hne
theorem k9d_sq193 : k9d_sq k9_c193 = true := by decide +kernel
theorem k9d_q193_0 : k9d_chk 193 prog_13_method_42_code (fun a => (k9_nth (0, 0, 0, 0) k9_w193 a).1) 64 (prog_13_method_42_code.data.toList.drop 0) (k9_c193.flatten.drop 0) (k9_w193.drop 0) = true := by decide +kernel
theorem k9d_a193 (ix : Nat) (hne : k9_cod 193 ix ≠ (0, 0, 0, 0, 0)) : k9_okP 193 ix :=
  k9d_ch (y := 193) (cs := k9_c193) (ws := k9_w193) (m := 64) (k := 0) (pc := 0) rfl rfl rfl k9d_sq193 rfl rfl k9d_q193_0 ix (Nat.zero_le ix) hne fun h1 =>
  k9d_end (y := 193) (cs := k9_c193) (n := 64) rfl k9d_sq193 (by decide +kernel) ix h1 hne
theorem k9d_sq194 : k9d_sq k9_c194 = true := by decide +kernel
theorem k9d_q194_0 : k9d_chk 194 prog_13_method_43_code (fun a => (k9_nth (0, 0, 0, 0) k9_w194 a).1) 64 (prog_13_method_43_code.data.toList.drop 0) (k9_c194.flatten.drop 0) (k9_w194.drop 0) = true := by decide +kernel
theorem k9d_a194 (ix : Nat) (hne : k9_cod 194 ix ≠ (0, 0, 0, 0, 0)) : k9_okP 194 ix :=
  k9d_ch (y := 194) (cs := k9_c194) (ws := k9_w194) (m := 64) (k := 0) (pc := 0) rfl rfl rfl k9d_sq194 rfl rfl k9d_q194_0 ix (Nat.zero_le ix) hne fun h1 =>
  k9d_end (y := 194) (cs := k9_c194) (n := 64) rfl k9d_sq194 (by decide +kernel) ix h1 hne
theorem k9d_sq195 : k9d_sq k9_c195 = true := by decide +kernel
theorem k9d_q195_0 : k9d_chk 195 prog_13_method_44_code (fun a => (k9_nth (0, 0, 0, 0) k9_w195 a).1) 64 (prog_13_method_44_code.data.toList.drop 0) (k9_c195.flatten.drop 0) (k9_w195.drop 0) = true := by decide +kernel
theorem k9d_a195 (ix : Nat) (hne : k9_cod 195 ix ≠ (0, 0, 0, 0, 0)) : k9_okP 195 ix :=
  k9d_ch (y := 195) (cs := k9_c195) (ws := k9_w195) (m := 64) (k := 0) (pc := 0) rfl rfl rfl k9d_sq195 rfl rfl k9d_q195_0 ix (Nat.zero_le ix) hne fun h1 =>
  k9d_end (y := 195) (cs := k9_c195) (n := 64) rfl k9d_sq195 (by decide +kernel) ix h1 hne
theorem k9d_sq196 : k9d_sq k9_c196 = true := by decide +kernel
theorem k9d_q196_0 : k9d_chk 196 prog_13_method_45_code (fun a => (k9_nth (0, 0, 0, 0) k9_w196 a).1) 64 (prog_13_method_45_code.data.toList.drop 0) (k9_c196.flatten.drop 0) (k9_w196.drop 0) = true := by decide +kernel
theorem k9d_a196 (ix : Nat) (hne : k9_cod 196 ix ≠ (0, 0, 0, 0, 0)) : k9_okP 196 ix :=
  k9d_ch (y := 196) (cs := k9_c196) (ws := k9_w196) (m := 64) (k := 0) (pc := 0) rfl rfl rfl k9d_sq196 rfl rfl k9d_q196_0 ix (Nat.zero_le ix) hne fun h1 =>
  k9d_end (y := 196) (cs := k9_c196) (n := 64) rfl k9d_sq196 (by decide +kernel) ix h1 hne
theorem k9d_sq197 : k9d_sq k9_c197 = true := by decide +kernel
theorem k9d_q197_0 : k9d_chk 197 prog_13_method_46_code (fun a => (k9_nth (0, 0, 0, 0) k9_w197 a).1) 64 (prog_13_method_46_code.data.toList.drop 0) (k9_c197.flatten.drop 0) (k9_w197.drop 0) = true := by decide +kernel
theorem k9d_a197 (ix : Nat) (hne : k9_cod 197 ix ≠ (0, 0, 0, 0, 0)) : k9_okP 197 ix :=
  k9d_ch (y := 197) (cs := k9_c197) (ws := k9_w197) (m := 64) (k := 0) (pc := 0) rfl rfl rfl k9d_sq197 rfl rfl k9d_q197_0 ix (Nat.zero_le ix) hne fun h1 =>
  k9d_end (y := 197) (cs := k9_c197) (n := 64) rfl k9d_sq197 (by decide +kernel) ix h1 hne
theorem k9d_sq198 : k9d_sq k9_c198 = true := by decide +kernel
theorem k9d_q198_0 : k9d_chk 198 prog_13_method_47_code (fun a => (k9_nth (0, 0, 0, 0) k9_w198 a).1) 64 (prog_13_method_47_code.data.toList.drop 0) (k9_c198.flatten.drop 0) (k9_w198.drop 0) = true := by decide +kernel
theorem k9d_a198 (ix : Nat) (hne : k9_cod 198 ix ≠ (0, 0, 0, 0, 0)) : k9_okP 198 ix :=
  k9d_ch (y := 198) (cs := k9_c198) (ws := k9_w198) (m := 64) (k := 0) (pc := 0) rfl rfl rfl k9d_sq198 rfl rfl k9d_q198_0 ix (Nat.zero_le ix) hne fun h1 =>
  k9d_end (y := 198) (cs := k9_c198) (n := 64) rfl k9d_sq198 (by decide +kernel) ix h1 hne
theorem k9d_sq199 : k9d_sq k9_c199 = true := by decide +kernel
theorem k9d_q199_0 : k9d_chk 199 prog_13_method_48_code (fun a => (k9_nth (0, 0, 0, 0) k9_w199 a).1) 64 (prog_13_method_48_code.data.toList.drop 0) (k9_c199.flatten.drop 0) (k9_w199.drop 0) = true := by decide +kernel
theorem k9d_a199 (ix : Nat) (hne : k9_cod 199 ix ≠ (0, 0, 0, 0, 0)) : k9_okP 199 ix :=
  k9d_ch (y := 199) (cs := k9_c199) (ws := k9_w199) (m := 64) (k := 0) (pc := 0) rfl rfl rfl k9d_sq199 rfl rfl k9d_q199_0 ix (Nat.zero_le ix) hne fun h1 =>
  k9d_end (y := 199) (cs := k9_c199) (n := 64) rfl k9d_sq199 (by decide +kernel) ix h1 hne
theorem k9d_sq200 : k9d_sq k9_c200 = true := by decide +kernel
theorem k9d_q200_0 : k9d_chk 200 prog_13_method_49_code (fun a => (k9_nth (0, 0, 0, 0) k9_w200 a).1) 64 (prog_13_method_49_code.data.toList.drop 0) (k9_c200.flatten.drop 0) (k9_w200.drop 0) = true := by decide +kernel
theorem k9d_a200 (ix : Nat) (hne : k9_cod 200 ix ≠ (0, 0, 0, 0, 0)) : k9_okP 200 ix :=
  k9d_ch (y := 200) (cs := k9_c200) (ws := k9_w200) (m := 64) (k := 0) (pc := 0) rfl rfl rfl k9d_sq200 rfl rfl k9d_q200_0 ix (Nat.zero_le ix) hne fun h1 =>
  k9d_end (y := 200) (cs := k9_c200) (n := 64) rfl k9d_sq200 (by decide +kernel) ix h1 hne
theorem k9d_sq201 : k9d_sq k9_c201 = true := by decide +kernel
theorem k9d_q201_0 : k9d_chk 201 prog_13_method_50_code (fun a => (k9_nth (0, 0, 0, 0) k9_w201 a).1) 64 (prog_13_method_50_code.data.toList.drop 0) (k9_c201.flatten.drop 0) (k9_w201.drop 0) = true := by decide +kernel
theorem k9d_a201 (ix : Nat) (hne : k9_cod 201 ix ≠ (0, 0, 0, 0, 0)) : k9_okP 201 ix :=
  k9d_ch (y := 201) (cs := k9_c201) (ws := k9_w201) (m := 64) (k := 0) (pc := 0) rfl rfl rfl k9d_sq201 rfl rfl k9d_q201_0 ix (Nat.zero_le ix) hne fun h1 =>
  k9d_end (y := 201) (cs := k9_c201) (n := 64) rfl k9d_sq201 (by decide +kernel) ix h1 hne
theorem k9d_sq202 : k9d_sq k9_c202 = true := by decide +kernel
theorem k9d_q202_0 : k9d_chk 202 prog_13_method_51_code (fun a => (k9_nth (0, 0, 0, 0) k9_w202 a).1) 64 (prog_13_method_51_code.data.toList.drop 0) (k9_c202.flatten.drop 0) (k9_w202.drop 0) = true := by decide +kernel
theorem k9d_a202 (ix : Nat) (hne : k9_cod 202 ix ≠ (0, 0, 0, 0, 0)) : k9_okP 202 ix :=
  k9d_ch (y := 202) (cs := k9_c202) (ws := k9_w202) (m := 64) (k := 0) (pc := 0) rfl rfl rfl k9d_sq202 rfl rfl k9d_q202_0 ix (Nat.zero_le ix) hne fun h1 =>
  k9d_end (y := 202) (cs := k9_c202) (n := 64) rfl k9d_sq202 (by decide +kernel) ix h1 hne
theorem k9d_sq203 : k9d_sq k9_c203 = true := by decide +kernel
theorem k9d_q203_0 : k9d_chk 203 prog_13_method_52_code (fun a => (k9_nth (0, 0, 0, 0) k9_w203 a).1) 64 (prog_13_method_52_code.data.toList.drop 0) (k9_c203.flatten.drop 0) (k9_w203.drop 0) = true := by decide +kernel
theorem k9d_a203 (ix : Nat) (hne : k9_cod 203 ix ≠ (0, 0, 0, 0, 0)) : k9_okP 203 ix :=
  k9d_ch (y := 203) (cs := k9_c203) (ws := k9_w203) (m := 64) (k := 0) (pc := 0) rfl rfl rfl k9d_sq203 rfl rfl k9d_q203_0 ix (Nat.zero_le ix) hne fun h1 =>
  k9d_end (y := 203) (cs := k9_c203) (n := 64) rfl k9d_sq203 (by decide +kernel) ix h1 hne
theorem k9d_sq204 : k9d_sq k9_c204 = true := by decide +kernel
theorem k9d_q204_0 : k9d_chk 204 prog_13_method_53_code (fun a => (k9_nth (0, 0, 0, 0) k9_w204 a).1) 64 (prog_13_method_53_code.data.toList.drop 0) (k9_c204.flatten.drop 0) (k9_w204.drop 0) = true := by decide +kernel
theorem k9d_a204 (ix : Nat) (hne : k9_cod 204 ix ≠ (0, 0, 0, 0, 0)) : k9_okP 204 ix :=
  k9d_ch (y := 204) (cs := k9_c204) (ws := k9_w204) (m := 64) (k := 0) (pc := 0) rfl rfl rfl k9d_sq204 rfl rfl k9d_q204_0 ix (Nat.zero_le ix) hne fun h1 =>
  k9d_end (y := 204) (cs := k9_c204) (n := 64) rfl k9d_sq204 (by decide +kernel) ix h1 hne
theorem k9d_sq205 : k9d_sq k9_c205 = true := by decide +kernel
theorem k9d_q205_0 : k9d_chk 205 prog_13_method_54_code (fun a => (k9_nth (0, 0, 0, 0) k9_w205 a).1) 64 (prog_13_method_54_code.data.toList.drop 0) (k9_c205.flatten.drop 0) (k9_w205.drop 0) = true := by decide +kernel
theorem k9d_q205_1 : k9d_chk 205 prog_13_method_54_code (fun a => (k9_nth (0, 0, 0, 0) k9_w205 a).1) 64 (prog_13_method_54_code.data.toList.drop 109) (k9_c205.flatten.drop 64) (k9_w205.drop 64) = true := by decide +kernel
theorem k9d_a205 (ix : Nat) (hne : k9_cod 205 ix ≠ (0, 0, 0, 0, 0)) : k9_okP 205 ix :=
  k9d_ch (y := 205) (cs := k9_c205) (ws := k9_w205) (m := 64) (k := 0) (pc := 0) rfl rfl rfl k9d_sq205 rfl rfl k9d_q205_0 ix (Nat.zero_le ix) hne fun h1 =>
  k9d_ch (y := 205) (cs := k9_c205) (ws := k9_w205) (m := 64) (k := 64) (pc := 109) rfl rfl rfl k9d_sq205 rfl (by decide +kernel) k9d_q205_1 ix h1 hne fun h2 =>
  k9d_end (y := 205) (cs := k9_c205) (n := 128) rfl k9d_sq205 (by decide +kernel) ix h2 hne
theorem k9d_sq206 : k9d_sq k9_c206 = true := by decide +kernel
theorem k9d_q206_0 : k9d_chk 206 prog_13_method_55_code (fun a => (k9_nth (0, 0, 0, 0) k9_w206 a).1) 64 (prog_13_method_55_code.data.toList.drop 0) (k9_c206.flatten.drop 0) (k9_w206.drop 0) = true := by decide +kernel
theorem k9d_a206 (ix : Nat) (hne : k9_cod 206 ix ≠ (0, 0, 0, 0, 0)) : k9_okP 206 ix :=
  k9d_ch (y := 206) (cs := k9_c206) (ws := k9_w206) (m := 64) (k := 0) (pc := 0) rfl rfl rfl k9d_sq206 rfl rfl k9d_q206_0 ix (Nat.zero_le ix) hne fun h1 =>
  k9d_end (y := 206) (cs := k9_c206) (n := 64) rfl k9d_sq206 (by decide +kernel) ix h1 hne
theorem k9d_sq207 : k9d_sq k9_c207 = true := by decide +kernel
theorem k9d_q207_0 : k9d_chk 207 prog_13_method_56_code (fun a => (k9_nth (0, 0, 0, 0) k9_w207 a).1) 64 (prog_13_method_56_code.data.toList.drop 0) (k9_c207.flatten.drop 0) (k9_w207.drop 0) = true := by decide +kernel
theorem k9d_q207_1 : k9d_chk 207 prog_13_method_56_code (fun a => (k9_nth (0, 0, 0, 0) k9_w207 a).1) 64 (prog_13_method_56_code.data.toList.drop 114) (k9_c207.flatten.drop 64) (k9_w207.drop 64) = true := by decide +kernel
theorem k9d_a207 (ix : Nat) (hne : k9_cod 207 ix ≠ (0, 0, 0, 0, 0)) : k9_okP 207 ix :=
  k9d_ch (y := 207) (cs := k9_c207) (ws := k9_w207) (m := 64) (k := 0) (pc := 0) rfl rfl rfl k9d_sq207 rfl rfl k9d_q207_0 ix (Nat.zero_le ix) hne fun h1 =>
  k9d_ch (y := 207) (cs := k9_c207) (ws := k9_w207) (m := 64) (k := 64) (pc := 114) rfl rfl rfl k9d_sq207 rfl (by decide +kernel) k9d_q207_1 ix h1 hne fun h2 =>
  k9d_end (y := 207) (cs := k9_c207) (n := 128) rfl k9d_sq207 (by decide +kernel) ix h2 hne
theorem k9d_sq208 : k9d_sq k9_c208 = true := by decide +kernel
theorem k9d_q208_0 : k9d_chk 208 prog_13_method_57_code (fun a => (k9_nth (0, 0, 0, 0) k9_w208 a).1) 64 (prog_13_method_57_code.data.toList.drop 0) (k9_c208.flatten.drop 0) (k9_w208.drop 0) = true := by decide +kernel
theorem k9d_a208 (ix : Nat) (hne : k9_cod 208 ix ≠ (0, 0, 0, 0, 0)) : k9_okP 208 ix :=
  k9d_ch (y := 208) (cs := k9_c208) (ws := k9_w208) (m := 64) (k := 0) (pc := 0) rfl rfl rfl k9d_sq208 rfl rfl k9d_q208_0 ix (Nat.zero_le ix) hne fun h1 =>
  k9d_end (y := 208) (cs := k9_c208) (n := 64) rfl k9d_sq208 (by decide +kernel) ix h1 hne
theorem k9d_sq209 : k9d_sq k9_c209 = true := by decide +kernel
theorem k9d_q209_0 : k9d_chk 209 prog_13_method_58_code (fun a => (k9_nth (0, 0, 0, 0) k9_w209 a).1) 64 (prog_13_method_58_code.data.toList.drop 0) (k9_c209.flatten.drop 0) (k9_w209.drop 0) = true := by decide +kernel
theorem k9d_a209 (ix : Nat) (hne : k9_cod 209 ix ≠ (0, 0, 0, 0, 0)) : k9_okP 209 ix :=
  k9d_ch (y := 209) (cs := k9_c209) (ws := k9_w209) (m := 64) (k := 0) (pc := 0) rfl rfl rfl k9d_sq209 rfl rfl k9d_q209_0 ix (Nat.zero_le ix) hne fun h1 =>
  k9d_end (y := 209) (cs := k9_c209) (n := 64) rfl k9d_sq209 (by decide +kernel) ix h1 hne
theorem k9d_sq210 : k9d_sq k9_c210 = true := by decide +kernel
theorem k9d_q210_0 : k9d_chk 210 prog_13_method_59_code (fun a => (k9_nth (0, 0, 0, 0) k9_w210 a).1) 64 (prog_13_method_59_code.data.toList.drop 0) (k9_c210.flatten.drop 0) (k9_w210.drop 0) = true := by decide +kernel
theorem k9d_a210 (ix : Nat) (hne : k9_cod 210 ix ≠ (0, 0, 0, 0, 0)) : k9_okP 210 ix :=
  k9d_ch (y := 210) (cs := k9_c210) (ws := k9_w210) (m := 64) (k := 0) (pc := 0) rfl rfl rfl k9d_sq210 rfl rfl k9d_q210_0 ix (Nat.zero_le ix) hne fun h1 =>
  k9d_end (y := 210) (cs := k9_c210) (n := 64) rfl k9d_sq210 (by decide +kernel) ix h1 hne
theorem k9d_sq211 : k9d_sq k9_c211 = true := by decide +kernel
theorem k9d_q211_0 : k9d_chk 211 prog_13_method_60_code (fun a => (k9_nth (0, 0, 0, 0) k9_w211 a).1) 64 (prog_13_method_60_code.data.toList.drop 0) (k9_c211.flatten.drop 0) (k9_w211.drop 0) = true := by decide +kernel
theorem k9d_q211_1 : k9d_chk 211 prog_13_method_60_code (fun a => (k9_nth (0, 0, 0, 0) k9_w211 a).1) 64 (prog_13_method_60_code.data.toList.drop 119) (k9_c211.flatten.drop 64) (k9_w211.drop 64) = true := by decide +kernel
theorem k9d_a211 (ix : Nat) (hne : k9_cod 211 ix ≠ (0, 0, 0, 0, 0)) : k9_okP 211 ix :=
  k9d_ch (y := 211) (cs := k9_c211) (ws := k9_w211) (m := 64) (k := 0) (pc := 0) rfl rfl rfl k9d_sq211 rfl rfl k9d_q211_0 ix (Nat.zero_le ix) hne fun h1 =>
  k9d_ch (y := 211) (cs := k9_c211) (ws := k9_w211) (m := 64) (k := 64) (pc := 119) rfl rfl rfl k9d_sq211 rfl (by decide +kernel) k9d_q211_1 ix h1 hne fun h2 =>
  k9d_end (y := 211) (cs := k9_c211) (n := 128) rfl k9d_sq211 (by decide +kernel) ix h2 hne
theorem k9d_sq212 : k9d_sq k9_c212 = true := by decide +kernel
theorem k9d_q212_0 : k9d_chk 212 prog_13_method_61_code (fun a => (k9_nth (0, 0, 0, 0) k9_w212 a).1) 64 (prog_13_method_61_code.data.toList.drop 0) (k9_c212.flatten.drop 0) (k9_w212.drop 0) = true := by decide +kernel
theorem k9d_q212_1 : k9d_chk 212 prog_13_method_61_code (fun a => (k9_nth (0, 0, 0, 0) k9_w212 a).1) 64 (prog_13_method_61_code.data.toList.drop 113) (k9_c212.flatten.drop 64) (k9_w212.drop 64) = true := by decide +kernel
theorem k9d_a212 (ix : Nat) (hne : k9_cod 212 ix ≠ (0, 0, 0, 0, 0)) : k9_okP 212 ix :=
  k9d_ch (y := 212) (cs := k9_c212) (ws := k9_w212) (m := 64) (k := 0) (pc := 0) rfl rfl rfl k9d_sq212 rfl rfl k9d_q212_0 ix (Nat.zero_le ix) hne fun h1 =>
  k9d_ch (y := 212) (cs := k9_c212) (ws := k9_w212) (m := 64) (k := 64) (pc := 113) rfl rfl rfl k9d_sq212 rfl (by decide +kernel) k9d_q212_1 ix h1 hne fun h2 =>
  k9d_end (y := 212) (cs := k9_c212) (n := 128) rfl k9d_sq212 (by decide +kernel) ix h2 hne
theorem k9d_sq213 : k9d_sq k9_c213 = true := by decide +kernel
theorem k9d_q213_0 : k9d_chk 213 prog_13_method_62_code (fun a => (k9_nth (0, 0, 0, 0) k9_w213 a).1) 64 (prog_13_method_62_code.data.toList.drop 0) (k9_c213.flatten.drop 0) (k9_w213.drop 0) = true := by decide +kernel
theorem k9d_a213 (ix : Nat) (hne : k9_cod 213 ix ≠ (0, 0, 0, 0, 0)) : k9_okP 213 ix :=
  k9d_ch (y := 213) (cs := k9_c213) (ws := k9_w213) (m := 64) (k := 0) (pc := 0) rfl rfl rfl k9d_sq213 rfl rfl k9d_q213_0 ix (Nat.zero_le ix) hne fun h1 =>
  k9d_end (y := 213) (cs := k9_c213) (n := 64) rfl k9d_sq213 (by decide +kernel) ix h1 hne
theorem k9d_sq214 : k9d_sq k9_c214 = true := by decide +kernel
theorem k9d_q214_0 : k9d_chk 214 prog_13_method_63_code (fun a => (k9_nth (0, 0, 0, 0) k9_w214 a).1) 64 (prog_13_method_63_code.data.toList.drop 0) (k9_c214.flatten.drop 0) (k9_w214.drop 0) = true := by decide +kernel
theorem k9d_q214_1 : k9d_chk 214 prog_13_method_63_code (fun a => (k9_nth (0, 0, 0, 0) k9_w214 a).1) 64 (prog_13_method_63_code.data.toList.drop 113) (k9_c214.flatten.drop 64) (k9_w214.drop 64) = true := by decide +kernel
theorem k9d_a214 (ix : Nat) (hne : k9_cod 214 ix ≠ (0, 0, 0, 0, 0)) : k9_okP 214 ix :=
  k9d_ch (y := 214) (cs := k9_c214) (ws := k9_w214) (m := 64) (k := 0) (pc := 0) rfl rfl rfl k9d_sq214 rfl rfl k9d_q214_0 ix (Nat.zero_le ix) hne fun h1 =>
  k9d_ch (y := 214) (cs := k9_c214) (ws := k9_w214) (m := 64) (k := 64) (pc := 113) rfl rfl rfl k9d_sq214 rfl (by decide +kernel) k9d_q214_1 ix h1 hne fun h2 =>
  k9d_end (y := 214) (cs := k9_c214) (n := 128) rfl k9d_sq214 (by decide +kernel) ix h2 hne
theorem k9d_sq215 : k9d_sq k9_c215 = true := by decide +kernel
theorem k9d_q215_0 : k9d_chk 215 prog_13_method_64_code (fun a => (k9_nth (0, 0, 0, 0) k9_w215 a).1) 64 (prog_13_method_64_code.data.toList.drop 0) (k9_c215.flatten.drop 0) (k9_w215.drop 0) = true := by decide +kernel
theorem k9d_a215 (ix : Nat) (hne : k9_cod 215 ix ≠ (0, 0, 0, 0, 0)) : k9_okP 215 ix :=
  k9d_ch (y := 215) (cs := k9_c215) (ws := k9_w215) (m := 64) (k := 0) (pc := 0) rfl rfl rfl k9d_sq215 rfl rfl k9d_q215_0 ix (Nat.zero_le ix) hne fun h1 =>
  k9d_end (y := 215) (cs := k9_c215) (n := 64) rfl k9d_sq215 (by decide +kernel) ix h1 hne
theorem k9d_sq216 : k9d_sq k9_c216 = true := by decide +kernel
theorem k9d_q216_0 : k9d_chk 216 prog_13_method_65_code (fun a => (k9_nth (0, 0, 0, 0) k9_w216 a).1) 64 (prog_13_method_65_code.data.toList.drop 0) (k9_c216.flatten.drop 0) (k9_w216.drop 0) = true := by decide +kernel
theorem k9d_a216 (ix : Nat) (hne : k9_cod 216 ix ≠ (0, 0, 0, 0, 0)) : k9_okP 216 ix :=
  k9d_ch (y := 216) (cs := k9_c216) (ws := k9_w216) (m := 64) (k := 0) (pc := 0) rfl rfl rfl k9d_sq216 rfl rfl k9d_q216_0 ix (Nat.zero_le ix) hne fun h1 =>
  k9d_end (y := 216) (cs := k9_c216) (n := 64) rfl k9d_sq216 (by decide +kernel) ix h1 hne
theorem k9d_sq217 : k9d_sq k9_c217 = true := by decide +kernel
theorem k9d_q217_0 : k9d_chk 217 prog_13_method_66_code (fun a => (k9_nth (0, 0, 0, 0) k9_w217 a).1) 64 (prog_13_method_66_code.data.toList.drop 0) (k9_c217.flatten.drop 0) (k9_w217.drop 0) = true := by decide +kernel
theorem k9d_a217 (ix : Nat) (hne : k9_cod 217 ix ≠ (0, 0, 0, 0, 0)) : k9_okP 217 ix :=
  k9d_ch (y := 217) (cs := k9_c217) (ws := k9_w217) (m := 64) (k := 0) (pc := 0) rfl rfl rfl k9d_sq217 rfl rfl k9d_q217_0 ix (Nat.zero_le ix) hne fun h1 =>
  k9d_end (y := 217) (cs := k9_c217) (n := 64) rfl k9d_sq217 (by decide +kernel) ix h1 hne
theorem k9d_sq218 : k9d_sq k9_c218 = true := by decide +kernel
theorem k9d_q218_0 : k9d_chk 218 prog_13_method_67_code (fun a => (k9_nth (0, 0, 0, 0) k9_w218 a).1) 64 (prog_13_method_67_code.data.toList.drop 0) (k9_c218.flatten.drop 0) (k9_w218.drop 0) = true := by decide +kernel
theorem k9d_a218 (ix : Nat) (hne : k9_cod 218 ix ≠ (0, 0, 0, 0, 0)) : k9_okP 218 ix :=
  k9d_ch (y := 218) (cs := k9_c218) (ws := k9_w218) (m := 64) (k := 0) (pc := 0) rfl rfl rfl k9d_sq218 rfl rfl k9d_q218_0 ix (Nat.zero_le ix) hne fun h1 =>
  k9d_end (y := 218) (cs := k9_c218) (n := 64) rfl k9d_sq218 (by decide +kernel) ix h1 hne
theorem k9d_sq219 : k9d_sq k9_c219 = true := by decide +kernel
theorem k9d_q219_0 : k9d_chk 219 prog_13_method_68_code (fun a => (k9_nth (0, 0, 0, 0) k9_w219 a).1) 64 (prog_13_method_68_code.data.toList.drop 0) (k9_c219.flatten.drop 0) (k9_w219.drop 0) = true := by decide +kernel
theorem k9d_a219 (ix : Nat) (hne : k9_cod 219 ix ≠ (0, 0, 0, 0, 0)) : k9_okP 219 ix :=
  k9d_ch (y := 219) (cs := k9_c219) (ws := k9_w219) (m := 64) (k := 0) (pc := 0) rfl rfl rfl k9d_sq219 rfl rfl k9d_q219_0 ix (Nat.zero_le ix) hne fun h1 =>
  k9d_end (y := 219) (cs := k9_c219) (n := 64) rfl k9d_sq219 (by decide +kernel) ix h1 hne
theorem k9d_sq220 : k9d_sq k9_c220 = true := by decide +kernel
theorem k9d_q220_0 : k9d_chk 220 prog_13_method_69_code (fun a => (k9_nth (0, 0, 0, 0) k9_w220 a).1) 64 (prog_13_method_69_code.data.toList.drop 0) (k9_c220.flatten.drop 0) (k9_w220.drop 0) = true := by decide +kernel
theorem k9d_q220_1 : k9d_chk 220 prog_13_method_69_code (fun a => (k9_nth (0, 0, 0, 0) k9_w220 a).1) 64 (prog_13_method_69_code.data.toList.drop 121) (k9_c220.flatten.drop 64) (k9_w220.drop 64) = true := by decide +kernel
theorem k9d_a220 (ix : Nat) (hne : k9_cod 220 ix ≠ (0, 0, 0, 0, 0)) : k9_okP 220 ix :=
  k9d_ch (y := 220) (cs := k9_c220) (ws := k9_w220) (m := 64) (k := 0) (pc := 0) rfl rfl rfl k9d_sq220 rfl rfl k9d_q220_0 ix (Nat.zero_le ix) hne fun h1 =>
  k9d_ch (y := 220) (cs := k9_c220) (ws := k9_w220) (m := 64) (k := 64) (pc := 121) rfl rfl rfl k9d_sq220 rfl (by decide +kernel) k9d_q220_1 ix h1 hne fun h2 =>
  k9d_end (y := 220) (cs := k9_c220) (n := 128) rfl k9d_sq220 (by decide +kernel) ix h2 hne
theorem k9d_sq221 : k9d_sq k9_c221 = true := by decide +kernel
theorem k9d_q221_0 : k9d_chk 221 prog_13_method_70_code (fun a => (k9_nth (0, 0, 0, 0) k9_w221 a).1) 64 (prog_13_method_70_code.data.toList.drop 0) (k9_c221.flatten.drop 0) (k9_w221.drop 0) = true := by decide +kernel
theorem k9d_a221 (ix : Nat) (hne : k9_cod 221 ix ≠ (0, 0, 0, 0, 0)) : k9_okP 221 ix :=
  k9d_ch (y := 221) (cs := k9_c221) (ws := k9_w221) (m := 64) (k := 0) (pc := 0) rfl rfl rfl k9d_sq221 rfl rfl k9d_q221_0 ix (Nat.zero_le ix) hne fun h1 =>
  k9d_end (y := 221) (cs := k9_c221) (n := 64) rfl k9d_sq221 (by decide +kernel) ix h1 hne
theorem k9d_sq222 : k9d_sq k9_c222 = true := by decide +kernel
theorem k9d_q222_0 : k9d_chk 222 prog_13_method_71_code (fun a => (k9_nth (0, 0, 0, 0) k9_w222 a).1) 64 (prog_13_method_71_code.data.toList.drop 0) (k9_c222.flatten.drop 0) (k9_w222.drop 0) = true := by decide +kernel
theorem k9d_q222_1 : k9d_chk 222 prog_13_method_71_code (fun a => (k9_nth (0, 0, 0, 0) k9_w222 a).1) 64 (prog_13_method_71_code.data.toList.drop 120) (k9_c222.flatten.drop 64) (k9_w222.drop 64) = true := by decide +kernel
theorem k9d_q222_2 : k9d_chk 222 prog_13_method_71_code (fun a => (k9_nth (0, 0, 0, 0) k9_w222 a).1) 64 (prog_13_method_71_code.data.toList.drop 249) (k9_c222.flatten.drop 128) (k9_w222.drop 128) = true := by decide +kernel
theorem k9d_a222 (ix : Nat) (hne : k9_cod 222 ix ≠ (0, 0, 0, 0, 0)) : k9_okP 222 ix :=
  k9d_ch (y := 222) (cs := k9_c222) (ws := k9_w222) (m := 64) (k := 0) (pc := 0) rfl rfl rfl k9d_sq222 rfl rfl k9d_q222_0 ix (Nat.zero_le ix) hne fun h1 =>
  k9d_ch (y := 222) (cs := k9_c222) (ws := k9_w222) (m := 64) (k := 64) (pc := 120) rfl rfl rfl k9d_sq222 rfl (by decide +kernel) k9d_q222_1 ix h1 hne fun h2 =>
  k9d_ch (y := 222) (cs := k9_c222) (ws := k9_w222) (m := 64) (k := 128) (pc := 249) rfl rfl rfl k9d_sq222 rfl (by decide +kernel) k9d_q222_2 ix h2 hne fun h3 =>
  k9d_end (y := 222) (cs := k9_c222) (n := 192) rfl k9d_sq222 (by decide +kernel) ix h3 hne
theorem k9d_sq223 : k9d_sq k9_c223 = true := by decide +kernel
theorem k9d_q223_0 : k9d_chk 223 prog_13_method_72_code (fun a => (k9_nth (0, 0, 0, 0) k9_w223 a).1) 64 (prog_13_method_72_code.data.toList.drop 0) (k9_c223.flatten.drop 0) (k9_w223.drop 0) = true := by decide +kernel
theorem k9d_a223 (ix : Nat) (hne : k9_cod 223 ix ≠ (0, 0, 0, 0, 0)) : k9_okP 223 ix :=
  k9d_ch (y := 223) (cs := k9_c223) (ws := k9_w223) (m := 64) (k := 0) (pc := 0) rfl rfl rfl k9d_sq223 rfl rfl k9d_q223_0 ix (Nat.zero_le ix) hne fun h1 =>
  k9d_end (y := 223) (cs := k9_c223) (n := 64) rfl k9d_sq223 (by decide +kernel) ix h1 hne
theorem k9d_sq224 : k9d_sq k9_c224 = true := by decide +kernel
theorem k9d_q224_0 : k9d_chk 224 prog_13_method_73_code (fun a => (k9_nth (0, 0, 0, 0) k9_w224 a).1) 64 (prog_13_method_73_code.data.toList.drop 0) (k9_c224.flatten.drop 0) (k9_w224.drop 0) = true := by decide +kernel
theorem k9d_a224 (ix : Nat) (hne : k9_cod 224 ix ≠ (0, 0, 0, 0, 0)) : k9_okP 224 ix :=
  k9d_ch (y := 224) (cs := k9_c224) (ws := k9_w224) (m := 64) (k := 0) (pc := 0) rfl rfl rfl k9d_sq224 rfl rfl k9d_q224_0 ix (Nat.zero_le ix) hne fun h1 =>
  k9d_end (y := 224) (cs := k9_c224) (n := 64) rfl k9d_sq224 (by decide +kernel) ix h1 hne
theorem k9d_sq225 : k9d_sq k9_c225 = true := by decide +kernel
theorem k9d_q225_0 : k9d_chk 225 prog_13_method_74_code (fun a => (k9_nth (0, 0, 0, 0) k9_w225 a).1) 64 (prog_13_method_74_code.data.toList.drop 0) (k9_c225.flatten.drop 0) (k9_w225.drop 0) = true := by decide +kernel
theorem k9d_a225 (ix : Nat) (hne : k9_cod 225 ix ≠ (0, 0, 0, 0, 0)) : k9_okP 225 ix :=
  k9d_ch (y := 225) (cs := k9_c225) (ws := k9_w225) (m := 64) (k := 0) (pc := 0) rfl rfl rfl k9d_sq225 rfl rfl k9d_q225_0 ix (Nat.zero_le ix) hne fun h1 =>
  k9d_end (y := 225) (cs := k9_c225) (n := 64) rfl k9d_sq225 (by decide +kernel) ix h1 hne
theorem k9d_sq226 : k9d_sq k9_c226 = true := by decide +kernel
theorem k9d_q226_0 : k9d_chk 226 prog_13_method_75_code (fun a => (k9_nth (0, 0, 0, 0) k9_w226 a).1) 64 (prog_13_method_75_code.data.toList.drop 0) (k9_c226.flatten.drop 0) (k9_w226.drop 0) = true := by decide +kernel
theorem k9d_a226 (ix : Nat) (hne : k9_cod 226 ix ≠ (0, 0, 0, 0, 0)) : k9_okP 226 ix :=
  k9d_ch (y := 226) (cs := k9_c226) (ws := k9_w226) (m := 64) (k := 0) (pc := 0) rfl rfl rfl k9d_sq226 rfl rfl k9d_q226_0 ix (Nat.zero_le ix) hne fun h1 =>
  k9d_end (y := 226) (cs := k9_c226) (n := 64) rfl k9d_sq226 (by decide +kernel) ix h1 hne
theorem k9d_sq227 : k9d_sq k9_c227 = true := by decide +kernel
theorem k9d_q227_0 : k9d_chk 227 prog_13_method_76_code (fun a => (k9_nth (0, 0, 0, 0) k9_w227 a).1) 64 (prog_13_method_76_code.data.toList.drop 0) (k9_c227.flatten.drop 0) (k9_w227.drop 0) = true := by decide +kernel
theorem k9d_a227 (ix : Nat) (hne : k9_cod 227 ix ≠ (0, 0, 0, 0, 0)) : k9_okP 227 ix :=
  k9d_ch (y := 227) (cs := k9_c227) (ws := k9_w227) (m := 64) (k := 0) (pc := 0) rfl rfl rfl k9d_sq227 rfl rfl k9d_q227_0 ix (Nat.zero_le ix) hne fun h1 =>
  k9d_end (y := 227) (cs := k9_c227) (n := 64) rfl k9d_sq227 (by decide +kernel) ix h1 hne
theorem k9d_sq228 : k9d_sq k9_c228 = true := by decide +kernel
theorem k9d_q228_0 : k9d_chk 228 prog_13_method_77_code (fun a => (k9_nth (0, 0, 0, 0) k9_w228 a).1) 64 (prog_13_method_77_code.data.toList.drop 0) (k9_c228.flatten.drop 0) (k9_w228.drop 0) = true := by decide +kernel
theorem k9d_a228 (ix : Nat) (hne : k9_cod 228 ix ≠ (0, 0, 0, 0, 0)) : k9_okP 228 ix :=
  k9d_ch (y := 228) (cs := k9_c228) (ws := k9_w228) (m := 64) (k := 0) (pc := 0) rfl rfl rfl k9d_sq228 rfl rfl k9d_q228_0 ix (Nat.zero_le ix) hne fun h1 =>
  k9d_end (y := 228) (cs := k9_c228) (n := 64) rfl k9d_sq228 (by decide +kernel) ix h1 hne
theorem k9d_sq229 : k9d_sq k9_c229 = true := by decide +kernel
theorem k9d_q229_0 : k9d_chk 229 prog_13_method_78_code (fun a => (k9_nth (0, 0, 0, 0) k9_w229 a).1) 64 (prog_13_method_78_code.data.toList.drop 0) (k9_c229.flatten.drop 0) (k9_w229.drop 0) = true := by decide +kernel
theorem k9d_a229 (ix : Nat) (hne : k9_cod 229 ix ≠ (0, 0, 0, 0, 0)) : k9_okP 229 ix :=
  k9d_ch (y := 229) (cs := k9_c229) (ws := k9_w229) (m := 64) (k := 0) (pc := 0) rfl rfl rfl k9d_sq229 rfl rfl k9d_q229_0 ix (Nat.zero_le ix) hne fun h1 =>
  k9d_end (y := 229) (cs := k9_c229) (n := 64) rfl k9d_sq229 (by decide +kernel) ix h1 hne
theorem k9d_sq230 : k9d_sq k9_c230 = true := by decide +kernel
theorem k9d_q230_0 : k9d_chk 230 prog_13_method_79_code (fun a => (k9_nth (0, 0, 0, 0) k9_w230 a).1) 64 (prog_13_method_79_code.data.toList.drop 0) (k9_c230.flatten.drop 0) (k9_w230.drop 0) = true := by decide +kernel
theorem k9d_a230 (ix : Nat) (hne : k9_cod 230 ix ≠ (0, 0, 0, 0, 0)) : k9_okP 230 ix :=
  k9d_ch (y := 230) (cs := k9_c230) (ws := k9_w230) (m := 64) (k := 0) (pc := 0) rfl rfl rfl k9d_sq230 rfl rfl k9d_q230_0 ix (Nat.zero_le ix) hne fun h1 =>
  k9d_end (y := 230) (cs := k9_c230) (n := 64) rfl k9d_sq230 (by decide +kernel) ix h1 hne
theorem k9d_sq231 : k9d_sq k9_c231 = true := by decide +kernel
theorem k9d_q231_0 : k9d_chk 231 prog_13_method_80_code (fun a => (k9_nth (0, 0, 0, 0) k9_w231 a).1) 64 (prog_13_method_80_code.data.toList.drop 0) (k9_c231.flatten.drop 0) (k9_w231.drop 0) = true := by decide +kernel
theorem k9d_a231 (ix : Nat) (hne : k9_cod 231 ix ≠ (0, 0, 0, 0, 0)) : k9_okP 231 ix :=
  k9d_ch (y := 231) (cs := k9_c231) (ws := k9_w231) (m := 64) (k := 0) (pc := 0) rfl rfl rfl k9d_sq231 rfl rfl k9d_q231_0 ix (Nat.zero_le ix) hne fun h1 =>
  k9d_end (y := 231) (cs := k9_c231) (n := 64) rfl k9d_sq231 (by decide +kernel) ix h1 hne
theorem k9d_sq232 : k9d_sq k9_c232 = true := by decide +kernel
theorem k9d_q232_0 : k9d_chk 232 prog_13_method_81_code (fun a => (k9_nth (0, 0, 0, 0) k9_w232 a).1) 64 (prog_13_method_81_code.data.toList.drop 0) (k9_c232.flatten.drop 0) (k9_w232.drop 0) = true := by decide +kernel
theorem k9d_a232 (ix : Nat) (hne : k9_cod 232 ix ≠ (0, 0, 0, 0, 0)) : k9_okP 232 ix :=
  k9d_ch (y := 232) (cs := k9_c232) (ws := k9_w232) (m := 64) (k := 0) (pc := 0) rfl rfl rfl k9d_sq232 rfl rfl k9d_q232_0 ix (Nat.zero_le ix) hne fun h1 =>
  k9d_end (y := 232) (cs := k9_c232) (n := 64) rfl k9d_sq232 (by decide +kernel) ix h1 hne
theorem k9d_sq233 : k9d_sq k9_c233 = true := by decide +kernel
theorem k9d_q233_0 : k9d_chk 233 prog_13_method_82_code (fun a => (k9_nth (0, 0, 0, 0) k9_w233 a).1) 64 (prog_13_method_82_code.data.toList.drop 0) (k9_c233.flatten.drop 0) (k9_w233.drop 0) = true := by decide +kernel
theorem k9d_a233 (ix : Nat) (hne : k9_cod 233 ix ≠ (0, 0, 0, 0, 0)) : k9_okP 233 ix :=
  k9d_ch (y := 233) (cs := k9_c233) (ws := k9_w233) (m := 64) (k := 0) (pc := 0) rfl rfl rfl k9d_sq233 rfl rfl k9d_q233_0 ix (Nat.zero_le ix) hne fun h1 =>
  k9d_end (y := 233) (cs := k9_c233) (n := 64) rfl k9d_sq233 (by decide +kernel) ix h1 hne
theorem k9d_sq234 : k9d_sq k9_c234 = true := by decide +kernel
theorem k9d_q234_0 : k9d_chk 234 prog_13_method_83_code (fun a => (k9_nth (0, 0, 0, 0) k9_w234 a).1) 64 (prog_13_method_83_code.data.toList.drop 0) (k9_c234.flatten.drop 0) (k9_w234.drop 0) = true := by decide +kernel
theorem k9d_a234 (ix : Nat) (hne : k9_cod 234 ix ≠ (0, 0, 0, 0, 0)) : k9_okP 234 ix :=
  k9d_ch (y := 234) (cs := k9_c234) (ws := k9_w234) (m := 64) (k := 0) (pc := 0) rfl rfl rfl k9d_sq234 rfl rfl k9d_q234_0 ix (Nat.zero_le ix) hne fun h1 =>
  k9d_end (y := 234) (cs := k9_c234) (n := 64) rfl k9d_sq234 (by decide +kernel) ix h1 hne
theorem k9d_sq235 : k9d_sq k9_c235 = true := by decide +kernel
theorem k9d_q235_0 : k9d_chk 235 prog_13_method_84_code (fun a => (k9_nth (0, 0, 0, 0) k9_w235 a).1) 64 (prog_13_method_84_code.data.toList.drop 0) (k9_c235.flatten.drop 0) (k9_w235.drop 0) = true := by decide +kernel
theorem k9d_a235 (ix : Nat) (hne : k9_cod 235 ix ≠ (0, 0, 0, 0, 0)) : k9_okP 235 ix :=
  k9d_ch (y := 235) (cs := k9_c235) (ws := k9_w235) (m := 64) (k := 0) (pc := 0) rfl rfl rfl k9d_sq235 rfl rfl k9d_q235_0 ix (Nat.zero_le ix) hne fun h1 =>
  k9d_end (y := 235) (cs := k9_c235) (n := 64) rfl k9d_sq235 (by decide +kernel) ix h1 hne
theorem k9d_sq236 : k9d_sq k9_c236 = true := by decide +kernel
theorem k9d_q236_0 : k9d_chk 236 prog_13_method_85_code (fun a => (k9_nth (0, 0, 0, 0) k9_w236 a).1) 64 (prog_13_method_85_code.data.toList.drop 0) (k9_c236.flatten.drop 0) (k9_w236.drop 0) = true := by decide +kernel
theorem k9d_a236 (ix : Nat) (hne : k9_cod 236 ix ≠ (0, 0, 0, 0, 0)) : k9_okP 236 ix :=
  k9d_ch (y := 236) (cs := k9_c236) (ws := k9_w236) (m := 64) (k := 0) (pc := 0) rfl rfl rfl k9d_sq236 rfl rfl k9d_q236_0 ix (Nat.zero_le ix) hne fun h1 =>
  k9d_end (y := 236) (cs := k9_c236) (n := 64) rfl k9d_sq236 (by decide +kernel) ix h1 hne
theorem k9d_sq237 : k9d_sq k9_c237 = true := by decide +kernel
theorem k9d_q237_0 : k9d_chk 237 prog_13_method_86_code (fun a => (k9_nth (0, 0, 0, 0) k9_w237 a).1) 64 (prog_13_method_86_code.data.toList.drop 0) (k9_c237.flatten.drop 0) (k9_w237.drop 0) = true := by decide +kernel
theorem k9d_a237 (ix : Nat) (hne : k9_cod 237 ix ≠ (0, 0, 0, 0, 0)) : k9_okP 237 ix :=
  k9d_ch (y := 237) (cs := k9_c237) (ws := k9_w237) (m := 64) (k := 0) (pc := 0) rfl rfl rfl k9d_sq237 rfl rfl k9d_q237_0 ix (Nat.zero_le ix) hne fun h1 =>
  k9d_end (y := 237) (cs := k9_c237) (n := 64) rfl k9d_sq237 (by decide +kernel) ix h1 hne
theorem k9d_sq238 : k9d_sq k9_c238 = true := by decide +kernel
theorem k9d_q238_0 : k9d_chk 238 prog_13_method_87_code (fun a => (k9_nth (0, 0, 0, 0) k9_w238 a).1) 64 (prog_13_method_87_code.data.toList.drop 0) (k9_c238.flatten.drop 0) (k9_w238.drop 0) = true := by decide +kernel
theorem k9d_a238 (ix : Nat) (hne : k9_cod 238 ix ≠ (0, 0, 0, 0, 0)) : k9_okP 238 ix :=
  k9d_ch (y := 238) (cs := k9_c238) (ws := k9_w238) (m := 64) (k := 0) (pc := 0) rfl rfl rfl k9d_sq238 rfl rfl k9d_q238_0 ix (Nat.zero_le ix) hne fun h1 =>
  k9d_end (y := 238) (cs := k9_c238) (n := 64) rfl k9d_sq238 (by decide +kernel) ix h1 hne
theorem k9d_sq239 : k9d_sq k9_c239 = true := by decide +kernel
theorem k9d_q239_0 : k9d_chk 239 prog_13_method_88_code (fun a => (k9_nth (0, 0, 0, 0) k9_w239 a).1) 64 (prog_13_method_88_code.data.toList.drop 0) (k9_c239.flatten.drop 0) (k9_w239.drop 0) = true := by decide +kernel
theorem k9d_a239 (ix : Nat) (hne : k9_cod 239 ix ≠ (0, 0, 0, 0, 0)) : k9_okP 239 ix :=
  k9d_ch (y := 239) (cs := k9_c239) (ws := k9_w239) (m := 64) (k := 0) (pc := 0) rfl rfl rfl k9d_sq239 rfl rfl k9d_q239_0 ix (Nat.zero_le ix) hne fun h1 =>
  k9d_end (y := 239) (cs := k9_c239) (n := 64) rfl k9d_sq239 (by decide +kernel) ix h1 hne
theorem k9d_sq240 : k9d_sq k9_c240 = true := by decide +kernel
theorem k9d_q240_0 : k9d_chk 240 prog_13_method_89_code (fun a => (k9_nth (0, 0, 0, 0) k9_w240 a).1) 64 (prog_13_method_89_code.data.toList.drop 0) (k9_c240.flatten.drop 0) (k9_w240.drop 0) = true := by decide +kernel
theorem k9d_a240 (ix : Nat) (hne : k9_cod 240 ix ≠ (0, 0, 0, 0, 0)) : k9_okP 240 ix :=
  k9d_ch (y := 240) (cs := k9_c240) (ws := k9_w240) (m := 64) (k := 0) (pc := 0) rfl rfl rfl k9d_sq240 rfl rfl k9d_q240_0 ix (Nat.zero_le ix) hne fun h1 =>
  k9d_end (y := 240) (cs := k9_c240) (n := 64) rfl k9d_sq240 (by decide +kernel) ix h1 hne
theorem k9d_sq241 : k9d_sq k9_c241 = true := by decide +kernel
theorem k9d_q241_0 : k9d_chk 241 prog_13_method_90_code (fun a => (k9_nth (0, 0, 0, 0) k9_w241 a).1) 64 (prog_13_method_90_code.data.toList.drop 0) (k9_c241.flatten.drop 0) (k9_w241.drop 0) = true := by decide +kernel
theorem k9d_a241 (ix : Nat) (hne : k9_cod 241 ix ≠ (0, 0, 0, 0, 0)) : k9_okP 241 ix :=
  k9d_ch (y := 241) (cs := k9_c241) (ws := k9_w241) (m := 64) (k := 0) (pc := 0) rfl rfl rfl k9d_sq241 rfl rfl k9d_q241_0 ix (Nat.zero_le ix) hne fun h1 =>
  k9d_end (y := 241) (cs := k9_c241) (n := 64) rfl k9d_sq241 (by decide +kernel) ix h1 hne
theorem k9d_sq242 : k9d_sq k9_c242 = true := by decide +kernel
theorem k9d_q242_0 : k9d_chk 242 prog_13_method_91_code (fun a => (k9_nth (0, 0, 0, 0) k9_w242 a).1) 64 (prog_13_method_91_code.data.toList.drop 0) (k9_c242.flatten.drop 0) (k9_w242.drop 0) = true := by decide +kernel
theorem k9d_a242 (ix : Nat) (hne : k9_cod 242 ix ≠ (0, 0, 0, 0, 0)) : k9_okP 242 ix :=
  k9d_ch (y := 242) (cs := k9_c242) (ws := k9_w242) (m := 64) (k := 0) (pc := 0) rfl rfl rfl k9d_sq242 rfl rfl k9d_q242_0 ix (Nat.zero_le ix) hne fun h1 =>
  k9d_end (y := 242) (cs := k9_c242) (n := 64) rfl k9d_sq242 (by decide +kernel) ix h1 hne
theorem k9d_sq243 : k9d_sq k9_c243 = true := by decide +kernel
theorem k9d_q243_0 : k9d_chk 243 prog_13_method_92_code (fun a => (k9_nth (0, 0, 0, 0) k9_w243 a).1) 64 (prog_13_method_92_code.data.toList.drop 0) (k9_c243.flatten.drop 0) (k9_w243.drop 0) = true := by decide +kernel
theorem k9d_a243 (ix : Nat) (hne : k9_cod 243 ix ≠ (0, 0, 0, 0, 0)) : k9_okP 243 ix :=
  k9d_ch (y := 243) (cs := k9_c243) (ws := k9_w243) (m := 64) (k := 0) (pc := 0) rfl rfl rfl k9d_sq243 rfl rfl k9d_q243_0 ix (Nat.zero_le ix) hne fun h1 =>
  k9d_end (y := 243) (cs := k9_c243) (n := 64) rfl k9d_sq243 (by decide +kernel) ix h1 hne
theorem k9d_sq244 : k9d_sq k9_c244 = true := by decide +kernel
theorem k9d_q244_0 : k9d_chk 244 prog_13_method_93_code (fun a => (k9_nth (0, 0, 0, 0) k9_w244 a).1) 64 (prog_13_method_93_code.data.toList.drop 0) (k9_c244.flatten.drop 0) (k9_w244.drop 0) = true := by decide +kernel
theorem k9d_q244_1 : k9d_chk 244 prog_13_method_93_code (fun a => (k9_nth (0, 0, 0, 0) k9_w244 a).1) 64 (prog_13_method_93_code.data.toList.drop 111) (k9_c244.flatten.drop 64) (k9_w244.drop 64) = true := by decide +kernel
theorem k9d_q244_2 : k9d_chk 244 prog_13_method_93_code (fun a => (k9_nth (0, 0, 0, 0) k9_w244 a).1) 64 (prog_13_method_93_code.data.toList.drop 218) (k9_c244.flatten.drop 128) (k9_w244.drop 128) = true := by decide +kernel
theorem k9d_a244 (ix : Nat) (hne : k9_cod 244 ix ≠ (0, 0, 0, 0, 0)) : k9_okP 244 ix :=
  k9d_ch (y := 244) (cs := k9_c244) (ws := k9_w244) (m := 64) (k := 0) (pc := 0) rfl rfl rfl k9d_sq244 rfl rfl k9d_q244_0 ix (Nat.zero_le ix) hne fun h1 =>
  k9d_ch (y := 244) (cs := k9_c244) (ws := k9_w244) (m := 64) (k := 64) (pc := 111) rfl rfl rfl k9d_sq244 rfl (by decide +kernel) k9d_q244_1 ix h1 hne fun h2 =>
  k9d_ch (y := 244) (cs := k9_c244) (ws := k9_w244) (m := 64) (k := 128) (pc := 218) rfl rfl rfl k9d_sq244 rfl (by decide +kernel) k9d_q244_2 ix h2 hne fun h3 =>
  k9d_end (y := 244) (cs := k9_c244) (n := 192) rfl k9d_sq244 (by decide +kernel) ix h3 hne
theorem k9d_sq245 : k9d_sq k9_c245 = true := by decide +kernel
theorem k9d_q245_0 : k9d_chk 245 prog_13_method_94_code (fun a => (k9_nth (0, 0, 0, 0) k9_w245 a).1) 64 (prog_13_method_94_code.data.toList.drop 0) (k9_c245.flatten.drop 0) (k9_w245.drop 0) = true := by decide +kernel
theorem k9d_a245 (ix : Nat) (hne : k9_cod 245 ix ≠ (0, 0, 0, 0, 0)) : k9_okP 245 ix :=
  k9d_ch (y := 245) (cs := k9_c245) (ws := k9_w245) (m := 64) (k := 0) (pc := 0) rfl rfl rfl k9d_sq245 rfl rfl k9d_q245_0 ix (Nat.zero_le ix) hne fun h1 =>
  k9d_end (y := 245) (cs := k9_c245) (n := 64) rfl k9d_sq245 (by decide +kernel) ix h1 hne
theorem k9d_sq246 : k9d_sq k9_c246 = true := by decide +kernel
theorem k9d_q246_0 : k9d_chk 246 prog_13_method_95_code (fun a => (k9_nth (0, 0, 0, 0) k9_w246 a).1) 64 (prog_13_method_95_code.data.toList.drop 0) (k9_c246.flatten.drop 0) (k9_w246.drop 0) = true := by decide +kernel
theorem k9d_a246 (ix : Nat) (hne : k9_cod 246 ix ≠ (0, 0, 0, 0, 0)) : k9_okP 246 ix :=
  k9d_ch (y := 246) (cs := k9_c246) (ws := k9_w246) (m := 64) (k := 0) (pc := 0) rfl rfl rfl k9d_sq246 rfl rfl k9d_q246_0 ix (Nat.zero_le ix) hne fun h1 =>
  k9d_end (y := 246) (cs := k9_c246) (n := 64) rfl k9d_sq246 (by decide +kernel) ix h1 hne
theorem k9d_sq247 : k9d_sq k9_c247 = true := by decide +kernel
theorem k9d_q247_0 : k9d_chk 247 code (fun a => (k9_nth (0, 0, 0, 0) k9_w247 a).1) 64 (code.data.toList.drop 0) (k9_c247.flatten.drop 0) (k9_w247.drop 0) = true := by decide +kernel
theorem k9d_q247_1 : k9d_chk 247 code (fun a => (k9_nth (0, 0, 0, 0) k9_w247 a).1) 64 (code.data.toList.drop 276) (k9_c247.flatten.drop 64) (k9_w247.drop 64) = true := by decide +kernel
theorem k9d_q247_2 : k9d_chk 247 code (fun a => (k9_nth (0, 0, 0, 0) k9_w247 a).1) 64 (code.data.toList.drop 352) (k9_c247.flatten.drop 128) (k9_w247.drop 128) = true := by decide +kernel
theorem k9d_q247_3 : k9d_chk 247 code (fun a => (k9_nth (0, 0, 0, 0) k9_w247 a).1) 64 (code.data.toList.drop 436) (k9_c247.flatten.drop 192) (k9_w247.drop 192) = true := by decide +kernel
theorem k9d_q247_4 : k9d_chk 247 code (fun a => (k9_nth (0, 0, 0, 0) k9_w247 a).1) 64 (code.data.toList.drop 522) (k9_c247.flatten.drop 256) (k9_w247.drop 256) = true := by decide +kernel
theorem k9d_q247_5 : k9d_chk 247 code (fun a => (k9_nth (0, 0, 0, 0) k9_w247 a).1) 64 (code.data.toList.drop 600) (k9_c247.flatten.drop 320) (k9_w247.drop 320) = true := by decide +kernel
theorem k9d_q247_6 : k9d_chk 247 code (fun a => (k9_nth (0, 0, 0, 0) k9_w247 a).1) 64 (code.data.toList.drop 688) (k9_c247.flatten.drop 384) (k9_w247.drop 384) = true := by decide +kernel
theorem k9d_q247_7 : k9d_chk 247 code (fun a => (k9_nth (0, 0, 0, 0) k9_w247 a).1) 64 (code.data.toList.drop 774) (k9_c247.flatten.drop 448) (k9_w247.drop 448) = true := by decide +kernel
theorem k9d_q247_8 : k9d_chk 247 code (fun a => (k9_nth (0, 0, 0, 0) k9_w247 a).1) 64 (code.data.toList.drop 852) (k9_c247.flatten.drop 512) (k9_w247.drop 512) = true := by decide +kernel
theorem k9d_q247_9 : k9d_chk 247 code (fun a => (k9_nth (0, 0, 0, 0) k9_w247 a).1) 64 (code.data.toList.drop 932) (k9_c247.flatten.drop 576) (k9_w247.drop 576) = true := by decide +kernel
theorem k9d_q247_10 : k9d_chk 247 code (fun a => (k9_nth (0, 0, 0, 0) k9_w247 a).1) 64 (code.data.toList.drop 1004) (k9_c247.flatten.drop 640) (k9_w247.drop 640) = true := by decide +kernel
theorem k9d_q247_11 : k9d_chk 247 code (fun a => (k9_nth (0, 0, 0, 0) k9_w247 a).1) 64 (code.data.toList.drop 1100) (k9_c247.flatten.drop 704) (k9_w247.drop 704) = true := by decide +kernel
theorem k9d_q247_12 : k9d_chk 247 code (fun a => (k9_nth (0, 0, 0, 0) k9_w247 a).1) 64 (code.data.toList.drop 1192) (k9_c247.flatten.drop 768) (k9_w247.drop 768) = true := by decide +kernel
theorem k9d_q247_13 : k9d_chk 247 code (fun a => (k9_nth (0, 0, 0, 0) k9_w247 a).1) 64 (code.data.toList.drop 1272) (k9_c247.flatten.drop 832) (k9_w247.drop 832) = true := by decide +kernel
theorem k9d_q247_14 : k9d_chk 247 code (fun a => (k9_nth (0, 0, 0, 0) k9_w247 a).1) 64 (code.data.toList.drop 1347) (k9_c247.flatten.drop 896) (k9_w247.drop 896) = true := by decide +kernel
theorem k9d_q247_15 : k9d_chk 247 code (fun a => (k9_nth (0, 0, 0, 0) k9_w247 a).1) 64 (code.data.toList.drop 1424) (k9_c247.flatten.drop 960) (k9_w247.drop 960) = true := by decide +kernel
theorem k9d_q247_16 : k9d_chk 247 code (fun a => (k9_nth (0, 0, 0, 0) k9_w247 a).1) 64 (code.data.toList.drop 1496) (k9_c247.flatten.drop 1024) (k9_w247.drop 1024) = true := by decide +kernel
theorem k9d_a247 (ix : Nat) (hne : k9_cod 247 ix ≠ (0, 0, 0, 0, 0)) : k9_okP 247 ix :=
  k9d_ch (y := 247) (cs := k9_c247) (ws := k9_w247) (m := 64) (k := 0) (pc := 0) rfl rfl rfl k9d_sq247 rfl rfl k9d_q247_0 ix (Nat.zero_le ix) hne fun h1 =>
  k9d_ch (y := 247) (cs := k9_c247) (ws := k9_w247) (m := 64) (k := 64) (pc := 276) rfl rfl rfl k9d_sq247 rfl (by decide +kernel) k9d_q247_1 ix h1 hne fun h2 =>
  k9d_ch (y := 247) (cs := k9_c247) (ws := k9_w247) (m := 64) (k := 128) (pc := 352) rfl rfl rfl k9d_sq247 rfl (by decide +kernel) k9d_q247_2 ix h2 hne fun h3 =>
  k9d_ch (y := 247) (cs := k9_c247) (ws := k9_w247) (m := 64) (k := 192) (pc := 436) rfl rfl rfl k9d_sq247 rfl (by decide +kernel) k9d_q247_3 ix h3 hne fun h4 =>
  k9d_ch (y := 247) (cs := k9_c247) (ws := k9_w247) (m := 64) (k := 256) (pc := 522) rfl rfl rfl k9d_sq247 rfl (by decide +kernel) k9d_q247_4 ix h4 hne fun h5 =>
  k9d_ch (y := 247) (cs := k9_c247) (ws := k9_w247) (m := 64) (k := 320) (pc := 600) rfl rfl rfl k9d_sq247 rfl (by decide +kernel) k9d_q247_5 ix h5 hne fun h6 =>
  k9d_ch (y := 247) (cs := k9_c247) (ws := k9_w247) (m := 64) (k := 384) (pc := 688) rfl rfl rfl k9d_sq247 rfl (by decide +kernel) k9d_q247_6 ix h6 hne fun h7 =>
  k9d_ch (y := 247) (cs := k9_c247) (ws := k9_w247) (m := 64) (k := 448) (pc := 774) rfl rfl rfl k9d_sq247 rfl (by decide +kernel) k9d_q247_7 ix h7 hne fun h8 =>
  k9d_ch (y := 247) (cs := k9_c247) (ws := k9_w247) (m := 64) (k := 512) (pc := 852) rfl rfl rfl k9d_sq247 rfl (by decide +kernel) k9d_q247_8 ix h8 hne fun h9 =>
  k9d_ch (y := 247) (cs := k9_c247) (ws := k9_w247) (m := 64) (k := 576) (pc := 932) rfl rfl rfl k9d_sq247 rfl (by decide +kernel) k9d_q247_9 ix h9 hne fun h10 =>
  k9d_ch (y := 247) (cs := k9_c247) (ws := k9_w247) (m := 64) (k := 640) (pc := 1004) rfl rfl rfl k9d_sq247 rfl (by decide +kernel) k9d_q247_10 ix h10 hne fun h11 =>
  k9d_ch (y := 247) (cs := k9_c247) (ws := k9_w247) (m := 64) (k := 704) (pc := 1100) rfl rfl rfl k9d_sq247 rfl (by decide +kernel) k9d_q247_11 ix h11 hne fun h12 =>
  k9d_ch (y := 247) (cs := k9_c247) (ws := k9_w247) (m := 64) (k := 768) (pc := 1192) rfl rfl rfl k9d_sq247 rfl (by decide +kernel) k9d_q247_12 ix h12 hne fun h13 =>
  k9d_ch (y := 247) (cs := k9_c247) (ws := k9_w247) (m := 64) (k := 832) (pc := 1272) rfl rfl rfl k9d_sq247 rfl (by decide +kernel) k9d_q247_13 ix h13 hne fun h14 =>
  k9d_ch (y := 247) (cs := k9_c247) (ws := k9_w247) (m := 64) (k := 896) (pc := 1347) rfl rfl rfl k9d_sq247 rfl (by decide +kernel) k9d_q247_14 ix h14 hne fun h15 =>
  k9d_ch (y := 247) (cs := k9_c247) (ws := k9_w247) (m := 64) (k := 960) (pc := 1424) rfl rfl rfl k9d_sq247 rfl (by decide +kernel) k9d_q247_15 ix h15 hne fun h16 =>
  k9d_ch (y := 247) (cs := k9_c247) (ws := k9_w247) (m := 64) (k := 1024) (pc := 1496) rfl rfl rfl k9d_sq247 rfl (by decide +kernel) k9d_q247_16 ix h16 hne fun h17 =>
  k9d_end (y := 247) (cs := k9_c247) (n := 1088) rfl k9d_sq247 (by decide +kernel) ix h17 hne
