/-! EACH INSTRUCTION: the rows -/
theorem k9d_q0_0 : k9d_chk 0 prog_11_method_2_code (fun a => (k9_nth (0, 0, 0, 0) k9_w0 a).1) 64 (prog_11_method_2_code.data.toList.drop 0) (k9_c0.drop 0) (k9_w0.drop 0) = true := by decide +kernel
theorem k9d_a0 (ix : Nat) (hne : k9_cod 0 ix ≠ (0, 0, 0, 0, 0)) : k9_okP 0 ix :=
  k9d_ch (m := 64) (k := 0) (pc := 0) rfl rfl rfl rfl rfl k9d_q0_0 ix (Nat.zero_le ix) hne fun h1 =>
  k9d_end (n := 64) rfl (by decide +kernel) ix h1 hne
theorem k9d_q1_0 : k9d_chk 1 prog_11_method_3_code (fun a => (k9_nth (0, 0, 0, 0) k9_w1 a).1) 64 (prog_11_method_3_code.data.toList.drop 0) (k9_c1.drop 0) (k9_w1.drop 0) = true := by decide +kernel
theorem k9d_a1 (ix : Nat) (hne : k9_cod 1 ix ≠ (0, 0, 0, 0, 0)) : k9_okP 1 ix :=
  k9d_ch (m := 64) (k := 0) (pc := 0) rfl rfl rfl rfl rfl k9d_q1_0 ix (Nat.zero_le ix) hne fun h1 =>
  k9d_end (n := 64) rfl (by decide +kernel) ix h1 hne
theorem k9d_q2_0 : k9d_chk 2 prog_11_method_4_code (fun a => (k9_nth (0, 0, 0, 0) k9_w2 a).1) 64 (prog_11_method_4_code.data.toList.drop 0) (k9_c2.drop 0) (k9_w2.drop 0) = true := by decide +kernel
theorem k9d_a2 (ix : Nat) (hne : k9_cod 2 ix ≠ (0, 0, 0, 0, 0)) : k9_okP 2 ix :=
  k9d_ch (m := 64) (k := 0) (pc := 0) rfl rfl rfl rfl rfl k9d_q2_0 ix (Nat.zero_le ix) hne fun h1 =>
  k9d_end (n := 64) rfl (by decide +kernel) ix h1 hne
theorem k9d_q3_0 : k9d_chk 3 prog_11_method_5_code (fun a => (k9_nth (0, 0, 0, 0) k9_w3 a).1) 64 (prog_11_method_5_code.data.toList.drop 0) (k9_c3.drop 0) (k9_w3.drop 0) = true := by decide +kernel
theorem k9d_a3 (ix : Nat) (hne : k9_cod 3 ix ≠ (0, 0, 0, 0, 0)) : k9_okP 3 ix :=
  k9d_ch (m := 64) (k := 0) (pc := 0) rfl rfl rfl rfl rfl k9d_q3_0 ix (Nat.zero_le ix) hne fun h1 =>
  k9d_end (n := 64) rfl (by decide +kernel) ix h1 hne
theorem k9d_q4_0 : k9d_chk 4 prog_11_method_6_code (fun a => (k9_nth (0, 0, 0, 0) k9_w4 a).1) 64 (prog_11_method_6_code.data.toList.drop 0) (k9_c4.drop 0) (k9_w4.drop 0) = true := by decide +kernel
theorem k9d_a4 (ix : Nat) (hne : k9_cod 4 ix ≠ (0, 0, 0, 0, 0)) : k9_okP 4 ix :=
  k9d_ch (m := 64) (k := 0) (pc := 0) rfl rfl rfl rfl rfl k9d_q4_0 ix (Nat.zero_le ix) hne fun h1 =>
  k9d_end (n := 64) rfl (by decide +kernel) ix h1 hne
theorem k9d_q5_0 : k9d_chk 5 prog_11_method_7_code (fun a => (k9_nth (0, 0, 0, 0) k9_w5 a).1) 64 (prog_11_method_7_code.data.toList.drop 0) (k9_c5.drop 0) (k9_w5.drop 0) = true := by decide +kernel
theorem k9d_a5 (ix : Nat) (hne : k9_cod 5 ix ≠ (0, 0, 0, 0, 0)) : k9_okP 5 ix :=
  k9d_ch (m := 64) (k := 0) (pc := 0) rfl rfl rfl rfl rfl k9d_q5_0 ix (Nat.zero_le ix) hne fun h1 =>
  k9d_end (n := 64) rfl (by decide +kernel) ix h1 hne
theorem k9d_q6_0 : k9d_chk 6 prog_11_method_8_code (fun a => (k9_nth (0, 0, 0, 0) k9_w6 a).1) 64 (prog_11_method_8_code.data.toList.drop 0) (k9_c6.drop 0) (k9_w6.drop 0) = true := by decide +kernel
theorem k9d_a6 (ix : Nat) (hne : k9_cod 6 ix ≠ (0, 0, 0, 0, 0)) : k9_okP 6 ix :=
  k9d_ch (m := 64) (k := 0) (pc := 0) rfl rfl rfl rfl rfl k9d_q6_0 ix (Nat.zero_le ix) hne fun h1 =>
  k9d_end (n := 64) rfl (by decide +kernel) ix h1 hne
theorem k9d_q7_0 : k9d_chk 7 prog_11_method_9_code (fun a => (k9_nth (0, 0, 0, 0) k9_w7 a).1) 64 (prog_11_method_9_code.data.toList.drop 0) (k9_c7.drop 0) (k9_w7.drop 0) = true := by decide +kernel
theorem k9d_a7 (ix : Nat) (hne : k9_cod 7 ix ≠ (0, 0, 0, 0, 0)) : k9_okP 7 ix :=
  k9d_ch (m := 64) (k := 0) (pc := 0) rfl rfl rfl rfl rfl k9d_q7_0 ix (Nat.zero_le ix) hne fun h1 =>
  k9d_end (n := 64) rfl (by decide +kernel) ix h1 hne
theorem k9d_q8_0 : k9d_chk 8 prog_11_method_10_code (fun a => (k9_nth (0, 0, 0, 0) k9_w8 a).1) 64 (prog_11_method_10_code.data.toList.drop 0) (k9_c8.drop 0) (k9_w8.drop 0) = true := by decide +kernel
theorem k9d_a8 (ix : Nat) (hne : k9_cod 8 ix ≠ (0, 0, 0, 0, 0)) : k9_okP 8 ix :=
  k9d_ch (m := 64) (k := 0) (pc := 0) rfl rfl rfl rfl rfl k9d_q8_0 ix (Nat.zero_le ix) hne fun h1 =>
  k9d_end (n := 64) rfl (by decide +kernel) ix h1 hne
theorem k9d_q9_0 : k9d_chk 9 prog_11_method_11_code (fun a => (k9_nth (0, 0, 0, 0) k9_w9 a).1) 64 (prog_11_method_11_code.data.toList.drop 0) (k9_c9.drop 0) (k9_w9.drop 0) = true := by decide +kernel
theorem k9d_a9 (ix : Nat) (hne : k9_cod 9 ix ≠ (0, 0, 0, 0, 0)) : k9_okP 9 ix :=
  k9d_ch (m := 64) (k := 0) (pc := 0) rfl rfl rfl rfl rfl k9d_q9_0 ix (Nat.zero_le ix) hne fun h1 =>
  k9d_end (n := 64) rfl (by decide +kernel) ix h1 hne
theorem k9d_q10_0 : k9d_chk 10 prog_11_method_12_code (fun a => (k9_nth (0, 0, 0, 0) k9_w10 a).1) 64 (prog_11_method_12_code.data.toList.drop 0) (k9_c10.drop 0) (k9_w10.drop 0) = true := by decide +kernel
theorem k9d_a10 (ix : Nat) (hne : k9_cod 10 ix ≠ (0, 0, 0, 0, 0)) : k9_okP 10 ix :=
  k9d_ch (m := 64) (k := 0) (pc := 0) rfl rfl rfl rfl rfl k9d_q10_0 ix (Nat.zero_le ix) hne fun h1 =>
  k9d_end (n := 64) rfl (by decide +kernel) ix h1 hne
theorem k9d_q11_0 : k9d_chk 11 prog_11_method_13_code (fun a => (k9_nth (0, 0, 0, 0) k9_w11 a).1) 64 (prog_11_method_13_code.data.toList.drop 0) (k9_c11.drop 0) (k9_w11.drop 0) = true := by decide +kernel
theorem k9d_a11 (ix : Nat) (hne : k9_cod 11 ix ≠ (0, 0, 0, 0, 0)) : k9_okP 11 ix :=
  k9d_ch (m := 64) (k := 0) (pc := 0) rfl rfl rfl rfl rfl k9d_q11_0 ix (Nat.zero_le ix) hne fun h1 =>
  k9d_end (n := 64) rfl (by decide +kernel) ix h1 hne
theorem k9d_q12_0 : k9d_chk 12 prog_11_method_14_code (fun a => (k9_nth (0, 0, 0, 0) k9_w12 a).1) 64 (prog_11_method_14_code.data.toList.drop 0) (k9_c12.drop 0) (k9_w12.drop 0) = true := by decide +kernel
theorem k9d_a12 (ix : Nat) (hne : k9_cod 12 ix ≠ (0, 0, 0, 0, 0)) : k9_okP 12 ix :=
  k9d_ch (m := 64) (k := 0) (pc := 0) rfl rfl rfl rfl rfl k9d_q12_0 ix (Nat.zero_le ix) hne fun h1 =>
  k9d_end (n := 64) rfl (by decide +kernel) ix h1 hne
theorem k9d_q13_0 : k9d_chk 13 prog_11_method_15_code (fun a => (k9_nth (0, 0, 0, 0) k9_w13 a).1) 64 (prog_11_method_15_code.data.toList.drop 0) (k9_c13.drop 0) (k9_w13.drop 0) = true := by decide +kernel
theorem k9d_a13 (ix : Nat) (hne : k9_cod 13 ix ≠ (0, 0, 0, 0, 0)) : k9_okP 13 ix :=
  k9d_ch (m := 64) (k := 0) (pc := 0) rfl rfl rfl rfl rfl k9d_q13_0 ix (Nat.zero_le ix) hne fun h1 =>
  k9d_end (n := 64) rfl (by decide +kernel) ix h1 hne
theorem k9d_q14_0 : k9d_chk 14 prog_11_method_16_code (fun a => (k9_nth (0, 0, 0, 0) k9_w14 a).1) 64 (prog_11_method_16_code.data.toList.drop 0) (k9_c14.drop 0) (k9_w14.drop 0) = true := by decide +kernel
theorem k9d_a14 (ix : Nat) (hne : k9_cod 14 ix ≠ (0, 0, 0, 0, 0)) : k9_okP 14 ix :=
  k9d_ch (m := 64) (k := 0) (pc := 0) rfl rfl rfl rfl rfl k9d_q14_0 ix (Nat.zero_le ix) hne fun h1 =>
  k9d_end (n := 64) rfl (by decide +kernel) ix h1 hne
theorem k9d_q15_0 : k9d_chk 15 prog_11_method_17_code (fun a => (k9_nth (0, 0, 0, 0) k9_w15 a).1) 64 (prog_11_method_17_code.data.toList.drop 0) (k9_c15.drop 0) (k9_w15.drop 0) = true := by decide +kernel
theorem k9d_a15 (ix : Nat) (hne : k9_cod 15 ix ≠ (0, 0, 0, 0, 0)) : k9_okP 15 ix :=
  k9d_ch (m := 64) (k := 0) (pc := 0) rfl rfl rfl rfl rfl k9d_q15_0 ix (Nat.zero_le ix) hne fun h1 =>
  k9d_end (n := 64) rfl (by decide +kernel) ix h1 hne
theorem k9d_q16_0 : k9d_chk 16 prog_11_method_18_code (fun a => (k9_nth (0, 0, 0, 0) k9_w16 a).1) 64 (prog_11_method_18_code.data.toList.drop 0) (k9_c16.drop 0) (k9_w16.drop 0) = true := by decide +kernel
theorem k9d_a16 (ix : Nat) (hne : k9_cod 16 ix ≠ (0, 0, 0, 0, 0)) : k9_okP 16 ix :=
  k9d_ch (m := 64) (k := 0) (pc := 0) rfl rfl rfl rfl rfl k9d_q16_0 ix (Nat.zero_le ix) hne fun h1 =>
  k9d_end (n := 64) rfl (by decide +kernel) ix h1 hne
theorem k9d_q17_0 : k9d_chk 17 prog_11_method_19_code (fun a => (k9_nth (0, 0, 0, 0) k9_w17 a).1) 64 (prog_11_method_19_code.data.toList.drop 0) (k9_c17.drop 0) (k9_w17.drop 0) = true := by decide +kernel
theorem k9d_a17 (ix : Nat) (hne : k9_cod 17 ix ≠ (0, 0, 0, 0, 0)) : k9_okP 17 ix :=
  k9d_ch (m := 64) (k := 0) (pc := 0) rfl rfl rfl rfl rfl k9d_q17_0 ix (Nat.zero_le ix) hne fun h1 =>
  k9d_end (n := 64) rfl (by decide +kernel) ix h1 hne
theorem k9d_q18_0 : k9d_chk 18 prog_11_method_20_code (fun a => (k9_nth (0, 0, 0, 0) k9_w18 a).1) 64 (prog_11_method_20_code.data.toList.drop 0) (k9_c18.drop 0) (k9_w18.drop 0) = true := by decide +kernel
theorem k9d_a18 (ix : Nat) (hne : k9_cod 18 ix ≠ (0, 0, 0, 0, 0)) : k9_okP 18 ix :=
  k9d_ch (m := 64) (k := 0) (pc := 0) rfl rfl rfl rfl rfl k9d_q18_0 ix (Nat.zero_le ix) hne fun h1 =>
  k9d_end (n := 64) rfl (by decide +kernel) ix h1 hne
theorem k9d_q19_0 : k9d_chk 19 prog_11_method_21_code (fun a => (k9_nth (0, 0, 0, 0) k9_w19 a).1) 64 (prog_11_method_21_code.data.toList.drop 0) (k9_c19.drop 0) (k9_w19.drop 0) = true := by decide +kernel
theorem k9d_a19 (ix : Nat) (hne : k9_cod 19 ix ≠ (0, 0, 0, 0, 0)) : k9_okP 19 ix :=
  k9d_ch (m := 64) (k := 0) (pc := 0) rfl rfl rfl rfl rfl k9d_q19_0 ix (Nat.zero_le ix) hne fun h1 =>
  k9d_end (n := 64) rfl (by decide +kernel) ix h1 hne
theorem k9d_q20_0 : k9d_chk 20 prog_10_method_2_code (fun a => (k9_nth (0, 0, 0, 0) k9_w20 a).1) 64 (prog_10_method_2_code.data.toList.drop 0) (k9_c20.drop 0) (k9_w20.drop 0) = true := by decide +kernel
theorem k9d_a20 (ix : Nat) (hne : k9_cod 20 ix ≠ (0, 0, 0, 0, 0)) : k9_okP 20 ix :=
  k9d_ch (m := 64) (k := 0) (pc := 0) rfl rfl rfl rfl rfl k9d_q20_0 ix (Nat.zero_le ix) hne fun h1 =>
  k9d_end (n := 64) rfl (by decide +kernel) ix h1 hne
theorem k9d_q21_0 : k9d_chk 21 prog_10_method_3_code (fun a => (k9_nth (0, 0, 0, 0) k9_w21 a).1) 64 (prog_10_method_3_code.data.toList.drop 0) (k9_c21.drop 0) (k9_w21.drop 0) = true := by decide +kernel
theorem k9d_q21_1 : k9d_chk 21 prog_10_method_3_code (fun a => (k9_nth (0, 0, 0, 0) k9_w21 a).1) 64 (prog_10_method_3_code.data.toList.drop 118) (k9_c21.drop 64) (k9_w21.drop 64) = true := by decide +kernel
theorem k9d_a21 (ix : Nat) (hne : k9_cod 21 ix ≠ (0, 0, 0, 0, 0)) : k9_okP 21 ix :=
  k9d_ch (m := 64) (k := 0) (pc := 0) rfl rfl rfl rfl rfl k9d_q21_0 ix (Nat.zero_le ix) hne fun h1 =>
  k9d_ch (m := 64) (k := 64) (pc := 118) rfl rfl rfl rfl (by decide +kernel) k9d_q21_1 ix h1 hne fun h2 =>
  k9d_end (n := 128) rfl (by decide +kernel) ix h2 hne
theorem k9d_q22_0 : k9d_chk 22 prog_10_method_4_code (fun a => (k9_nth (0, 0, 0, 0) k9_w22 a).1) 64 (prog_10_method_4_code.data.toList.drop 0) (k9_c22.drop 0) (k9_w22.drop 0) = true := by decide +kernel
theorem k9d_a22 (ix : Nat) (hne : k9_cod 22 ix ≠ (0, 0, 0, 0, 0)) : k9_okP 22 ix :=
  k9d_ch (m := 64) (k := 0) (pc := 0) rfl rfl rfl rfl rfl k9d_q22_0 ix (Nat.zero_le ix) hne fun h1 =>
  k9d_end (n := 64) rfl (by decide +kernel) ix h1 hne
theorem k9d_q23_0 : k9d_chk 23 prog_10_method_5_code (fun a => (k9_nth (0, 0, 0, 0) k9_w23 a).1) 64 (prog_10_method_5_code.data.toList.drop 0) (k9_c23.drop 0) (k9_w23.drop 0) = true := by decide +kernel
theorem k9d_a23 (ix : Nat) (hne : k9_cod 23 ix ≠ (0, 0, 0, 0, 0)) : k9_okP 23 ix :=
  k9d_ch (m := 64) (k := 0) (pc := 0) rfl rfl rfl rfl rfl k9d_q23_0 ix (Nat.zero_le ix) hne fun h1 =>
  k9d_end (n := 64) rfl (by decide +kernel) ix h1 hne
theorem k9d_q24_0 : k9d_chk 24 prog_10_method_6_code (fun a => (k9_nth (0, 0, 0, 0) k9_w24 a).1) 64 (prog_10_method_6_code.data.toList.drop 0) (k9_c24.drop 0) (k9_w24.drop 0) = true := by decide +kernel
theorem k9d_a24 (ix : Nat) (hne : k9_cod 24 ix ≠ (0, 0, 0, 0, 0)) : k9_okP 24 ix :=
  k9d_ch (m := 64) (k := 0) (pc := 0) rfl rfl rfl rfl rfl k9d_q24_0 ix (Nat.zero_le ix) hne fun h1 =>
  k9d_end (n := 64) rfl (by decide +kernel) ix h1 hne
theorem k9d_q25_0 : k9d_chk 25 prog_5_method_2_code (fun a => (k9_nth (0, 0, 0, 0) k9_w25 a).1) 64 (prog_5_method_2_code.data.toList.drop 0) (k9_c25.drop 0) (k9_w25.drop 0) = true := by decide +kernel
theorem k9d_a25 (ix : Nat) (hne : k9_cod 25 ix ≠ (0, 0, 0, 0, 0)) : k9_okP 25 ix :=
  k9d_ch (m := 64) (k := 0) (pc := 0) rfl rfl rfl rfl rfl k9d_q25_0 ix (Nat.zero_le ix) hne fun h1 =>
  k9d_end (n := 64) rfl (by decide +kernel) ix h1 hne
theorem k9d_q26_0 : k9d_chk 26 prog_5_method_3_code (fun a => (k9_nth (0, 0, 0, 0) k9_w26 a).1) 64 (prog_5_method_3_code.data.toList.drop 0) (k9_c26.drop 0) (k9_w26.drop 0) = true := by decide +kernel
theorem k9d_a26 (ix : Nat) (hne : k9_cod 26 ix ≠ (0, 0, 0, 0, 0)) : k9_okP 26 ix :=
  k9d_ch (m := 64) (k := 0) (pc := 0) rfl rfl rfl rfl rfl k9d_q26_0 ix (Nat.zero_le ix) hne fun h1 =>
  k9d_end (n := 64) rfl (by decide +kernel) ix h1 hne
theorem k9d_q27_0 : k9d_chk 27 prog_5_method_4_code (fun a => (k9_nth (0, 0, 0, 0) k9_w27 a).1) 64 (prog_5_method_4_code.data.toList.drop 0) (k9_c27.drop 0) (k9_w27.drop 0) = true := by decide +kernel
theorem k9d_a27 (ix : Nat) (hne : k9_cod 27 ix ≠ (0, 0, 0, 0, 0)) : k9_okP 27 ix :=
  k9d_ch (m := 64) (k := 0) (pc := 0) rfl rfl rfl rfl rfl k9d_q27_0 ix (Nat.zero_le ix) hne fun h1 =>
  k9d_end (n := 64) rfl (by decide +kernel) ix h1 hne
theorem k9d_q28_0 : k9d_chk 28 prog_5_method_5_code (fun a => (k9_nth (0, 0, 0, 0) k9_w28 a).1) 64 (prog_5_method_5_code.data.toList.drop 0) (k9_c28.drop 0) (k9_w28.drop 0) = true := by decide +kernel
theorem k9d_a28 (ix : Nat) (hne : k9_cod 28 ix ≠ (0, 0, 0, 0, 0)) : k9_okP 28 ix :=
  k9d_ch (m := 64) (k := 0) (pc := 0) rfl rfl rfl rfl rfl k9d_q28_0 ix (Nat.zero_le ix) hne fun h1 =>
  k9d_end (n := 64) rfl (by decide +kernel) ix h1 hne
theorem k9d_q29_0 : k9d_chk 29 prog_5_method_6_code (fun a => (k9_nth (0, 0, 0, 0) k9_w29 a).1) 64 (prog_5_method_6_code.data.toList.drop 0) (k9_c29.drop 0) (k9_w29.drop 0) = true := by decide +kernel
theorem k9d_a29 (ix : Nat) (hne : k9_cod 29 ix ≠ (0, 0, 0, 0, 0)) : k9_okP 29 ix :=
  k9d_ch (m := 64) (k := 0) (pc := 0) rfl rfl rfl rfl rfl k9d_q29_0 ix (Nat.zero_le ix) hne fun h1 =>
  k9d_end (n := 64) rfl (by decide +kernel) ix h1 hne
theorem k9d_q30_0 : k9d_chk 30 prog_5_method_7_code (fun a => (k9_nth (0, 0, 0, 0) k9_w30 a).1) 64 (prog_5_method_7_code.data.toList.drop 0) (k9_c30.drop 0) (k9_w30.drop 0) = true := by decide +kernel
theorem k9d_a30 (ix : Nat) (hne : k9_cod 30 ix ≠ (0, 0, 0, 0, 0)) : k9_okP 30 ix :=
  k9d_ch (m := 64) (k := 0) (pc := 0) rfl rfl rfl rfl rfl k9d_q30_0 ix (Nat.zero_le ix) hne fun h1 =>
  k9d_end (n := 64) rfl (by decide +kernel) ix h1 hne
theorem k9d_q31_0 : k9d_chk 31 prog_5_method_8_code (fun a => (k9_nth (0, 0, 0, 0) k9_w31 a).1) 64 (prog_5_method_8_code.data.toList.drop 0) (k9_c31.drop 0) (k9_w31.drop 0) = true := by decide +kernel
theorem k9d_a31 (ix : Nat) (hne : k9_cod 31 ix ≠ (0, 0, 0, 0, 0)) : k9_okP 31 ix :=
  k9d_ch (m := 64) (k := 0) (pc := 0) rfl rfl rfl rfl rfl k9d_q31_0 ix (Nat.zero_le ix) hne fun h1 =>
  k9d_end (n := 64) rfl (by decide +kernel) ix h1 hne
theorem k9d_q32_0 : k9d_chk 32 prog_5_method_9_code (fun a => (k9_nth (0, 0, 0, 0) k9_w32 a).1) 64 (prog_5_method_9_code.data.toList.drop 0) (k9_c32.drop 0) (k9_w32.drop 0) = true := by decide +kernel
theorem k9d_q32_1 : k9d_chk 32 prog_5_method_9_code (fun a => (k9_nth (0, 0, 0, 0) k9_w32 a).1) 64 (prog_5_method_9_code.data.toList.drop 109) (k9_c32.drop 64) (k9_w32.drop 64) = true := by decide +kernel
theorem k9d_a32 (ix : Nat) (hne : k9_cod 32 ix ≠ (0, 0, 0, 0, 0)) : k9_okP 32 ix :=
  k9d_ch (m := 64) (k := 0) (pc := 0) rfl rfl rfl rfl rfl k9d_q32_0 ix (Nat.zero_le ix) hne fun h1 =>
  k9d_ch (m := 64) (k := 64) (pc := 109) rfl rfl rfl rfl (by decide +kernel) k9d_q32_1 ix h1 hne fun h2 =>
  k9d_end (n := 128) rfl (by decide +kernel) ix h2 hne
theorem k9d_q33_0 : k9d_chk 33 prog_5_method_10_code (fun a => (k9_nth (0, 0, 0, 0) k9_w33 a).1) 64 (prog_5_method_10_code.data.toList.drop 0) (k9_c33.drop 0) (k9_w33.drop 0) = true := by decide +kernel
theorem k9d_a33 (ix : Nat) (hne : k9_cod 33 ix ≠ (0, 0, 0, 0, 0)) : k9_okP 33 ix :=
  k9d_ch (m := 64) (k := 0) (pc := 0) rfl rfl rfl rfl rfl k9d_q33_0 ix (Nat.zero_le ix) hne fun h1 =>
  k9d_end (n := 64) rfl (by decide +kernel) ix h1 hne
theorem k9d_q34_0 : k9d_chk 34 prog_8_method_2_code (fun a => (k9_nth (0, 0, 0, 0) k9_w34 a).1) 64 (prog_8_method_2_code.data.toList.drop 0) (k9_c34.drop 0) (k9_w34.drop 0) = true := by decide +kernel
theorem k9d_a34 (ix : Nat) (hne : k9_cod 34 ix ≠ (0, 0, 0, 0, 0)) : k9_okP 34 ix :=
  k9d_ch (m := 64) (k := 0) (pc := 0) rfl rfl rfl rfl rfl k9d_q34_0 ix (Nat.zero_le ix) hne fun h1 =>
  k9d_end (n := 64) rfl (by decide +kernel) ix h1 hne
theorem k9d_q35_0 : k9d_chk 35 prog_8_method_3_code (fun a => (k9_nth (0, 0, 0, 0) k9_w35 a).1) 64 (prog_8_method_3_code.data.toList.drop 0) (k9_c35.drop 0) (k9_w35.drop 0) = true := by decide +kernel
theorem k9d_a35 (ix : Nat) (hne : k9_cod 35 ix ≠ (0, 0, 0, 0, 0)) : k9_okP 35 ix :=
  k9d_ch (m := 64) (k := 0) (pc := 0) rfl rfl rfl rfl rfl k9d_q35_0 ix (Nat.zero_le ix) hne fun h1 =>
  k9d_end (n := 64) rfl (by decide +kernel) ix h1 hne
theorem k9d_q36_0 : k9d_chk 36 prog_8_method_4_code (fun a => (k9_nth (0, 0, 0, 0) k9_w36 a).1) 64 (prog_8_method_4_code.data.toList.drop 0) (k9_c36.drop 0) (k9_w36.drop 0) = true := by decide +kernel
theorem k9d_a36 (ix : Nat) (hne : k9_cod 36 ix ≠ (0, 0, 0, 0, 0)) : k9_okP 36 ix :=
  k9d_ch (m := 64) (k := 0) (pc := 0) rfl rfl rfl rfl rfl k9d_q36_0 ix (Nat.zero_le ix) hne fun h1 =>
  k9d_end (n := 64) rfl (by decide +kernel) ix h1 hne
theorem k9d_q37_0 : k9d_chk 37 prog_8_method_5_code (fun a => (k9_nth (0, 0, 0, 0) k9_w37 a).1) 64 (prog_8_method_5_code.data.toList.drop 0) (k9_c37.drop 0) (k9_w37.drop 0) = true := by decide +kernel
theorem k9d_a37 (ix : Nat) (hne : k9_cod 37 ix ≠ (0, 0, 0, 0, 0)) : k9_okP 37 ix :=
  k9d_ch (m := 64) (k := 0) (pc := 0) rfl rfl rfl rfl rfl k9d_q37_0 ix (Nat.zero_le ix) hne fun h1 =>
  k9d_end (n := 64) rfl (by decide +kernel) ix h1 hne
theorem k9d_q38_0 : k9d_chk 38 prog_8_method_6_code (fun a => (k9_nth (0, 0, 0, 0) k9_w38 a).1) 64 (prog_8_method_6_code.data.toList.drop 0) (k9_c38.drop 0) (k9_w38.drop 0) = true := by decide +kernel
theorem k9d_a38 (ix : Nat) (hne : k9_cod 38 ix ≠ (0, 0, 0, 0, 0)) : k9_okP 38 ix :=
  k9d_ch (m := 64) (k := 0) (pc := 0) rfl rfl rfl rfl rfl k9d_q38_0 ix (Nat.zero_le ix) hne fun h1 =>
  k9d_end (n := 64) rfl (by decide +kernel) ix h1 hne
theorem k9d_q39_0 : k9d_chk 39 prog_8_method_7_code (fun a => (k9_nth (0, 0, 0, 0) k9_w39 a).1) 64 (prog_8_method_7_code.data.toList.drop 0) (k9_c39.drop 0) (k9_w39.drop 0) = true := by decide +kernel
theorem k9d_q39_1 : k9d_chk 39 prog_8_method_7_code (fun a => (k9_nth (0, 0, 0, 0) k9_w39 a).1) 64 (prog_8_method_7_code.data.toList.drop 114) (k9_c39.drop 64) (k9_w39.drop 64) = true := by decide +kernel
theorem k9d_a39 (ix : Nat) (hne : k9_cod 39 ix ≠ (0, 0, 0, 0, 0)) : k9_okP 39 ix :=
  k9d_ch (m := 64) (k := 0) (pc := 0) rfl rfl rfl rfl rfl k9d_q39_0 ix (Nat.zero_le ix) hne fun h1 =>
  k9d_ch (m := 64) (k := 64) (pc := 114) rfl rfl rfl rfl (by decide +kernel) k9d_q39_1 ix h1 hne fun h2 =>
  k9d_end (n := 128) rfl (by decide +kernel) ix h2 hne
theorem k9d_q40_0 : k9d_chk 40 prog_8_method_8_code (fun a => (k9_nth (0, 0, 0, 0) k9_w40 a).1) 64 (prog_8_method_8_code.data.toList.drop 0) (k9_c40.drop 0) (k9_w40.drop 0) = true := by decide +kernel
theorem k9d_a40 (ix : Nat) (hne : k9_cod 40 ix ≠ (0, 0, 0, 0, 0)) : k9_okP 40 ix :=
  k9d_ch (m := 64) (k := 0) (pc := 0) rfl rfl rfl rfl rfl k9d_q40_0 ix (Nat.zero_le ix) hne fun h1 =>
  k9d_end (n := 64) rfl (by decide +kernel) ix h1 hne
theorem k9d_q41_0 : k9d_chk 41 prog_8_method_9_code (fun a => (k9_nth (0, 0, 0, 0) k9_w41 a).1) 64 (prog_8_method_9_code.data.toList.drop 0) (k9_c41.drop 0) (k9_w41.drop 0) = true := by decide +kernel
theorem k9d_a41 (ix : Nat) (hne : k9_cod 41 ix ≠ (0, 0, 0, 0, 0)) : k9_okP 41 ix :=
  k9d_ch (m := 64) (k := 0) (pc := 0) rfl rfl rfl rfl rfl k9d_q41_0 ix (Nat.zero_le ix) hne fun h1 =>
  k9d_end (n := 64) rfl (by decide +kernel) ix h1 hne
theorem k9d_q42_0 : k9d_chk 42 prog_8_method_10_code (fun a => (k9_nth (0, 0, 0, 0) k9_w42 a).1) 64 (prog_8_method_10_code.data.toList.drop 0) (k9_c42.drop 0) (k9_w42.drop 0) = true := by decide +kernel
theorem k9d_a42 (ix : Nat) (hne : k9_cod 42 ix ≠ (0, 0, 0, 0, 0)) : k9_okP 42 ix :=
  k9d_ch (m := 64) (k := 0) (pc := 0) rfl rfl rfl rfl rfl k9d_q42_0 ix (Nat.zero_le ix) hne fun h1 =>
  k9d_end (n := 64) rfl (by decide +kernel) ix h1 hne
theorem k9d_q43_0 : k9d_chk 43 prog_8_method_11_code (fun a => (k9_nth (0, 0, 0, 0) k9_w43 a).1) 64 (prog_8_method_11_code.data.toList.drop 0) (k9_c43.drop 0) (k9_w43.drop 0) = true := by decide +kernel
theorem k9d_a43 (ix : Nat) (hne : k9_cod 43 ix ≠ (0, 0, 0, 0, 0)) : k9_okP 43 ix :=
  k9d_ch (m := 64) (k := 0) (pc := 0) rfl rfl rfl rfl rfl k9d_q43_0 ix (Nat.zero_le ix) hne fun h1 =>
  k9d_end (n := 64) rfl (by decide +kernel) ix h1 hne
theorem k9d_q44_0 : k9d_chk 44 prog_8_method_12_code (fun a => (k9_nth (0, 0, 0, 0) k9_w44 a).1) 64 (prog_8_method_12_code.data.toList.drop 0) (k9_c44.drop 0) (k9_w44.drop 0) = true := by decide +kernel
theorem k9d_a44 (ix : Nat) (hne : k9_cod 44 ix ≠ (0, 0, 0, 0, 0)) : k9_okP 44 ix :=
  k9d_ch (m := 64) (k := 0) (pc := 0) rfl rfl rfl rfl rfl k9d_q44_0 ix (Nat.zero_le ix) hne fun h1 =>
  k9d_end (n := 64) rfl (by decide +kernel) ix h1 hne
theorem k9d_q45_0 : k9d_chk 45 prog_8_method_13_code (fun a => (k9_nth (0, 0, 0, 0) k9_w45 a).1) 64 (prog_8_method_13_code.data.toList.drop 0) (k9_c45.drop 0) (k9_w45.drop 0) = true := by decide +kernel
theorem k9d_a45 (ix : Nat) (hne : k9_cod 45 ix ≠ (0, 0, 0, 0, 0)) : k9_okP 45 ix :=
  k9d_ch (m := 64) (k := 0) (pc := 0) rfl rfl rfl rfl rfl k9d_q45_0 ix (Nat.zero_le ix) hne fun h1 =>
  k9d_end (n := 64) rfl (by decide +kernel) ix h1 hne
theorem k9d_q46_0 : k9d_chk 46 prog_8_method_14_code (fun a => (k9_nth (0, 0, 0, 0) k9_w46 a).1) 64 (prog_8_method_14_code.data.toList.drop 0) (k9_c46.drop 0) (k9_w46.drop 0) = true := by decide +kernel
theorem k9d_a46 (ix : Nat) (hne : k9_cod 46 ix ≠ (0, 0, 0, 0, 0)) : k9_okP 46 ix :=
  k9d_ch (m := 64) (k := 0) (pc := 0) rfl rfl rfl rfl rfl k9d_q46_0 ix (Nat.zero_le ix) hne fun h1 =>
  k9d_end (n := 64) rfl (by decide +kernel) ix h1 hne
theorem k9d_q47_0 : k9d_chk 47 prog_4_method_2_code (fun a => (k9_nth (0, 0, 0, 0) k9_w47 a).1) 64 (prog_4_method_2_code.data.toList.drop 0) (k9_c47.drop 0) (k9_w47.drop 0) = true := by decide +kernel
theorem k9d_a47 (ix : Nat) (hne : k9_cod 47 ix ≠ (0, 0, 0, 0, 0)) : k9_okP 47 ix :=
  k9d_ch (m := 64) (k := 0) (pc := 0) rfl rfl rfl rfl rfl k9d_q47_0 ix (Nat.zero_le ix) hne fun h1 =>
  k9d_end (n := 64) rfl (by decide +kernel) ix h1 hne
theorem k9d_q48_0 : k9d_chk 48 prog_4_method_3_code (fun a => (k9_nth (0, 0, 0, 0) k9_w48 a).1) 64 (prog_4_method_3_code.data.toList.drop 0) (k9_c48.drop 0) (k9_w48.drop 0) = true := by decide +kernel
theorem k9d_q48_1 : k9d_chk 48 prog_4_method_3_code (fun a => (k9_nth (0, 0, 0, 0) k9_w48 a).1) 64 (prog_4_method_3_code.data.toList.drop 128) (k9_c48.drop 64) (k9_w48.drop 64) = true := by decide +kernel
theorem k9d_a48 (ix : Nat) (hne : k9_cod 48 ix ≠ (0, 0, 0, 0, 0)) : k9_okP 48 ix :=
  k9d_ch (m := 64) (k := 0) (pc := 0) rfl rfl rfl rfl rfl k9d_q48_0 ix (Nat.zero_le ix) hne fun h1 =>
  k9d_ch (m := 64) (k := 64) (pc := 128) rfl rfl rfl rfl (by decide +kernel) k9d_q48_1 ix h1 hne fun h2 =>
  k9d_end (n := 128) rfl (by decide +kernel) ix h2 hne
theorem k9d_q49_0 : k9d_chk 49 prog_4_method_4_code (fun a => (k9_nth (0, 0, 0, 0) k9_w49 a).1) 64 (prog_4_method_4_code.data.toList.drop 0) (k9_c49.drop 0) (k9_w49.drop 0) = true := by decide +kernel
theorem k9d_a49 (ix : Nat) (hne : k9_cod 49 ix ≠ (0, 0, 0, 0, 0)) : k9_okP 49 ix :=
  k9d_ch (m := 64) (k := 0) (pc := 0) rfl rfl rfl rfl rfl k9d_q49_0 ix (Nat.zero_le ix) hne fun h1 =>
  k9d_end (n := 64) rfl (by decide +kernel) ix h1 hne
theorem k9d_q50_0 : k9d_chk 50 prog_4_method_5_code (fun a => (k9_nth (0, 0, 0, 0) k9_w50 a).1) 64 (prog_4_method_5_code.data.toList.drop 0) (k9_c50.drop 0) (k9_w50.drop 0) = true := by decide +kernel
theorem k9d_q50_1 : k9d_chk 50 prog_4_method_5_code (fun a => (k9_nth (0, 0, 0, 0) k9_w50 a).1) 64 (prog_4_method_5_code.data.toList.drop 178) (k9_c50.drop 64) (k9_w50.drop 64) = true := by decide +kernel
theorem k9d_a50 (ix : Nat) (hne : k9_cod 50 ix ≠ (0, 0, 0, 0, 0)) : k9_okP 50 ix :=
  k9d_ch (m := 64) (k := 0) (pc := 0) rfl rfl rfl rfl rfl k9d_q50_0 ix (Nat.zero_le ix) hne fun h1 =>
  k9d_ch (m := 64) (k := 64) (pc := 178) rfl rfl rfl rfl (by decide +kernel) k9d_q50_1 ix h1 hne fun h2 =>
  k9d_end (n := 128) rfl (by decide +kernel) ix h2 hne
theorem k9d_q51_0 : k9d_chk 51 prog_4_method_6_code (fun a => (k9_nth (0, 0, 0, 0) k9_w51 a).1) 64 (prog_4_method_6_code.data.toList.drop 0) (k9_c51.drop 0) (k9_w51.drop 0) = true := by decide +kernel
theorem k9d_a51 (ix : Nat) (hne : k9_cod 51 ix ≠ (0, 0, 0, 0, 0)) : k9_okP 51 ix :=
  k9d_ch (m := 64) (k := 0) (pc := 0) rfl rfl rfl rfl rfl k9d_q51_0 ix (Nat.zero_le ix) hne fun h1 =>
  k9d_end (n := 64) rfl (by decide +kernel) ix h1 hne
theorem k9d_q52_0 : k9d_chk 52 prog_4_method_7_code (fun a => (k9_nth (0, 0, 0, 0) k9_w52 a).1) 64 (prog_4_method_7_code.data.toList.drop 0) (k9_c52.drop 0) (k9_w52.drop 0) = true := by decide +kernel
theorem k9d_a52 (ix : Nat) (hne : k9_cod 52 ix ≠ (0, 0, 0, 0, 0)) : k9_okP 52 ix :=
  k9d_ch (m := 64) (k := 0) (pc := 0) rfl rfl rfl rfl rfl k9d_q52_0 ix (Nat.zero_le ix) hne fun h1 =>
  k9d_end (n := 64) rfl (by decide +kernel) ix h1 hne
theorem k9d_q53_0 : k9d_chk 53 prog_2_method_2_code (fun a => (k9_nth (0, 0, 0, 0) k9_w53 a).1) 64 (prog_2_method_2_code.data.toList.drop 0) (k9_c53.drop 0) (k9_w53.drop 0) = true := by decide +kernel
theorem k9d_a53 (ix : Nat) (hne : k9_cod 53 ix ≠ (0, 0, 0, 0, 0)) : k9_okP 53 ix :=
  k9d_ch (m := 64) (k := 0) (pc := 0) rfl rfl rfl rfl rfl k9d_q53_0 ix (Nat.zero_le ix) hne fun h1 =>
  k9d_end (n := 64) rfl (by decide +kernel) ix h1 hne
theorem k9d_q54_0 : k9d_chk 54 prog_2_method_3_code (fun a => (k9_nth (0, 0, 0, 0) k9_w54 a).1) 64 (prog_2_method_3_code.data.toList.drop 0) (k9_c54.drop 0) (k9_w54.drop 0) = true := by decide +kernel
theorem k9d_q54_1 : k9d_chk 54 prog_2_method_3_code (fun a => (k9_nth (0, 0, 0, 0) k9_w54 a).1) 64 (prog_2_method_3_code.data.toList.drop 135) (k9_c54.drop 64) (k9_w54.drop 64) = true := by decide +kernel
theorem k9d_a54 (ix : Nat) (hne : k9_cod 54 ix ≠ (0, 0, 0, 0, 0)) : k9_okP 54 ix :=
  k9d_ch (m := 64) (k := 0) (pc := 0) rfl rfl rfl rfl rfl k9d_q54_0 ix (Nat.zero_le ix) hne fun h1 =>
  k9d_ch (m := 64) (k := 64) (pc := 135) rfl rfl rfl rfl (by decide +kernel) k9d_q54_1 ix h1 hne fun h2 =>
  k9d_end (n := 128) rfl (by decide +kernel) ix h2 hne
theorem k9d_q55_0 : k9d_chk 55 prog_2_method_4_code (fun a => (k9_nth (0, 0, 0, 0) k9_w55 a).1) 64 (prog_2_method_4_code.data.toList.drop 0) (k9_c55.drop 0) (k9_w55.drop 0) = true := by decide +kernel
theorem k9d_a55 (ix : Nat) (hne : k9_cod 55 ix ≠ (0, 0, 0, 0, 0)) : k9_okP 55 ix :=
  k9d_ch (m := 64) (k := 0) (pc := 0) rfl rfl rfl rfl rfl k9d_q55_0 ix (Nat.zero_le ix) hne fun h1 =>
  k9d_end (n := 64) rfl (by decide +kernel) ix h1 hne
theorem k9d_q56_0 : k9d_chk 56 prog_2_method_5_code (fun a => (k9_nth (0, 0, 0, 0) k9_w56 a).1) 64 (prog_2_method_5_code.data.toList.drop 0) (k9_c56.drop 0) (k9_w56.drop 0) = true := by decide +kernel
theorem k9d_a56 (ix : Nat) (hne : k9_cod 56 ix ≠ (0, 0, 0, 0, 0)) : k9_okP 56 ix :=
  k9d_ch (m := 64) (k := 0) (pc := 0) rfl rfl rfl rfl rfl k9d_q56_0 ix (Nat.zero_le ix) hne fun h1 =>
  k9d_end (n := 64) rfl (by decide +kernel) ix h1 hne
theorem k9d_q57_0 : k9d_chk 57 prog_2_method_6_code (fun a => (k9_nth (0, 0, 0, 0) k9_w57 a).1) 64 (prog_2_method_6_code.data.toList.drop 0) (k9_c57.drop 0) (k9_w57.drop 0) = true := by decide +kernel
theorem k9d_a57 (ix : Nat) (hne : k9_cod 57 ix ≠ (0, 0, 0, 0, 0)) : k9_okP 57 ix :=
  k9d_ch (m := 64) (k := 0) (pc := 0) rfl rfl rfl rfl rfl k9d_q57_0 ix (Nat.zero_le ix) hne fun h1 =>
  k9d_end (n := 64) rfl (by decide +kernel) ix h1 hne
theorem k9d_q58_0 : k9d_chk 58 prog_2_method_7_code (fun a => (k9_nth (0, 0, 0, 0) k9_w58 a).1) 64 (prog_2_method_7_code.data.toList.drop 0) (k9_c58.drop 0) (k9_w58.drop 0) = true := by decide +kernel
theorem k9d_a58 (ix : Nat) (hne : k9_cod 58 ix ≠ (0, 0, 0, 0, 0)) : k9_okP 58 ix :=
  k9d_ch (m := 64) (k := 0) (pc := 0) rfl rfl rfl rfl rfl k9d_q58_0 ix (Nat.zero_le ix) hne fun h1 =>
  k9d_end (n := 64) rfl (by decide +kernel) ix h1 hne
theorem k9d_q59_0 : k9d_chk 59 prog_2_method_8_code (fun a => (k9_nth (0, 0, 0, 0) k9_w59 a).1) 64 (prog_2_method_8_code.data.toList.drop 0) (k9_c59.drop 0) (k9_w59.drop 0) = true := by decide +kernel
theorem k9d_a59 (ix : Nat) (hne : k9_cod 59 ix ≠ (0, 0, 0, 0, 0)) : k9_okP 59 ix :=
  k9d_ch (m := 64) (k := 0) (pc := 0) rfl rfl rfl rfl rfl k9d_q59_0 ix (Nat.zero_le ix) hne fun h1 =>
  k9d_end (n := 64) rfl (by decide +kernel) ix h1 hne
theorem k9d_q60_0 : k9d_chk 60 prog_2_method_9_code (fun a => (k9_nth (0, 0, 0, 0) k9_w60 a).1) 64 (prog_2_method_9_code.data.toList.drop 0) (k9_c60.drop 0) (k9_w60.drop 0) = true := by decide +kernel
theorem k9d_a60 (ix : Nat) (hne : k9_cod 60 ix ≠ (0, 0, 0, 0, 0)) : k9_okP 60 ix :=
  k9d_ch (m := 64) (k := 0) (pc := 0) rfl rfl rfl rfl rfl k9d_q60_0 ix (Nat.zero_le ix) hne fun h1 =>
  k9d_end (n := 64) rfl (by decide +kernel) ix h1 hne
theorem k9d_q61_0 : k9d_chk 61 prog_2_method_10_code (fun a => (k9_nth (0, 0, 0, 0) k9_w61 a).1) 64 (prog_2_method_10_code.data.toList.drop 0) (k9_c61.drop 0) (k9_w61.drop 0) = true := by decide +kernel
theorem k9d_a61 (ix : Nat) (hne : k9_cod 61 ix ≠ (0, 0, 0, 0, 0)) : k9_okP 61 ix :=
  k9d_ch (m := 64) (k := 0) (pc := 0) rfl rfl rfl rfl rfl k9d_q61_0 ix (Nat.zero_le ix) hne fun h1 =>
  k9d_end (n := 64) rfl (by decide +kernel) ix h1 hne
theorem k9d_q62_0 : k9d_chk 62 prog_2_method_11_code (fun a => (k9_nth (0, 0, 0, 0) k9_w62 a).1) 64 (prog_2_method_11_code.data.toList.drop 0) (k9_c62.drop 0) (k9_w62.drop 0) = true := by decide +kernel
theorem k9d_a62 (ix : Nat) (hne : k9_cod 62 ix ≠ (0, 0, 0, 0, 0)) : k9_okP 62 ix :=
  k9d_ch (m := 64) (k := 0) (pc := 0) rfl rfl rfl rfl rfl k9d_q62_0 ix (Nat.zero_le ix) hne fun h1 =>
  k9d_end (n := 64) rfl (by decide +kernel) ix h1 hne
theorem k9d_q63_0 : k9d_chk 63 prog_2_method_12_code (fun a => (k9_nth (0, 0, 0, 0) k9_w63 a).1) 64 (prog_2_method_12_code.data.toList.drop 0) (k9_c63.drop 0) (k9_w63.drop 0) = true := by decide +kernel
theorem k9d_a63 (ix : Nat) (hne : k9_cod 63 ix ≠ (0, 0, 0, 0, 0)) : k9_okP 63 ix :=
  k9d_ch (m := 64) (k := 0) (pc := 0) rfl rfl rfl rfl rfl k9d_q63_0 ix (Nat.zero_le ix) hne fun h1 =>
  k9d_end (n := 64) rfl (by decide +kernel) ix h1 hne
theorem k9d_q64_0 : k9d_chk 64 prog_2_method_13_code (fun a => (k9_nth (0, 0, 0, 0) k9_w64 a).1) 64 (prog_2_method_13_code.data.toList.drop 0) (k9_c64.drop 0) (k9_w64.drop 0) = true := by decide +kernel
theorem k9d_a64 (ix : Nat) (hne : k9_cod 64 ix ≠ (0, 0, 0, 0, 0)) : k9_okP 64 ix :=
  k9d_ch (m := 64) (k := 0) (pc := 0) rfl rfl rfl rfl rfl k9d_q64_0 ix (Nat.zero_le ix) hne fun h1 =>
  k9d_end (n := 64) rfl (by decide +kernel) ix h1 hne
theorem k9d_q65_0 : k9d_chk 65 prog_2_method_14_code (fun a => (k9_nth (0, 0, 0, 0) k9_w65 a).1) 64 (prog_2_method_14_code.data.toList.drop 0) (k9_c65.drop 0) (k9_w65.drop 0) = true := by decide +kernel
theorem k9d_a65 (ix : Nat) (hne : k9_cod 65 ix ≠ (0, 0, 0, 0, 0)) : k9_okP 65 ix :=
  k9d_ch (m := 64) (k := 0) (pc := 0) rfl rfl rfl rfl rfl k9d_q65_0 ix (Nat.zero_le ix) hne fun h1 =>
  k9d_end (n := 64) rfl (by decide +kernel) ix h1 hne
theorem k9d_q66_0 : k9d_chk 66 prog_2_method_15_code (fun a => (k9_nth (0, 0, 0, 0) k9_w66 a).1) 64 (prog_2_method_15_code.data.toList.drop 0) (k9_c66.drop 0) (k9_w66.drop 0) = true := by decide +kernel
theorem k9d_a66 (ix : Nat) (hne : k9_cod 66 ix ≠ (0, 0, 0, 0, 0)) : k9_okP 66 ix :=
  k9d_ch (m := 64) (k := 0) (pc := 0) rfl rfl rfl rfl rfl k9d_q66_0 ix (Nat.zero_le ix) hne fun h1 =>
  k9d_end (n := 64) rfl (by decide +kernel) ix h1 hne
theorem k9d_q67_0 : k9d_chk 67 prog_3_method_2_code (fun a => (k9_nth (0, 0, 0, 0) k9_w67 a).1) 64 (prog_3_method_2_code.data.toList.drop 0) (k9_c67.drop 0) (k9_w67.drop 0) = true := by decide +kernel
theorem k9d_a67 (ix : Nat) (hne : k9_cod 67 ix ≠ (0, 0, 0, 0, 0)) : k9_okP 67 ix :=
  k9d_ch (m := 64) (k := 0) (pc := 0) rfl rfl rfl rfl rfl k9d_q67_0 ix (Nat.zero_le ix) hne fun h1 =>
  k9d_end (n := 64) rfl (by decide +kernel) ix h1 hne
theorem k9d_q68_0 : k9d_chk 68 prog_3_method_3_code (fun a => (k9_nth (0, 0, 0, 0) k9_w68 a).1) 64 (prog_3_method_3_code.data.toList.drop 0) (k9_c68.drop 0) (k9_w68.drop 0) = true := by decide +kernel
theorem k9d_a68 (ix : Nat) (hne : k9_cod 68 ix ≠ (0, 0, 0, 0, 0)) : k9_okP 68 ix :=
  k9d_ch (m := 64) (k := 0) (pc := 0) rfl rfl rfl rfl rfl k9d_q68_0 ix (Nat.zero_le ix) hne fun h1 =>
  k9d_end (n := 64) rfl (by decide +kernel) ix h1 hne
theorem k9d_q69_0 : k9d_chk 69 prog_3_method_4_code (fun a => (k9_nth (0, 0, 0, 0) k9_w69 a).1) 64 (prog_3_method_4_code.data.toList.drop 0) (k9_c69.drop 0) (k9_w69.drop 0) = true := by decide +kernel
theorem k9d_a69 (ix : Nat) (hne : k9_cod 69 ix ≠ (0, 0, 0, 0, 0)) : k9_okP 69 ix :=
  k9d_ch (m := 64) (k := 0) (pc := 0) rfl rfl rfl rfl rfl k9d_q69_0 ix (Nat.zero_le ix) hne fun h1 =>
  k9d_end (n := 64) rfl (by decide +kernel) ix h1 hne
theorem k9d_q70_0 : k9d_chk 70 prog_3_method_5_code (fun a => (k9_nth (0, 0, 0, 0) k9_w70 a).1) 64 (prog_3_method_5_code.data.toList.drop 0) (k9_c70.drop 0) (k9_w70.drop 0) = true := by decide +kernel
theorem k9d_a70 (ix : Nat) (hne : k9_cod 70 ix ≠ (0, 0, 0, 0, 0)) : k9_okP 70 ix :=
  k9d_ch (m := 64) (k := 0) (pc := 0) rfl rfl rfl rfl rfl k9d_q70_0 ix (Nat.zero_le ix) hne fun h1 =>
  k9d_end (n := 64) rfl (by decide +kernel) ix h1 hne
theorem k9d_q71_0 : k9d_chk 71 prog_9_method_2_code (fun a => (k9_nth (0, 0, 0, 0) k9_w71 a).1) 64 (prog_9_method_2_code.data.toList.drop 0) (k9_c71.drop 0) (k9_w71.drop 0) = true := by decide +kernel
theorem k9d_a71 (ix : Nat) (hne : k9_cod 71 ix ≠ (0, 0, 0, 0, 0)) : k9_okP 71 ix :=
  k9d_ch (m := 64) (k := 0) (pc := 0) rfl rfl rfl rfl rfl k9d_q71_0 ix (Nat.zero_le ix) hne fun h1 =>
  k9d_end (n := 64) rfl (by decide +kernel) ix h1 hne
theorem k9d_q72_0 : k9d_chk 72 prog_9_method_3_code (fun a => (k9_nth (0, 0, 0, 0) k9_w72 a).1) 64 (prog_9_method_3_code.data.toList.drop 0) (k9_c72.drop 0) (k9_w72.drop 0) = true := by decide +kernel
theorem k9d_a72 (ix : Nat) (hne : k9_cod 72 ix ≠ (0, 0, 0, 0, 0)) : k9_okP 72 ix :=
  k9d_ch (m := 64) (k := 0) (pc := 0) rfl rfl rfl rfl rfl k9d_q72_0 ix (Nat.zero_le ix) hne fun h1 =>
  k9d_end (n := 64) rfl (by decide +kernel) ix h1 hne
theorem k9d_q73_0 : k9d_chk 73 prog_9_method_4_code (fun a => (k9_nth (0, 0, 0, 0) k9_w73 a).1) 64 (prog_9_method_4_code.data.toList.drop 0) (k9_c73.drop 0) (k9_w73.drop 0) = true := by decide +kernel
theorem k9d_a73 (ix : Nat) (hne : k9_cod 73 ix ≠ (0, 0, 0, 0, 0)) : k9_okP 73 ix :=
  k9d_ch (m := 64) (k := 0) (pc := 0) rfl rfl rfl rfl rfl k9d_q73_0 ix (Nat.zero_le ix) hne fun h1 =>
  k9d_end (n := 64) rfl (by decide +kernel) ix h1 hne
theorem k9d_q74_0 : k9d_chk 74 prog_9_method_5_code (fun a => (k9_nth (0, 0, 0, 0) k9_w74 a).1) 64 (prog_9_method_5_code.data.toList.drop 0) (k9_c74.drop 0) (k9_w74.drop 0) = true := by decide +kernel
theorem k9d_a74 (ix : Nat) (hne : k9_cod 74 ix ≠ (0, 0, 0, 0, 0)) : k9_okP 74 ix :=
  k9d_ch (m := 64) (k := 0) (pc := 0) rfl rfl rfl rfl rfl k9d_q74_0 ix (Nat.zero_le ix) hne fun h1 =>
  k9d_end (n := 64) rfl (by decide +kernel) ix h1 hne
theorem k9d_q75_0 : k9d_chk 75 prog_9_method_6_code (fun a => (k9_nth (0, 0, 0, 0) k9_w75 a).1) 64 (prog_9_method_6_code.data.toList.drop 0) (k9_c75.drop 0) (k9_w75.drop 0) = true := by decide +kernel
theorem k9d_a75 (ix : Nat) (hne : k9_cod 75 ix ≠ (0, 0, 0, 0, 0)) : k9_okP 75 ix :=
  k9d_ch (m := 64) (k := 0) (pc := 0) rfl rfl rfl rfl rfl k9d_q75_0 ix (Nat.zero_le ix) hne fun h1 =>
  k9d_end (n := 64) rfl (by decide +kernel) ix h1 hne
theorem k9d_q76_0 : k9d_chk 76 prog_9_method_7_code (fun a => (k9_nth (0, 0, 0, 0) k9_w76 a).1) 64 (prog_9_method_7_code.data.toList.drop 0) (k9_c76.drop 0) (k9_w76.drop 0) = true := by decide +kernel
theorem k9d_a76 (ix : Nat) (hne : k9_cod 76 ix ≠ (0, 0, 0, 0, 0)) : k9_okP 76 ix :=
  k9d_ch (m := 64) (k := 0) (pc := 0) rfl rfl rfl rfl rfl k9d_q76_0 ix (Nat.zero_le ix) hne fun h1 =>
  k9d_end (n := 64) rfl (by decide +kernel) ix h1 hne
theorem k9d_q77_0 : k9d_chk 77 prog_7_method_2_code (fun a => (k9_nth (0, 0, 0, 0) k9_w77 a).1) 64 (prog_7_method_2_code.data.toList.drop 0) (k9_c77.drop 0) (k9_w77.drop 0) = true := by decide +kernel
theorem k9d_a77 (ix : Nat) (hne : k9_cod 77 ix ≠ (0, 0, 0, 0, 0)) : k9_okP 77 ix :=
  k9d_ch (m := 64) (k := 0) (pc := 0) rfl rfl rfl rfl rfl k9d_q77_0 ix (Nat.zero_le ix) hne fun h1 =>
  k9d_end (n := 64) rfl (by decide +kernel) ix h1 hne
theorem k9d_q78_0 : k9d_chk 78 prog_7_method_3_code (fun a => (k9_nth (0, 0, 0, 0) k9_w78 a).1) 64 (prog_7_method_3_code.data.toList.drop 0) (k9_c78.drop 0) (k9_w78.drop 0) = true := by decide +kernel
theorem k9d_a78 (ix : Nat) (hne : k9_cod 78 ix ≠ (0, 0, 0, 0, 0)) : k9_okP 78 ix :=
  k9d_ch (m := 64) (k := 0) (pc := 0) rfl rfl rfl rfl rfl k9d_q78_0 ix (Nat.zero_le ix) hne fun h1 =>
  k9d_end (n := 64) rfl (by decide +kernel) ix h1 hne
theorem k9d_q79_0 : k9d_chk 79 prog_7_method_4_code (fun a => (k9_nth (0, 0, 0, 0) k9_w79 a).1) 64 (prog_7_method_4_code.data.toList.drop 0) (k9_c79.drop 0) (k9_w79.drop 0) = true := by decide +kernel
theorem k9d_a79 (ix : Nat) (hne : k9_cod 79 ix ≠ (0, 0, 0, 0, 0)) : k9_okP 79 ix :=
  k9d_ch (m := 64) (k := 0) (pc := 0) rfl rfl rfl rfl rfl k9d_q79_0 ix (Nat.zero_le ix) hne fun h1 =>
  k9d_end (n := 64) rfl (by decide +kernel) ix h1 hne
theorem k9d_q80_0 : k9d_chk 80 prog_7_method_5_code (fun a => (k9_nth (0, 0, 0, 0) k9_w80 a).1) 64 (prog_7_method_5_code.data.toList.drop 0) (k9_c80.drop 0) (k9_w80.drop 0) = true := by decide +kernel
theorem k9d_a80 (ix : Nat) (hne : k9_cod 80 ix ≠ (0, 0, 0, 0, 0)) : k9_okP 80 ix :=
  k9d_ch (m := 64) (k := 0) (pc := 0) rfl rfl rfl rfl rfl k9d_q80_0 ix (Nat.zero_le ix) hne fun h1 =>
  k9d_end (n := 64) rfl (by decide +kernel) ix h1 hne
theorem k9d_q81_0 : k9d_chk 81 prog_7_method_6_code (fun a => (k9_nth (0, 0, 0, 0) k9_w81 a).1) 64 (prog_7_method_6_code.data.toList.drop 0) (k9_c81.drop 0) (k9_w81.drop 0) = true := by decide +kernel
theorem k9d_a81 (ix : Nat) (hne : k9_cod 81 ix ≠ (0, 0, 0, 0, 0)) : k9_okP 81 ix :=
  k9d_ch (m := 64) (k := 0) (pc := 0) rfl rfl rfl rfl rfl k9d_q81_0 ix (Nat.zero_le ix) hne fun h1 =>
  k9d_end (n := 64) rfl (by decide +kernel) ix h1 hne
theorem k9d_q82_0 : k9d_chk 82 prog_7_method_7_code (fun a => (k9_nth (0, 0, 0, 0) k9_w82 a).1) 64 (prog_7_method_7_code.data.toList.drop 0) (k9_c82.drop 0) (k9_w82.drop 0) = true := by decide +kernel
theorem k9d_a82 (ix : Nat) (hne : k9_cod 82 ix ≠ (0, 0, 0, 0, 0)) : k9_okP 82 ix :=
  k9d_ch (m := 64) (k := 0) (pc := 0) rfl rfl rfl rfl rfl k9d_q82_0 ix (Nat.zero_le ix) hne fun h1 =>
  k9d_end (n := 64) rfl (by decide +kernel) ix h1 hne
theorem k9d_q83_0 : k9d_chk 83 prog_7_method_8_code (fun a => (k9_nth (0, 0, 0, 0) k9_w83 a).1) 64 (prog_7_method_8_code.data.toList.drop 0) (k9_c83.drop 0) (k9_w83.drop 0) = true := by decide +kernel
theorem k9d_a83 (ix : Nat) (hne : k9_cod 83 ix ≠ (0, 0, 0, 0, 0)) : k9_okP 83 ix :=
  k9d_ch (m := 64) (k := 0) (pc := 0) rfl rfl rfl rfl rfl k9d_q83_0 ix (Nat.zero_le ix) hne fun h1 =>
  k9d_end (n := 64) rfl (by decide +kernel) ix h1 hne
theorem k9d_q84_0 : k9d_chk 84 prog_7_method_9_code (fun a => (k9_nth (0, 0, 0, 0) k9_w84 a).1) 64 (prog_7_method_9_code.data.toList.drop 0) (k9_c84.drop 0) (k9_w84.drop 0) = true := by decide +kernel
theorem k9d_a84 (ix : Nat) (hne : k9_cod 84 ix ≠ (0, 0, 0, 0, 0)) : k9_okP 84 ix :=
  k9d_ch (m := 64) (k := 0) (pc := 0) rfl rfl rfl rfl rfl k9d_q84_0 ix (Nat.zero_le ix) hne fun h1 =>
  k9d_end (n := 64) rfl (by decide +kernel) ix h1 hne
theorem k9d_q85_0 : k9d_chk 85 prog_7_method_10_code (fun a => (k9_nth (0, 0, 0, 0) k9_w85 a).1) 64 (prog_7_method_10_code.data.toList.drop 0) (k9_c85.drop 0) (k9_w85.drop 0) = true := by decide +kernel
theorem k9d_a85 (ix : Nat) (hne : k9_cod 85 ix ≠ (0, 0, 0, 0, 0)) : k9_okP 85 ix :=
  k9d_ch (m := 64) (k := 0) (pc := 0) rfl rfl rfl rfl rfl k9d_q85_0 ix (Nat.zero_le ix) hne fun h1 =>
  k9d_end (n := 64) rfl (by decide +kernel) ix h1 hne
theorem k9d_q86_0 : k9d_chk 86 prog_7_method_11_code (fun a => (k9_nth (0, 0, 0, 0) k9_w86 a).1) 64 (prog_7_method_11_code.data.toList.drop 0) (k9_c86.drop 0) (k9_w86.drop 0) = true := by decide +kernel
theorem k9d_a86 (ix : Nat) (hne : k9_cod 86 ix ≠ (0, 0, 0, 0, 0)) : k9_okP 86 ix :=
  k9d_ch (m := 64) (k := 0) (pc := 0) rfl rfl rfl rfl rfl k9d_q86_0 ix (Nat.zero_le ix) hne fun h1 =>
  k9d_end (n := 64) rfl (by decide +kernel) ix h1 hne
theorem k9d_q87_0 : k9d_chk 87 prog_7_method_12_code (fun a => (k9_nth (0, 0, 0, 0) k9_w87 a).1) 64 (prog_7_method_12_code.data.toList.drop 0) (k9_c87.drop 0) (k9_w87.drop 0) = true := by decide +kernel
theorem k9d_a87 (ix : Nat) (hne : k9_cod 87 ix ≠ (0, 0, 0, 0, 0)) : k9_okP 87 ix :=
  k9d_ch (m := 64) (k := 0) (pc := 0) rfl rfl rfl rfl rfl k9d_q87_0 ix (Nat.zero_le ix) hne fun h1 =>
  k9d_end (n := 64) rfl (by decide +kernel) ix h1 hne
theorem k9d_q88_0 : k9d_chk 88 prog_7_method_13_code (fun a => (k9_nth (0, 0, 0, 0) k9_w88 a).1) 64 (prog_7_method_13_code.data.toList.drop 0) (k9_c88.drop 0) (k9_w88.drop 0) = true := by decide +kernel
theorem k9d_q88_1 : k9d_chk 88 prog_7_method_13_code (fun a => (k9_nth (0, 0, 0, 0) k9_w88 a).1) 64 (prog_7_method_13_code.data.toList.drop 200) (k9_c88.drop 64) (k9_w88.drop 64) = true := by decide +kernel
theorem k9d_a88 (ix : Nat) (hne : k9_cod 88 ix ≠ (0, 0, 0, 0, 0)) : k9_okP 88 ix :=
  k9d_ch (m := 64) (k := 0) (pc := 0) rfl rfl rfl rfl rfl k9d_q88_0 ix (Nat.zero_le ix) hne fun h1 =>
  k9d_ch (m := 64) (k := 64) (pc := 200) rfl rfl rfl rfl (by decide +kernel) k9d_q88_1 ix h1 hne fun h2 =>
  k9d_end (n := 128) rfl (by decide +kernel) ix h2 hne
theorem k9d_q89_0 : k9d_chk 89 prog_6_method_2_code (fun a => (k9_nth (0, 0, 0, 0) k9_w89 a).1) 64 (prog_6_method_2_code.data.toList.drop 0) (k9_c89.drop 0) (k9_w89.drop 0) = true := by decide +kernel
theorem k9d_a89 (ix : Nat) (hne : k9_cod 89 ix ≠ (0, 0, 0, 0, 0)) : k9_okP 89 ix :=
  k9d_ch (m := 64) (k := 0) (pc := 0) rfl rfl rfl rfl rfl k9d_q89_0 ix (Nat.zero_le ix) hne fun h1 =>
  k9d_end (n := 64) rfl (by decide +kernel) ix h1 hne
theorem k9d_q90_0 : k9d_chk 90 prog_6_method_3_code (fun a => (k9_nth (0, 0, 0, 0) k9_w90 a).1) 64 (prog_6_method_3_code.data.toList.drop 0) (k9_c90.drop 0) (k9_w90.drop 0) = true := by decide +kernel
theorem k9d_a90 (ix : Nat) (hne : k9_cod 90 ix ≠ (0, 0, 0, 0, 0)) : k9_okP 90 ix :=
  k9d_ch (m := 64) (k := 0) (pc := 0) rfl rfl rfl rfl rfl k9d_q90_0 ix (Nat.zero_le ix) hne fun h1 =>
  k9d_end (n := 64) rfl (by decide +kernel) ix h1 hne
theorem k9d_q91_0 : k9d_chk 91 prog_6_method_4_code (fun a => (k9_nth (0, 0, 0, 0) k9_w91 a).1) 64 (prog_6_method_4_code.data.toList.drop 0) (k9_c91.drop 0) (k9_w91.drop 0) = true := by decide +kernel
theorem k9d_a91 (ix : Nat) (hne : k9_cod 91 ix ≠ (0, 0, 0, 0, 0)) : k9_okP 91 ix :=
  k9d_ch (m := 64) (k := 0) (pc := 0) rfl rfl rfl rfl rfl k9d_q91_0 ix (Nat.zero_le ix) hne fun h1 =>
  k9d_end (n := 64) rfl (by decide +kernel) ix h1 hne
theorem k9d_q92_0 : k9d_chk 92 prog_6_method_5_code (fun a => (k9_nth (0, 0, 0, 0) k9_w92 a).1) 64 (prog_6_method_5_code.data.toList.drop 0) (k9_c92.drop 0) (k9_w92.drop 0) = true := by decide +kernel
theorem k9d_a92 (ix : Nat) (hne : k9_cod 92 ix ≠ (0, 0, 0, 0, 0)) : k9_okP 92 ix :=
  k9d_ch (m := 64) (k := 0) (pc := 0) rfl rfl rfl rfl rfl k9d_q92_0 ix (Nat.zero_le ix) hne fun h1 =>
  k9d_end (n := 64) rfl (by decide +kernel) ix h1 hne
theorem k9d_q93_0 : k9d_chk 93 prog_6_method_6_code (fun a => (k9_nth (0, 0, 0, 0) k9_w93 a).1) 64 (prog_6_method_6_code.data.toList.drop 0) (k9_c93.drop 0) (k9_w93.drop 0) = true := by decide +kernel
theorem k9d_a93 (ix : Nat) (hne : k9_cod 93 ix ≠ (0, 0, 0, 0, 0)) : k9_okP 93 ix :=
  k9d_ch (m := 64) (k := 0) (pc := 0) rfl rfl rfl rfl rfl k9d_q93_0 ix (Nat.zero_le ix) hne fun h1 =>
  k9d_end (n := 64) rfl (by decide +kernel) ix h1 hne
theorem k9d_q94_0 : k9d_chk 94 prog_6_method_7_code (fun a => (k9_nth (0, 0, 0, 0) k9_w94 a).1) 64 (prog_6_method_7_code.data.toList.drop 0) (k9_c94.drop 0) (k9_w94.drop 0) = true := by decide +kernel
theorem k9d_a94 (ix : Nat) (hne : k9_cod 94 ix ≠ (0, 0, 0, 0, 0)) : k9_okP 94 ix :=
  k9d_ch (m := 64) (k := 0) (pc := 0) rfl rfl rfl rfl rfl k9d_q94_0 ix (Nat.zero_le ix) hne fun h1 =>
  k9d_end (n := 64) rfl (by decide +kernel) ix h1 hne
theorem k9d_q95_0 : k9d_chk 95 prog_6_method_8_code (fun a => (k9_nth (0, 0, 0, 0) k9_w95 a).1) 64 (prog_6_method_8_code.data.toList.drop 0) (k9_c95.drop 0) (k9_w95.drop 0) = true := by decide +kernel
theorem k9d_a95 (ix : Nat) (hne : k9_cod 95 ix ≠ (0, 0, 0, 0, 0)) : k9_okP 95 ix :=
  k9d_ch (m := 64) (k := 0) (pc := 0) rfl rfl rfl rfl rfl k9d_q95_0 ix (Nat.zero_le ix) hne fun h1 =>
  k9d_end (n := 64) rfl (by decide +kernel) ix h1 hne
theorem k9d_q96_0 : k9d_chk 96 prog_6_method_9_code (fun a => (k9_nth (0, 0, 0, 0) k9_w96 a).1) 64 (prog_6_method_9_code.data.toList.drop 0) (k9_c96.drop 0) (k9_w96.drop 0) = true := by decide +kernel
theorem k9d_a96 (ix : Nat) (hne : k9_cod 96 ix ≠ (0, 0, 0, 0, 0)) : k9_okP 96 ix :=
  k9d_ch (m := 64) (k := 0) (pc := 0) rfl rfl rfl rfl rfl k9d_q96_0 ix (Nat.zero_le ix) hne fun h1 =>
  k9d_end (n := 64) rfl (by decide +kernel) ix h1 hne
theorem k9d_q97_0 : k9d_chk 97 prog_6_method_10_code (fun a => (k9_nth (0, 0, 0, 0) k9_w97 a).1) 64 (prog_6_method_10_code.data.toList.drop 0) (k9_c97.drop 0) (k9_w97.drop 0) = true := by decide +kernel
theorem k9d_a97 (ix : Nat) (hne : k9_cod 97 ix ≠ (0, 0, 0, 0, 0)) : k9_okP 97 ix :=
  k9d_ch (m := 64) (k := 0) (pc := 0) rfl rfl rfl rfl rfl k9d_q97_0 ix (Nat.zero_le ix) hne fun h1 =>
  k9d_end (n := 64) rfl (by decide +kernel) ix h1 hne
theorem k9d_q98_0 : k9d_chk 98 prog_6_method_11_code (fun a => (k9_nth (0, 0, 0, 0) k9_w98 a).1) 64 (prog_6_method_11_code.data.toList.drop 0) (k9_c98.drop 0) (k9_w98.drop 0) = true := by decide +kernel
theorem k9d_a98 (ix : Nat) (hne : k9_cod 98 ix ≠ (0, 0, 0, 0, 0)) : k9_okP 98 ix :=
  k9d_ch (m := 64) (k := 0) (pc := 0) rfl rfl rfl rfl rfl k9d_q98_0 ix (Nat.zero_le ix) hne fun h1 =>
  k9d_end (n := 64) rfl (by decide +kernel) ix h1 hne
theorem k9d_q99_0 : k9d_chk 99 prog_1_method_2_code (fun a => (k9_nth (0, 0, 0, 0) k9_w99 a).1) 64 (prog_1_method_2_code.data.toList.drop 0) (k9_c99.drop 0) (k9_w99.drop 0) = true := by decide +kernel
theorem k9d_a99 (ix : Nat) (hne : k9_cod 99 ix ≠ (0, 0, 0, 0, 0)) : k9_okP 99 ix :=
  k9d_ch (m := 64) (k := 0) (pc := 0) rfl rfl rfl rfl rfl k9d_q99_0 ix (Nat.zero_le ix) hne fun h1 =>
  k9d_end (n := 64) rfl (by decide +kernel) ix h1 hne
theorem k9d_q100_0 : k9d_chk 100 prog_1_method_3_code (fun a => (k9_nth (0, 0, 0, 0) k9_w100 a).1) 64 (prog_1_method_3_code.data.toList.drop 0) (k9_c100.drop 0) (k9_w100.drop 0) = true := by decide +kernel
theorem k9d_a100 (ix : Nat) (hne : k9_cod 100 ix ≠ (0, 0, 0, 0, 0)) : k9_okP 100 ix :=
  k9d_ch (m := 64) (k := 0) (pc := 0) rfl rfl rfl rfl rfl k9d_q100_0 ix (Nat.zero_le ix) hne fun h1 =>
  k9d_end (n := 64) rfl (by decide +kernel) ix h1 hne
theorem k9d_q101_0 : k9d_chk 101 prog_1_method_4_code (fun a => (k9_nth (0, 0, 0, 0) k9_w101 a).1) 64 (prog_1_method_4_code.data.toList.drop 0) (k9_c101.drop 0) (k9_w101.drop 0) = true := by decide +kernel
theorem k9d_a101 (ix : Nat) (hne : k9_cod 101 ix ≠ (0, 0, 0, 0, 0)) : k9_okP 101 ix :=
  k9d_ch (m := 64) (k := 0) (pc := 0) rfl rfl rfl rfl rfl k9d_q101_0 ix (Nat.zero_le ix) hne fun h1 =>
  k9d_end (n := 64) rfl (by decide +kernel) ix h1 hne
theorem k9d_q102_0 : k9d_chk 102 prog_1_method_5_code (fun a => (k9_nth (0, 0, 0, 0) k9_w102 a).1) 64 (prog_1_method_5_code.data.toList.drop 0) (k9_c102.drop 0) (k9_w102.drop 0) = true := by decide +kernel
theorem k9d_a102 (ix : Nat) (hne : k9_cod 102 ix ≠ (0, 0, 0, 0, 0)) : k9_okP 102 ix :=
  k9d_ch (m := 64) (k := 0) (pc := 0) rfl rfl rfl rfl rfl k9d_q102_0 ix (Nat.zero_le ix) hne fun h1 =>
  k9d_end (n := 64) rfl (by decide +kernel) ix h1 hne
theorem k9d_q103_0 : k9d_chk 103 prog_1_method_6_code (fun a => (k9_nth (0, 0, 0, 0) k9_w103 a).1) 64 (prog_1_method_6_code.data.toList.drop 0) (k9_c103.drop 0) (k9_w103.drop 0) = true := by decide +kernel
theorem k9d_a103 (ix : Nat) (hne : k9_cod 103 ix ≠ (0, 0, 0, 0, 0)) : k9_okP 103 ix :=
  k9d_ch (m := 64) (k := 0) (pc := 0) rfl rfl rfl rfl rfl k9d_q103_0 ix (Nat.zero_le ix) hne fun h1 =>
  k9d_end (n := 64) rfl (by decide +kernel) ix h1 hne
theorem k9d_q104_0 : k9d_chk 104 prog_1_method_7_code (fun a => (k9_nth (0, 0, 0, 0) k9_w104 a).1) 64 (prog_1_method_7_code.data.toList.drop 0) (k9_c104.drop 0) (k9_w104.drop 0) = true := by decide +kernel
theorem k9d_a104 (ix : Nat) (hne : k9_cod 104 ix ≠ (0, 0, 0, 0, 0)) : k9_okP 104 ix :=
  k9d_ch (m := 64) (k := 0) (pc := 0) rfl rfl rfl rfl rfl k9d_q104_0 ix (Nat.zero_le ix) hne fun h1 =>
  k9d_end (n := 64) rfl (by decide +kernel) ix h1 hne
theorem k9d_q105_0 : k9d_chk 105 prog_1_method_8_code (fun a => (k9_nth (0, 0, 0, 0) k9_w105 a).1) 64 (prog_1_method_8_code.data.toList.drop 0) (k9_c105.drop 0) (k9_w105.drop 0) = true := by decide +kernel
theorem k9d_a105 (ix : Nat) (hne : k9_cod 105 ix ≠ (0, 0, 0, 0, 0)) : k9_okP 105 ix :=
  k9d_ch (m := 64) (k := 0) (pc := 0) rfl rfl rfl rfl rfl k9d_q105_0 ix (Nat.zero_le ix) hne fun h1 =>
  k9d_end (n := 64) rfl (by decide +kernel) ix h1 hne
theorem k9d_q106_0 : k9d_chk 106 prog_1_method_9_code (fun a => (k9_nth (0, 0, 0, 0) k9_w106 a).1) 64 (prog_1_method_9_code.data.toList.drop 0) (k9_c106.drop 0) (k9_w106.drop 0) = true := by decide +kernel
theorem k9d_a106 (ix : Nat) (hne : k9_cod 106 ix ≠ (0, 0, 0, 0, 0)) : k9_okP 106 ix :=
  k9d_ch (m := 64) (k := 0) (pc := 0) rfl rfl rfl rfl rfl k9d_q106_0 ix (Nat.zero_le ix) hne fun h1 =>
  k9d_end (n := 64) rfl (by decide +kernel) ix h1 hne
theorem k9d_q107_0 : k9d_chk 107 prog_1_method_10_code (fun a => (k9_nth (0, 0, 0, 0) k9_w107 a).1) 64 (prog_1_method_10_code.data.toList.drop 0) (k9_c107.drop 0) (k9_w107.drop 0) = true := by decide +kernel
theorem k9d_a107 (ix : Nat) (hne : k9_cod 107 ix ≠ (0, 0, 0, 0, 0)) : k9_okP 107 ix :=
  k9d_ch (m := 64) (k := 0) (pc := 0) rfl rfl rfl rfl rfl k9d_q107_0 ix (Nat.zero_le ix) hne fun h1 =>
  k9d_end (n := 64) rfl (by decide +kernel) ix h1 hne
theorem k9d_q108_0 : k9d_chk 108 prog_1_method_11_code (fun a => (k9_nth (0, 0, 0, 0) k9_w108 a).1) 64 (prog_1_method_11_code.data.toList.drop 0) (k9_c108.drop 0) (k9_w108.drop 0) = true := by decide +kernel
theorem k9d_a108 (ix : Nat) (hne : k9_cod 108 ix ≠ (0, 0, 0, 0, 0)) : k9_okP 108 ix :=
  k9d_ch (m := 64) (k := 0) (pc := 0) rfl rfl rfl rfl rfl k9d_q108_0 ix (Nat.zero_le ix) hne fun h1 =>
  k9d_end (n := 64) rfl (by decide +kernel) ix h1 hne
theorem k9d_q109_0 : k9d_chk 109 prog_1_method_12_code (fun a => (k9_nth (0, 0, 0, 0) k9_w109 a).1) 64 (prog_1_method_12_code.data.toList.drop 0) (k9_c109.drop 0) (k9_w109.drop 0) = true := by decide +kernel
theorem k9d_a109 (ix : Nat) (hne : k9_cod 109 ix ≠ (0, 0, 0, 0, 0)) : k9_okP 109 ix :=
  k9d_ch (m := 64) (k := 0) (pc := 0) rfl rfl rfl rfl rfl k9d_q109_0 ix (Nat.zero_le ix) hne fun h1 =>
  k9d_end (n := 64) rfl (by decide +kernel) ix h1 hne
theorem k9d_q110_0 : k9d_chk 110 prog_1_method_13_code (fun a => (k9_nth (0, 0, 0, 0) k9_w110 a).1) 64 (prog_1_method_13_code.data.toList.drop 0) (k9_c110.drop 0) (k9_w110.drop 0) = true := by decide +kernel
theorem k9d_a110 (ix : Nat) (hne : k9_cod 110 ix ≠ (0, 0, 0, 0, 0)) : k9_okP 110 ix :=
  k9d_ch (m := 64) (k := 0) (pc := 0) rfl rfl rfl rfl rfl k9d_q110_0 ix (Nat.zero_le ix) hne fun h1 =>
  k9d_end (n := 64) rfl (by decide +kernel) ix h1 hne
theorem k9d_q111_0 : k9d_chk 111 prog_1_method_14_code (fun a => (k9_nth (0, 0, 0, 0) k9_w111 a).1) 64 (prog_1_method_14_code.data.toList.drop 0) (k9_c111.drop 0) (k9_w111.drop 0) = true := by decide +kernel
theorem k9d_a111 (ix : Nat) (hne : k9_cod 111 ix ≠ (0, 0, 0, 0, 0)) : k9_okP 111 ix :=
  k9d_ch (m := 64) (k := 0) (pc := 0) rfl rfl rfl rfl rfl k9d_q111_0 ix (Nat.zero_le ix) hne fun h1 =>
  k9d_end (n := 64) rfl (by decide +kernel) ix h1 hne
theorem k9d_q112_0 : k9d_chk 112 prog_1_method_15_code (fun a => (k9_nth (0, 0, 0, 0) k9_w112 a).1) 64 (prog_1_method_15_code.data.toList.drop 0) (k9_c112.drop 0) (k9_w112.drop 0) = true := by decide +kernel
theorem k9d_a112 (ix : Nat) (hne : k9_cod 112 ix ≠ (0, 0, 0, 0, 0)) : k9_okP 112 ix :=
  k9d_ch (m := 64) (k := 0) (pc := 0) rfl rfl rfl rfl rfl k9d_q112_0 ix (Nat.zero_le ix) hne fun h1 =>
  k9d_end (n := 64) rfl (by decide +kernel) ix h1 hne
theorem k9d_q113_0 : k9d_chk 113 prog_1_method_16_code (fun a => (k9_nth (0, 0, 0, 0) k9_w113 a).1) 64 (prog_1_method_16_code.data.toList.drop 0) (k9_c113.drop 0) (k9_w113.drop 0) = true := by decide +kernel
theorem k9d_a113 (ix : Nat) (hne : k9_cod 113 ix ≠ (0, 0, 0, 0, 0)) : k9_okP 113 ix :=
  k9d_ch (m := 64) (k := 0) (pc := 0) rfl rfl rfl rfl rfl k9d_q113_0 ix (Nat.zero_le ix) hne fun h1 =>
  k9d_end (n := 64) rfl (by decide +kernel) ix h1 hne
theorem k9d_q114_0 : k9d_chk 114 prog_1_method_17_code (fun a => (k9_nth (0, 0, 0, 0) k9_w114 a).1) 64 (prog_1_method_17_code.data.toList.drop 0) (k9_c114.drop 0) (k9_w114.drop 0) = true := by decide +kernel
theorem k9d_a114 (ix : Nat) (hne : k9_cod 114 ix ≠ (0, 0, 0, 0, 0)) : k9_okP 114 ix :=
  k9d_ch (m := 64) (k := 0) (pc := 0) rfl rfl rfl rfl rfl k9d_q114_0 ix (Nat.zero_le ix) hne fun h1 =>
  k9d_end (n := 64) rfl (by decide +kernel) ix h1 hne
theorem k9d_q115_0 : k9d_chk 115 prog_1_method_18_code (fun a => (k9_nth (0, 0, 0, 0) k9_w115 a).1) 64 (prog_1_method_18_code.data.toList.drop 0) (k9_c115.drop 0) (k9_w115.drop 0) = true := by decide +kernel
theorem k9d_a115 (ix : Nat) (hne : k9_cod 115 ix ≠ (0, 0, 0, 0, 0)) : k9_okP 115 ix :=
  k9d_ch (m := 64) (k := 0) (pc := 0) rfl rfl rfl rfl rfl k9d_q115_0 ix (Nat.zero_le ix) hne fun h1 =>
  k9d_end (n := 64) rfl (by decide +kernel) ix h1 hne
theorem k9d_q116_0 : k9d_chk 116 prog_1_method_19_code (fun a => (k9_nth (0, 0, 0, 0) k9_w116 a).1) 64 (prog_1_method_19_code.data.toList.drop 0) (k9_c116.drop 0) (k9_w116.drop 0) = true := by decide +kernel
theorem k9d_q116_1 : k9d_chk 116 prog_1_method_19_code (fun a => (k9_nth (0, 0, 0, 0) k9_w116 a).1) 64 (prog_1_method_19_code.data.toList.drop 132) (k9_c116.drop 64) (k9_w116.drop 64) = true := by decide +kernel
theorem k9d_a116 (ix : Nat) (hne : k9_cod 116 ix ≠ (0, 0, 0, 0, 0)) : k9_okP 116 ix :=
  k9d_ch (m := 64) (k := 0) (pc := 0) rfl rfl rfl rfl rfl k9d_q116_0 ix (Nat.zero_le ix) hne fun h1 =>
  k9d_ch (m := 64) (k := 64) (pc := 132) rfl rfl rfl rfl (by decide +kernel) k9d_q116_1 ix h1 hne fun h2 =>
  k9d_end (n := 128) rfl (by decide +kernel) ix h2 hne
theorem k9d_q117_0 : k9d_chk 117 prog_1_method_20_code (fun a => (k9_nth (0, 0, 0, 0) k9_w117 a).1) 64 (prog_1_method_20_code.data.toList.drop 0) (k9_c117.drop 0) (k9_w117.drop 0) = true := by decide +kernel
theorem k9d_a117 (ix : Nat) (hne : k9_cod 117 ix ≠ (0, 0, 0, 0, 0)) : k9_okP 117 ix :=
  k9d_ch (m := 64) (k := 0) (pc := 0) rfl rfl rfl rfl rfl k9d_q117_0 ix (Nat.zero_le ix) hne fun h1 =>
  k9d_end (n := 64) rfl (by decide +kernel) ix h1 hne
theorem k9d_q118_0 : k9d_chk 118 prog_1_method_21_code (fun a => (k9_nth (0, 0, 0, 0) k9_w118 a).1) 64 (prog_1_method_21_code.data.toList.drop 0) (k9_c118.drop 0) (k9_w118.drop 0) = true := by decide +kernel
theorem k9d_a118 (ix : Nat) (hne : k9_cod 118 ix ≠ (0, 0, 0, 0, 0)) : k9_okP 118 ix :=
  k9d_ch (m := 64) (k := 0) (pc := 0) rfl rfl rfl rfl rfl k9d_q118_0 ix (Nat.zero_le ix) hne fun h1 =>
  k9d_end (n := 64) rfl (by decide +kernel) ix h1 hne
theorem k9d_q119_0 : k9d_chk 119 prog_1_method_22_code (fun a => (k9_nth (0, 0, 0, 0) k9_w119 a).1) 64 (prog_1_method_22_code.data.toList.drop 0) (k9_c119.drop 0) (k9_w119.drop 0) = true := by decide +kernel
theorem k9d_a119 (ix : Nat) (hne : k9_cod 119 ix ≠ (0, 0, 0, 0, 0)) : k9_okP 119 ix :=
  k9d_ch (m := 64) (k := 0) (pc := 0) rfl rfl rfl rfl rfl k9d_q119_0 ix (Nat.zero_le ix) hne fun h1 =>
  k9d_end (n := 64) rfl (by decide +kernel) ix h1 hne
theorem k9d_q120_0 : k9d_chk 120 prog_1_method_23_code (fun a => (k9_nth (0, 0, 0, 0) k9_w120 a).1) 64 (prog_1_method_23_code.data.toList.drop 0) (k9_c120.drop 0) (k9_w120.drop 0) = true := by decide +kernel
theorem k9d_a120 (ix : Nat) (hne : k9_cod 120 ix ≠ (0, 0, 0, 0, 0)) : k9_okP 120 ix :=
  k9d_ch (m := 64) (k := 0) (pc := 0) rfl rfl rfl rfl rfl k9d_q120_0 ix (Nat.zero_le ix) hne fun h1 =>
  k9d_end (n := 64) rfl (by decide +kernel) ix h1 hne
theorem k9d_q121_0 : k9d_chk 121 prog_1_method_24_code (fun a => (k9_nth (0, 0, 0, 0) k9_w121 a).1) 64 (prog_1_method_24_code.data.toList.drop 0) (k9_c121.drop 0) (k9_w121.drop 0) = true := by decide +kernel
theorem k9d_a121 (ix : Nat) (hne : k9_cod 121 ix ≠ (0, 0, 0, 0, 0)) : k9_okP 121 ix :=
  k9d_ch (m := 64) (k := 0) (pc := 0) rfl rfl rfl rfl rfl k9d_q121_0 ix (Nat.zero_le ix) hne fun h1 =>
  k9d_end (n := 64) rfl (by decide +kernel) ix h1 hne
theorem k9d_q122_0 : k9d_chk 122 prog_1_method_25_code (fun a => (k9_nth (0, 0, 0, 0) k9_w122 a).1) 64 (prog_1_method_25_code.data.toList.drop 0) (k9_c122.drop 0) (k9_w122.drop 0) = true := by decide +kernel
theorem k9d_a122 (ix : Nat) (hne : k9_cod 122 ix ≠ (0, 0, 0, 0, 0)) : k9_okP 122 ix :=
  k9d_ch (m := 64) (k := 0) (pc := 0) rfl rfl rfl rfl rfl k9d_q122_0 ix (Nat.zero_le ix) hne fun h1 =>
  k9d_end (n := 64) rfl (by decide +kernel) ix h1 hne
theorem k9d_q123_0 : k9d_chk 123 prog_1_method_26_code (fun a => (k9_nth (0, 0, 0, 0) k9_w123 a).1) 64 (prog_1_method_26_code.data.toList.drop 0) (k9_c123.drop 0) (k9_w123.drop 0) = true := by decide +kernel
theorem k9d_a123 (ix : Nat) (hne : k9_cod 123 ix ≠ (0, 0, 0, 0, 0)) : k9_okP 123 ix :=
  k9d_ch (m := 64) (k := 0) (pc := 0) rfl rfl rfl rfl rfl k9d_q123_0 ix (Nat.zero_le ix) hne fun h1 =>
  k9d_end (n := 64) rfl (by decide +kernel) ix h1 hne
theorem k9d_q124_0 : k9d_chk 124 prog_1_method_27_code (fun a => (k9_nth (0, 0, 0, 0) k9_w124 a).1) 64 (prog_1_method_27_code.data.toList.drop 0) (k9_c124.drop 0) (k9_w124.drop 0) = true := by decide +kernel
theorem k9d_a124 (ix : Nat) (hne : k9_cod 124 ix ≠ (0, 0, 0, 0, 0)) : k9_okP 124 ix :=
  k9d_ch (m := 64) (k := 0) (pc := 0) rfl rfl rfl rfl rfl k9d_q124_0 ix (Nat.zero_le ix) hne fun h1 =>
  k9d_end (n := 64) rfl (by decide +kernel) ix h1 hne
theorem k9d_q125_0 : k9d_chk 125 prog_1_method_28_code (fun a => (k9_nth (0, 0, 0, 0) k9_w125 a).1) 64 (prog_1_method_28_code.data.toList.drop 0) (k9_c125.drop 0) (k9_w125.drop 0) = true := by decide +kernel
theorem k9d_q125_1 : k9d_chk 125 prog_1_method_28_code (fun a => (k9_nth (0, 0, 0, 0) k9_w125 a).1) 64 (prog_1_method_28_code.data.toList.drop 130) (k9_c125.drop 64) (k9_w125.drop 64) = true := by decide +kernel
theorem k9d_a125 (ix : Nat) (hne : k9_cod 125 ix ≠ (0, 0, 0, 0, 0)) : k9_okP 125 ix :=
  k9d_ch (m := 64) (k := 0) (pc := 0) rfl rfl rfl rfl rfl k9d_q125_0 ix (Nat.zero_le ix) hne fun h1 =>
  k9d_ch (m := 64) (k := 64) (pc := 130) rfl rfl rfl rfl (by decide +kernel) k9d_q125_1 ix h1 hne fun h2 =>
  k9d_end (n := 128) rfl (by decide +kernel) ix h2 hne
theorem k9d_q126_0 : k9d_chk 126 prog_1_method_29_code (fun a => (k9_nth (0, 0, 0, 0) k9_w126 a).1) 64 (prog_1_method_29_code.data.toList.drop 0) (k9_c126.drop 0) (k9_w126.drop 0) = true := by decide +kernel
theorem k9d_a126 (ix : Nat) (hne : k9_cod 126 ix ≠ (0, 0, 0, 0, 0)) : k9_okP 126 ix :=
  k9d_ch (m := 64) (k := 0) (pc := 0) rfl rfl rfl rfl rfl k9d_q126_0 ix (Nat.zero_le ix) hne fun h1 =>
  k9d_end (n := 64) rfl (by decide +kernel) ix h1 hne
theorem k9d_q127_0 : k9d_chk 127 prog_1_method_30_code (fun a => (k9_nth (0, 0, 0, 0) k9_w127 a).1) 64 (prog_1_method_30_code.data.toList.drop 0) (k9_c127.drop 0) (k9_w127.drop 0) = true := by decide +kernel
theorem k9d_a127 (ix : Nat) (hne : k9_cod 127 ix ≠ (0, 0, 0, 0, 0)) : k9_okP 127 ix :=
  k9d_ch (m := 64) (k := 0) (pc := 0) rfl rfl rfl rfl rfl k9d_q127_0 ix (Nat.zero_le ix) hne fun h1 =>
  k9d_end (n := 64) rfl (by decide +kernel) ix h1 hne
theorem k9d_q128_0 : k9d_chk 128 prog_1_method_31_code (fun a => (k9_nth (0, 0, 0, 0) k9_w128 a).1) 64 (prog_1_method_31_code.data.toList.drop 0) (k9_c128.drop 0) (k9_w128.drop 0) = true := by decide +kernel
theorem k9d_a128 (ix : Nat) (hne : k9_cod 128 ix ≠ (0, 0, 0, 0, 0)) : k9_okP 128 ix :=
  k9d_ch (m := 64) (k := 0) (pc := 0) rfl rfl rfl rfl rfl k9d_q128_0 ix (Nat.zero_le ix) hne fun h1 =>
  k9d_end (n := 64) rfl (by decide +kernel) ix h1 hne
theorem k9d_q129_0 : k9d_chk 129 prog_1_method_32_code (fun a => (k9_nth (0, 0, 0, 0) k9_w129 a).1) 64 (prog_1_method_32_code.data.toList.drop 0) (k9_c129.drop 0) (k9_w129.drop 0) = true := by decide +kernel
theorem k9d_a129 (ix : Nat) (hne : k9_cod 129 ix ≠ (0, 0, 0, 0, 0)) : k9_okP 129 ix :=
  k9d_ch (m := 64) (k := 0) (pc := 0) rfl rfl rfl rfl rfl k9d_q129_0 ix (Nat.zero_le ix) hne fun h1 =>
  k9d_end (n := 64) rfl (by decide +kernel) ix h1 hne
theorem k9d_q130_0 : k9d_chk 130 prog_1_method_33_code (fun a => (k9_nth (0, 0, 0, 0) k9_w130 a).1) 64 (prog_1_method_33_code.data.toList.drop 0) (k9_c130.drop 0) (k9_w130.drop 0) = true := by decide +kernel
theorem k9d_a130 (ix : Nat) (hne : k9_cod 130 ix ≠ (0, 0, 0, 0, 0)) : k9_okP 130 ix :=
  k9d_ch (m := 64) (k := 0) (pc := 0) rfl rfl rfl rfl rfl k9d_q130_0 ix (Nat.zero_le ix) hne fun h1 =>
  k9d_end (n := 64) rfl (by decide +kernel) ix h1 hne
theorem k9d_q131_0 : k9d_chk 131 prog_1_method_34_code (fun a => (k9_nth (0, 0, 0, 0) k9_w131 a).1) 64 (prog_1_method_34_code.data.toList.drop 0) (k9_c131.drop 0) (k9_w131.drop 0) = true := by decide +kernel
theorem k9d_a131 (ix : Nat) (hne : k9_cod 131 ix ≠ (0, 0, 0, 0, 0)) : k9_okP 131 ix :=
  k9d_ch (m := 64) (k := 0) (pc := 0) rfl rfl rfl rfl rfl k9d_q131_0 ix (Nat.zero_le ix) hne fun h1 =>
  k9d_end (n := 64) rfl (by decide +kernel) ix h1 hne
theorem k9d_q132_0 : k9d_chk 132 prog_1_method_35_code (fun a => (k9_nth (0, 0, 0, 0) k9_w132 a).1) 64 (prog_1_method_35_code.data.toList.drop 0) (k9_c132.drop 0) (k9_w132.drop 0) = true := by decide +kernel
theorem k9d_a132 (ix : Nat) (hne : k9_cod 132 ix ≠ (0, 0, 0, 0, 0)) : k9_okP 132 ix :=
  k9d_ch (m := 64) (k := 0) (pc := 0) rfl rfl rfl rfl rfl k9d_q132_0 ix (Nat.zero_le ix) hne fun h1 =>
  k9d_end (n := 64) rfl (by decide +kernel) ix h1 hne
theorem k9d_q133_0 : k9d_chk 133 prog_1_method_36_code (fun a => (k9_nth (0, 0, 0, 0) k9_w133 a).1) 64 (prog_1_method_36_code.data.toList.drop 0) (k9_c133.drop 0) (k9_w133.drop 0) = true := by decide +kernel
theorem k9d_a133 (ix : Nat) (hne : k9_cod 133 ix ≠ (0, 0, 0, 0, 0)) : k9_okP 133 ix :=
  k9d_ch (m := 64) (k := 0) (pc := 0) rfl rfl rfl rfl rfl k9d_q133_0 ix (Nat.zero_le ix) hne fun h1 =>
  k9d_end (n := 64) rfl (by decide +kernel) ix h1 hne
theorem k9d_q134_0 : k9d_chk 134 prog_1_method_37_code (fun a => (k9_nth (0, 0, 0, 0) k9_w134 a).1) 64 (prog_1_method_37_code.data.toList.drop 0) (k9_c134.drop 0) (k9_w134.drop 0) = true := by decide +kernel
theorem k9d_a134 (ix : Nat) (hne : k9_cod 134 ix ≠ (0, 0, 0, 0, 0)) : k9_okP 134 ix :=
  k9d_ch (m := 64) (k := 0) (pc := 0) rfl rfl rfl rfl rfl k9d_q134_0 ix (Nat.zero_le ix) hne fun h1 =>
  k9d_end (n := 64) rfl (by decide +kernel) ix h1 hne
theorem k9d_q135_0 : k9d_chk 135 prog_1_method_38_code (fun a => (k9_nth (0, 0, 0, 0) k9_w135 a).1) 64 (prog_1_method_38_code.data.toList.drop 0) (k9_c135.drop 0) (k9_w135.drop 0) = true := by decide +kernel
theorem k9d_a135 (ix : Nat) (hne : k9_cod 135 ix ≠ (0, 0, 0, 0, 0)) : k9_okP 135 ix :=
  k9d_ch (m := 64) (k := 0) (pc := 0) rfl rfl rfl rfl rfl k9d_q135_0 ix (Nat.zero_le ix) hne fun h1 =>
  k9d_end (n := 64) rfl (by decide +kernel) ix h1 hne
theorem k9d_q136_0 : k9d_chk 136 prog_1_method_39_code (fun a => (k9_nth (0, 0, 0, 0) k9_w136 a).1) 64 (prog_1_method_39_code.data.toList.drop 0) (k9_c136.drop 0) (k9_w136.drop 0) = true := by decide +kernel
theorem k9d_a136 (ix : Nat) (hne : k9_cod 136 ix ≠ (0, 0, 0, 0, 0)) : k9_okP 136 ix :=
  k9d_ch (m := 64) (k := 0) (pc := 0) rfl rfl rfl rfl rfl k9d_q136_0 ix (Nat.zero_le ix) hne fun h1 =>
  k9d_end (n := 64) rfl (by decide +kernel) ix h1 hne
theorem k9d_q137_0 : k9d_chk 137 prog_1_method_40_code (fun a => (k9_nth (0, 0, 0, 0) k9_w137 a).1) 64 (prog_1_method_40_code.data.toList.drop 0) (k9_c137.drop 0) (k9_w137.drop 0) = true := by decide +kernel
theorem k9d_a137 (ix : Nat) (hne : k9_cod 137 ix ≠ (0, 0, 0, 0, 0)) : k9_okP 137 ix :=
  k9d_ch (m := 64) (k := 0) (pc := 0) rfl rfl rfl rfl rfl k9d_q137_0 ix (Nat.zero_le ix) hne fun h1 =>
  k9d_end (n := 64) rfl (by decide +kernel) ix h1 hne
theorem k9d_q138_0 : k9d_chk 138 prog_1_method_41_code (fun a => (k9_nth (0, 0, 0, 0) k9_w138 a).1) 64 (prog_1_method_41_code.data.toList.drop 0) (k9_c138.drop 0) (k9_w138.drop 0) = true := by decide +kernel
theorem k9d_a138 (ix : Nat) (hne : k9_cod 138 ix ≠ (0, 0, 0, 0, 0)) : k9_okP 138 ix :=
  k9d_ch (m := 64) (k := 0) (pc := 0) rfl rfl rfl rfl rfl k9d_q138_0 ix (Nat.zero_le ix) hne fun h1 =>
  k9d_end (n := 64) rfl (by decide +kernel) ix h1 hne
theorem k9d_q139_0 : k9d_chk 139 prog_1_method_42_code (fun a => (k9_nth (0, 0, 0, 0) k9_w139 a).1) 64 (prog_1_method_42_code.data.toList.drop 0) (k9_c139.drop 0) (k9_w139.drop 0) = true := by decide +kernel
theorem k9d_a139 (ix : Nat) (hne : k9_cod 139 ix ≠ (0, 0, 0, 0, 0)) : k9_okP 139 ix :=
  k9d_ch (m := 64) (k := 0) (pc := 0) rfl rfl rfl rfl rfl k9d_q139_0 ix (Nat.zero_le ix) hne fun h1 =>
  k9d_end (n := 64) rfl (by decide +kernel) ix h1 hne
theorem k9d_q140_0 : k9d_chk 140 prog_1_method_43_code (fun a => (k9_nth (0, 0, 0, 0) k9_w140 a).1) 64 (prog_1_method_43_code.data.toList.drop 0) (k9_c140.drop 0) (k9_w140.drop 0) = true := by decide +kernel
theorem k9d_a140 (ix : Nat) (hne : k9_cod 140 ix ≠ (0, 0, 0, 0, 0)) : k9_okP 140 ix :=
  k9d_ch (m := 64) (k := 0) (pc := 0) rfl rfl rfl rfl rfl k9d_q140_0 ix (Nat.zero_le ix) hne fun h1 =>
  k9d_end (n := 64) rfl (by decide +kernel) ix h1 hne
theorem k9d_q141_0 : k9d_chk 141 prog_1_method_44_code (fun a => (k9_nth (0, 0, 0, 0) k9_w141 a).1) 64 (prog_1_method_44_code.data.toList.drop 0) (k9_c141.drop 0) (k9_w141.drop 0) = true := by decide +kernel
theorem k9d_a141 (ix : Nat) (hne : k9_cod 141 ix ≠ (0, 0, 0, 0, 0)) : k9_okP 141 ix :=
  k9d_ch (m := 64) (k := 0) (pc := 0) rfl rfl rfl rfl rfl k9d_q141_0 ix (Nat.zero_le ix) hne fun h1 =>
  k9d_end (n := 64) rfl (by decide +kernel) ix h1 hne
theorem k9d_q142_0 : k9d_chk 142 prog_1_method_45_code (fun a => (k9_nth (0, 0, 0, 0) k9_w142 a).1) 64 (prog_1_method_45_code.data.toList.drop 0) (k9_c142.drop 0) (k9_w142.drop 0) = true := by decide +kernel
theorem k9d_a142 (ix : Nat) (hne : k9_cod 142 ix ≠ (0, 0, 0, 0, 0)) : k9_okP 142 ix :=
  k9d_ch (m := 64) (k := 0) (pc := 0) rfl rfl rfl rfl rfl k9d_q142_0 ix (Nat.zero_le ix) hne fun h1 =>
  k9d_end (n := 64) rfl (by decide +kernel) ix h1 hne
theorem k9d_q143_0 : k9d_chk 143 prog_1_method_46_code (fun a => (k9_nth (0, 0, 0, 0) k9_w143 a).1) 64 (prog_1_method_46_code.data.toList.drop 0) (k9_c143.drop 0) (k9_w143.drop 0) = true := by decide +kernel
theorem k9d_a143 (ix : Nat) (hne : k9_cod 143 ix ≠ (0, 0, 0, 0, 0)) : k9_okP 143 ix :=
  k9d_ch (m := 64) (k := 0) (pc := 0) rfl rfl rfl rfl rfl k9d_q143_0 ix (Nat.zero_le ix) hne fun h1 =>
  k9d_end (n := 64) rfl (by decide +kernel) ix h1 hne
theorem k9d_q144_0 : k9d_chk 144 prog_1_method_47_code (fun a => (k9_nth (0, 0, 0, 0) k9_w144 a).1) 64 (prog_1_method_47_code.data.toList.drop 0) (k9_c144.drop 0) (k9_w144.drop 0) = true := by decide +kernel
theorem k9d_a144 (ix : Nat) (hne : k9_cod 144 ix ≠ (0, 0, 0, 0, 0)) : k9_okP 144 ix :=
  k9d_ch (m := 64) (k := 0) (pc := 0) rfl rfl rfl rfl rfl k9d_q144_0 ix (Nat.zero_le ix) hne fun h1 =>
  k9d_end (n := 64) rfl (by decide +kernel) ix h1 hne
theorem k9d_q145_0 : k9d_chk 145 prog_1_method_48_code (fun a => (k9_nth (0, 0, 0, 0) k9_w145 a).1) 64 (prog_1_method_48_code.data.toList.drop 0) (k9_c145.drop 0) (k9_w145.drop 0) = true := by decide +kernel
theorem k9d_a145 (ix : Nat) (hne : k9_cod 145 ix ≠ (0, 0, 0, 0, 0)) : k9_okP 145 ix :=
  k9d_ch (m := 64) (k := 0) (pc := 0) rfl rfl rfl rfl rfl k9d_q145_0 ix (Nat.zero_le ix) hne fun h1 =>
  k9d_end (n := 64) rfl (by decide +kernel) ix h1 hne
theorem k9d_q146_0 : k9d_chk 146 prog_1_method_49_code (fun a => (k9_nth (0, 0, 0, 0) k9_w146 a).1) 64 (prog_1_method_49_code.data.toList.drop 0) (k9_c146.drop 0) (k9_w146.drop 0) = true := by decide +kernel
theorem k9d_a146 (ix : Nat) (hne : k9_cod 146 ix ≠ (0, 0, 0, 0, 0)) : k9_okP 146 ix :=
  k9d_ch (m := 64) (k := 0) (pc := 0) rfl rfl rfl rfl rfl k9d_q146_0 ix (Nat.zero_le ix) hne fun h1 =>
  k9d_end (n := 64) rfl (by decide +kernel) ix h1 hne
theorem k9d_q147_0 : k9d_chk 147 prog_1_method_50_code (fun a => (k9_nth (0, 0, 0, 0) k9_w147 a).1) 64 (prog_1_method_50_code.data.toList.drop 0) (k9_c147.drop 0) (k9_w147.drop 0) = true := by decide +kernel
theorem k9d_a147 (ix : Nat) (hne : k9_cod 147 ix ≠ (0, 0, 0, 0, 0)) : k9_okP 147 ix :=
  k9d_ch (m := 64) (k := 0) (pc := 0) rfl rfl rfl rfl rfl k9d_q147_0 ix (Nat.zero_le ix) hne fun h1 =>
  k9d_end (n := 64) rfl (by decide +kernel) ix h1 hne
theorem k9d_q148_0 : k9d_chk 148 prog_1_method_51_code (fun a => (k9_nth (0, 0, 0, 0) k9_w148 a).1) 64 (prog_1_method_51_code.data.toList.drop 0) (k9_c148.drop 0) (k9_w148.drop 0) = true := by decide +kernel
theorem k9d_a148 (ix : Nat) (hne : k9_cod 148 ix ≠ (0, 0, 0, 0, 0)) : k9_okP 148 ix :=
  k9d_ch (m := 64) (k := 0) (pc := 0) rfl rfl rfl rfl rfl k9d_q148_0 ix (Nat.zero_le ix) hne fun h1 =>
  k9d_end (n := 64) rfl (by decide +kernel) ix h1 hne
theorem k9d_q149_0 : k9d_chk 149 prog_1_method_52_code (fun a => (k9_nth (0, 0, 0, 0) k9_w149 a).1) 64 (prog_1_method_52_code.data.toList.drop 0) (k9_c149.drop 0) (k9_w149.drop 0) = true := by decide +kernel
theorem k9d_a149 (ix : Nat) (hne : k9_cod 149 ix ≠ (0, 0, 0, 0, 0)) : k9_okP 149 ix :=
  k9d_ch (m := 64) (k := 0) (pc := 0) rfl rfl rfl rfl rfl k9d_q149_0 ix (Nat.zero_le ix) hne fun h1 =>
  k9d_end (n := 64) rfl (by decide +kernel) ix h1 hne
theorem k9d_q150_0 : k9d_chk 150 prog_1_method_53_code (fun a => (k9_nth (0, 0, 0, 0) k9_w150 a).1) 64 (prog_1_method_53_code.data.toList.drop 0) (k9_c150.drop 0) (k9_w150.drop 0) = true := by decide +kernel
theorem k9d_a150 (ix : Nat) (hne : k9_cod 150 ix ≠ (0, 0, 0, 0, 0)) : k9_okP 150 ix :=
  k9d_ch (m := 64) (k := 0) (pc := 0) rfl rfl rfl rfl rfl k9d_q150_0 ix (Nat.zero_le ix) hne fun h1 =>
  k9d_end (n := 64) rfl (by decide +kernel) ix h1 hne
theorem k9d_q151_0 : k9d_chk 151 prog_1_method_54_code (fun a => (k9_nth (0, 0, 0, 0) k9_w151 a).1) 64 (prog_1_method_54_code.data.toList.drop 0) (k9_c151.drop 0) (k9_w151.drop 0) = true := by decide +kernel
theorem k9d_a151 (ix : Nat) (hne : k9_cod 151 ix ≠ (0, 0, 0, 0, 0)) : k9_okP 151 ix :=
  k9d_ch (m := 64) (k := 0) (pc := 0) rfl rfl rfl rfl rfl k9d_q151_0 ix (Nat.zero_le ix) hne fun h1 =>
  k9d_end (n := 64) rfl (by decide +kernel) ix h1 hne
theorem k9d_q152_0 : k9d_chk 152 prog_1_method_55_code (fun a => (k9_nth (0, 0, 0, 0) k9_w152 a).1) 64 (prog_1_method_55_code.data.toList.drop 0) (k9_c152.drop 0) (k9_w152.drop 0) = true := by decide +kernel
theorem k9d_a152 (ix : Nat) (hne : k9_cod 152 ix ≠ (0, 0, 0, 0, 0)) : k9_okP 152 ix :=
  k9d_ch (m := 64) (k := 0) (pc := 0) rfl rfl rfl rfl rfl k9d_q152_0 ix (Nat.zero_le ix) hne fun h1 =>
  k9d_end (n := 64) rfl (by decide +kernel) ix h1 hne
theorem k9d_q153_0 : k9d_chk 153 prog_13_method_2_code (fun a => (k9_nth (0, 0, 0, 0) k9_w153 a).1) 64 (prog_13_method_2_code.data.toList.drop 0) (k9_c153.drop 0) (k9_w153.drop 0) = true := by decide +kernel
theorem k9d_a153 (ix : Nat) (hne : k9_cod 153 ix ≠ (0, 0, 0, 0, 0)) : k9_okP 153 ix :=
  k9d_ch (m := 64) (k := 0) (pc := 0) rfl rfl rfl rfl rfl k9d_q153_0 ix (Nat.zero_le ix) hne fun h1 =>
  k9d_end (n := 64) rfl (by decide +kernel) ix h1 hne
theorem k9d_q154_0 : k9d_chk 154 prog_13_method_3_code (fun a => (k9_nth (0, 0, 0, 0) k9_w154 a).1) 64 (prog_13_method_3_code.data.toList.drop 0) (k9_c154.drop 0) (k9_w154.drop 0) = true := by decide +kernel
theorem k9d_a154 (ix : Nat) (hne : k9_cod 154 ix ≠ (0, 0, 0, 0, 0)) : k9_okP 154 ix :=
  k9d_ch (m := 64) (k := 0) (pc := 0) rfl rfl rfl rfl rfl k9d_q154_0 ix (Nat.zero_le ix) hne fun h1 =>
  k9d_end (n := 64) rfl (by decide +kernel) ix h1 hne
theorem k9d_q155_0 : k9d_chk 155 prog_13_method_4_code (fun a => (k9_nth (0, 0, 0, 0) k9_w155 a).1) 64 (prog_13_method_4_code.data.toList.drop 0) (k9_c155.drop 0) (k9_w155.drop 0) = true := by decide +kernel
theorem k9d_a155 (ix : Nat) (hne : k9_cod 155 ix ≠ (0, 0, 0, 0, 0)) : k9_okP 155 ix :=
  k9d_ch (m := 64) (k := 0) (pc := 0) rfl rfl rfl rfl rfl k9d_q155_0 ix (Nat.zero_le ix) hne fun h1 =>
  k9d_end (n := 64) rfl (by decide +kernel) ix h1 hne
theorem k9d_q156_0 : k9d_chk 156 prog_13_method_5_code (fun a => (k9_nth (0, 0, 0, 0) k9_w156 a).1) 64 (prog_13_method_5_code.data.toList.drop 0) (k9_c156.drop 0) (k9_w156.drop 0) = true := by decide +kernel
theorem k9d_a156 (ix : Nat) (hne : k9_cod 156 ix ≠ (0, 0, 0, 0, 0)) : k9_okP 156 ix :=
  k9d_ch (m := 64) (k := 0) (pc := 0) rfl rfl rfl rfl rfl k9d_q156_0 ix (Nat.zero_le ix) hne fun h1 =>
  k9d_end (n := 64) rfl (by decide +kernel) ix h1 hne
theorem k9d_q157_0 : k9d_chk 157 prog_13_method_6_code (fun a => (k9_nth (0, 0, 0, 0) k9_w157 a).1) 64 (prog_13_method_6_code.data.toList.drop 0) (k9_c157.drop 0) (k9_w157.drop 0) = true := by decide +kernel
theorem k9d_a157 (ix : Nat) (hne : k9_cod 157 ix ≠ (0, 0, 0, 0, 0)) : k9_okP 157 ix :=
  k9d_ch (m := 64) (k := 0) (pc := 0) rfl rfl rfl rfl rfl k9d_q157_0 ix (Nat.zero_le ix) hne fun h1 =>
  k9d_end (n := 64) rfl (by decide +kernel) ix h1 hne
theorem k9d_q158_0 : k9d_chk 158 prog_13_method_7_code (fun a => (k9_nth (0, 0, 0, 0) k9_w158 a).1) 64 (prog_13_method_7_code.data.toList.drop 0) (k9_c158.drop 0) (k9_w158.drop 0) = true := by decide +kernel
theorem k9d_a158 (ix : Nat) (hne : k9_cod 158 ix ≠ (0, 0, 0, 0, 0)) : k9_okP 158 ix :=
  k9d_ch (m := 64) (k := 0) (pc := 0) rfl rfl rfl rfl rfl k9d_q158_0 ix (Nat.zero_le ix) hne fun h1 =>
  k9d_end (n := 64) rfl (by decide +kernel) ix h1 hne
theorem k9d_q159_0 : k9d_chk 159 prog_13_method_8_code (fun a => (k9_nth (0, 0, 0, 0) k9_w159 a).1) 64 (prog_13_method_8_code.data.toList.drop 0) (k9_c159.drop 0) (k9_w159.drop 0) = true := by decide +kernel
theorem k9d_q159_1 : k9d_chk 159 prog_13_method_8_code (fun a => (k9_nth (0, 0, 0, 0) k9_w159 a).1) 64 (prog_13_method_8_code.data.toList.drop 109) (k9_c159.drop 64) (k9_w159.drop 64) = true := by decide +kernel
theorem k9d_a159 (ix : Nat) (hne : k9_cod 159 ix ≠ (0, 0, 0, 0, 0)) : k9_okP 159 ix :=
  k9d_ch (m := 64) (k := 0) (pc := 0) rfl rfl rfl rfl rfl k9d_q159_0 ix (Nat.zero_le ix) hne fun h1 =>
  k9d_ch (m := 64) (k := 64) (pc := 109) rfl rfl rfl rfl (by decide +kernel) k9d_q159_1 ix h1 hne fun h2 =>
  k9d_end (n := 128) rfl (by decide +kernel) ix h2 hne
theorem k9d_q160_0 : k9d_chk 160 prog_13_method_9_code (fun a => (k9_nth (0, 0, 0, 0) k9_w160 a).1) 64 (prog_13_method_9_code.data.toList.drop 0) (k9_c160.drop 0) (k9_w160.drop 0) = true := by decide +kernel
theorem k9d_a160 (ix : Nat) (hne : k9_cod 160 ix ≠ (0, 0, 0, 0, 0)) : k9_okP 160 ix :=
  k9d_ch (m := 64) (k := 0) (pc := 0) rfl rfl rfl rfl rfl k9d_q160_0 ix (Nat.zero_le ix) hne fun h1 =>
  k9d_end (n := 64) rfl (by decide +kernel) ix h1 hne
theorem k9d_q161_0 : k9d_chk 161 prog_13_method_10_code (fun a => (k9_nth (0, 0, 0, 0) k9_w161 a).1) 64 (prog_13_method_10_code.data.toList.drop 0) (k9_c161.drop 0) (k9_w161.drop 0) = true := by decide +kernel
theorem k9d_a161 (ix : Nat) (hne : k9_cod 161 ix ≠ (0, 0, 0, 0, 0)) : k9_okP 161 ix :=
  k9d_ch (m := 64) (k := 0) (pc := 0) rfl rfl rfl rfl rfl k9d_q161_0 ix (Nat.zero_le ix) hne fun h1 =>
  k9d_end (n := 64) rfl (by decide +kernel) ix h1 hne
theorem k9d_q162_0 : k9d_chk 162 prog_13_method_11_code (fun a => (k9_nth (0, 0, 0, 0) k9_w162 a).1) 64 (prog_13_method_11_code.data.toList.drop 0) (k9_c162.drop 0) (k9_w162.drop 0) = true := by decide +kernel
theorem k9d_a162 (ix : Nat) (hne : k9_cod 162 ix ≠ (0, 0, 0, 0, 0)) : k9_okP 162 ix :=
  k9d_ch (m := 64) (k := 0) (pc := 0) rfl rfl rfl rfl rfl k9d_q162_0 ix (Nat.zero_le ix) hne fun h1 =>
  k9d_end (n := 64) rfl (by decide +kernel) ix h1 hne
theorem k9d_q163_0 : k9d_chk 163 prog_13_method_12_code (fun a => (k9_nth (0, 0, 0, 0) k9_w163 a).1) 64 (prog_13_method_12_code.data.toList.drop 0) (k9_c163.drop 0) (k9_w163.drop 0) = true := by decide +kernel
theorem k9d_a163 (ix : Nat) (hne : k9_cod 163 ix ≠ (0, 0, 0, 0, 0)) : k9_okP 163 ix :=
  k9d_ch (m := 64) (k := 0) (pc := 0) rfl rfl rfl rfl rfl k9d_q163_0 ix (Nat.zero_le ix) hne fun h1 =>
  k9d_end (n := 64) rfl (by decide +kernel) ix h1 hne
theorem k9d_q164_0 : k9d_chk 164 prog_13_method_13_code (fun a => (k9_nth (0, 0, 0, 0) k9_w164 a).1) 64 (prog_13_method_13_code.data.toList.drop 0) (k9_c164.drop 0) (k9_w164.drop 0) = true := by decide +kernel
theorem k9d_q164_1 : k9d_chk 164 prog_13_method_13_code (fun a => (k9_nth (0, 0, 0, 0) k9_w164 a).1) 64 (prog_13_method_13_code.data.toList.drop 112) (k9_c164.drop 64) (k9_w164.drop 64) = true := by decide +kernel
theorem k9d_a164 (ix : Nat) (hne : k9_cod 164 ix ≠ (0, 0, 0, 0, 0)) : k9_okP 164 ix :=
  k9d_ch (m := 64) (k := 0) (pc := 0) rfl rfl rfl rfl rfl k9d_q164_0 ix (Nat.zero_le ix) hne fun h1 =>
  k9d_ch (m := 64) (k := 64) (pc := 112) rfl rfl rfl rfl (by decide +kernel) k9d_q164_1 ix h1 hne fun h2 =>
  k9d_end (n := 128) rfl (by decide +kernel) ix h2 hne
theorem k9d_q165_0 : k9d_chk 165 prog_13_method_14_code (fun a => (k9_nth (0, 0, 0, 0) k9_w165 a).1) 64 (prog_13_method_14_code.data.toList.drop 0) (k9_c165.drop 0) (k9_w165.drop 0) = true := by decide +kernel
theorem k9d_a165 (ix : Nat) (hne : k9_cod 165 ix ≠ (0, 0, 0, 0, 0)) : k9_okP 165 ix :=
  k9d_ch (m := 64) (k := 0) (pc := 0) rfl rfl rfl rfl rfl k9d_q165_0 ix (Nat.zero_le ix) hne fun h1 =>
  k9d_end (n := 64) rfl (by decide +kernel) ix h1 hne
theorem k9d_q166_0 : k9d_chk 166 prog_13_method_15_code (fun a => (k9_nth (0, 0, 0, 0) k9_w166 a).1) 64 (prog_13_method_15_code.data.toList.drop 0) (k9_c166.drop 0) (k9_w166.drop 0) = true := by decide +kernel
theorem k9d_a166 (ix : Nat) (hne : k9_cod 166 ix ≠ (0, 0, 0, 0, 0)) : k9_okP 166 ix :=
  k9d_ch (m := 64) (k := 0) (pc := 0) rfl rfl rfl rfl rfl k9d_q166_0 ix (Nat.zero_le ix) hne fun h1 =>
  k9d_end (n := 64) rfl (by decide +kernel) ix h1 hne
theorem k9d_q167_0 : k9d_chk 167 prog_13_method_16_code (fun a => (k9_nth (0, 0, 0, 0) k9_w167 a).1) 64 (prog_13_method_16_code.data.toList.drop 0) (k9_c167.drop 0) (k9_w167.drop 0) = true := by decide +kernel
theorem k9d_a167 (ix : Nat) (hne : k9_cod 167 ix ≠ (0, 0, 0, 0, 0)) : k9_okP 167 ix :=
  k9d_ch (m := 64) (k := 0) (pc := 0) rfl rfl rfl rfl rfl k9d_q167_0 ix (Nat.zero_le ix) hne fun h1 =>
  k9d_end (n := 64) rfl (by decide +kernel) ix h1 hne
theorem k9d_q168_0 : k9d_chk 168 prog_13_method_17_code (fun a => (k9_nth (0, 0, 0, 0) k9_w168 a).1) 64 (prog_13_method_17_code.data.toList.drop 0) (k9_c168.drop 0) (k9_w168.drop 0) = true := by decide +kernel
theorem k9d_a168 (ix : Nat) (hne : k9_cod 168 ix ≠ (0, 0, 0, 0, 0)) : k9_okP 168 ix :=
  k9d_ch (m := 64) (k := 0) (pc := 0) rfl rfl rfl rfl rfl k9d_q168_0 ix (Nat.zero_le ix) hne fun h1 =>
  k9d_end (n := 64) rfl (by decide +kernel) ix h1 hne
theorem k9d_q169_0 : k9d_chk 169 prog_13_method_18_code (fun a => (k9_nth (0, 0, 0, 0) k9_w169 a).1) 64 (prog_13_method_18_code.data.toList.drop 0) (k9_c169.drop 0) (k9_w169.drop 0) = true := by decide +kernel
theorem k9d_a169 (ix : Nat) (hne : k9_cod 169 ix ≠ (0, 0, 0, 0, 0)) : k9_okP 169 ix :=
  k9d_ch (m := 64) (k := 0) (pc := 0) rfl rfl rfl rfl rfl k9d_q169_0 ix (Nat.zero_le ix) hne fun h1 =>
  k9d_end (n := 64) rfl (by decide +kernel) ix h1 hne
theorem k9d_q170_0 : k9d_chk 170 prog_13_method_19_code (fun a => (k9_nth (0, 0, 0, 0) k9_w170 a).1) 64 (prog_13_method_19_code.data.toList.drop 0) (k9_c170.drop 0) (k9_w170.drop 0) = true := by decide +kernel
theorem k9d_a170 (ix : Nat) (hne : k9_cod 170 ix ≠ (0, 0, 0, 0, 0)) : k9_okP 170 ix :=
  k9d_ch (m := 64) (k := 0) (pc := 0) rfl rfl rfl rfl rfl k9d_q170_0 ix (Nat.zero_le ix) hne fun h1 =>
  k9d_end (n := 64) rfl (by decide +kernel) ix h1 hne
theorem k9d_q171_0 : k9d_chk 171 prog_13_method_20_code (fun a => (k9_nth (0, 0, 0, 0) k9_w171 a).1) 64 (prog_13_method_20_code.data.toList.drop 0) (k9_c171.drop 0) (k9_w171.drop 0) = true := by decide +kernel
theorem k9d_a171 (ix : Nat) (hne : k9_cod 171 ix ≠ (0, 0, 0, 0, 0)) : k9_okP 171 ix :=
  k9d_ch (m := 64) (k := 0) (pc := 0) rfl rfl rfl rfl rfl k9d_q171_0 ix (Nat.zero_le ix) hne fun h1 =>
  k9d_end (n := 64) rfl (by decide +kernel) ix h1 hne
theorem k9d_q172_0 : k9d_chk 172 prog_13_method_21_code (fun a => (k9_nth (0, 0, 0, 0) k9_w172 a).1) 64 (prog_13_method_21_code.data.toList.drop 0) (k9_c172.drop 0) (k9_w172.drop 0) = true := by decide +kernel
theorem k9d_a172 (ix : Nat) (hne : k9_cod 172 ix ≠ (0, 0, 0, 0, 0)) : k9_okP 172 ix :=
  k9d_ch (m := 64) (k := 0) (pc := 0) rfl rfl rfl rfl rfl k9d_q172_0 ix (Nat.zero_le ix) hne fun h1 =>
  k9d_end (n := 64) rfl (by decide +kernel) ix h1 hne
theorem k9d_q173_0 : k9d_chk 173 prog_13_method_22_code (fun a => (k9_nth (0, 0, 0, 0) k9_w173 a).1) 64 (prog_13_method_22_code.data.toList.drop 0) (k9_c173.drop 0) (k9_w173.drop 0) = true := by decide +kernel
theorem k9d_a173 (ix : Nat) (hne : k9_cod 173 ix ≠ (0, 0, 0, 0, 0)) : k9_okP 173 ix :=
  k9d_ch (m := 64) (k := 0) (pc := 0) rfl rfl rfl rfl rfl k9d_q173_0 ix (Nat.zero_le ix) hne fun h1 =>
  k9d_end (n := 64) rfl (by decide +kernel) ix h1 hne
theorem k9d_q174_0 : k9d_chk 174 prog_13_method_23_code (fun a => (k9_nth (0, 0, 0, 0) k9_w174 a).1) 64 (prog_13_method_23_code.data.toList.drop 0) (k9_c174.drop 0) (k9_w174.drop 0) = true := by decide +kernel
theorem k9d_q174_1 : k9d_chk 174 prog_13_method_23_code (fun a => (k9_nth (0, 0, 0, 0) k9_w174 a).1) 64 (prog_13_method_23_code.data.toList.drop 110) (k9_c174.drop 64) (k9_w174.drop 64) = true := by decide +kernel
theorem k9d_a174 (ix : Nat) (hne : k9_cod 174 ix ≠ (0, 0, 0, 0, 0)) : k9_okP 174 ix :=
  k9d_ch (m := 64) (k := 0) (pc := 0) rfl rfl rfl rfl rfl k9d_q174_0 ix (Nat.zero_le ix) hne fun h1 =>
  k9d_ch (m := 64) (k := 64) (pc := 110) rfl rfl rfl rfl (by decide +kernel) k9d_q174_1 ix h1 hne fun h2 =>
  k9d_end (n := 128) rfl (by decide +kernel) ix h2 hne
theorem k9d_q175_0 : k9d_chk 175 prog_13_method_24_code (fun a => (k9_nth (0, 0, 0, 0) k9_w175 a).1) 64 (prog_13_method_24_code.data.toList.drop 0) (k9_c175.drop 0) (k9_w175.drop 0) = true := by decide +kernel
theorem k9d_a175 (ix : Nat) (hne : k9_cod 175 ix ≠ (0, 0, 0, 0, 0)) : k9_okP 175 ix :=
  k9d_ch (m := 64) (k := 0) (pc := 0) rfl rfl rfl rfl rfl k9d_q175_0 ix (Nat.zero_le ix) hne fun h1 =>
  k9d_end (n := 64) rfl (by decide +kernel) ix h1 hne
theorem k9d_q176_0 : k9d_chk 176 prog_13_method_25_code (fun a => (k9_nth (0, 0, 0, 0) k9_w176 a).1) 64 (prog_13_method_25_code.data.toList.drop 0) (k9_c176.drop 0) (k9_w176.drop 0) = true := by decide +kernel
theorem k9d_a176 (ix : Nat) (hne : k9_cod 176 ix ≠ (0, 0, 0, 0, 0)) : k9_okP 176 ix :=
  k9d_ch (m := 64) (k := 0) (pc := 0) rfl rfl rfl rfl rfl k9d_q176_0 ix (Nat.zero_le ix) hne fun h1 =>
  k9d_end (n := 64) rfl (by decide +kernel) ix h1 hne
theorem k9d_q177_0 : k9d_chk 177 prog_13_method_26_code (fun a => (k9_nth (0, 0, 0, 0) k9_w177 a).1) 64 (prog_13_method_26_code.data.toList.drop 0) (k9_c177.drop 0) (k9_w177.drop 0) = true := by decide +kernel
theorem k9d_a177 (ix : Nat) (hne : k9_cod 177 ix ≠ (0, 0, 0, 0, 0)) : k9_okP 177 ix :=
  k9d_ch (m := 64) (k := 0) (pc := 0) rfl rfl rfl rfl rfl k9d_q177_0 ix (Nat.zero_le ix) hne fun h1 =>
  k9d_end (n := 64) rfl (by decide +kernel) ix h1 hne
theorem k9d_q178_0 : k9d_chk 178 prog_13_method_27_code (fun a => (k9_nth (0, 0, 0, 0) k9_w178 a).1) 64 (prog_13_method_27_code.data.toList.drop 0) (k9_c178.drop 0) (k9_w178.drop 0) = true := by decide +kernel
theorem k9d_a178 (ix : Nat) (hne : k9_cod 178 ix ≠ (0, 0, 0, 0, 0)) : k9_okP 178 ix :=
  k9d_ch (m := 64) (k := 0) (pc := 0) rfl rfl rfl rfl rfl k9d_q178_0 ix (Nat.zero_le ix) hne fun h1 =>
  k9d_end (n := 64) rfl (by decide +kernel) ix h1 hne
theorem k9d_q179_0 : k9d_chk 179 prog_13_method_28_code (fun a => (k9_nth (0, 0, 0, 0) k9_w179 a).1) 64 (prog_13_method_28_code.data.toList.drop 0) (k9_c179.drop 0) (k9_w179.drop 0) = true := by decide +kernel
theorem k9d_a179 (ix : Nat) (hne : k9_cod 179 ix ≠ (0, 0, 0, 0, 0)) : k9_okP 179 ix :=
  k9d_ch (m := 64) (k := 0) (pc := 0) rfl rfl rfl rfl rfl k9d_q179_0 ix (Nat.zero_le ix) hne fun h1 =>
  k9d_end (n := 64) rfl (by decide +kernel) ix h1 hne
theorem k9d_q180_0 : k9d_chk 180 prog_13_method_29_code (fun a => (k9_nth (0, 0, 0, 0) k9_w180 a).1) 64 (prog_13_method_29_code.data.toList.drop 0) (k9_c180.drop 0) (k9_w180.drop 0) = true := by decide +kernel
theorem k9d_a180 (ix : Nat) (hne : k9_cod 180 ix ≠ (0, 0, 0, 0, 0)) : k9_okP 180 ix :=
  k9d_ch (m := 64) (k := 0) (pc := 0) rfl rfl rfl rfl rfl k9d_q180_0 ix (Nat.zero_le ix) hne fun h1 =>
  k9d_end (n := 64) rfl (by decide +kernel) ix h1 hne
theorem k9d_q181_0 : k9d_chk 181 prog_13_method_30_code (fun a => (k9_nth (0, 0, 0, 0) k9_w181 a).1) 64 (prog_13_method_30_code.data.toList.drop 0) (k9_c181.drop 0) (k9_w181.drop 0) = true := by decide +kernel
theorem k9d_q181_1 : k9d_chk 181 prog_13_method_30_code (fun a => (k9_nth (0, 0, 0, 0) k9_w181 a).1) 64 (prog_13_method_30_code.data.toList.drop 116) (k9_c181.drop 64) (k9_w181.drop 64) = true := by decide +kernel
theorem k9d_a181 (ix : Nat) (hne : k9_cod 181 ix ≠ (0, 0, 0, 0, 0)) : k9_okP 181 ix :=
  k9d_ch (m := 64) (k := 0) (pc := 0) rfl rfl rfl rfl rfl k9d_q181_0 ix (Nat.zero_le ix) hne fun h1 =>
  k9d_ch (m := 64) (k := 64) (pc := 116) rfl rfl rfl rfl (by decide +kernel) k9d_q181_1 ix h1 hne fun h2 =>
  k9d_end (n := 128) rfl (by decide +kernel) ix h2 hne
theorem k9d_q182_0 : k9d_chk 182 prog_13_method_31_code (fun a => (k9_nth (0, 0, 0, 0) k9_w182 a).1) 64 (prog_13_method_31_code.data.toList.drop 0) (k9_c182.drop 0) (k9_w182.drop 0) = true := by decide +kernel
theorem k9d_q182_1 : k9d_chk 182 prog_13_method_31_code (fun a => (k9_nth (0, 0, 0, 0) k9_w182 a).1) 64 (prog_13_method_31_code.data.toList.drop 146) (k9_c182.drop 64) (k9_w182.drop 64) = true := by decide +kernel
theorem k9d_a182 (ix : Nat) (hne : k9_cod 182 ix ≠ (0, 0, 0, 0, 0)) : k9_okP 182 ix :=
  k9d_ch (m := 64) (k := 0) (pc := 0) rfl rfl rfl rfl rfl k9d_q182_0 ix (Nat.zero_le ix) hne fun h1 =>
  k9d_ch (m := 64) (k := 64) (pc := 146) rfl rfl rfl rfl (by decide +kernel) k9d_q182_1 ix h1 hne fun h2 =>
  k9d_end (n := 128) rfl (by decide +kernel) ix h2 hne
theorem k9d_q183_0 : k9d_chk 183 prog_13_method_32_code (fun a => (k9_nth (0, 0, 0, 0) k9_w183 a).1) 64 (prog_13_method_32_code.data.toList.drop 0) (k9_c183.drop 0) (k9_w183.drop 0) = true := by decide +kernel
theorem k9d_q183_1 : k9d_chk 183 prog_13_method_32_code (fun a => (k9_nth (0, 0, 0, 0) k9_w183 a).1) 64 (prog_13_method_32_code.data.toList.drop 128) (k9_c183.drop 64) (k9_w183.drop 64) = true := by decide +kernel
theorem k9d_a183 (ix : Nat) (hne : k9_cod 183 ix ≠ (0, 0, 0, 0, 0)) : k9_okP 183 ix :=
  k9d_ch (m := 64) (k := 0) (pc := 0) rfl rfl rfl rfl rfl k9d_q183_0 ix (Nat.zero_le ix) hne fun h1 =>
  k9d_ch (m := 64) (k := 64) (pc := 128) rfl rfl rfl rfl (by decide +kernel) k9d_q183_1 ix h1 hne fun h2 =>
  k9d_end (n := 128) rfl (by decide +kernel) ix h2 hne
theorem k9d_q184_0 : k9d_chk 184 prog_13_method_33_code (fun a => (k9_nth (0, 0, 0, 0) k9_w184 a).1) 64 (prog_13_method_33_code.data.toList.drop 0) (k9_c184.drop 0) (k9_w184.drop 0) = true := by decide +kernel
theorem k9d_a184 (ix : Nat) (hne : k9_cod 184 ix ≠ (0, 0, 0, 0, 0)) : k9_okP 184 ix :=
  k9d_ch (m := 64) (k := 0) (pc := 0) rfl rfl rfl rfl rfl k9d_q184_0 ix (Nat.zero_le ix) hne fun h1 =>
  k9d_end (n := 64) rfl (by decide +kernel) ix h1 hne
theorem k9d_q185_0 : k9d_chk 185 prog_13_method_34_code (fun a => (k9_nth (0, 0, 0, 0) k9_w185 a).1) 64 (prog_13_method_34_code.data.toList.drop 0) (k9_c185.drop 0) (k9_w185.drop 0) = true := by decide +kernel
theorem k9d_a185 (ix : Nat) (hne : k9_cod 185 ix ≠ (0, 0, 0, 0, 0)) : k9_okP 185 ix :=
  k9d_ch (m := 64) (k := 0) (pc := 0) rfl rfl rfl rfl rfl k9d_q185_0 ix (Nat.zero_le ix) hne fun h1 =>
  k9d_end (n := 64) rfl (by decide +kernel) ix h1 hne
theorem k9d_q186_0 : k9d_chk 186 prog_13_method_35_code (fun a => (k9_nth (0, 0, 0, 0) k9_w186 a).1) 64 (prog_13_method_35_code.data.toList.drop 0) (k9_c186.drop 0) (k9_w186.drop 0) = true := by decide +kernel
theorem k9d_a186 (ix : Nat) (hne : k9_cod 186 ix ≠ (0, 0, 0, 0, 0)) : k9_okP 186 ix :=
  k9d_ch (m := 64) (k := 0) (pc := 0) rfl rfl rfl rfl rfl k9d_q186_0 ix (Nat.zero_le ix) hne fun h1 =>
  k9d_end (n := 64) rfl (by decide +kernel) ix h1 hne
theorem k9d_q187_0 : k9d_chk 187 prog_13_method_36_code (fun a => (k9_nth (0, 0, 0, 0) k9_w187 a).1) 64 (prog_13_method_36_code.data.toList.drop 0) (k9_c187.drop 0) (k9_w187.drop 0) = true := by decide +kernel
theorem k9d_a187 (ix : Nat) (hne : k9_cod 187 ix ≠ (0, 0, 0, 0, 0)) : k9_okP 187 ix :=
  k9d_ch (m := 64) (k := 0) (pc := 0) rfl rfl rfl rfl rfl k9d_q187_0 ix (Nat.zero_le ix) hne fun h1 =>
  k9d_end (n := 64) rfl (by decide +kernel) ix h1 hne
theorem k9d_q188_0 : k9d_chk 188 prog_13_method_37_code (fun a => (k9_nth (0, 0, 0, 0) k9_w188 a).1) 64 (prog_13_method_37_code.data.toList.drop 0) (k9_c188.drop 0) (k9_w188.drop 0) = true := by decide +kernel
theorem k9d_q188_1 : k9d_chk 188 prog_13_method_37_code (fun a => (k9_nth (0, 0, 0, 0) k9_w188 a).1) 64 (prog_13_method_37_code.data.toList.drop 113) (k9_c188.drop 64) (k9_w188.drop 64) = true := by decide +kernel
theorem k9d_q188_2 : k9d_chk 188 prog_13_method_37_code (fun a => (k9_nth (0, 0, 0, 0) k9_w188 a).1) 64 (prog_13_method_37_code.data.toList.drop 230) (k9_c188.drop 128) (k9_w188.drop 128) = true := by decide +kernel
theorem k9d_q188_3 : k9d_chk 188 prog_13_method_37_code (fun a => (k9_nth (0, 0, 0, 0) k9_w188 a).1) 64 (prog_13_method_37_code.data.toList.drop 346) (k9_c188.drop 192) (k9_w188.drop 192) = true := by decide +kernel
theorem k9d_a188 (ix : Nat) (hne : k9_cod 188 ix ≠ (0, 0, 0, 0, 0)) : k9_okP 188 ix :=
  k9d_ch (m := 64) (k := 0) (pc := 0) rfl rfl rfl rfl rfl k9d_q188_0 ix (Nat.zero_le ix) hne fun h1 =>
  k9d_ch (m := 64) (k := 64) (pc := 113) rfl rfl rfl rfl (by decide +kernel) k9d_q188_1 ix h1 hne fun h2 =>
  k9d_ch (m := 64) (k := 128) (pc := 230) rfl rfl rfl rfl (by decide +kernel) k9d_q188_2 ix h2 hne fun h3 =>
  k9d_ch (m := 64) (k := 192) (pc := 346) rfl rfl rfl rfl (by decide +kernel) k9d_q188_3 ix h3 hne fun h4 =>
  k9d_end (n := 256) rfl (by decide +kernel) ix h4 hne
theorem k9d_q189_0 : k9d_chk 189 prog_13_method_38_code (fun a => (k9_nth (0, 0, 0, 0) k9_w189 a).1) 64 (prog_13_method_38_code.data.toList.drop 0) (k9_c189.drop 0) (k9_w189.drop 0) = true := by decide +kernel
theorem k9d_a189 (ix : Nat) (hne : k9_cod 189 ix ≠ (0, 0, 0, 0, 0)) : k9_okP 189 ix :=
  k9d_ch (m := 64) (k := 0) (pc := 0) rfl rfl rfl rfl rfl k9d_q189_0 ix (Nat.zero_le ix) hne fun h1 =>
  k9d_end (n := 64) rfl (by decide +kernel) ix h1 hne
theorem k9d_q190_0 : k9d_chk 190 prog_13_method_39_code (fun a => (k9_nth (0, 0, 0, 0) k9_w190 a).1) 64 (prog_13_method_39_code.data.toList.drop 0) (k9_c190.drop 0) (k9_w190.drop 0) = true := by decide +kernel
theorem k9d_a190 (ix : Nat) (hne : k9_cod 190 ix ≠ (0, 0, 0, 0, 0)) : k9_okP 190 ix :=
  k9d_ch (m := 64) (k := 0) (pc := 0) rfl rfl rfl rfl rfl k9d_q190_0 ix (Nat.zero_le ix) hne fun h1 =>
  k9d_end (n := 64) rfl (by decide +kernel) ix h1 hne
theorem k9d_q191_0 : k9d_chk 191 prog_13_method_40_code (fun a => (k9_nth (0, 0, 0, 0) k9_w191 a).1) 64 (prog_13_method_40_code.data.toList.drop 0) (k9_c191.drop 0) (k9_w191.drop 0) = true := by decide +kernel
theorem k9d_q191_1 : k9d_chk 191 prog_13_method_40_code (fun a => (k9_nth (0, 0, 0, 0) k9_w191 a).1) 64 (prog_13_method_40_code.data.toList.drop 100) (k9_c191.drop 64) (k9_w191.drop 64) = true := by decide +kernel
theorem k9d_a191 (ix : Nat) (hne : k9_cod 191 ix ≠ (0, 0, 0, 0, 0)) : k9_okP 191 ix :=
  k9d_ch (m := 64) (k := 0) (pc := 0) rfl rfl rfl rfl rfl k9d_q191_0 ix (Nat.zero_le ix) hne fun h1 =>
  k9d_ch (m := 64) (k := 64) (pc := 100) rfl rfl rfl rfl (by decide +kernel) k9d_q191_1 ix h1 hne fun h2 =>
  k9d_end (n := 128) rfl (by decide +kernel) ix h2 hne
theorem k9d_q192_0 : k9d_chk 192 prog_13_method_41_code (fun a => (k9_nth (0, 0, 0, 0) k9_w192 a).1) 64 (prog_13_method_41_code.data.toList.drop 0) (k9_c192.drop 0) (k9_w192.drop 0) = true := by decide +kernel
theorem k9d_a192 (ix : Nat) (hne : k9_cod 192 ix ≠ (0, 0, 0, 0, 0)) : k9_okP 192 ix :=
  k9d_ch (m := 64) (k := 0) (pc := 0) rfl rfl rfl rfl rfl k9d_q192_0 ix (Nat.zero_le ix) hne fun h1 =>
  k9d_end (n := 64) rfl (by decide +kernel) ix h1 hne
theorem k9d_q193_0 : k9d_chk 193 prog_13_method_42_code (fun a => (k9_nth (0, 0, 0, 0) k9_w193 a).1) 64 (prog_13_method_42_code.data.toList.drop 0) (k9_c193.drop 0) (k9_w193.drop 0) = true := by decide +kernel
theorem k9d_a193 (ix : Nat) (hne : k9_cod 193 ix ≠ (0, 0, 0, 0, 0)) : k9_okP 193 ix :=
  k9d_ch (m := 64) (k := 0) (pc := 0) rfl rfl rfl rfl rfl k9d_q193_0 ix (Nat.zero_le ix) hne fun h1 =>
  k9d_end (n := 64) rfl (by decide +kernel) ix h1 hne
theorem k9d_q194_0 : k9d_chk 194 prog_13_method_43_code (fun a => (k9_nth (0, 0, 0, 0) k9_w194 a).1) 64 (prog_13_method_43_code.data.toList.drop 0) (k9_c194.drop 0) (k9_w194.drop 0) = true := by decide +kernel
theorem k9d_a194 (ix : Nat) (hne : k9_cod 194 ix ≠ (0, 0, 0, 0, 0)) : k9_okP 194 ix :=
  k9d_ch (m := 64) (k := 0) (pc := 0) rfl rfl rfl rfl rfl k9d_q194_0 ix (Nat.zero_le ix) hne fun h1 =>
  k9d_end (n := 64) rfl (by decide +kernel) ix h1 hne
theorem k9d_q195_0 : k9d_chk 195 prog_13_method_44_code (fun a => (k9_nth (0, 0, 0, 0) k9_w195 a).1) 64 (prog_13_method_44_code.data.toList.drop 0) (k9_c195.drop 0) (k9_w195.drop 0) = true := by decide +kernel
theorem k9d_a195 (ix : Nat) (hne : k9_cod 195 ix ≠ (0, 0, 0, 0, 0)) : k9_okP 195 ix :=
  k9d_ch (m := 64) (k := 0) (pc := 0) rfl rfl rfl rfl rfl k9d_q195_0 ix (Nat.zero_le ix) hne fun h1 =>
  k9d_end (n := 64) rfl (by decide +kernel) ix h1 hne
theorem k9d_q196_0 : k9d_chk 196 prog_13_method_45_code (fun a => (k9_nth (0, 0, 0, 0) k9_w196 a).1) 64 (prog_13_method_45_code.data.toList.drop 0) (k9_c196.drop 0) (k9_w196.drop 0) = true := by decide +kernel
theorem k9d_a196 (ix : Nat) (hne : k9_cod 196 ix ≠ (0, 0, 0, 0, 0)) : k9_okP 196 ix :=
  k9d_ch (m := 64) (k := 0) (pc := 0) rfl rfl rfl rfl rfl k9d_q196_0 ix (Nat.zero_le ix) hne fun h1 =>
  k9d_end (n := 64) rfl (by decide +kernel) ix h1 hne
theorem k9d_q197_0 : k9d_chk 197 prog_13_method_46_code (fun a => (k9_nth (0, 0, 0, 0) k9_w197 a).1) 64 (prog_13_method_46_code.data.toList.drop 0) (k9_c197.drop 0) (k9_w197.drop 0) = true := by decide +kernel
theorem k9d_a197 (ix : Nat) (hne : k9_cod 197 ix ≠ (0, 0, 0, 0, 0)) : k9_okP 197 ix :=
  k9d_ch (m := 64) (k := 0) (pc := 0) rfl rfl rfl rfl rfl k9d_q197_0 ix (Nat.zero_le ix) hne fun h1 =>
  k9d_end (n := 64) rfl (by decide +kernel) ix h1 hne
theorem k9d_q198_0 : k9d_chk 198 prog_13_method_47_code (fun a => (k9_nth (0, 0, 0, 0) k9_w198 a).1) 64 (prog_13_method_47_code.data.toList.drop 0) (k9_c198.drop 0) (k9_w198.drop 0) = true := by decide +kernel
theorem k9d_a198 (ix : Nat) (hne : k9_cod 198 ix ≠ (0, 0, 0, 0, 0)) : k9_okP 198 ix :=
  k9d_ch (m := 64) (k := 0) (pc := 0) rfl rfl rfl rfl rfl k9d_q198_0 ix (Nat.zero_le ix) hne fun h1 =>
  k9d_end (n := 64) rfl (by decide +kernel) ix h1 hne
theorem k9d_q199_0 : k9d_chk 199 prog_13_method_48_code (fun a => (k9_nth (0, 0, 0, 0) k9_w199 a).1) 64 (prog_13_method_48_code.data.toList.drop 0) (k9_c199.drop 0) (k9_w199.drop 0) = true := by decide +kernel
theorem k9d_a199 (ix : Nat) (hne : k9_cod 199 ix ≠ (0, 0, 0, 0, 0)) : k9_okP 199 ix :=
  k9d_ch (m := 64) (k := 0) (pc := 0) rfl rfl rfl rfl rfl k9d_q199_0 ix (Nat.zero_le ix) hne fun h1 =>
  k9d_end (n := 64) rfl (by decide +kernel) ix h1 hne
theorem k9d_q200_0 : k9d_chk 200 prog_13_method_49_code (fun a => (k9_nth (0, 0, 0, 0) k9_w200 a).1) 64 (prog_13_method_49_code.data.toList.drop 0) (k9_c200.drop 0) (k9_w200.drop 0) = true := by decide +kernel
theorem k9d_a200 (ix : Nat) (hne : k9_cod 200 ix ≠ (0, 0, 0, 0, 0)) : k9_okP 200 ix :=
  k9d_ch (m := 64) (k := 0) (pc := 0) rfl rfl rfl rfl rfl k9d_q200_0 ix (Nat.zero_le ix) hne fun h1 =>
  k9d_end (n := 64) rfl (by decide +kernel) ix h1 hne
theorem k9d_q201_0 : k9d_chk 201 prog_13_method_50_code (fun a => (k9_nth (0, 0, 0, 0) k9_w201 a).1) 64 (prog_13_method_50_code.data.toList.drop 0) (k9_c201.drop 0) (k9_w201.drop 0) = true := by decide +kernel
theorem k9d_a201 (ix : Nat) (hne : k9_cod 201 ix ≠ (0, 0, 0, 0, 0)) : k9_okP 201 ix :=
  k9d_ch (m := 64) (k := 0) (pc := 0) rfl rfl rfl rfl rfl k9d_q201_0 ix (Nat.zero_le ix) hne fun h1 =>
  k9d_end (n := 64) rfl (by decide +kernel) ix h1 hne
theorem k9d_q202_0 : k9d_chk 202 prog_13_method_51_code (fun a => (k9_nth (0, 0, 0, 0) k9_w202 a).1) 64 (prog_13_method_51_code.data.toList.drop 0) (k9_c202.drop 0) (k9_w202.drop 0) = true := by decide +kernel
theorem k9d_a202 (ix : Nat) (hne : k9_cod 202 ix ≠ (0, 0, 0, 0, 0)) : k9_okP 202 ix :=
  k9d_ch (m := 64) (k := 0) (pc := 0) rfl rfl rfl rfl rfl k9d_q202_0 ix (Nat.zero_le ix) hne fun h1 =>
  k9d_end (n := 64) rfl (by decide +kernel) ix h1 hne
theorem k9d_q203_0 : k9d_chk 203 prog_13_method_52_code (fun a => (k9_nth (0, 0, 0, 0) k9_w203 a).1) 64 (prog_13_method_52_code.data.toList.drop 0) (k9_c203.drop 0) (k9_w203.drop 0) = true := by decide +kernel
theorem k9d_a203 (ix : Nat) (hne : k9_cod 203 ix ≠ (0, 0, 0, 0, 0)) : k9_okP 203 ix :=
  k9d_ch (m := 64) (k := 0) (pc := 0) rfl rfl rfl rfl rfl k9d_q203_0 ix (Nat.zero_le ix) hne fun h1 =>
  k9d_end (n := 64) rfl (by decide +kernel) ix h1 hne
theorem k9d_q204_0 : k9d_chk 204 prog_13_method_53_code (fun a => (k9_nth (0, 0, 0, 0) k9_w204 a).1) 64 (prog_13_method_53_code.data.toList.drop 0) (k9_c204.drop 0) (k9_w204.drop 0) = true := by decide +kernel
theorem k9d_a204 (ix : Nat) (hne : k9_cod 204 ix ≠ (0, 0, 0, 0, 0)) : k9_okP 204 ix :=
  k9d_ch (m := 64) (k := 0) (pc := 0) rfl rfl rfl rfl rfl k9d_q204_0 ix (Nat.zero_le ix) hne fun h1 =>
  k9d_end (n := 64) rfl (by decide +kernel) ix h1 hne
theorem k9d_q205_0 : k9d_chk 205 prog_13_method_54_code (fun a => (k9_nth (0, 0, 0, 0) k9_w205 a).1) 64 (prog_13_method_54_code.data.toList.drop 0) (k9_c205.drop 0) (k9_w205.drop 0) = true := by decide +kernel
theorem k9d_q205_1 : k9d_chk 205 prog_13_method_54_code (fun a => (k9_nth (0, 0, 0, 0) k9_w205 a).1) 64 (prog_13_method_54_code.data.toList.drop 109) (k9_c205.drop 64) (k9_w205.drop 64) = true := by decide +kernel
theorem k9d_a205 (ix : Nat) (hne : k9_cod 205 ix ≠ (0, 0, 0, 0, 0)) : k9_okP 205 ix :=
  k9d_ch (m := 64) (k := 0) (pc := 0) rfl rfl rfl rfl rfl k9d_q205_0 ix (Nat.zero_le ix) hne fun h1 =>
  k9d_ch (m := 64) (k := 64) (pc := 109) rfl rfl rfl rfl (by decide +kernel) k9d_q205_1 ix h1 hne fun h2 =>
  k9d_end (n := 128) rfl (by decide +kernel) ix h2 hne
theorem k9d_q206_0 : k9d_chk 206 prog_13_method_55_code (fun a => (k9_nth (0, 0, 0, 0) k9_w206 a).1) 64 (prog_13_method_55_code.data.toList.drop 0) (k9_c206.drop 0) (k9_w206.drop 0) = true := by decide +kernel
theorem k9d_a206 (ix : Nat) (hne : k9_cod 206 ix ≠ (0, 0, 0, 0, 0)) : k9_okP 206 ix :=
  k9d_ch (m := 64) (k := 0) (pc := 0) rfl rfl rfl rfl rfl k9d_q206_0 ix (Nat.zero_le ix) hne fun h1 =>
  k9d_end (n := 64) rfl (by decide +kernel) ix h1 hne
theorem k9d_q207_0 : k9d_chk 207 prog_13_method_56_code (fun a => (k9_nth (0, 0, 0, 0) k9_w207 a).1) 64 (prog_13_method_56_code.data.toList.drop 0) (k9_c207.drop 0) (k9_w207.drop 0) = true := by decide +kernel
theorem k9d_q207_1 : k9d_chk 207 prog_13_method_56_code (fun a => (k9_nth (0, 0, 0, 0) k9_w207 a).1) 64 (prog_13_method_56_code.data.toList.drop 114) (k9_c207.drop 64) (k9_w207.drop 64) = true := by decide +kernel
theorem k9d_a207 (ix : Nat) (hne : k9_cod 207 ix ≠ (0, 0, 0, 0, 0)) : k9_okP 207 ix :=
  k9d_ch (m := 64) (k := 0) (pc := 0) rfl rfl rfl rfl rfl k9d_q207_0 ix (Nat.zero_le ix) hne fun h1 =>
  k9d_ch (m := 64) (k := 64) (pc := 114) rfl rfl rfl rfl (by decide +kernel) k9d_q207_1 ix h1 hne fun h2 =>
  k9d_end (n := 128) rfl (by decide +kernel) ix h2 hne
theorem k9d_q208_0 : k9d_chk 208 prog_13_method_57_code (fun a => (k9_nth (0, 0, 0, 0) k9_w208 a).1) 64 (prog_13_method_57_code.data.toList.drop 0) (k9_c208.drop 0) (k9_w208.drop 0) = true := by decide +kernel
theorem k9d_a208 (ix : Nat) (hne : k9_cod 208 ix ≠ (0, 0, 0, 0, 0)) : k9_okP 208 ix :=
  k9d_ch (m := 64) (k := 0) (pc := 0) rfl rfl rfl rfl rfl k9d_q208_0 ix (Nat.zero_le ix) hne fun h1 =>
  k9d_end (n := 64) rfl (by decide +kernel) ix h1 hne
theorem k9d_q209_0 : k9d_chk 209 prog_13_method_58_code (fun a => (k9_nth (0, 0, 0, 0) k9_w209 a).1) 64 (prog_13_method_58_code.data.toList.drop 0) (k9_c209.drop 0) (k9_w209.drop 0) = true := by decide +kernel
theorem k9d_a209 (ix : Nat) (hne : k9_cod 209 ix ≠ (0, 0, 0, 0, 0)) : k9_okP 209 ix :=
  k9d_ch (m := 64) (k := 0) (pc := 0) rfl rfl rfl rfl rfl k9d_q209_0 ix (Nat.zero_le ix) hne fun h1 =>
  k9d_end (n := 64) rfl (by decide +kernel) ix h1 hne
theorem k9d_q210_0 : k9d_chk 210 prog_13_method_59_code (fun a => (k9_nth (0, 0, 0, 0) k9_w210 a).1) 64 (prog_13_method_59_code.data.toList.drop 0) (k9_c210.drop 0) (k9_w210.drop 0) = true := by decide +kernel
theorem k9d_a210 (ix : Nat) (hne : k9_cod 210 ix ≠ (0, 0, 0, 0, 0)) : k9_okP 210 ix :=
  k9d_ch (m := 64) (k := 0) (pc := 0) rfl rfl rfl rfl rfl k9d_q210_0 ix (Nat.zero_le ix) hne fun h1 =>
  k9d_end (n := 64) rfl (by decide +kernel) ix h1 hne
theorem k9d_q211_0 : k9d_chk 211 prog_13_method_60_code (fun a => (k9_nth (0, 0, 0, 0) k9_w211 a).1) 64 (prog_13_method_60_code.data.toList.drop 0) (k9_c211.drop 0) (k9_w211.drop 0) = true := by decide +kernel
theorem k9d_q211_1 : k9d_chk 211 prog_13_method_60_code (fun a => (k9_nth (0, 0, 0, 0) k9_w211 a).1) 64 (prog_13_method_60_code.data.toList.drop 119) (k9_c211.drop 64) (k9_w211.drop 64) = true := by decide +kernel
theorem k9d_a211 (ix : Nat) (hne : k9_cod 211 ix ≠ (0, 0, 0, 0, 0)) : k9_okP 211 ix :=
  k9d_ch (m := 64) (k := 0) (pc := 0) rfl rfl rfl rfl rfl k9d_q211_0 ix (Nat.zero_le ix) hne fun h1 =>
  k9d_ch (m := 64) (k := 64) (pc := 119) rfl rfl rfl rfl (by decide +kernel) k9d_q211_1 ix h1 hne fun h2 =>
  k9d_end (n := 128) rfl (by decide +kernel) ix h2 hne
theorem k9d_q212_0 : k9d_chk 212 prog_13_method_61_code (fun a => (k9_nth (0, 0, 0, 0) k9_w212 a).1) 64 (prog_13_method_61_code.data.toList.drop 0) (k9_c212.drop 0) (k9_w212.drop 0) = true := by decide +kernel
theorem k9d_q212_1 : k9d_chk 212 prog_13_method_61_code (fun a => (k9_nth (0, 0, 0, 0) k9_w212 a).1) 64 (prog_13_method_61_code.data.toList.drop 113) (k9_c212.drop 64) (k9_w212.drop 64) = true := by decide +kernel
theorem k9d_a212 (ix : Nat) (hne : k9_cod 212 ix ≠ (0, 0, 0, 0, 0)) : k9_okP 212 ix :=
  k9d_ch (m := 64) (k := 0) (pc := 0) rfl rfl rfl rfl rfl k9d_q212_0 ix (Nat.zero_le ix) hne fun h1 =>
  k9d_ch (m := 64) (k := 64) (pc := 113) rfl rfl rfl rfl (by decide +kernel) k9d_q212_1 ix h1 hne fun h2 =>
  k9d_end (n := 128) rfl (by decide +kernel) ix h2 hne
theorem k9d_q213_0 : k9d_chk 213 prog_13_method_62_code (fun a => (k9_nth (0, 0, 0, 0) k9_w213 a).1) 64 (prog_13_method_62_code.data.toList.drop 0) (k9_c213.drop 0) (k9_w213.drop 0) = true := by decide +kernel
theorem k9d_a213 (ix : Nat) (hne : k9_cod 213 ix ≠ (0, 0, 0, 0, 0)) : k9_okP 213 ix :=
  k9d_ch (m := 64) (k := 0) (pc := 0) rfl rfl rfl rfl rfl k9d_q213_0 ix (Nat.zero_le ix) hne fun h1 =>
  k9d_end (n := 64) rfl (by decide +kernel) ix h1 hne
theorem k9d_q214_0 : k9d_chk 214 prog_13_method_63_code (fun a => (k9_nth (0, 0, 0, 0) k9_w214 a).1) 64 (prog_13_method_63_code.data.toList.drop 0) (k9_c214.drop 0) (k9_w214.drop 0) = true := by decide +kernel
theorem k9d_q214_1 : k9d_chk 214 prog_13_method_63_code (fun a => (k9_nth (0, 0, 0, 0) k9_w214 a).1) 64 (prog_13_method_63_code.data.toList.drop 113) (k9_c214.drop 64) (k9_w214.drop 64) = true := by decide +kernel
theorem k9d_a214 (ix : Nat) (hne : k9_cod 214 ix ≠ (0, 0, 0, 0, 0)) : k9_okP 214 ix :=
  k9d_ch (m := 64) (k := 0) (pc := 0) rfl rfl rfl rfl rfl k9d_q214_0 ix (Nat.zero_le ix) hne fun h1 =>
  k9d_ch (m := 64) (k := 64) (pc := 113) rfl rfl rfl rfl (by decide +kernel) k9d_q214_1 ix h1 hne fun h2 =>
  k9d_end (n := 128) rfl (by decide +kernel) ix h2 hne
theorem k9d_q215_0 : k9d_chk 215 prog_13_method_64_code (fun a => (k9_nth (0, 0, 0, 0) k9_w215 a).1) 64 (prog_13_method_64_code.data.toList.drop 0) (k9_c215.drop 0) (k9_w215.drop 0) = true := by decide +kernel
theorem k9d_a215 (ix : Nat) (hne : k9_cod 215 ix ≠ (0, 0, 0, 0, 0)) : k9_okP 215 ix :=
  k9d_ch (m := 64) (k := 0) (pc := 0) rfl rfl rfl rfl rfl k9d_q215_0 ix (Nat.zero_le ix) hne fun h1 =>
  k9d_end (n := 64) rfl (by decide +kernel) ix h1 hne
theorem k9d_q216_0 : k9d_chk 216 prog_13_method_65_code (fun a => (k9_nth (0, 0, 0, 0) k9_w216 a).1) 64 (prog_13_method_65_code.data.toList.drop 0) (k9_c216.drop 0) (k9_w216.drop 0) = true := by decide +kernel
theorem k9d_a216 (ix : Nat) (hne : k9_cod 216 ix ≠ (0, 0, 0, 0, 0)) : k9_okP 216 ix :=
  k9d_ch (m := 64) (k := 0) (pc := 0) rfl rfl rfl rfl rfl k9d_q216_0 ix (Nat.zero_le ix) hne fun h1 =>
  k9d_end (n := 64) rfl (by decide +kernel) ix h1 hne
theorem k9d_q217_0 : k9d_chk 217 prog_13_method_66_code (fun a => (k9_nth (0, 0, 0, 0) k9_w217 a).1) 64 (prog_13_method_66_code.data.toList.drop 0) (k9_c217.drop 0) (k9_w217.drop 0) = true := by decide +kernel
theorem k9d_a217 (ix : Nat) (hne : k9_cod 217 ix ≠ (0, 0, 0, 0, 0)) : k9_okP 217 ix :=
  k9d_ch (m := 64) (k := 0) (pc := 0) rfl rfl rfl rfl rfl k9d_q217_0 ix (Nat.zero_le ix) hne fun h1 =>
  k9d_end (n := 64) rfl (by decide +kernel) ix h1 hne
theorem k9d_q218_0 : k9d_chk 218 prog_13_method_67_code (fun a => (k9_nth (0, 0, 0, 0) k9_w218 a).1) 64 (prog_13_method_67_code.data.toList.drop 0) (k9_c218.drop 0) (k9_w218.drop 0) = true := by decide +kernel
theorem k9d_a218 (ix : Nat) (hne : k9_cod 218 ix ≠ (0, 0, 0, 0, 0)) : k9_okP 218 ix :=
  k9d_ch (m := 64) (k := 0) (pc := 0) rfl rfl rfl rfl rfl k9d_q218_0 ix (Nat.zero_le ix) hne fun h1 =>
  k9d_end (n := 64) rfl (by decide +kernel) ix h1 hne
theorem k9d_q219_0 : k9d_chk 219 prog_13_method_68_code (fun a => (k9_nth (0, 0, 0, 0) k9_w219 a).1) 64 (prog_13_method_68_code.data.toList.drop 0) (k9_c219.drop 0) (k9_w219.drop 0) = true := by decide +kernel
theorem k9d_a219 (ix : Nat) (hne : k9_cod 219 ix ≠ (0, 0, 0, 0, 0)) : k9_okP 219 ix :=
  k9d_ch (m := 64) (k := 0) (pc := 0) rfl rfl rfl rfl rfl k9d_q219_0 ix (Nat.zero_le ix) hne fun h1 =>
  k9d_end (n := 64) rfl (by decide +kernel) ix h1 hne
theorem k9d_q220_0 : k9d_chk 220 prog_13_method_69_code (fun a => (k9_nth (0, 0, 0, 0) k9_w220 a).1) 64 (prog_13_method_69_code.data.toList.drop 0) (k9_c220.drop 0) (k9_w220.drop 0) = true := by decide +kernel
theorem k9d_q220_1 : k9d_chk 220 prog_13_method_69_code (fun a => (k9_nth (0, 0, 0, 0) k9_w220 a).1) 64 (prog_13_method_69_code.data.toList.drop 121) (k9_c220.drop 64) (k9_w220.drop 64) = true := by decide +kernel
theorem k9d_a220 (ix : Nat) (hne : k9_cod 220 ix ≠ (0, 0, 0, 0, 0)) : k9_okP 220 ix :=
  k9d_ch (m := 64) (k := 0) (pc := 0) rfl rfl rfl rfl rfl k9d_q220_0 ix (Nat.zero_le ix) hne fun h1 =>
  k9d_ch (m := 64) (k := 64) (pc := 121) rfl rfl rfl rfl (by decide +kernel) k9d_q220_1 ix h1 hne fun h2 =>
  k9d_end (n := 128) rfl (by decide +kernel) ix h2 hne
theorem k9d_q221_0 : k9d_chk 221 prog_13_method_70_code (fun a => (k9_nth (0, 0, 0, 0) k9_w221 a).1) 64 (prog_13_method_70_code.data.toList.drop 0) (k9_c221.drop 0) (k9_w221.drop 0) = true := by decide +kernel
theorem k9d_a221 (ix : Nat) (hne : k9_cod 221 ix ≠ (0, 0, 0, 0, 0)) : k9_okP 221 ix :=
  k9d_ch (m := 64) (k := 0) (pc := 0) rfl rfl rfl rfl rfl k9d_q221_0 ix (Nat.zero_le ix) hne fun h1 =>
  k9d_end (n := 64) rfl (by decide +kernel) ix h1 hne
theorem k9d_q222_0 : k9d_chk 222 prog_13_method_71_code (fun a => (k9_nth (0, 0, 0, 0) k9_w222 a).1) 64 (prog_13_method_71_code.data.toList.drop 0) (k9_c222.drop 0) (k9_w222.drop 0) = true := by decide +kernel
theorem k9d_q222_1 : k9d_chk 222 prog_13_method_71_code (fun a => (k9_nth (0, 0, 0, 0) k9_w222 a).1) 64 (prog_13_method_71_code.data.toList.drop 120) (k9_c222.drop 64) (k9_w222.drop 64) = true := by decide +kernel
theorem k9d_q222_2 : k9d_chk 222 prog_13_method_71_code (fun a => (k9_nth (0, 0, 0, 0) k9_w222 a).1) 64 (prog_13_method_71_code.data.toList.drop 249) (k9_c222.drop 128) (k9_w222.drop 128) = true := by decide +kernel
theorem k9d_a222 (ix : Nat) (hne : k9_cod 222 ix ≠ (0, 0, 0, 0, 0)) : k9_okP 222 ix :=
  k9d_ch (m := 64) (k := 0) (pc := 0) rfl rfl rfl rfl rfl k9d_q222_0 ix (Nat.zero_le ix) hne fun h1 =>
  k9d_ch (m := 64) (k := 64) (pc := 120) rfl rfl rfl rfl (by decide +kernel) k9d_q222_1 ix h1 hne fun h2 =>
  k9d_ch (m := 64) (k := 128) (pc := 249) rfl rfl rfl rfl (by decide +kernel) k9d_q222_2 ix h2 hne fun h3 =>
  k9d_end (n := 192) rfl (by decide +kernel) ix h3 hne
theorem k9d_q223_0 : k9d_chk 223 prog_13_method_72_code (fun a => (k9_nth (0, 0, 0, 0) k9_w223 a).1) 64 (prog_13_method_72_code.data.toList.drop 0) (k9_c223.drop 0) (k9_w223.drop 0) = true := by decide +kernel
theorem k9d_a223 (ix : Nat) (hne : k9_cod 223 ix ≠ (0, 0, 0, 0, 0)) : k9_okP 223 ix :=
  k9d_ch (m := 64) (k := 0) (pc := 0) rfl rfl rfl rfl rfl k9d_q223_0 ix (Nat.zero_le ix) hne fun h1 =>
  k9d_end (n := 64) rfl (by decide +kernel) ix h1 hne
theorem k9d_q224_0 : k9d_chk 224 prog_13_method_73_code (fun a => (k9_nth (0, 0, 0, 0) k9_w224 a).1) 64 (prog_13_method_73_code.data.toList.drop 0) (k9_c224.drop 0) (k9_w224.drop 0) = true := by decide +kernel
theorem k9d_a224 (ix : Nat) (hne : k9_cod 224 ix ≠ (0, 0, 0, 0, 0)) : k9_okP 224 ix :=
  k9d_ch (m := 64) (k := 0) (pc := 0) rfl rfl rfl rfl rfl k9d_q224_0 ix (Nat.zero_le ix) hne fun h1 =>
  k9d_end (n := 64) rfl (by decide +kernel) ix h1 hne
theorem k9d_q225_0 : k9d_chk 225 prog_13_method_74_code (fun a => (k9_nth (0, 0, 0, 0) k9_w225 a).1) 64 (prog_13_method_74_code.data.toList.drop 0) (k9_c225.drop 0) (k9_w225.drop 0) = true := by decide +kernel
theorem k9d_a225 (ix : Nat) (hne : k9_cod 225 ix ≠ (0, 0, 0, 0, 0)) : k9_okP 225 ix :=
  k9d_ch (m := 64) (k := 0) (pc := 0) rfl rfl rfl rfl rfl k9d_q225_0 ix (Nat.zero_le ix) hne fun h1 =>
  k9d_end (n := 64) rfl (by decide +kernel) ix h1 hne
theorem k9d_q226_0 : k9d_chk 226 prog_13_method_75_code (fun a => (k9_nth (0, 0, 0, 0) k9_w226 a).1) 64 (prog_13_method_75_code.data.toList.drop 0) (k9_c226.drop 0) (k9_w226.drop 0) = true := by decide +kernel
theorem k9d_a226 (ix : Nat) (hne : k9_cod 226 ix ≠ (0, 0, 0, 0, 0)) : k9_okP 226 ix :=
  k9d_ch (m := 64) (k := 0) (pc := 0) rfl rfl rfl rfl rfl k9d_q226_0 ix (Nat.zero_le ix) hne fun h1 =>
  k9d_end (n := 64) rfl (by decide +kernel) ix h1 hne
theorem k9d_q227_0 : k9d_chk 227 prog_13_method_76_code (fun a => (k9_nth (0, 0, 0, 0) k9_w227 a).1) 64 (prog_13_method_76_code.data.toList.drop 0) (k9_c227.drop 0) (k9_w227.drop 0) = true := by decide +kernel
theorem k9d_a227 (ix : Nat) (hne : k9_cod 227 ix ≠ (0, 0, 0, 0, 0)) : k9_okP 227 ix :=
  k9d_ch (m := 64) (k := 0) (pc := 0) rfl rfl rfl rfl rfl k9d_q227_0 ix (Nat.zero_le ix) hne fun h1 =>
  k9d_end (n := 64) rfl (by decide +kernel) ix h1 hne
theorem k9d_q228_0 : k9d_chk 228 prog_13_method_77_code (fun a => (k9_nth (0, 0, 0, 0) k9_w228 a).1) 64 (prog_13_method_77_code.data.toList.drop 0) (k9_c228.drop 0) (k9_w228.drop 0) = true := by decide +kernel
theorem k9d_a228 (ix : Nat) (hne : k9_cod 228 ix ≠ (0, 0, 0, 0, 0)) : k9_okP 228 ix :=
  k9d_ch (m := 64) (k := 0) (pc := 0) rfl rfl rfl rfl rfl k9d_q228_0 ix (Nat.zero_le ix) hne fun h1 =>
  k9d_end (n := 64) rfl (by decide +kernel) ix h1 hne
theorem k9d_q229_0 : k9d_chk 229 prog_13_method_78_code (fun a => (k9_nth (0, 0, 0, 0) k9_w229 a).1) 64 (prog_13_method_78_code.data.toList.drop 0) (k9_c229.drop 0) (k9_w229.drop 0) = true := by decide +kernel
theorem k9d_a229 (ix : Nat) (hne : k9_cod 229 ix ≠ (0, 0, 0, 0, 0)) : k9_okP 229 ix :=
  k9d_ch (m := 64) (k := 0) (pc := 0) rfl rfl rfl rfl rfl k9d_q229_0 ix (Nat.zero_le ix) hne fun h1 =>
  k9d_end (n := 64) rfl (by decide +kernel) ix h1 hne
theorem k9d_q230_0 : k9d_chk 230 prog_13_method_79_code (fun a => (k9_nth (0, 0, 0, 0) k9_w230 a).1) 64 (prog_13_method_79_code.data.toList.drop 0) (k9_c230.drop 0) (k9_w230.drop 0) = true := by decide +kernel
theorem k9d_a230 (ix : Nat) (hne : k9_cod 230 ix ≠ (0, 0, 0, 0, 0)) : k9_okP 230 ix :=
  k9d_ch (m := 64) (k := 0) (pc := 0) rfl rfl rfl rfl rfl k9d_q230_0 ix (Nat.zero_le ix) hne fun h1 =>
  k9d_end (n := 64) rfl (by decide +kernel) ix h1 hne
theorem k9d_q231_0 : k9d_chk 231 prog_13_method_80_code (fun a => (k9_nth (0, 0, 0, 0) k9_w231 a).1) 64 (prog_13_method_80_code.data.toList.drop 0) (k9_c231.drop 0) (k9_w231.drop 0) = true := by decide +kernel
theorem k9d_a231 (ix : Nat) (hne : k9_cod 231 ix ≠ (0, 0, 0, 0, 0)) : k9_okP 231 ix :=
  k9d_ch (m := 64) (k := 0) (pc := 0) rfl rfl rfl rfl rfl k9d_q231_0 ix (Nat.zero_le ix) hne fun h1 =>
  k9d_end (n := 64) rfl (by decide +kernel) ix h1 hne
theorem k9d_q232_0 : k9d_chk 232 prog_13_method_81_code (fun a => (k9_nth (0, 0, 0, 0) k9_w232 a).1) 64 (prog_13_method_81_code.data.toList.drop 0) (k9_c232.drop 0) (k9_w232.drop 0) = true := by decide +kernel
theorem k9d_a232 (ix : Nat) (hne : k9_cod 232 ix ≠ (0, 0, 0, 0, 0)) : k9_okP 232 ix :=
  k9d_ch (m := 64) (k := 0) (pc := 0) rfl rfl rfl rfl rfl k9d_q232_0 ix (Nat.zero_le ix) hne fun h1 =>
  k9d_end (n := 64) rfl (by decide +kernel) ix h1 hne
theorem k9d_q233_0 : k9d_chk 233 prog_13_method_82_code (fun a => (k9_nth (0, 0, 0, 0) k9_w233 a).1) 64 (prog_13_method_82_code.data.toList.drop 0) (k9_c233.drop 0) (k9_w233.drop 0) = true := by decide +kernel
theorem k9d_a233 (ix : Nat) (hne : k9_cod 233 ix ≠ (0, 0, 0, 0, 0)) : k9_okP 233 ix :=
  k9d_ch (m := 64) (k := 0) (pc := 0) rfl rfl rfl rfl rfl k9d_q233_0 ix (Nat.zero_le ix) hne fun h1 =>
  k9d_end (n := 64) rfl (by decide +kernel) ix h1 hne
theorem k9d_q234_0 : k9d_chk 234 prog_13_method_83_code (fun a => (k9_nth (0, 0, 0, 0) k9_w234 a).1) 64 (prog_13_method_83_code.data.toList.drop 0) (k9_c234.drop 0) (k9_w234.drop 0) = true := by decide +kernel
theorem k9d_a234 (ix : Nat) (hne : k9_cod 234 ix ≠ (0, 0, 0, 0, 0)) : k9_okP 234 ix :=
  k9d_ch (m := 64) (k := 0) (pc := 0) rfl rfl rfl rfl rfl k9d_q234_0 ix (Nat.zero_le ix) hne fun h1 =>
  k9d_end (n := 64) rfl (by decide +kernel) ix h1 hne
theorem k9d_q235_0 : k9d_chk 235 prog_13_method_84_code (fun a => (k9_nth (0, 0, 0, 0) k9_w235 a).1) 64 (prog_13_method_84_code.data.toList.drop 0) (k9_c235.drop 0) (k9_w235.drop 0) = true := by decide +kernel
theorem k9d_a235 (ix : Nat) (hne : k9_cod 235 ix ≠ (0, 0, 0, 0, 0)) : k9_okP 235 ix :=
  k9d_ch (m := 64) (k := 0) (pc := 0) rfl rfl rfl rfl rfl k9d_q235_0 ix (Nat.zero_le ix) hne fun h1 =>
  k9d_end (n := 64) rfl (by decide +kernel) ix h1 hne
theorem k9d_q236_0 : k9d_chk 236 prog_13_method_85_code (fun a => (k9_nth (0, 0, 0, 0) k9_w236 a).1) 64 (prog_13_method_85_code.data.toList.drop 0) (k9_c236.drop 0) (k9_w236.drop 0) = true := by decide +kernel
theorem k9d_a236 (ix : Nat) (hne : k9_cod 236 ix ≠ (0, 0, 0, 0, 0)) : k9_okP 236 ix :=
  k9d_ch (m := 64) (k := 0) (pc := 0) rfl rfl rfl rfl rfl k9d_q236_0 ix (Nat.zero_le ix) hne fun h1 =>
  k9d_end (n := 64) rfl (by decide +kernel) ix h1 hne
theorem k9d_q237_0 : k9d_chk 237 prog_13_method_86_code (fun a => (k9_nth (0, 0, 0, 0) k9_w237 a).1) 64 (prog_13_method_86_code.data.toList.drop 0) (k9_c237.drop 0) (k9_w237.drop 0) = true := by decide +kernel
theorem k9d_a237 (ix : Nat) (hne : k9_cod 237 ix ≠ (0, 0, 0, 0, 0)) : k9_okP 237 ix :=
  k9d_ch (m := 64) (k := 0) (pc := 0) rfl rfl rfl rfl rfl k9d_q237_0 ix (Nat.zero_le ix) hne fun h1 =>
  k9d_end (n := 64) rfl (by decide +kernel) ix h1 hne
theorem k9d_q238_0 : k9d_chk 238 prog_13_method_87_code (fun a => (k9_nth (0, 0, 0, 0) k9_w238 a).1) 64 (prog_13_method_87_code.data.toList.drop 0) (k9_c238.drop 0) (k9_w238.drop 0) = true := by decide +kernel
theorem k9d_a238 (ix : Nat) (hne : k9_cod 238 ix ≠ (0, 0, 0, 0, 0)) : k9_okP 238 ix :=
  k9d_ch (m := 64) (k := 0) (pc := 0) rfl rfl rfl rfl rfl k9d_q238_0 ix (Nat.zero_le ix) hne fun h1 =>
  k9d_end (n := 64) rfl (by decide +kernel) ix h1 hne
theorem k9d_q239_0 : k9d_chk 239 prog_13_method_88_code (fun a => (k9_nth (0, 0, 0, 0) k9_w239 a).1) 64 (prog_13_method_88_code.data.toList.drop 0) (k9_c239.drop 0) (k9_w239.drop 0) = true := by decide +kernel
theorem k9d_a239 (ix : Nat) (hne : k9_cod 239 ix ≠ (0, 0, 0, 0, 0)) : k9_okP 239 ix :=
  k9d_ch (m := 64) (k := 0) (pc := 0) rfl rfl rfl rfl rfl k9d_q239_0 ix (Nat.zero_le ix) hne fun h1 =>
  k9d_end (n := 64) rfl (by decide +kernel) ix h1 hne
theorem k9d_q240_0 : k9d_chk 240 prog_13_method_89_code (fun a => (k9_nth (0, 0, 0, 0) k9_w240 a).1) 64 (prog_13_method_89_code.data.toList.drop 0) (k9_c240.drop 0) (k9_w240.drop 0) = true := by decide +kernel
theorem k9d_a240 (ix : Nat) (hne : k9_cod 240 ix ≠ (0, 0, 0, 0, 0)) : k9_okP 240 ix :=
  k9d_ch (m := 64) (k := 0) (pc := 0) rfl rfl rfl rfl rfl k9d_q240_0 ix (Nat.zero_le ix) hne fun h1 =>
  k9d_end (n := 64) rfl (by decide +kernel) ix h1 hne
theorem k9d_q241_0 : k9d_chk 241 prog_13_method_90_code (fun a => (k9_nth (0, 0, 0, 0) k9_w241 a).1) 64 (prog_13_method_90_code.data.toList.drop 0) (k9_c241.drop 0) (k9_w241.drop 0) = true := by decide +kernel
theorem k9d_a241 (ix : Nat) (hne : k9_cod 241 ix ≠ (0, 0, 0, 0, 0)) : k9_okP 241 ix :=
  k9d_ch (m := 64) (k := 0) (pc := 0) rfl rfl rfl rfl rfl k9d_q241_0 ix (Nat.zero_le ix) hne fun h1 =>
  k9d_end (n := 64) rfl (by decide +kernel) ix h1 hne
theorem k9d_q242_0 : k9d_chk 242 prog_13_method_91_code (fun a => (k9_nth (0, 0, 0, 0) k9_w242 a).1) 64 (prog_13_method_91_code.data.toList.drop 0) (k9_c242.drop 0) (k9_w242.drop 0) = true := by decide +kernel
theorem k9d_a242 (ix : Nat) (hne : k9_cod 242 ix ≠ (0, 0, 0, 0, 0)) : k9_okP 242 ix :=
  k9d_ch (m := 64) (k := 0) (pc := 0) rfl rfl rfl rfl rfl k9d_q242_0 ix (Nat.zero_le ix) hne fun h1 =>
  k9d_end (n := 64) rfl (by decide +kernel) ix h1 hne
theorem k9d_q243_0 : k9d_chk 243 prog_13_method_92_code (fun a => (k9_nth (0, 0, 0, 0) k9_w243 a).1) 64 (prog_13_method_92_code.data.toList.drop 0) (k9_c243.drop 0) (k9_w243.drop 0) = true := by decide +kernel
theorem k9d_a243 (ix : Nat) (hne : k9_cod 243 ix ≠ (0, 0, 0, 0, 0)) : k9_okP 243 ix :=
  k9d_ch (m := 64) (k := 0) (pc := 0) rfl rfl rfl rfl rfl k9d_q243_0 ix (Nat.zero_le ix) hne fun h1 =>
  k9d_end (n := 64) rfl (by decide +kernel) ix h1 hne
theorem k9d_q244_0 : k9d_chk 244 prog_13_method_93_code (fun a => (k9_nth (0, 0, 0, 0) k9_w244 a).1) 64 (prog_13_method_93_code.data.toList.drop 0) (k9_c244.drop 0) (k9_w244.drop 0) = true := by decide +kernel
theorem k9d_q244_1 : k9d_chk 244 prog_13_method_93_code (fun a => (k9_nth (0, 0, 0, 0) k9_w244 a).1) 64 (prog_13_method_93_code.data.toList.drop 111) (k9_c244.drop 64) (k9_w244.drop 64) = true := by decide +kernel
theorem k9d_q244_2 : k9d_chk 244 prog_13_method_93_code (fun a => (k9_nth (0, 0, 0, 0) k9_w244 a).1) 64 (prog_13_method_93_code.data.toList.drop 218) (k9_c244.drop 128) (k9_w244.drop 128) = true := by decide +kernel
theorem k9d_a244 (ix : Nat) (hne : k9_cod 244 ix ≠ (0, 0, 0, 0, 0)) : k9_okP 244 ix :=
  k9d_ch (m := 64) (k := 0) (pc := 0) rfl rfl rfl rfl rfl k9d_q244_0 ix (Nat.zero_le ix) hne fun h1 =>
  k9d_ch (m := 64) (k := 64) (pc := 111) rfl rfl rfl rfl (by decide +kernel) k9d_q244_1 ix h1 hne fun h2 =>
  k9d_ch (m := 64) (k := 128) (pc := 218) rfl rfl rfl rfl (by decide +kernel) k9d_q244_2 ix h2 hne fun h3 =>
  k9d_end (n := 192) rfl (by decide +kernel) ix h3 hne
theorem k9d_q245_0 : k9d_chk 245 prog_13_method_94_code (fun a => (k9_nth (0, 0, 0, 0) k9_w245 a).1) 64 (prog_13_method_94_code.data.toList.drop 0) (k9_c245.drop 0) (k9_w245.drop 0) = true := by decide +kernel
theorem k9d_a245 (ix : Nat) (hne : k9_cod 245 ix ≠ (0, 0, 0, 0, 0)) : k9_okP 245 ix :=
  k9d_ch (m := 64) (k := 0) (pc := 0) rfl rfl rfl rfl rfl k9d_q245_0 ix (Nat.zero_le ix) hne fun h1 =>
  k9d_end (n := 64) rfl (by decide +kernel) ix h1 hne
theorem k9d_q246_0 : k9d_chk 246 prog_13_method_95_code (fun a => (k9_nth (0, 0, 0, 0) k9_w246 a).1) 64 (prog_13_method_95_code.data.toList.drop 0) (k9_c246.drop 0) (k9_w246.drop 0) = true := by decide +kernel
theorem k9d_a246 (ix : Nat) (hne : k9_cod 246 ix ≠ (0, 0, 0, 0, 0)) : k9_okP 246 ix :=
  k9d_ch (m := 64) (k := 0) (pc := 0) rfl rfl rfl rfl rfl k9d_q246_0 ix (Nat.zero_le ix) hne fun h1 =>
  k9d_end (n := 64) rfl (by decide +kernel) ix h1 hne
theorem k9d_q247_0 : k9d_chk 247 code (fun a => (k9_nth (0, 0, 0, 0) k9_w247 a).1) 64 (code.data.toList.drop 0) (k9_c247.drop 0) (k9_w247.drop 0) = true := by decide +kernel
theorem k9d_q247_1 : k9d_chk 247 code (fun a => (k9_nth (0, 0, 0, 0) k9_w247 a).1) 64 (code.data.toList.drop 276) (k9_c247.drop 64) (k9_w247.drop 64) = true := by decide +kernel
theorem k9d_q247_2 : k9d_chk 247 code (fun a => (k9_nth (0, 0, 0, 0) k9_w247 a).1) 64 (code.data.toList.drop 352) (k9_c247.drop 128) (k9_w247.drop 128) = true := by decide +kernel
theorem k9d_q247_3 : k9d_chk 247 code (fun a => (k9_nth (0, 0, 0, 0) k9_w247 a).1) 64 (code.data.toList.drop 436) (k9_c247.drop 192) (k9_w247.drop 192) = true := by decide +kernel
theorem k9d_q247_4 : k9d_chk 247 code (fun a => (k9_nth (0, 0, 0, 0) k9_w247 a).1) 64 (code.data.toList.drop 522) (k9_c247.drop 256) (k9_w247.drop 256) = true := by decide +kernel
theorem k9d_q247_5 : k9d_chk 247 code (fun a => (k9_nth (0, 0, 0, 0) k9_w247 a).1) 64 (code.data.toList.drop 600) (k9_c247.drop 320) (k9_w247.drop 320) = true := by decide +kernel
theorem k9d_q247_6 : k9d_chk 247 code (fun a => (k9_nth (0, 0, 0, 0) k9_w247 a).1) 64 (code.data.toList.drop 688) (k9_c247.drop 384) (k9_w247.drop 384) = true := by decide +kernel
theorem k9d_q247_7 : k9d_chk 247 code (fun a => (k9_nth (0, 0, 0, 0) k9_w247 a).1) 64 (code.data.toList.drop 774) (k9_c247.drop 448) (k9_w247.drop 448) = true := by decide +kernel
theorem k9d_q247_8 : k9d_chk 247 code (fun a => (k9_nth (0, 0, 0, 0) k9_w247 a).1) 64 (code.data.toList.drop 852) (k9_c247.drop 512) (k9_w247.drop 512) = true := by decide +kernel
theorem k9d_q247_9 : k9d_chk 247 code (fun a => (k9_nth (0, 0, 0, 0) k9_w247 a).1) 64 (code.data.toList.drop 932) (k9_c247.drop 576) (k9_w247.drop 576) = true := by decide +kernel
theorem k9d_q247_10 : k9d_chk 247 code (fun a => (k9_nth (0, 0, 0, 0) k9_w247 a).1) 64 (code.data.toList.drop 1004) (k9_c247.drop 640) (k9_w247.drop 640) = true := by decide +kernel
theorem k9d_q247_11 : k9d_chk 247 code (fun a => (k9_nth (0, 0, 0, 0) k9_w247 a).1) 64 (code.data.toList.drop 1100) (k9_c247.drop 704) (k9_w247.drop 704) = true := by decide +kernel
theorem k9d_q247_12 : k9d_chk 247 code (fun a => (k9_nth (0, 0, 0, 0) k9_w247 a).1) 64 (code.data.toList.drop 1192) (k9_c247.drop 768) (k9_w247.drop 768) = true := by decide +kernel
theorem k9d_q247_13 : k9d_chk 247 code (fun a => (k9_nth (0, 0, 0, 0) k9_w247 a).1) 64 (code.data.toList.drop 1272) (k9_c247.drop 832) (k9_w247.drop 832) = true := by decide +kernel
theorem k9d_q247_14 : k9d_chk 247 code (fun a => (k9_nth (0, 0, 0, 0) k9_w247 a).1) 64 (code.data.toList.drop 1347) (k9_c247.drop 896) (k9_w247.drop 896) = true := by decide +kernel
theorem k9d_q247_15 : k9d_chk 247 code (fun a => (k9_nth (0, 0, 0, 0) k9_w247 a).1) 64 (code.data.toList.drop 1424) (k9_c247.drop 960) (k9_w247.drop 960) = true := by decide +kernel
theorem k9d_q247_16 : k9d_chk 247 code (fun a => (k9_nth (0, 0, 0, 0) k9_w247 a).1) 64 (code.data.toList.drop 1496) (k9_c247.drop 1024) (k9_w247.drop 1024) = true := by decide +kernel
theorem k9d_a247 (ix : Nat) (hne : k9_cod 247 ix ≠ (0, 0, 0, 0, 0)) : k9_okP 247 ix :=
  k9d_ch (m := 64) (k := 0) (pc := 0) rfl rfl rfl rfl rfl k9d_q247_0 ix (Nat.zero_le ix) hne fun h1 =>
  k9d_ch (m := 64) (k := 64) (pc := 276) rfl rfl rfl rfl (by decide +kernel) k9d_q247_1 ix h1 hne fun h2 =>
  k9d_ch (m := 64) (k := 128) (pc := 352) rfl rfl rfl rfl (by decide +kernel) k9d_q247_2 ix h2 hne fun h3 =>
  k9d_ch (m := 64) (k := 192) (pc := 436) rfl rfl rfl rfl (by decide +kernel) k9d_q247_3 ix h3 hne fun h4 =>
  k9d_ch (m := 64) (k := 256) (pc := 522) rfl rfl rfl rfl (by decide +kernel) k9d_q247_4 ix h4 hne fun h5 =>
  k9d_ch (m := 64) (k := 320) (pc := 600) rfl rfl rfl rfl (by decide +kernel) k9d_q247_5 ix h5 hne fun h6 =>
  k9d_ch (m := 64) (k := 384) (pc := 688) rfl rfl rfl rfl (by decide +kernel) k9d_q247_6 ix h6 hne fun h7 =>
  k9d_ch (m := 64) (k := 448) (pc := 774) rfl rfl rfl rfl (by decide +kernel) k9d_q247_7 ix h7 hne fun h8 =>
  k9d_ch (m := 64) (k := 512) (pc := 852) rfl rfl rfl rfl (by decide +kernel) k9d_q247_8 ix h8 hne fun h9 =>
  k9d_ch (m := 64) (k := 576) (pc := 932) rfl rfl rfl rfl (by decide +kernel) k9d_q247_9 ix h9 hne fun h10 =>
  k9d_ch (m := 64) (k := 640) (pc := 1004) rfl rfl rfl rfl (by decide +kernel) k9d_q247_10 ix h10 hne fun h11 =>
  k9d_ch (m := 64) (k := 704) (pc := 1100) rfl rfl rfl rfl (by decide +kernel) k9d_q247_11 ix h11 hne fun h12 =>
  k9d_ch (m := 64) (k := 768) (pc := 1192) rfl rfl rfl rfl (by decide +kernel) k9d_q247_12 ix h12 hne fun h13 =>
  k9d_ch (m := 64) (k := 832) (pc := 1272) rfl rfl rfl rfl (by decide +kernel) k9d_q247_13 ix h13 hne fun h14 =>
  k9d_ch (m := 64) (k := 896) (pc := 1347) rfl rfl rfl rfl (by decide +kernel) k9d_q247_14 ix h14 hne fun h15 =>
  k9d_ch (m := 64) (k := 960) (pc := 1424) rfl rfl rfl rfl (by decide +kernel) k9d_q247_15 ix h15 hne fun h16 =>
  k9d_ch (m := 64) (k := 1024) (pc := 1496) rfl rfl rfl rfl (by decide +kernel) k9d_q247_16 ix h16 hne fun h17 =>
  k9d_end (n := 1088) rfl (by decide +kernel) ix h17 hne
