/-! what each stretch of code comes to -/
section KEblkL
variable {S : k9_S} {d : Nat} {I : k9_I} {J : k9_J} {x0 x1 x2 x3 x4 x5 x6 x7 x8 x9 x10 x11 x12 x13 s0 s1 s2 s3 s4 s5 s6 s7 s8 s9 : Int32} {w0 w1 w2 w3 w4 w5 w6 w7 w8 w9 w10 w11 w12 w13 t0 t1 t2 t3 t4 t5 t6 t7 t8 t9 : Int64} {i0 i1 i2 i3 i4 i5 i6 i7 i8 i9 i10 i11 i12 i13 r0 r1 r2 r3 r4 r5 r6 r7 r8 r9 : Nat}
set_option maxRecDepth 20000 in
theorem k9e_247_8 : k9_R S d 247 8 [some (k9_r 90 0), some (k9_r 1 0), some (k9_r 12 0), none] [] I J = k9_R S d 247 10 [some (k9_r 90 0), some (k9_r 1 0), some (k9_r 12 0), some (k9_i 0)] [] I J := k9_b S 2 rfl
set_option maxRecDepth 20000 in
theorem k9e_247_10 : k9_R S d 247 10 [some (k9_r 90 0), some (k9_r 1 0), some (k9_r 12 0), some (k9_i x3)] [] I J = if ((Int32.ofNat S.2) - 6).toInt < x3.toInt then k9_R S d 247 1053 [some (k9_r 90 0), some (k9_r 1 0), some (k9_r 12 0), some (k9_i x3)] [] I J else k9_R S d 247 16 [some (k9_r 90 0), some (k9_r 1 0), some (k9_r 12 0), some (k9_i x3)] [] I J := k9_bc S 6 (k9c_lt rfl rfl) rfl
set_option maxRecDepth 20000 in
theorem k9e_247_16 : k9_R S d 247 16 [some (k9_r 90 0), some (k9_r 1 0), some (k9_r 12 0), some (k9_i x3)] [] I J = if k9_in x3 S.2 = true then k9_R S d 247 19 [some (k9_r 90 0), some (k9_r 1 0), some (k9_r 12 0), some (k9_i x3)] [k9_i (S.1 (Int32.toNatClampNeg x3))] I J else none := k9_b S 3 rfl
set_option maxRecDepth 20000 in
theorem k9e_247_19 : k9_R S d 247 19 [some (k9_r 90 0), some (k9_r 1 0), some (k9_r 12 0), some (k9_i x3)] [k9_i s0] I J = if (s0 &&& 63).toInt = 0 then k9_R S d 247 22 [some (k9_r 90 0), some (k9_r 1 0), some (k9_r 12 0), some (k9_i x3)] [] I J else if (s0 &&& 63).toInt = 1 then k9_R S d 247 49 [some (k9_r 90 0), some (k9_r 1 0), some (k9_r 12 0), some (k9_i x3)] [] I J else if (s0 &&& 63).toInt = 2 then k9_R S d 247 86 [some (k9_r 90 0), some (k9_r 1 0), some (k9_r 12 0), some (k9_i x3)] [] I J else if (s0 &&& 63).toInt = 3 then k9_R S d 247 123 [some (k9_r 90 0), some (k9_r 1 0), some (k9_r 12 0), some (k9_i x3)] [] I J else if (s0 &&& 63).toInt = 4 then k9_R S d 247 150 [some (k9_r 90 0), some (k9_r 1 0), some (k9_r 12 0), some (k9_i x3)] [] I J else if (s0 &&& 63).toInt = 5 then k9_R S d 247 167 [some (k9_r 90 0), some (k9_r 1 0), some (k9_r 12 0), some (k9_i x3)] [] I J else if (s0 &&& 63).toInt = 6 then k9_R S d 247 174 [some (k9_r 90 0), some (k9_r 1 0), some (k9_r 12 0), some (k9_i x3)] [] I J else if (s0 &&& 63).toInt = 7 then k9_R S d 247 201 [some (k9_r 90 0), some (k9_r 1 0), some (k9_r 12 0), some (k9_i x3)] [] I J else if (s0 &&& 63).toInt = 8 then k9_R S d 247 218 [some (k9_r 90 0), some (k9_r 1 0), some (k9_r 12 0), some (k9_i x3)] [] I J else if (s0 &&& 63).toInt = 9 then k9_R S d 247 235 [some (k9_r 90 0), some (k9_r 1 0), some (k9_r 12 0), some (k9_i x3)] [] I J else if (s0 &&& 63).toInt = 10 then k9_R S d 247 252 [some (k9_r 90 0), some (k9_r 1 0), some (k9_r 12 0), some (k9_i x3)] [] I J else if (s0 &&& 63).toInt = 11 then k9_R S d 247 279 [some (k9_r 90 0), some (k9_r 1 0), some (k9_r 12 0), some (k9_i x3)] [] I J else if (s0 &&& 63).toInt = 12 then k9_R S d 247 296 [some (k9_r 90 0), some (k9_r 1 0), some (k9_r 12 0), some (k9_i x3)] [] I J else if (s0 &&& 63).toInt = 13 then k9_R S d 247 323 [some (k9_r 90 0), some (k9_r 1 0), some (k9_r 12 0), some (k9_i x3)] [] I J else if (s0 &&& 63).toInt = 14 then k9_R S d 247 330 [some (k9_r 90 0), some (k9_r 1 0), some (k9_r 12 0), some (k9_i x3)] [] I J else if (s0 &&& 63).toInt = 15 then k9_R S d 247 357 [some (k9_r 90 0), some (k9_r 1 0), some (k9_r 12 0), some (k9_i x3)] [] I J else if (s0 &&& 63).toInt = 16 then k9_R S d 247 374 [some (k9_r 90 0), some (k9_r 1 0), some (k9_r 12 0), some (k9_i x3)] [] I J else if (s0 &&& 63).toInt = 17 then k9_R S d 247 391 [some (k9_r 90 0), some (k9_r 1 0), some (k9_r 12 0), some (k9_i x3)] [] I J else if (s0 &&& 63).toInt = 18 then k9_R S d 247 408 [some (k9_r 90 0), some (k9_r 1 0), some (k9_r 12 0), some (k9_i x3)] [] I J else if (s0 &&& 63).toInt = 19 then k9_R S d 247 425 [some (k9_r 90 0), some (k9_r 1 0), some (k9_r 12 0), some (k9_i x3)] [] I J else if (s0 &&& 63).toInt = 20 then k9_R S d 247 442 [some (k9_r 90 0), some (k9_r 1 0), some (k9_r 12 0), some (k9_i x3)] [] I J else if (s0 &&& 63).toInt = 21 then k9_R S d 247 469 [some (k9_r 90 0), some (k9_r 1 0), some (k9_r 12 0), some (k9_i x3)] [] I J else if (s0 &&& 63).toInt = 22 then k9_R S d 247 496 [some (k9_r 90 0), some (k9_r 1 0), some (k9_r 12 0), some (k9_i x3)] [] I J else if (s0 &&& 63).toInt = 23 then k9_R S d 247 523 [some (k9_r 90 0), some (k9_r 1 0), some (k9_r 12 0), some (k9_i x3)] [] I J else if (s0 &&& 63).toInt = 24 then k9_R S d 247 540 [some (k9_r 90 0), some (k9_r 1 0), some (k9_r 12 0), some (k9_i x3)] [] I J else if (s0 &&& 63).toInt = 25 then k9_R S d 247 567 [some (k9_r 90 0), some (k9_r 1 0), some (k9_r 12 0), some (k9_i x3)] [] I J else if (s0 &&& 63).toInt = 26 then k9_R S d 247 604 [some (k9_r 90 0), some (k9_r 1 0), some (k9_r 12 0), some (k9_i x3)] [] I J else if (s0 &&& 63).toInt = 27 then k9_R S d 247 651 [some (k9_r 90 0), some (k9_r 1 0), some (k9_r 12 0), some (k9_i x3)] [] I J else if (s0 &&& 63).toInt = 28 then k9_R S d 247 658 [some (k9_r 90 0), some (k9_r 1 0), some (k9_r 12 0), some (k9_i x3)] [] I J else if (s0 &&& 63).toInt = 29 then k9_R S d 247 675 [some (k9_r 90 0), some (k9_r 1 0), some (k9_r 12 0), some (k9_i x3)] [] I J else if (s0 &&& 63).toInt = 30 then k9_R S d 247 682 [some (k9_r 90 0), some (k9_r 1 0), some (k9_r 12 0), some (k9_i x3)] [] I J else if (s0 &&& 63).toInt = 31 then k9_R S d 247 699 [some (k9_r 90 0), some (k9_r 1 0), some (k9_r 12 0), some (k9_i x3)] [] I J else if (s0 &&& 63).toInt = 32 then k9_R S d 247 706 [some (k9_r 90 0), some (k9_r 1 0), some (k9_r 12 0), some (k9_i x3)] [] I J else if (s0 &&& 63).toInt = 33 then k9_R S d 247 713 [some (k9_r 90 0), some (k9_r 1 0), some (k9_r 12 0), some (k9_i x3)] [] I J else if (s0 &&& 63).toInt = 34 then k9_R S d 247 720 [some (k9_r 90 0), some (k9_r 1 0), some (k9_r 12 0), some (k9_i x3)] [] I J else if (s0 &&& 63).toInt = 35 then k9_R S d 247 727 [some (k9_r 90 0), some (k9_r 1 0), some (k9_r 12 0), some (k9_i x3)] [] I J else if (s0 &&& 63).toInt = 36 then k9_R S d 247 744 [some (k9_r 90 0), some (k9_r 1 0), some (k9_r 12 0), some (k9_i x3)] [] I J else if (s0 &&& 63).toInt = 37 then k9_R S d 247 781 [some (k9_r 90 0), some (k9_r 1 0), some (k9_r 12 0), some (k9_i x3)] [] I J else if (s0 &&& 63).toInt = 38 then k9_R S d 247 798 [some (k9_r 90 0), some (k9_r 1 0), some (k9_r 12 0), some (k9_i x3)] [] I J else if (s0 &&& 63).toInt = 39 then k9_R S d 247 825 [some (k9_r 90 0), some (k9_r 1 0), some (k9_r 12 0), some (k9_i x3)] [] I J else if (s0 &&& 63).toInt = 40 then k9_R S d 247 862 [some (k9_r 90 0), some (k9_r 1 0), some (k9_r 12 0), some (k9_i x3)] [] I J else if (s0 &&& 63).toInt = 41 then k9_R S d 247 923 [some (k9_r 90 0), some (k9_r 1 0), some (k9_r 12 0), some (k9_i x3)] [] I J else if (s0 &&& 63).toInt = 42 then k9_R S d 247 950 [some (k9_r 90 0), some (k9_r 1 0), some (k9_r 12 0), some (k9_i x3)] [] I J else if (s0 &&& 63).toInt = 43 then k9_R S d 247 1007 [some (k9_r 90 0), some (k9_r 1 0), some (k9_r 12 0), some (k9_i x3)] [] I J else if (s0 &&& 63).toInt = 44 then k9_R S d 247 1034 [some (k9_r 90 0), some (k9_r 1 0), some (k9_r 12 0), some (k9_i x3)] [] I J else k9_R S d 247 1051 [some (k9_r 90 0), some (k9_r 1 0), some (k9_r 12 0), some (k9_i x3)] [] I J := (k9_b S 3 rfl).trans (k9_sw1 k9L_0 (k9_sw1 k9L_1 (k9_sw1 k9L_2 (k9_sw1 k9L_3 (k9_sw1 k9L_4 (k9_sw1 k9L_5 (k9_sw1 k9L_6 (k9_sw1 k9L_7 (k9_sw1 k9L_8 (k9_sw1 k9L_9 (k9_sw1 k9L_10 (k9_sw1 k9L_11 (k9_sw1 k9L_12 (k9_sw1 k9L_13 (k9_sw1 k9L_14 (k9_sw1 k9L_15 (k9_sw1 k9L_16 (k9_sw1 k9L_17 (k9_sw1 k9L_18 (k9_sw1 k9L_19 (k9_sw1 k9L_20 (k9_sw1 k9L_21 (k9_sw1 k9L_22 (k9_sw1 k9L_23 (k9_sw1 k9L_24 (k9_sw1 k9L_25 (k9_sw1 k9L_26 (k9_sw1 k9L_27 (k9_sw1 k9L_28 (k9_sw1 k9L_29 (k9_sw1 k9L_30 (k9_sw1 k9L_31 (k9_sw1 k9L_32 (k9_sw1 k9L_33 (k9_sw1 k9L_34 (k9_sw1 k9L_35 (k9_sw1 k9L_36 (k9_sw1 k9L_37 (k9_sw1 k9L_38 (k9_sw1 k9L_39 (k9_sw1 k9L_40 (k9_sw1 k9L_41 (k9_sw1 k9L_42 (k9_sw1 k9L_43 (k9_sw1 k9L_44 rfl)))))))))))))))))))))))))))))))))))))))))))))
set_option maxRecDepth 20000 in
theorem k9e_247_22 : k9_R S d 247 22 [some (k9_r 90 0), some (k9_r 1 0), some (k9_r 12 0), some (k9_i x3)] [] I J = if k9_in (x3 + 1) S.2 = true then k9_R S d 247 28 [some (k9_r 90 0), some (k9_r 1 0), some (k9_r 12 0), some (k9_i x3)] [k9_i (S.1 (Int32.toNatClampNeg (x3 + 1))), k9_r 1 0] I J else none := k9_b S 6 rfl
set_option maxRecDepth 20000 in
theorem k9e_247_28 : k9_R S d 247 28 [some (k9_r 90 0), some (k9_r 1 0), some (k9_r 12 0), some (k9_i x3)] [k9_i s1, k9_r 1 0] I J = if k9_in (x3 + 2) S.2 = true then k9_R S d 247 33 [some (k9_r 90 0), some (k9_r 1 0), some (k9_r 12 0), some (k9_i x3)] [k9_i (S.1 (Int32.toNatClampNeg (x3 + 2))), k9_i s1, k9_r 1 0] I J else none := k9_b S 5 rfl
set_option maxRecDepth 20000 in
theorem k9e_247_33 : k9_R S (d + 1) 247 33 [some (k9_r 90 0), some (k9_r 1 0), some (k9_r 12 0), some (k9_i x3)] [k9_i s2, k9_i s1, k9_r 1 0] I J = (k9_R S d 99 0 [some (k9_r 1 0), some (k9_i s1), some (k9_i s2)] [] I J).bind fun q => k9_R S (d + 1) 247 34 [some (k9_r 90 0), some (k9_r 1 0), some (k9_r 12 0), some (k9_i x3)] (k9_ps q.1 []) q.2.1 q.2.2 := k9_b S 1 rfl
set_option maxRecDepth 20000 in
theorem k9e_247_34 : k9_R S d 247 34 [some (k9_r 90 0), some (k9_r 1 0), some (k9_r 12 0), some (k9_i x3)] [k9_i s0] I J = if k9_in (x3 + 1) S.2 = true then k9_R S d 247 41 [some (k9_r 90 0), some (k9_r 1 0), some (k9_r 12 0), some (k9_i x3)] [k9_i (S.1 (Int32.toNatClampNeg (x3 + 1))), k9_r 12 0] I J else none := k9_b S 7 rfl
set_option maxRecDepth 20000 in
theorem k9e_247_41 : k9_R S d 247 41 [some (k9_r 90 0), some (k9_r 1 0), some (k9_r 12 0), some (k9_i x3)] [k9_i s1, k9_r 12 0] I J = if k9_in (x3 + 2) S.2 = true then k9_R S d 247 46 [some (k9_r 90 0), some (k9_r 1 0), some (k9_r 12 0), some (k9_i x3)] [k9_i (S.1 (Int32.toNatClampNeg (x3 + 2))), k9_i s1, k9_r 12 0] I J else none := k9_b S 5 rfl
set_option maxRecDepth 20000 in
theorem k9e_247_46 : k9_R S (d + 1) 247 46 [some (k9_r 90 0), some (k9_r 1 0), some (k9_r 12 0), some (k9_i x3)] [k9_i s2, k9_i s1, k9_r 12 0] I J = (k9_R S d 158 0 [some (k9_r 12 0), some (k9_i s1), some (k9_i s2)] [] I J).bind fun q => k9_R S (d + 1) 247 47 [some (k9_r 90 0), some (k9_r 1 0), some (k9_r 12 0), some (k9_i x3)] (k9_ps q.1 []) q.2.1 q.2.2 := k9_b S 1 rfl
set_option maxRecDepth 20000 in
theorem k9e_247_47 : k9_R S d 247 47 [some (k9_r 90 0), some (k9_r 1 0), some (k9_r 12 0), some (k9_i x3)] [k9_i s0] I J = k9_R S d 247 1051 [some (k9_r 90 0), some (k9_r 1 0), some (k9_r 12 0), some (k9_i x3)] [] I J := k9_b S 2 rfl
set_option maxRecDepth 20000 in
theorem k9e_247_49 : k9_R S d 247 49 [some (k9_r 90 0), some (k9_r 1 0), some (k9_r 12 0), some (k9_i x3)] [] I J = if k9_in (x3 + 1) S.2 = true then k9_R S d 247 55 [some (k9_r 90 0), some (k9_r 1 0), some (k9_r 12 0), some (k9_i x3)] [k9_i (S.1 (Int32.toNatClampNeg (x3 + 1))), k9_r 1 0] I J else none := k9_b S 6 rfl
set_option maxRecDepth 20000 in
theorem k9e_247_55 : k9_R S d 247 55 [some (k9_r 90 0), some (k9_r 1 0), some (k9_r 12 0), some (k9_i x3)] [k9_i s1, k9_r 1 0] I J = if k9_in (x3 + 2) S.2 = true then k9_R S d 247 60 [some (k9_r 90 0), some (k9_r 1 0), some (k9_r 12 0), some (k9_i x3)] [k9_i (S.1 (Int32.toNatClampNeg (x3 + 2))), k9_i s1, k9_r 1 0] I J else none := k9_b S 5 rfl
set_option maxRecDepth 20000 in
theorem k9e_247_60 : k9_R S d 247 60 [some (k9_r 90 0), some (k9_r 1 0), some (k9_r 12 0), some (k9_i x3)] [k9_i s2, k9_i s1, k9_r 1 0] I J = if k9_in (x3 + 3) S.2 = true then k9_R S d 247 65 [some (k9_r 90 0), some (k9_r 1 0), some (k9_r 12 0), some (k9_i x3)] [k9_i (S.1 (Int32.toNatClampNeg (x3 + 3))), k9_i s2, k9_i s1, k9_r 1 0] I J else none := k9_b S 5 rfl
set_option maxRecDepth 20000 in
theorem k9e_247_65 : k9_R S (d + 1) 247 65 [some (k9_r 90 0), some (k9_r 1 0), some (k9_r 12 0), some (k9_i x3)] [k9_i s3, k9_i s2, k9_i s1, k9_r 1 0] I J = (k9_R S d 100 0 [some (k9_r 1 0), some (k9_i s1), some (k9_i s2), some (k9_i s3), none, none] [] I J).bind fun q => k9_R S (d + 1) 247 66 [some (k9_r 90 0), some (k9_r 1 0), some (k9_r 12 0), some (k9_i x3)] (k9_ps q.1 []) q.2.1 q.2.2 := k9_b S 1 rfl
set_option maxRecDepth 20000 in
theorem k9e_247_66 : k9_R S d 247 66 [some (k9_r 90 0), some (k9_r 1 0), some (k9_r 12 0), some (k9_i x3)] [k9_i s0] I J = if k9_in (x3 + 1) S.2 = true then k9_R S d 247 73 [some (k9_r 90 0), some (k9_r 1 0), some (k9_r 12 0), some (k9_i x3)] [k9_i (S.1 (Int32.toNatClampNeg (x3 + 1))), k9_r 12 0] I J else none := k9_b S 7 rfl
set_option maxRecDepth 20000 in
theorem k9e_247_73 : k9_R S d 247 73 [some (k9_r 90 0), some (k9_r 1 0), some (k9_r 12 0), some (k9_i x3)] [k9_i s1, k9_r 12 0] I J = if k9_in (x3 + 2) S.2 = true then k9_R S d 247 78 [some (k9_r 90 0), some (k9_r 1 0), some (k9_r 12 0), some (k9_i x3)] [k9_i (S.1 (Int32.toNatClampNeg (x3 + 2))), k9_i s1, k9_r 12 0] I J else none := k9_b S 5 rfl
set_option maxRecDepth 20000 in
theorem k9e_247_78 : k9_R S d 247 78 [some (k9_r 90 0), some (k9_r 1 0), some (k9_r 12 0), some (k9_i x3)] [k9_i s2, k9_i s1, k9_r 12 0] I J = if k9_in (x3 + 3) S.2 = true then k9_R S d 247 83 [some (k9_r 90 0), some (k9_r 1 0), some (k9_r 12 0), some (k9_i x3)] [k9_i (S.1 (Int32.toNatClampNeg (x3 + 3))), k9_i s2, k9_i s1, k9_r 12 0] I J else none := k9_b S 5 rfl
set_option maxRecDepth 20000 in
theorem k9e_247_83 : k9_R S (d + 1) 247 83 [some (k9_r 90 0), some (k9_r 1 0), some (k9_r 12 0), some (k9_i x3)] [k9_i s3, k9_i s2, k9_i s1, k9_r 12 0] I J = (k9_R S d 159 0 [some (k9_r 12 0), some (k9_i s1), some (k9_i s2), some (k9_i s3), none, none, none, none, none] [] I J).bind fun q => k9_R S (d + 1) 247 84 [some (k9_r 90 0), some (k9_r 1 0), some (k9_r 12 0), some (k9_i x3)] (k9_ps q.1 []) q.2.1 q.2.2 := k9_b S 1 rfl
set_option maxRecDepth 20000 in
theorem k9e_247_84 : k9_R S d 247 84 [some (k9_r 90 0), some (k9_r 1 0), some (k9_r 12 0), some (k9_i x3)] [k9_i s0] I J = k9_R S d 247 1051 [some (k9_r 90 0), some (k9_r 1 0), some (k9_r 12 0), some (k9_i x3)] [] I J := k9_b S 2 rfl
set_option maxRecDepth 20000 in
theorem k9e_247_86 : k9_R S d 247 86 [some (k9_r 90 0), some (k9_r 1 0), some (k9_r 12 0), some (k9_i x3)] [] I J = if k9_in (x3 + 1) S.2 = true then k9_R S d 247 92 [some (k9_r 90 0), some (k9_r 1 0), some (k9_r 12 0), some (k9_i x3)] [k9_i (S.1 (Int32.toNatClampNeg (x3 + 1))), k9_r 1 0] I J else none := k9_b S 6 rfl
set_option maxRecDepth 20000 in
theorem k9e_247_92 : k9_R S d 247 92 [some (k9_r 90 0), some (k9_r 1 0), some (k9_r 12 0), some (k9_i x3)] [k9_i s1, k9_r 1 0] I J = if k9_in (x3 + 2) S.2 = true then k9_R S d 247 97 [some (k9_r 90 0), some (k9_r 1 0), some (k9_r 12 0), some (k9_i x3)] [k9_i (S.1 (Int32.toNatClampNeg (x3 + 2))), k9_i s1, k9_r 1 0] I J else none := k9_b S 5 rfl
set_option maxRecDepth 20000 in
theorem k9e_247_97 : k9_R S d 247 97 [some (k9_r 90 0), some (k9_r 1 0), some (k9_r 12 0), some (k9_i x3)] [k9_i s2, k9_i s1, k9_r 1 0] I J = if k9_in (x3 + 3) S.2 = true then k9_R S d 247 102 [some (k9_r 90 0), some (k9_r 1 0), some (k9_r 12 0), some (k9_i x3)] [k9_i (S.1 (Int32.toNatClampNeg (x3 + 3))), k9_i s2, k9_i s1, k9_r 1 0] I J else none := k9_b S 5 rfl
set_option maxRecDepth 20000 in
theorem k9e_247_102 : k9_R S (d + 1) 247 102 [some (k9_r 90 0), some (k9_r 1 0), some (k9_r 12 0), some (k9_i x3)] [k9_i s3, k9_i s2, k9_i s1, k9_r 1 0] I J = (k9_R S d 101 0 [some (k9_r 1 0), some (k9_i s1), some (k9_i s2), some (k9_i s3), none] [] I J).bind fun q => k9_R S (d + 1) 247 103 [some (k9_r 90 0), some (k9_r 1 0), some (k9_r 12 0), some (k9_i x3)] (k9_ps q.1 []) q.2.1 q.2.2 := k9_b S 1 rfl
set_option maxRecDepth 20000 in
theorem k9e_247_103 : k9_R S d 247 103 [some (k9_r 90 0), some (k9_r 1 0), some (k9_r 12 0), some (k9_i x3)] [k9_i s0] I J = if k9_in (x3 + 1) S.2 = true then k9_R S d 247 110 [some (k9_r 90 0), some (k9_r 1 0), some (k9_r 12 0), some (k9_i x3)] [k9_i (S.1 (Int32.toNatClampNeg (x3 + 1))), k9_r 12 0] I J else none := k9_b S 7 rfl
set_option maxRecDepth 20000 in
theorem k9e_247_110 : k9_R S d 247 110 [some (k9_r 90 0), some (k9_r 1 0), some (k9_r 12 0), some (k9_i x3)] [k9_i s1, k9_r 12 0] I J = if k9_in (x3 + 2) S.2 = true then k9_R S d 247 115 [some (k9_r 90 0), some (k9_r 1 0), some (k9_r 12 0), some (k9_i x3)] [k9_i (S.1 (Int32.toNatClampNeg (x3 + 2))), k9_i s1, k9_r 12 0] I J else none := k9_b S 5 rfl
set_option maxRecDepth 20000 in
theorem k9e_247_115 : k9_R S d 247 115 [some (k9_r 90 0), some (k9_r 1 0), some (k9_r 12 0), some (k9_i x3)] [k9_i s2, k9_i s1, k9_r 12 0] I J = if k9_in (x3 + 3) S.2 = true then k9_R S d 247 120 [some (k9_r 90 0), some (k9_r 1 0), some (k9_r 12 0), some (k9_i x3)] [k9_i (S.1 (Int32.toNatClampNeg (x3 + 3))), k9_i s2, k9_i s1, k9_r 12 0] I J else none := k9_b S 5 rfl
set_option maxRecDepth 20000 in
theorem k9e_247_120 : k9_R S (d + 1) 247 120 [some (k9_r 90 0), some (k9_r 1 0), some (k9_r 12 0), some (k9_i x3)] [k9_i s3, k9_i s2, k9_i s1, k9_r 12 0] I J = (k9_R S d 164 0 [some (k9_r 12 0), some (k9_i s1), some (k9_i s2), some (k9_i s3), none, none] [] I J).bind fun q => k9_R S (d + 1) 247 121 [some (k9_r 90 0), some (k9_r 1 0), some (k9_r 12 0), some (k9_i x3)] (k9_ps q.1 []) q.2.1 q.2.2 := k9_b S 1 rfl
set_option maxRecDepth 20000 in
theorem k9e_247_121 : k9_R S d 247 121 [some (k9_r 90 0), some (k9_r 1 0), some (k9_r 12 0), some (k9_i x3)] [k9_i s0] I J = k9_R S d 247 1051 [some (k9_r 90 0), some (k9_r 1 0), some (k9_r 12 0), some (k9_i x3)] [] I J := k9_b S 2 rfl
set_option maxRecDepth 20000 in
theorem k9e_247_123 : k9_R S d 247 123 [some (k9_r 90 0), some (k9_r 1 0), some (k9_r 12 0), some (k9_i x3)] [] I J = if k9_in (x3 + 1) S.2 = true then k9_R S d 247 129 [some (k9_r 90 0), some (k9_r 1 0), some (k9_r 12 0), some (k9_i x3)] [k9_i (S.1 (Int32.toNatClampNeg (x3 + 1))), k9_r 1 0] I J else none := k9_b S 6 rfl
set_option maxRecDepth 20000 in
theorem k9e_247_129 : k9_R S d 247 129 [some (k9_r 90 0), some (k9_r 1 0), some (k9_r 12 0), some (k9_i x3)] [k9_i s1, k9_r 1 0] I J = if k9_in (x3 + 2) S.2 = true then k9_R S d 247 134 [some (k9_r 90 0), some (k9_r 1 0), some (k9_r 12 0), some (k9_i x3)] [k9_i (S.1 (Int32.toNatClampNeg (x3 + 2))), k9_i s1, k9_r 1 0] I J else none := k9_b S 5 rfl
set_option maxRecDepth 20000 in
theorem k9e_247_134 : k9_R S (d + 1) 247 134 [some (k9_r 90 0), some (k9_r 1 0), some (k9_r 12 0), some (k9_i x3)] [k9_i s2, k9_i s1, k9_r 1 0] I J = (k9_R S d 102 0 [some (k9_r 1 0), some (k9_i s1), some (k9_i s2)] [] I J).bind fun q => k9_R S (d + 1) 247 135 [some (k9_r 90 0), some (k9_r 1 0), some (k9_r 12 0), some (k9_i x3)] (k9_ps q.1 []) q.2.1 q.2.2 := k9_b S 1 rfl
set_option maxRecDepth 20000 in
theorem k9e_247_135 : k9_R S d 247 135 [some (k9_r 90 0), some (k9_r 1 0), some (k9_r 12 0), some (k9_i x3)] [k9_i s0] I J = if k9_in (x3 + 1) S.2 = true then k9_R S d 247 142 [some (k9_r 90 0), some (k9_r 1 0), some (k9_r 12 0), some (k9_i x3)] [k9_i (S.1 (Int32.toNatClampNeg (x3 + 1))), k9_r 12 0] I J else none := k9_b S 7 rfl
set_option maxRecDepth 20000 in
theorem k9e_247_142 : k9_R S d 247 142 [some (k9_r 90 0), some (k9_r 1 0), some (k9_r 12 0), some (k9_i x3)] [k9_i s1, k9_r 12 0] I J = if k9_in (x3 + 2) S.2 = true then k9_R S d 247 147 [some (k9_r 90 0), some (k9_r 1 0), some (k9_r 12 0), some (k9_i x3)] [k9_i (S.1 (Int32.toNatClampNeg (x3 + 2))), k9_i s1, k9_r 12 0] I J else none := k9_b S 5 rfl
set_option maxRecDepth 20000 in
theorem k9e_247_147 : k9_R S (d + 1) 247 147 [some (k9_r 90 0), some (k9_r 1 0), some (k9_r 12 0), some (k9_i x3)] [k9_i s2, k9_i s1, k9_r 12 0] I J = (k9_R S d 165 0 [some (k9_r 12 0), some (k9_i s1), some (k9_i s2)] [] I J).bind fun q => k9_R S (d + 1) 247 148 [some (k9_r 90 0), some (k9_r 1 0), some (k9_r 12 0), some (k9_i x3)] (k9_ps q.1 []) q.2.1 q.2.2 := k9_b S 1 rfl
set_option maxRecDepth 20000 in
theorem k9e_247_148 : k9_R S d 247 148 [some (k9_r 90 0), some (k9_r 1 0), some (k9_r 12 0), some (k9_i x3)] [k9_i s0] I J = k9_R S d 247 1051 [some (k9_r 90 0), some (k9_r 1 0), some (k9_r 12 0), some (k9_i x3)] [] I J := k9_b S 2 rfl
set_option maxRecDepth 20000 in
theorem k9e_247_150 : k9_R S d 247 150 [some (k9_r 90 0), some (k9_r 1 0), some (k9_r 12 0), some (k9_i x3)] [] I J = if k9_in (x3 + 1) S.2 = true then k9_R S d 247 156 [some (k9_r 90 0), some (k9_r 1 0), some (k9_r 12 0), some (k9_i x3)] [k9_i (S.1 (Int32.toNatClampNeg (x3 + 1))), k9_r 1 0] I J else none := k9_b S 6 rfl
set_option maxRecDepth 20000 in
theorem k9e_247_156 : k9_R S (d + 1) 247 156 [some (k9_r 90 0), some (k9_r 1 0), some (k9_r 12 0), some (k9_i x3)] [k9_i s1, k9_r 1 0] I J = (k9_R S d 103 0 [some (k9_r 1 0), some (k9_i s1)] [] I J).bind fun q => k9_R S (d + 1) 247 157 [some (k9_r 90 0), some (k9_r 1 0), some (k9_r 12 0), some (k9_i x3)] (k9_ps q.1 []) q.2.1 q.2.2 := k9_b S 1 rfl
set_option maxRecDepth 20000 in
theorem k9e_247_157 : k9_R S d 247 157 [some (k9_r 90 0), some (k9_r 1 0), some (k9_r 12 0), some (k9_i x3)] [k9_i s0] I J = if k9_in (x3 + 1) S.2 = true then k9_R S d 247 164 [some (k9_r 90 0), some (k9_r 1 0), some (k9_r 12 0), some (k9_i x3)] [k9_i (S.1 (Int32.toNatClampNeg (x3 + 1))), k9_r 12 0] I J else none := k9_b S 7 rfl
set_option maxRecDepth 20000 in
theorem k9e_247_164 : k9_R S (d + 1) 247 164 [some (k9_r 90 0), some (k9_r 1 0), some (k9_r 12 0), some (k9_i x3)] [k9_i s1, k9_r 12 0] I J = (k9_R S d 168 0 [some (k9_r 12 0), some (k9_i s1)] [] I J).bind fun q => k9_R S (d + 1) 247 165 [some (k9_r 90 0), some (k9_r 1 0), some (k9_r 12 0), some (k9_i x3)] (k9_ps q.1 []) q.2.1 q.2.2 := k9_b S 1 rfl
set_option maxRecDepth 20000 in
theorem k9e_247_165 : k9_R S d 247 165 [some (k9_r 90 0), some (k9_r 1 0), some (k9_r 12 0), some (k9_i x3)] [k9_i s0] I J = k9_R S d 247 1051 [some (k9_r 90 0), some (k9_r 1 0), some (k9_r 12 0), some (k9_i x3)] [] I J := k9_b S 2 rfl
set_option maxRecDepth 20000 in
theorem k9e_247_167 : k9_R S (d + 1) 247 167 [some (k9_r 90 0), some (k9_r 1 0), some (k9_r 12 0), some (k9_i x3)] [] I J = (k9_R S d 104 0 [some (k9_r 1 0), none] [] I J).bind fun q => k9_R S (d + 1) 247 169 [some (k9_r 90 0), some (k9_r 1 0), some (k9_r 12 0), some (k9_i x3)] (k9_ps q.1 []) q.2.1 q.2.2 := k9_b S 2 rfl
set_option maxRecDepth 20000 in
theorem k9e_247_169 : k9_R S (d + 1) 247 169 [some (k9_r 90 0), some (k9_r 1 0), some (k9_r 12 0), some (k9_i x3)] [k9_i s0] I J = (k9_R S d 181 0 [some (k9_r 12 0), none, none, none] [] I J).bind fun q => k9_R S (d + 1) 247 172 [some (k9_r 90 0), some (k9_r 1 0), some (k9_r 12 0), some (k9_i x3)] (k9_ps q.1 []) q.2.1 q.2.2 := k9_b S 3 rfl
set_option maxRecDepth 20000 in
theorem k9e_247_172 : k9_R S d 247 172 [some (k9_r 90 0), some (k9_r 1 0), some (k9_r 12 0), some (k9_i x3)] [k9_i s0] I J = k9_R S d 247 1051 [some (k9_r 90 0), some (k9_r 1 0), some (k9_r 12 0), some (k9_i x3)] [] I J := k9_b S 2 rfl
set_option maxRecDepth 20000 in
theorem k9e_247_174 : k9_R S d 247 174 [some (k9_r 90 0), some (k9_r 1 0), some (k9_r 12 0), some (k9_i x3)] [] I J = if k9_in (x3 + 1) S.2 = true then k9_R S d 247 180 [some (k9_r 90 0), some (k9_r 1 0), some (k9_r 12 0), some (k9_i x3)] [k9_i (S.1 (Int32.toNatClampNeg (x3 + 1))), k9_r 1 0] I J else none := k9_b S 6 rfl
set_option maxRecDepth 20000 in
theorem k9e_247_180 : k9_R S d 247 180 [some (k9_r 90 0), some (k9_r 1 0), some (k9_r 12 0), some (k9_i x3)] [k9_i s1, k9_r 1 0] I J = if k9_in (x3 + 2) S.2 = true then k9_R S d 247 185 [some (k9_r 90 0), some (k9_r 1 0), some (k9_r 12 0), some (k9_i x3)] [k9_i (S.1 (Int32.toNatClampNeg (x3 + 2))), k9_i s1, k9_r 1 0] I J else none := k9_b S 5 rfl
set_option maxRecDepth 20000 in
theorem k9e_247_185 : k9_R S (d + 1) 247 185 [some (k9_r 90 0), some (k9_r 1 0), some (k9_r 12 0), some (k9_i x3)] [k9_i s2, k9_i s1, k9_r 1 0] I J = (k9_R S d 105 0 [some (k9_r 1 0), some (k9_i s1), some (k9_i s2)] [] I J).bind fun q => k9_R S (d + 1) 247 186 [some (k9_r 90 0), some (k9_r 1 0), some (k9_r 12 0), some (k9_i x3)] (k9_ps q.1 []) q.2.1 q.2.2 := k9_b S 1 rfl
set_option maxRecDepth 20000 in
theorem k9e_247_186 : k9_R S d 247 186 [some (k9_r 90 0), some (k9_r 1 0), some (k9_r 12 0), some (k9_i x3)] [k9_i s0] I J = if k9_in (x3 + 1) S.2 = true then k9_R S d 247 193 [some (k9_r 90 0), some (k9_r 1 0), some (k9_r 12 0), some (k9_i x3)] [k9_i (S.1 (Int32.toNatClampNeg (x3 + 1))), k9_r 12 0] I J else none := k9_b S 7 rfl
set_option maxRecDepth 20000 in
theorem k9e_247_193 : k9_R S d 247 193 [some (k9_r 90 0), some (k9_r 1 0), some (k9_r 12 0), some (k9_i x3)] [k9_i s1, k9_r 12 0] I J = if k9_in (x3 + 2) S.2 = true then k9_R S d 247 198 [some (k9_r 90 0), some (k9_r 1 0), some (k9_r 12 0), some (k9_i x3)] [k9_i (S.1 (Int32.toNatClampNeg (x3 + 2))), k9_i s1, k9_r 12 0] I J else none := k9_b S 5 rfl
set_option maxRecDepth 20000 in
theorem k9e_247_198 : k9_R S (d + 1) 247 198 [some (k9_r 90 0), some (k9_r 1 0), some (k9_r 12 0), some (k9_i x3)] [k9_i s2, k9_i s1, k9_r 12 0] I J = (k9_R S d 192 0 [some (k9_r 12 0), some (k9_i s1), some (k9_i s2)] [] I J).bind fun q => k9_R S (d + 1) 247 199 [some (k9_r 90 0), some (k9_r 1 0), some (k9_r 12 0), some (k9_i x3)] (k9_ps q.1 []) q.2.1 q.2.2 := k9_b S 1 rfl
set_option maxRecDepth 20000 in
theorem k9e_247_199 : k9_R S d 247 199 [some (k9_r 90 0), some (k9_r 1 0), some (k9_r 12 0), some (k9_i x3)] [k9_i s0] I J = k9_R S d 247 1051 [some (k9_r 90 0), some (k9_r 1 0), some (k9_r 12 0), some (k9_i x3)] [] I J := k9_b S 2 rfl
set_option maxRecDepth 20000 in
theorem k9e_247_201 : k9_R S d 247 201 [some (k9_r 90 0), some (k9_r 1 0), some (k9_r 12 0), some (k9_i x3)] [] I J = if k9_in (x3 + 1) S.2 = true then k9_R S d 247 207 [some (k9_r 90 0), some (k9_r 1 0), some (k9_r 12 0), some (k9_i x3)] [k9_i (S.1 (Int32.toNatClampNeg (x3 + 1))), k9_r 1 0] I J else none := k9_b S 6 rfl
set_option maxRecDepth 20000 in
theorem k9e_247_207 : k9_R S (d + 1) 247 207 [some (k9_r 90 0), some (k9_r 1 0), some (k9_r 12 0), some (k9_i x3)] [k9_i s1, k9_r 1 0] I J = (k9_R S d 106 0 [some (k9_r 1 0), some (k9_i s1)] [] I J).bind fun q => k9_R S (d + 1) 247 208 [some (k9_r 90 0), some (k9_r 1 0), some (k9_r 12 0), some (k9_i x3)] (k9_ps q.1 []) q.2.1 q.2.2 := k9_b S 1 rfl
set_option maxRecDepth 20000 in
theorem k9e_247_208 : k9_R S d 247 208 [some (k9_r 90 0), some (k9_r 1 0), some (k9_r 12 0), some (k9_i x3)] [k9_i s0] I J = if k9_in (x3 + 1) S.2 = true then k9_R S d 247 215 [some (k9_r 90 0), some (k9_r 1 0), some (k9_r 12 0), some (k9_i x3)] [k9_i (S.1 (Int32.toNatClampNeg (x3 + 1))), k9_r 12 0] I J else none := k9_b S 7 rfl
set_option maxRecDepth 20000 in
theorem k9e_247_215 : k9_R S (d + 1) 247 215 [some (k9_r 90 0), some (k9_r 1 0), some (k9_r 12 0), some (k9_i x3)] [k9_i s1, k9_r 12 0] I J = (k9_R S d 194 0 [some (k9_r 12 0), some (k9_i s1)] [] I J).bind fun q => k9_R S (d + 1) 247 216 [some (k9_r 90 0), some (k9_r 1 0), some (k9_r 12 0), some (k9_i x3)] (k9_ps q.1 []) q.2.1 q.2.2 := k9_b S 1 rfl
set_option maxRecDepth 20000 in
theorem k9e_247_216 : k9_R S d 247 216 [some (k9_r 90 0), some (k9_r 1 0), some (k9_r 12 0), some (k9_i x3)] [k9_i s0] I J = k9_R S d 247 1051 [some (k9_r 90 0), some (k9_r 1 0), some (k9_r 12 0), some (k9_i x3)] [] I J := k9_b S 2 rfl
set_option maxRecDepth 20000 in
theorem k9e_247_218 : k9_R S d 247 218 [some (k9_r 90 0), some (k9_r 1 0), some (k9_r 12 0), some (k9_i x3)] [] I J = if k9_in (x3 + 1) S.2 = true then k9_R S d 247 224 [some (k9_r 90 0), some (k9_r 1 0), some (k9_r 12 0), some (k9_i x3)] [k9_i (S.1 (Int32.toNatClampNeg (x3 + 1))), k9_r 1 0] I J else none := k9_b S 6 rfl
set_option maxRecDepth 20000 in
theorem k9e_247_224 : k9_R S (d + 1) 247 224 [some (k9_r 90 0), some (k9_r 1 0), some (k9_r 12 0), some (k9_i x3)] [k9_i s1, k9_r 1 0] I J = (k9_R S d 107 0 [some (k9_r 1 0), some (k9_i s1)] [] I J).bind fun q => k9_R S (d + 1) 247 225 [some (k9_r 90 0), some (k9_r 1 0), some (k9_r 12 0), some (k9_i x3)] (k9_ps q.1 []) q.2.1 q.2.2 := k9_b S 1 rfl
set_option maxRecDepth 20000 in
theorem k9e_247_225 : k9_R S d 247 225 [some (k9_r 90 0), some (k9_r 1 0), some (k9_r 12 0), some (k9_i x3)] [k9_i s0] I J = if k9_in (x3 + 1) S.2 = true then k9_R S d 247 232 [some (k9_r 90 0), some (k9_r 1 0), some (k9_r 12 0), some (k9_i x3)] [k9_i (S.1 (Int32.toNatClampNeg (x3 + 1))), k9_r 12 0] I J else none := k9_b S 7 rfl
set_option maxRecDepth 20000 in
theorem k9e_247_232 : k9_R S (d + 1) 247 232 [some (k9_r 90 0), some (k9_r 1 0), some (k9_r 12 0), some (k9_i x3)] [k9_i s1, k9_r 12 0] I J = (k9_R S d 195 0 [some (k9_r 12 0), some (k9_i s1)] [] I J).bind fun q => k9_R S (d + 1) 247 233 [some (k9_r 90 0), some (k9_r 1 0), some (k9_r 12 0), some (k9_i x3)] (k9_ps q.1 []) q.2.1 q.2.2 := k9_b S 1 rfl
set_option maxRecDepth 20000 in
theorem k9e_247_233 : k9_R S d 247 233 [some (k9_r 90 0), some (k9_r 1 0), some (k9_r 12 0), some (k9_i x3)] [k9_i s0] I J = k9_R S d 247 1051 [some (k9_r 90 0), some (k9_r 1 0), some (k9_r 12 0), some (k9_i x3)] [] I J := k9_b S 2 rfl
set_option maxRecDepth 20000 in
theorem k9e_247_235 : k9_R S d 247 235 [some (k9_r 90 0), some (k9_r 1 0), some (k9_r 12 0), some (k9_i x3)] [] I J = if k9_in (x3 + 1) S.2 = true then k9_R S d 247 241 [some (k9_r 90 0), some (k9_r 1 0), some (k9_r 12 0), some (k9_i x3)] [k9_i (S.1 (Int32.toNatClampNeg (x3 + 1))), k9_r 1 0] I J else none := k9_b S 6 rfl
set_option maxRecDepth 20000 in
theorem k9e_247_241 : k9_R S (d + 1) 247 241 [some (k9_r 90 0), some (k9_r 1 0), some (k9_r 12 0), some (k9_i x3)] [k9_i s1, k9_r 1 0] I J = (k9_R S d 108 0 [some (k9_r 1 0), some (k9_i s1)] [] I J).bind fun q => k9_R S (d + 1) 247 242 [some (k9_r 90 0), some (k9_r 1 0), some (k9_r 12 0), some (k9_i x3)] (k9_ps q.1 []) q.2.1 q.2.2 := k9_b S 1 rfl
set_option maxRecDepth 20000 in
theorem k9e_247_242 : k9_R S d 247 242 [some (k9_r 90 0), some (k9_r 1 0), some (k9_r 12 0), some (k9_i x3)] [k9_i s0] I J = if k9_in (x3 + 1) S.2 = true then k9_R S d 247 249 [some (k9_r 90 0), some (k9_r 1 0), some (k9_r 12 0), some (k9_i x3)] [k9_i (S.1 (Int32.toNatClampNeg (x3 + 1))), k9_r 12 0] I J else none := k9_b S 7 rfl
set_option maxRecDepth 20000 in
theorem k9e_247_249 : k9_R S (d + 1) 247 249 [some (k9_r 90 0), some (k9_r 1 0), some (k9_r 12 0), some (k9_i x3)] [k9_i s1, k9_r 12 0] I J = (k9_R S d 196 0 [some (k9_r 12 0), some (k9_i s1)] [] I J).bind fun q => k9_R S (d + 1) 247 250 [some (k9_r 90 0), some (k9_r 1 0), some (k9_r 12 0), some (k9_i x3)] (k9_ps q.1 []) q.2.1 q.2.2 := k9_b S 1 rfl
set_option maxRecDepth 20000 in
theorem k9e_247_250 : k9_R S d 247 250 [some (k9_r 90 0), some (k9_r 1 0), some (k9_r 12 0), some (k9_i x3)] [k9_i s0] I J = k9_R S d 247 1051 [some (k9_r 90 0), some (k9_r 1 0), some (k9_r 12 0), some (k9_i x3)] [] I J := k9_b S 2 rfl
set_option maxRecDepth 20000 in
theorem k9e_247_252 : k9_R S d 247 252 [some (k9_r 90 0), some (k9_r 1 0), some (k9_r 12 0), some (k9_i x3)] [] I J = if k9_in (x3 + 1) S.2 = true then k9_R S d 247 258 [some (k9_r 90 0), some (k9_r 1 0), some (k9_r 12 0), some (k9_i x3)] [k9_i (S.1 (Int32.toNatClampNeg (x3 + 1))), k9_r 1 0] I J else none := k9_b S 6 rfl
set_option maxRecDepth 20000 in
theorem k9e_247_258 : k9_R S d 247 258 [some (k9_r 90 0), some (k9_r 1 0), some (k9_r 12 0), some (k9_i x3)] [k9_i s1, k9_r 1 0] I J = if k9_in (x3 + 2) S.2 = true then k9_R S d 247 263 [some (k9_r 90 0), some (k9_r 1 0), some (k9_r 12 0), some (k9_i x3)] [k9_i (S.1 (Int32.toNatClampNeg (x3 + 2))), k9_i s1, k9_r 1 0] I J else none := k9_b S 5 rfl
set_option maxRecDepth 20000 in
theorem k9e_247_263 : k9_R S (d + 1) 247 263 [some (k9_r 90 0), some (k9_r 1 0), some (k9_r 12 0), some (k9_i x3)] [k9_i s2, k9_i s1, k9_r 1 0] I J = (k9_R S d 109 0 [some (k9_r 1 0), some (k9_i s1), some (k9_i s2), none] [] I J).bind fun q => k9_R S (d + 1) 247 264 [some (k9_r 90 0), some (k9_r 1 0), some (k9_r 12 0), some (k9_i x3)] (k9_ps q.1 []) q.2.1 q.2.2 := k9_b S 1 rfl
set_option maxRecDepth 20000 in
theorem k9e_247_264 : k9_R S d 247 264 [some (k9_r 90 0), some (k9_r 1 0), some (k9_r 12 0), some (k9_i x3)] [k9_i s0] I J = if k9_in (x3 + 1) S.2 = true then k9_R S d 247 271 [some (k9_r 90 0), some (k9_r 1 0), some (k9_r 12 0), some (k9_i x3)] [k9_i (S.1 (Int32.toNatClampNeg (x3 + 1))), k9_r 12 0] I J else none := k9_b S 7 rfl
set_option maxRecDepth 20000 in
theorem k9e_247_271 : k9_R S d 247 271 [some (k9_r 90 0), some (k9_r 1 0), some (k9_r 12 0), some (k9_i x3)] [k9_i s1, k9_r 12 0] I J = if k9_in (x3 + 2) S.2 = true then k9_R S d 247 276 [some (k9_r 90 0), some (k9_r 1 0), some (k9_r 12 0), some (k9_i x3)] [k9_i (S.1 (Int32.toNatClampNeg (x3 + 2))), k9_i s1, k9_r 12 0] I J else none := k9_b S 5 rfl
set_option maxRecDepth 20000 in
theorem k9e_247_276 : k9_R S (d + 1) 247 276 [some (k9_r 90 0), some (k9_r 1 0), some (k9_r 12 0), some (k9_i x3)] [k9_i s2, k9_i s1, k9_r 12 0] I J = (k9_R S d 198 0 [some (k9_r 12 0), some (k9_i s1), some (k9_i s2)] [] I J).bind fun q => k9_R S (d + 1) 247 277 [some (k9_r 90 0), some (k9_r 1 0), some (k9_r 12 0), some (k9_i x3)] (k9_ps q.1 []) q.2.1 q.2.2 := k9_b S 1 rfl
set_option maxRecDepth 20000 in
theorem k9e_247_277 : k9_R S d 247 277 [some (k9_r 90 0), some (k9_r 1 0), some (k9_r 12 0), some (k9_i x3)] [k9_i s0] I J = k9_R S d 247 1051 [some (k9_r 90 0), some (k9_r 1 0), some (k9_r 12 0), some (k9_i x3)] [] I J := k9_b S 2 rfl
set_option maxRecDepth 20000 in
theorem k9e_247_279 : k9_R S d 247 279 [some (k9_r 90 0), some (k9_r 1 0), some (k9_r 12 0), some (k9_i x3)] [] I J = if k9_in (x3 + 1) S.2 = true then k9_R S d 247 285 [some (k9_r 90 0), some (k9_r 1 0), some (k9_r 12 0), some (k9_i x3)] [k9_i (S.1 (Int32.toNatClampNeg (x3 + 1))), k9_r 1 0] I J else none := k9_b S 6 rfl
set_option maxRecDepth 20000 in
theorem k9e_247_285 : k9_R S (d + 1) 247 285 [some (k9_r 90 0), some (k9_r 1 0), some (k9_r 12 0), some (k9_i x3)] [k9_i s1, k9_r 1 0] I J = (k9_R S d 110 0 [some (k9_r 1 0), some (k9_i s1), none, none, none, none] [] I J).bind fun q => k9_R S (d + 1) 247 286 [some (k9_r 90 0), some (k9_r 1 0), some (k9_r 12 0), some (k9_i x3)] (k9_ps q.1 []) q.2.1 q.2.2 := k9_b S 1 rfl
set_option maxRecDepth 20000 in
theorem k9e_247_286 : k9_R S d 247 286 [some (k9_r 90 0), some (k9_r 1 0), some (k9_r 12 0), some (k9_i x3)] [k9_i s0] I J = if k9_in (x3 + 1) S.2 = true then k9_R S d 247 293 [some (k9_r 90 0), some (k9_r 1 0), some (k9_r 12 0), some (k9_i x3)] [k9_i (S.1 (Int32.toNatClampNeg (x3 + 1))), k9_r 12 0] I J else none := k9_b S 7 rfl
set_option maxRecDepth 20000 in
theorem k9e_247_293 : k9_R S (d + 1) 247 293 [some (k9_r 90 0), some (k9_r 1 0), some (k9_r 12 0), some (k9_i x3)] [k9_i s1, k9_r 12 0] I J = (k9_R S d 200 0 [some (k9_r 12 0), some (k9_i s1), none, none, none, none] [] I J).bind fun q => k9_R S (d + 1) 247 294 [some (k9_r 90 0), some (k9_r 1 0), some (k9_r 12 0), some (k9_i x3)] (k9_ps q.1 []) q.2.1 q.2.2 := k9_b S 1 rfl
set_option maxRecDepth 20000 in
theorem k9e_247_294 : k9_R S d 247 294 [some (k9_r 90 0), some (k9_r 1 0), some (k9_r 12 0), some (k9_i x3)] [k9_i s0] I J = k9_R S d 247 1051 [some (k9_r 90 0), some (k9_r 1 0), some (k9_r 12 0), some (k9_i x3)] [] I J := k9_b S 2 rfl
set_option maxRecDepth 20000 in
theorem k9e_247_296 : k9_R S d 247 296 [some (k9_r 90 0), some (k9_r 1 0), some (k9_r 12 0), some (k9_i x3)] [] I J = if k9_in (x3 + 1) S.2 = true then k9_R S d 247 302 [some (k9_r 90 0), some (k9_r 1 0), some (k9_r 12 0), some (k9_i x3)] [k9_i (S.1 (Int32.toNatClampNeg (x3 + 1))), k9_r 1 0] I J else none := k9_b S 6 rfl
set_option maxRecDepth 20000 in
theorem k9e_247_302 : k9_R S d 247 302 [some (k9_r 90 0), some (k9_r 1 0), some (k9_r 12 0), some (k9_i x3)] [k9_i s1, k9_r 1 0] I J = if k9_in (x3 + 2) S.2 = true then k9_R S d 247 307 [some (k9_r 90 0), some (k9_r 1 0), some (k9_r 12 0), some (k9_i x3)] [k9_i (S.1 (Int32.toNatClampNeg (x3 + 2))), k9_i s1, k9_r 1 0] I J else none := k9_b S 5 rfl
set_option maxRecDepth 20000 in
theorem k9e_247_307 : k9_R S (d + 1) 247 307 [some (k9_r 90 0), some (k9_r 1 0), some (k9_r 12 0), some (k9_i x3)] [k9_i s2, k9_i s1, k9_r 1 0] I J = (k9_R S d 111 0 [some (k9_r 1 0), some (k9_i s1), some (k9_i s2), none] [] I J).bind fun q => k9_R S (d + 1) 247 308 [some (k9_r 90 0), some (k9_r 1 0), some (k9_r 12 0), some (k9_i x3)] (k9_ps q.1 []) q.2.1 q.2.2 := k9_b S 1 rfl
set_option maxRecDepth 20000 in
theorem k9e_247_308 : k9_R S d 247 308 [some (k9_r 90 0), some (k9_r 1 0), some (k9_r 12 0), some (k9_i x3)] [k9_i s0] I J = if k9_in (x3 + 1) S.2 = true then k9_R S d 247 315 [some (k9_r 90 0), some (k9_r 1 0), some (k9_r 12 0), some (k9_i x3)] [k9_i (S.1 (Int32.toNatClampNeg (x3 + 1))), k9_r 12 0] I J else none := k9_b S 7 rfl
set_option maxRecDepth 20000 in
theorem k9e_247_315 : k9_R S d 247 315 [some (k9_r 90 0), some (k9_r 1 0), some (k9_r 12 0), some (k9_i x3)] [k9_i s1, k9_r 12 0] I J = if k9_in (x3 + 2) S.2 = true then k9_R S d 247 320 [some (k9_r 90 0), some (k9_r 1 0), some (k9_r 12 0), some (k9_i x3)] [k9_i (S.1 (Int32.toNatClampNeg (x3 + 2))), k9_i s1, k9_r 12 0] I J else none := k9_b S 5 rfl
set_option maxRecDepth 20000 in
theorem k9e_247_320 : k9_R S (d + 1) 247 320 [some (k9_r 90 0), some (k9_r 1 0), some (k9_r 12 0), some (k9_i x3)] [k9_i s2, k9_i s1, k9_r 12 0] I J = (k9_R S d 202 0 [some (k9_r 12 0), some (k9_i s1), some (k9_i s2), none] [] I J).bind fun q => k9_R S (d + 1) 247 321 [some (k9_r 90 0), some (k9_r 1 0), some (k9_r 12 0), some (k9_i x3)] (k9_ps q.1 []) q.2.1 q.2.2 := k9_b S 1 rfl
set_option maxRecDepth 20000 in
theorem k9e_247_321 : k9_R S d 247 321 [some (k9_r 90 0), some (k9_r 1 0), some (k9_r 12 0), some (k9_i x3)] [k9_i s0] I J = k9_R S d 247 1051 [some (k9_r 90 0), some (k9_r 1 0), some (k9_r 12 0), some (k9_i x3)] [] I J := k9_b S 2 rfl
set_option maxRecDepth 20000 in
theorem k9e_247_323 : k9_R S (d + 1) 247 323 [some (k9_r 90 0), some (k9_r 1 0), some (k9_r 12 0), some (k9_i x3)] [] I J = (k9_R S d 112 0 [some (k9_r 1 0)] [] I J).bind fun q => k9_R S (d + 1) 247 325 [some (k9_r 90 0), some (k9_r 1 0), some (k9_r 12 0), some (k9_i x3)] (k9_ps q.1 []) q.2.1 q.2.2 := k9_b S 2 rfl
set_option maxRecDepth 20000 in
theorem k9e_247_325 : k9_R S (d + 1) 247 325 [some (k9_r 90 0), some (k9_r 1 0), some (k9_r 12 0), some (k9_i x3)] [k9_i s0] I J = (k9_R S d 203 0 [some (k9_r 12 0), none] [] I J).bind fun q => k9_R S (d + 1) 247 328 [some (k9_r 90 0), some (k9_r 1 0), some (k9_r 12 0), some (k9_i x3)] (k9_ps q.1 []) q.2.1 q.2.2 := k9_b S 3 rfl
set_option maxRecDepth 20000 in
theorem k9e_247_328 : k9_R S d 247 328 [some (k9_r 90 0), some (k9_r 1 0), some (k9_r 12 0), some (k9_i x3)] [k9_i s0] I J = k9_R S d 247 1051 [some (k9_r 90 0), some (k9_r 1 0), some (k9_r 12 0), some (k9_i x3)] [] I J := k9_b S 2 rfl
set_option maxRecDepth 20000 in
theorem k9e_247_330 : k9_R S d 247 330 [some (k9_r 90 0), some (k9_r 1 0), some (k9_r 12 0), some (k9_i x3)] [] I J = if k9_in (x3 + 1) S.2 = true then k9_R S d 247 336 [some (k9_r 90 0), some (k9_r 1 0), some (k9_r 12 0), some (k9_i x3)] [k9_i (S.1 (Int32.toNatClampNeg (x3 + 1))), k9_r 1 0] I J else none := k9_b S 6 rfl
set_option maxRecDepth 20000 in
theorem k9e_247_336 : k9_R S d 247 336 [some (k9_r 90 0), some (k9_r 1 0), some (k9_r 12 0), some (k9_i x3)] [k9_i s1, k9_r 1 0] I J = if k9_in (x3 + 2) S.2 = true then k9_R S d 247 341 [some (k9_r 90 0), some (k9_r 1 0), some (k9_r 12 0), some (k9_i x3)] [k9_i (S.1 (Int32.toNatClampNeg (x3 + 2))), k9_i s1, k9_r 1 0] I J else none := k9_b S 5 rfl
set_option maxRecDepth 20000 in
theorem k9e_247_341 : k9_R S (d + 1) 247 341 [some (k9_r 90 0), some (k9_r 1 0), some (k9_r 12 0), some (k9_i x3)] [k9_i s2, k9_i s1, k9_r 1 0] I J = (k9_R S d 113 0 [some (k9_r 1 0), some (k9_i s1), some (k9_i s2)] [] I J).bind fun q => k9_R S (d + 1) 247 342 [some (k9_r 90 0), some (k9_r 1 0), some (k9_r 12 0), some (k9_i x3)] (k9_ps q.1 []) q.2.1 q.2.2 := k9_b S 1 rfl
set_option maxRecDepth 20000 in
theorem k9e_247_342 : k9_R S d 247 342 [some (k9_r 90 0), some (k9_r 1 0), some (k9_r 12 0), some (k9_i x3)] [k9_i s0] I J = if k9_in (x3 + 1) S.2 = true then k9_R S d 247 349 [some (k9_r 90 0), some (k9_r 1 0), some (k9_r 12 0), some (k9_i x3)] [k9_i (S.1 (Int32.toNatClampNeg (x3 + 1))), k9_r 12 0] I J else none := k9_b S 7 rfl
set_option maxRecDepth 20000 in
theorem k9e_247_349 : k9_R S d 247 349 [some (k9_r 90 0), some (k9_r 1 0), some (k9_r 12 0), some (k9_i x3)] [k9_i s1, k9_r 12 0] I J = if k9_in (x3 + 2) S.2 = true then k9_R S d 247 354 [some (k9_r 90 0), some (k9_r 1 0), some (k9_r 12 0), some (k9_i x3)] [k9_i (S.1 (Int32.toNatClampNeg (x3 + 2))), k9_i s1, k9_r 12 0] I J else none := k9_b S 5 rfl
set_option maxRecDepth 20000 in
theorem k9e_247_354 : k9_R S (d + 1) 247 354 [some (k9_r 90 0), some (k9_r 1 0), some (k9_r 12 0), some (k9_i x3)] [k9_i s2, k9_i s1, k9_r 12 0] I J = (k9_R S d 204 0 [some (k9_r 12 0), some (k9_i s1), some (k9_i s2)] [] I J).bind fun q => k9_R S (d + 1) 247 355 [some (k9_r 90 0), some (k9_r 1 0), some (k9_r 12 0), some (k9_i x3)] (k9_ps q.1 []) q.2.1 q.2.2 := k9_b S 1 rfl
set_option maxRecDepth 20000 in
theorem k9e_247_355 : k9_R S d 247 355 [some (k9_r 90 0), some (k9_r 1 0), some (k9_r 12 0), some (k9_i x3)] [k9_i s0] I J = k9_R S d 247 1051 [some (k9_r 90 0), some (k9_r 1 0), some (k9_r 12 0), some (k9_i x3)] [] I J := k9_b S 2 rfl
set_option maxRecDepth 20000 in
theorem k9e_247_357 : k9_R S d 247 357 [some (k9_r 90 0), some (k9_r 1 0), some (k9_r 12 0), some (k9_i x3)] [] I J = if k9_in (x3 + 1) S.2 = true then k9_R S d 247 363 [some (k9_r 90 0), some (k9_r 1 0), some (k9_r 12 0), some (k9_i x3)] [k9_i (S.1 (Int32.toNatClampNeg (x3 + 1))), k9_r 1 0] I J else none := k9_b S 6 rfl
set_option maxRecDepth 20000 in
theorem k9e_247_363 : k9_R S (d + 1) 247 363 [some (k9_r 90 0), some (k9_r 1 0), some (k9_r 12 0), some (k9_i x3)] [k9_i s1, k9_r 1 0] I J = (k9_R S d 114 0 [some (k9_r 1 0), some (k9_i s1)] [] I J).bind fun q => k9_R S (d + 1) 247 364 [some (k9_r 90 0), some (k9_r 1 0), some (k9_r 12 0), some (k9_i x3)] (k9_ps q.1 []) q.2.1 q.2.2 := k9_b S 1 rfl
set_option maxRecDepth 20000 in
theorem k9e_247_364 : k9_R S d 247 364 [some (k9_r 90 0), some (k9_r 1 0), some (k9_r 12 0), some (k9_i x3)] [k9_i s0] I J = if k9_in (x3 + 1) S.2 = true then k9_R S d 247 371 [some (k9_r 90 0), some (k9_r 1 0), some (k9_r 12 0), some (k9_i x3)] [k9_i (S.1 (Int32.toNatClampNeg (x3 + 1))), k9_r 12 0] I J else none := k9_b S 7 rfl
set_option maxRecDepth 20000 in
theorem k9e_247_371 : k9_R S (d + 1) 247 371 [some (k9_r 90 0), some (k9_r 1 0), some (k9_r 12 0), some (k9_i x3)] [k9_i s1, k9_r 12 0] I J = (k9_R S d 207 0 [some (k9_r 12 0), some (k9_i s1), none, none, none] [] I J).bind fun q => k9_R S (d + 1) 247 372 [some (k9_r 90 0), some (k9_r 1 0), some (k9_r 12 0), some (k9_i x3)] (k9_ps q.1 []) q.2.1 q.2.2 := k9_b S 1 rfl
set_option maxRecDepth 20000 in
theorem k9e_247_372 : k9_R S d 247 372 [some (k9_r 90 0), some (k9_r 1 0), some (k9_r 12 0), some (k9_i x3)] [k9_i s0] I J = k9_R S d 247 1051 [some (k9_r 90 0), some (k9_r 1 0), some (k9_r 12 0), some (k9_i x3)] [] I J := k9_b S 2 rfl
set_option maxRecDepth 20000 in
theorem k9e_247_374 : k9_R S d 247 374 [some (k9_r 90 0), some (k9_r 1 0), some (k9_r 12 0), some (k9_i x3)] [] I J = if k9_in (x3 + 1) S.2 = true then k9_R S d 247 380 [some (k9_r 90 0), some (k9_r 1 0), some (k9_r 12 0), some (k9_i x3)] [k9_i (S.1 (Int32.toNatClampNeg (x3 + 1))), k9_r 1 0] I J else none := k9_b S 6 rfl
set_option maxRecDepth 20000 in
theorem k9e_247_380 : k9_R S (d + 1) 247 380 [some (k9_r 90 0), some (k9_r 1 0), some (k9_r 12 0), some (k9_i x3)] [k9_i s1, k9_r 1 0] I J = (k9_R S d 115 0 [some (k9_r 1 0), some (k9_i s1), none, none] [] I J).bind fun q => k9_R S (d + 1) 247 381 [some (k9_r 90 0), some (k9_r 1 0), some (k9_r 12 0), some (k9_i x3)] (k9_ps q.1 []) q.2.1 q.2.2 := k9_b S 1 rfl
set_option maxRecDepth 20000 in
theorem k9e_247_381 : k9_R S d 247 381 [some (k9_r 90 0), some (k9_r 1 0), some (k9_r 12 0), some (k9_i x3)] [k9_i s0] I J = if k9_in (x3 + 1) S.2 = true then k9_R S d 247 388 [some (k9_r 90 0), some (k9_r 1 0), some (k9_r 12 0), some (k9_i x3)] [k9_i (S.1 (Int32.toNatClampNeg (x3 + 1))), k9_r 12 0] I J else none := k9_b S 7 rfl
set_option maxRecDepth 20000 in
theorem k9e_247_388 : k9_R S (d + 1) 247 388 [some (k9_r 90 0), some (k9_r 1 0), some (k9_r 12 0), some (k9_i x3)] [k9_i s1, k9_r 12 0] I J = (k9_R S d 211 0 [some (k9_r 12 0), some (k9_i s1), none, none, none, none, none, none] [] I J).bind fun q => k9_R S (d + 1) 247 389 [some (k9_r 90 0), some (k9_r 1 0), some (k9_r 12 0), some (k9_i x3)] (k9_ps q.1 []) q.2.1 q.2.2 := k9_b S 1 rfl
set_option maxRecDepth 20000 in
theorem k9e_247_389 : k9_R S d 247 389 [some (k9_r 90 0), some (k9_r 1 0), some (k9_r 12 0), some (k9_i x3)] [k9_i s0] I J = k9_R S d 247 1051 [some (k9_r 90 0), some (k9_r 1 0), some (k9_r 12 0), some (k9_i x3)] [] I J := k9_b S 2 rfl
set_option maxRecDepth 20000 in
theorem k9e_247_391 : k9_R S d 247 391 [some (k9_r 90 0), some (k9_r 1 0), some (k9_r 12 0), some (k9_i x3)] [] I J = if k9_in (x3 + 1) S.2 = true then k9_R S d 247 397 [some (k9_r 90 0), some (k9_r 1 0), some (k9_r 12 0), some (k9_i x3)] [k9_i (S.1 (Int32.toNatClampNeg (x3 + 1))), k9_r 1 0] I J else none := k9_b S 6 rfl
set_option maxRecDepth 20000 in
theorem k9e_247_397 : k9_R S (d + 1) 247 397 [some (k9_r 90 0), some (k9_r 1 0), some (k9_r 12 0), some (k9_i x3)] [k9_i s1, k9_r 1 0] I J = (k9_R S d 116 0 [some (k9_r 1 0), some (k9_i s1), none, none, none, none, none] [] I J).bind fun q => k9_R S (d + 1) 247 398 [some (k9_r 90 0), some (k9_r 1 0), some (k9_r 12 0), some (k9_i x3)] (k9_ps q.1 []) q.2.1 q.2.2 := k9_b S 1 rfl
set_option maxRecDepth 20000 in
theorem k9e_247_398 : k9_R S d 247 398 [some (k9_r 90 0), some (k9_r 1 0), some (k9_r 12 0), some (k9_i x3)] [k9_i s0] I J = if k9_in (x3 + 1) S.2 = true then k9_R S d 247 405 [some (k9_r 90 0), some (k9_r 1 0), some (k9_r 12 0), some (k9_i x3)] [k9_i (S.1 (Int32.toNatClampNeg (x3 + 1))), k9_r 12 0] I J else none := k9_b S 7 rfl
set_option maxRecDepth 20000 in
theorem k9e_247_405 : k9_R S (d + 1) 247 405 [some (k9_r 90 0), some (k9_r 1 0), some (k9_r 12 0), some (k9_i x3)] [k9_i s1, k9_r 12 0] I J = (k9_R S d 212 0 [some (k9_r 12 0), some (k9_i s1), none, none, none, none, none, none] [] I J).bind fun q => k9_R S (d + 1) 247 406 [some (k9_r 90 0), some (k9_r 1 0), some (k9_r 12 0), some (k9_i x3)] (k9_ps q.1 []) q.2.1 q.2.2 := k9_b S 1 rfl
set_option maxRecDepth 20000 in
theorem k9e_247_406 : k9_R S d 247 406 [some (k9_r 90 0), some (k9_r 1 0), some (k9_r 12 0), some (k9_i x3)] [k9_i s0] I J = k9_R S d 247 1051 [some (k9_r 90 0), some (k9_r 1 0), some (k9_r 12 0), some (k9_i x3)] [] I J := k9_b S 2 rfl
set_option maxRecDepth 20000 in
theorem k9e_247_408 : k9_R S d 247 408 [some (k9_r 90 0), some (k9_r 1 0), some (k9_r 12 0), some (k9_i x3)] [] I J = if k9_in (x3 + 1) S.2 = true then k9_R S d 247 414 [some (k9_r 90 0), some (k9_r 1 0), some (k9_r 12 0), some (k9_i x3)] [k9_i (S.1 (Int32.toNatClampNeg (x3 + 1))), k9_r 1 0] I J else none := k9_b S 6 rfl
set_option maxRecDepth 20000 in
theorem k9e_247_414 : k9_R S (d + 1) 247 414 [some (k9_r 90 0), some (k9_r 1 0), some (k9_r 12 0), some (k9_i x3)] [k9_i s1, k9_r 1 0] I J = (k9_R S d 117 0 [some (k9_r 1 0), some (k9_i s1), none, none, none, none] [] I J).bind fun q => k9_R S (d + 1) 247 415 [some (k9_r 90 0), some (k9_r 1 0), some (k9_r 12 0), some (k9_i x3)] (k9_ps q.1 []) q.2.1 q.2.2 := k9_b S 1 rfl
set_option maxRecDepth 20000 in
theorem k9e_247_415 : k9_R S d 247 415 [some (k9_r 90 0), some (k9_r 1 0), some (k9_r 12 0), some (k9_i x3)] [k9_i s0] I J = if k9_in (x3 + 1) S.2 = true then k9_R S d 247 422 [some (k9_r 90 0), some (k9_r 1 0), some (k9_r 12 0), some (k9_i x3)] [k9_i (S.1 (Int32.toNatClampNeg (x3 + 1))), k9_r 12 0] I J else none := k9_b S 7 rfl
set_option maxRecDepth 20000 in
theorem k9e_247_422 : k9_R S (d + 1) 247 422 [some (k9_r 90 0), some (k9_r 1 0), some (k9_r 12 0), some (k9_i x3)] [k9_i s1, k9_r 12 0] I J = (k9_R S d 213 0 [some (k9_r 12 0), some (k9_i s1), none, none, none, none, none] [] I J).bind fun q => k9_R S (d + 1) 247 423 [some (k9_r 90 0), some (k9_r 1 0), some (k9_r 12 0), some (k9_i x3)] (k9_ps q.1 []) q.2.1 q.2.2 := k9_b S 1 rfl
set_option maxRecDepth 20000 in
theorem k9e_247_423 : k9_R S d 247 423 [some (k9_r 90 0), some (k9_r 1 0), some (k9_r 12 0), some (k9_i x3)] [k9_i s0] I J = k9_R S d 247 1051 [some (k9_r 90 0), some (k9_r 1 0), some (k9_r 12 0), some (k9_i x3)] [] I J := k9_b S 2 rfl
set_option maxRecDepth 20000 in
theorem k9e_247_425 : k9_R S d 247 425 [some (k9_r 90 0), some (k9_r 1 0), some (k9_r 12 0), some (k9_i x3)] [] I J = if k9_in (x3 + 1) S.2 = true then k9_R S d 247 431 [some (k9_r 90 0), some (k9_r 1 0), some (k9_r 12 0), some (k9_i x3)] [k9_i (S.1 (Int32.toNatClampNeg (x3 + 1))), k9_r 1 0] I J else none := k9_b S 6 rfl
set_option maxRecDepth 20000 in
theorem k9e_247_431 : k9_R S (d + 1) 247 431 [some (k9_r 90 0), some (k9_r 1 0), some (k9_r 12 0), some (k9_i x3)] [k9_i s1, k9_r 1 0] I J = (k9_R S d 118 0 [some (k9_r 1 0), some (k9_i s1), none, none, none, none] [] I J).bind fun q => k9_R S (d + 1) 247 432 [some (k9_r 90 0), some (k9_r 1 0), some (k9_r 12 0), some (k9_i x3)] (k9_ps q.1 []) q.2.1 q.2.2 := k9_b S 1 rfl
set_option maxRecDepth 20000 in
theorem k9e_247_432 : k9_R S d 247 432 [some (k9_r 90 0), some (k9_r 1 0), some (k9_r 12 0), some (k9_i x3)] [k9_i s0] I J = if k9_in (x3 + 1) S.2 = true then k9_R S d 247 439 [some (k9_r 90 0), some (k9_r 1 0), some (k9_r 12 0), some (k9_i x3)] [k9_i (S.1 (Int32.toNatClampNeg (x3 + 1))), k9_r 12 0] I J else none := k9_b S 7 rfl
set_option maxRecDepth 20000 in
theorem k9e_247_439 : k9_R S (d + 1) 247 439 [some (k9_r 90 0), some (k9_r 1 0), some (k9_r 12 0), some (k9_i x3)] [k9_i s1, k9_r 12 0] I J = (k9_R S d 214 0 [some (k9_r 12 0), some (k9_i s1), none, none, none, none, none, none, none] [] I J).bind fun q => k9_R S (d + 1) 247 440 [some (k9_r 90 0), some (k9_r 1 0), some (k9_r 12 0), some (k9_i x3)] (k9_ps q.1 []) q.2.1 q.2.2 := k9_b S 1 rfl
set_option maxRecDepth 20000 in
theorem k9e_247_440 : k9_R S d 247 440 [some (k9_r 90 0), some (k9_r 1 0), some (k9_r 12 0), some (k9_i x3)] [k9_i s0] I J = k9_R S d 247 1051 [some (k9_r 90 0), some (k9_r 1 0), some (k9_r 12 0), some (k9_i x3)] [] I J := k9_b S 2 rfl
set_option maxRecDepth 20000 in
theorem k9e_247_442 : k9_R S d 247 442 [some (k9_r 90 0), some (k9_r 1 0), some (k9_r 12 0), some (k9_i x3)] [] I J = if k9_in (x3 + 1) S.2 = true then k9_R S d 247 448 [some (k9_r 90 0), some (k9_r 1 0), some (k9_r 12 0), some (k9_i x3)] [k9_i (S.1 (Int32.toNatClampNeg (x3 + 1))), k9_r 1 0] I J else none := k9_b S 6 rfl
set_option maxRecDepth 20000 in
theorem k9e_247_448 : k9_R S d 247 448 [some (k9_r 90 0), some (k9_r 1 0), some (k9_r 12 0), some (k9_i x3)] [k9_i s1, k9_r 1 0] I J = if k9_in (x3 + 2) S.2 = true then k9_R S d 247 453 [some (k9_r 90 0), some (k9_r 1 0), some (k9_r 12 0), some (k9_i x3)] [k9_i (S.1 (Int32.toNatClampNeg (x3 + 2))), k9_i s1, k9_r 1 0] I J else none := k9_b S 5 rfl
set_option maxRecDepth 20000 in
theorem k9e_247_453 : k9_R S (d + 1) 247 453 [some (k9_r 90 0), some (k9_r 1 0), some (k9_r 12 0), some (k9_i x3)] [k9_i s2, k9_i s1, k9_r 1 0] I J = (k9_R S d 119 0 [some (k9_r 1 0), some (k9_i s1), some (k9_i s2), none, none, none, none] [] I J).bind fun q => k9_R S (d + 1) 247 454 [some (k9_r 90 0), some (k9_r 1 0), some (k9_r 12 0), some (k9_i x3)] (k9_ps q.1 []) q.2.1 q.2.2 := k9_b S 1 rfl
set_option maxRecDepth 20000 in
theorem k9e_247_454 : k9_R S d 247 454 [some (k9_r 90 0), some (k9_r 1 0), some (k9_r 12 0), some (k9_i x3)] [k9_i s0] I J = if k9_in (x3 + 1) S.2 = true then k9_R S d 247 461 [some (k9_r 90 0), some (k9_r 1 0), some (k9_r 12 0), some (k9_i x3)] [k9_i (S.1 (Int32.toNatClampNeg (x3 + 1))), k9_r 12 0] I J else none := k9_b S 7 rfl
set_option maxRecDepth 20000 in
theorem k9e_247_461 : k9_R S d 247 461 [some (k9_r 90 0), some (k9_r 1 0), some (k9_r 12 0), some (k9_i x3)] [k9_i s1, k9_r 12 0] I J = if k9_in (x3 + 2) S.2 = true then k9_R S d 247 466 [some (k9_r 90 0), some (k9_r 1 0), some (k9_r 12 0), some (k9_i x3)] [k9_i (S.1 (Int32.toNatClampNeg (x3 + 2))), k9_i s1, k9_r 12 0] I J else none := k9_b S 5 rfl
set_option maxRecDepth 20000 in
theorem k9e_247_466 : k9_R S (d + 1) 247 466 [some (k9_r 90 0), some (k9_r 1 0), some (k9_r 12 0), some (k9_i x3)] [k9_i s2, k9_i s1, k9_r 12 0] I J = (k9_R S d 215 0 [some (k9_r 12 0), some (k9_i s1), some (k9_i s2), none, none, none] [] I J).bind fun q => k9_R S (d + 1) 247 467 [some (k9_r 90 0), some (k9_r 1 0), some (k9_r 12 0), some (k9_i x3)] (k9_ps q.1 []) q.2.1 q.2.2 := k9_b S 1 rfl
set_option maxRecDepth 20000 in
theorem k9e_247_467 : k9_R S d 247 467 [some (k9_r 90 0), some (k9_r 1 0), some (k9_r 12 0), some (k9_i x3)] [k9_i s0] I J = k9_R S d 247 1051 [some (k9_r 90 0), some (k9_r 1 0), some (k9_r 12 0), some (k9_i x3)] [] I J := k9_b S 2 rfl
set_option maxRecDepth 20000 in
theorem k9e_247_469 : k9_R S d 247 469 [some (k9_r 90 0), some (k9_r 1 0), some (k9_r 12 0), some (k9_i x3)] [] I J = if k9_in (x3 + 1) S.2 = true then k9_R S d 247 475 [some (k9_r 90 0), some (k9_r 1 0), some (k9_r 12 0), some (k9_i x3)] [k9_i (S.1 (Int32.toNatClampNeg (x3 + 1))), k9_r 1 0] I J else none := k9_b S 6 rfl
set_option maxRecDepth 20000 in
theorem k9e_247_475 : k9_R S d 247 475 [some (k9_r 90 0), some (k9_r 1 0), some (k9_r 12 0), some (k9_i x3)] [k9_i s1, k9_r 1 0] I J = if k9_in (x3 + 2) S.2 = true then k9_R S d 247 480 [some (k9_r 90 0), some (k9_r 1 0), some (k9_r 12 0), some (k9_i x3)] [k9_i (S.1 (Int32.toNatClampNeg (x3 + 2))), k9_i s1, k9_r 1 0] I J else none := k9_b S 5 rfl
set_option maxRecDepth 20000 in
theorem k9e_247_480 : k9_R S (d + 1) 247 480 [some (k9_r 90 0), some (k9_r 1 0), some (k9_r 12 0), some (k9_i x3)] [k9_i s2, k9_i s1, k9_r 1 0] I J = (k9_R S d 120 0 [some (k9_r 1 0), some (k9_i s1), some (k9_i s2), none] [] I J).bind fun q => k9_R S (d + 1) 247 481 [some (k9_r 90 0), some (k9_r 1 0), some (k9_r 12 0), some (k9_i x3)] (k9_ps q.1 []) q.2.1 q.2.2 := k9_b S 1 rfl
set_option maxRecDepth 20000 in
theorem k9e_247_481 : k9_R S d 247 481 [some (k9_r 90 0), some (k9_r 1 0), some (k9_r 12 0), some (k9_i x3)] [k9_i s0] I J = if k9_in (x3 + 1) S.2 = true then k9_R S d 247 488 [some (k9_r 90 0), some (k9_r 1 0), some (k9_r 12 0), some (k9_i x3)] [k9_i (S.1 (Int32.toNatClampNeg (x3 + 1))), k9_r 12 0] I J else none := k9_b S 7 rfl
set_option maxRecDepth 20000 in
theorem k9e_247_488 : k9_R S d 247 488 [some (k9_r 90 0), some (k9_r 1 0), some (k9_r 12 0), some (k9_i x3)] [k9_i s1, k9_r 12 0] I J = if k9_in (x3 + 2) S.2 = true then k9_R S d 247 493 [some (k9_r 90 0), some (k9_r 1 0), some (k9_r 12 0), some (k9_i x3)] [k9_i (S.1 (Int32.toNatClampNeg (x3 + 2))), k9_i s1, k9_r 12 0] I J else none := k9_b S 5 rfl
set_option maxRecDepth 20000 in
theorem k9e_247_493 : k9_R S (d + 1) 247 493 [some (k9_r 90 0), some (k9_r 1 0), some (k9_r 12 0), some (k9_i x3)] [k9_i s2, k9_i s1, k9_r 12 0] I J = (k9_R S d 217 0 [some (k9_r 12 0), some (k9_i s1), some (k9_i s2), none] [] I J).bind fun q => k9_R S (d + 1) 247 494 [some (k9_r 90 0), some (k9_r 1 0), some (k9_r 12 0), some (k9_i x3)] (k9_ps q.1 []) q.2.1 q.2.2 := k9_b S 1 rfl
set_option maxRecDepth 20000 in
theorem k9e_247_494 : k9_R S d 247 494 [some (k9_r 90 0), some (k9_r 1 0), some (k9_r 12 0), some (k9_i x3)] [k9_i s0] I J = k9_R S d 247 1051 [some (k9_r 90 0), some (k9_r 1 0), some (k9_r 12 0), some (k9_i x3)] [] I J := k9_b S 2 rfl
set_option maxRecDepth 20000 in
theorem k9e_247_496 : k9_R S d 247 496 [some (k9_r 90 0), some (k9_r 1 0), some (k9_r 12 0), some (k9_i x3)] [] I J = if k9_in (x3 + 1) S.2 = true then k9_R S d 247 502 [some (k9_r 90 0), some (k9_r 1 0), some (k9_r 12 0), some (k9_i x3)] [k9_i (S.1 (Int32.toNatClampNeg (x3 + 1))), k9_r 1 0] I J else none := k9_b S 6 rfl
set_option maxRecDepth 20000 in
theorem k9e_247_502 : k9_R S d 247 502 [some (k9_r 90 0), some (k9_r 1 0), some (k9_r 12 0), some (k9_i x3)] [k9_i s1, k9_r 1 0] I J = if k9_in (x3 + 2) S.2 = true then k9_R S d 247 507 [some (k9_r 90 0), some (k9_r 1 0), some (k9_r 12 0), some (k9_i x3)] [k9_i (S.1 (Int32.toNatClampNeg (x3 + 2))), k9_i s1, k9_r 1 0] I J else none := k9_b S 5 rfl
set_option maxRecDepth 20000 in
theorem k9e_247_507 : k9_R S (d + 1) 247 507 [some (k9_r 90 0), some (k9_r 1 0), some (k9_r 12 0), some (k9_i x3)] [k9_i s2, k9_i s1, k9_r 1 0] I J = (k9_R S d 121 0 [some (k9_r 1 0), some (k9_i s1), some (k9_i s2), none, none, none] [] I J).bind fun q => k9_R S (d + 1) 247 508 [some (k9_r 90 0), some (k9_r 1 0), some (k9_r 12 0), some (k9_i x3)] (k9_ps q.1 []) q.2.1 q.2.2 := k9_b S 1 rfl
set_option maxRecDepth 20000 in
theorem k9e_247_508 : k9_R S d 247 508 [some (k9_r 90 0), some (k9_r 1 0), some (k9_r 12 0), some (k9_i x3)] [k9_i s0] I J = if k9_in (x3 + 1) S.2 = true then k9_R S d 247 515 [some (k9_r 90 0), some (k9_r 1 0), some (k9_r 12 0), some (k9_i x3)] [k9_i (S.1 (Int32.toNatClampNeg (x3 + 1))), k9_r 12 0] I J else none := k9_b S 7 rfl
set_option maxRecDepth 20000 in
theorem k9e_247_515 : k9_R S d 247 515 [some (k9_r 90 0), some (k9_r 1 0), some (k9_r 12 0), some (k9_i x3)] [k9_i s1, k9_r 12 0] I J = if k9_in (x3 + 2) S.2 = true then k9_R S d 247 520 [some (k9_r 90 0), some (k9_r 1 0), some (k9_r 12 0), some (k9_i x3)] [k9_i (S.1 (Int32.toNatClampNeg (x3 + 2))), k9_i s1, k9_r 12 0] I J else none := k9_b S 5 rfl
set_option maxRecDepth 20000 in
theorem k9e_247_520 : k9_R S (d + 1) 247 520 [some (k9_r 90 0), some (k9_r 1 0), some (k9_r 12 0), some (k9_i x3)] [k9_i s2, k9_i s1, k9_r 12 0] I J = (k9_R S d 218 0 [some (k9_r 12 0), some (k9_i s1), some (k9_i s2), none, none, none, none] [] I J).bind fun q => k9_R S (d + 1) 247 521 [some (k9_r 90 0), some (k9_r 1 0), some (k9_r 12 0), some (k9_i x3)] (k9_ps q.1 []) q.2.1 q.2.2 := k9_b S 1 rfl
set_option maxRecDepth 20000 in
theorem k9e_247_521 : k9_R S d 247 521 [some (k9_r 90 0), some (k9_r 1 0), some (k9_r 12 0), some (k9_i x3)] [k9_i s0] I J = k9_R S d 247 1051 [some (k9_r 90 0), some (k9_r 1 0), some (k9_r 12 0), some (k9_i x3)] [] I J := k9_b S 2 rfl
set_option maxRecDepth 20000 in
theorem k9e_247_523 : k9_R S d 247 523 [some (k9_r 90 0), some (k9_r 1 0), some (k9_r 12 0), some (k9_i x3)] [] I J = if k9_in (x3 + 1) S.2 = true then k9_R S d 247 529 [some (k9_r 90 0), some (k9_r 1 0), some (k9_r 12 0), some (k9_i x3)] [k9_i (S.1 (Int32.toNatClampNeg (x3 + 1))), k9_r 1 0] I J else none := k9_b S 6 rfl
set_option maxRecDepth 20000 in
theorem k9e_247_529 : k9_R S (d + 1) 247 529 [some (k9_r 90 0), some (k9_r 1 0), some (k9_r 12 0), some (k9_i x3)] [k9_i s1, k9_r 1 0] I J = (k9_R S d 122 0 [some (k9_r 1 0), some (k9_i s1), none, none, none] [] I J).bind fun q => k9_R S (d + 1) 247 530 [some (k9_r 90 0), some (k9_r 1 0), some (k9_r 12 0), some (k9_i x3)] (k9_ps q.1 []) q.2.1 q.2.2 := k9_b S 1 rfl
set_option maxRecDepth 20000 in
theorem k9e_247_530 : k9_R S d 247 530 [some (k9_r 90 0), some (k9_r 1 0), some (k9_r 12 0), some (k9_i x3)] [k9_i s0] I J = if k9_in (x3 + 1) S.2 = true then k9_R S d 247 537 [some (k9_r 90 0), some (k9_r 1 0), some (k9_r 12 0), some (k9_i x3)] [k9_i (S.1 (Int32.toNatClampNeg (x3 + 1))), k9_r 12 0] I J else none := k9_b S 7 rfl
set_option maxRecDepth 20000 in
theorem k9e_247_537 : k9_R S (d + 1) 247 537 [some (k9_r 90 0), some (k9_r 1 0), some (k9_r 12 0), some (k9_i x3)] [k9_i s1, k9_r 12 0] I J = (k9_R S d 219 0 [some (k9_r 12 0), some (k9_i s1), none, none] [] I J).bind fun q => k9_R S (d + 1) 247 538 [some (k9_r 90 0), some (k9_r 1 0), some (k9_r 12 0), some (k9_i x3)] (k9_ps q.1 []) q.2.1 q.2.2 := k9_b S 1 rfl
set_option maxRecDepth 20000 in
theorem k9e_247_538 : k9_R S d 247 538 [some (k9_r 90 0), some (k9_r 1 0), some (k9_r 12 0), some (k9_i x3)] [k9_i s0] I J = k9_R S d 247 1051 [some (k9_r 90 0), some (k9_r 1 0), some (k9_r 12 0), some (k9_i x3)] [] I J := k9_b S 2 rfl
set_option maxRecDepth 20000 in
theorem k9e_247_540 : k9_R S d 247 540 [some (k9_r 90 0), some (k9_r 1 0), some (k9_r 12 0), some (k9_i x3)] [] I J = if k9_in (x3 + 1) S.2 = true then k9_R S d 247 546 [some (k9_r 90 0), some (k9_r 1 0), some (k9_r 12 0), some (k9_i x3)] [k9_i (S.1 (Int32.toNatClampNeg (x3 + 1))), k9_r 1 0] I J else none := k9_b S 6 rfl
set_option maxRecDepth 20000 in
theorem k9e_247_546 : k9_R S d 247 546 [some (k9_r 90 0), some (k9_r 1 0), some (k9_r 12 0), some (k9_i x3)] [k9_i s1, k9_r 1 0] I J = if k9_in (x3 + 2) S.2 = true then k9_R S d 247 551 [some (k9_r 90 0), some (k9_r 1 0), some (k9_r 12 0), some (k9_i x3)] [k9_i (S.1 (Int32.toNatClampNeg (x3 + 2))), k9_i s1, k9_r 1 0] I J else none := k9_b S 5 rfl
set_option maxRecDepth 20000 in
theorem k9e_247_551 : k9_R S (d + 1) 247 551 [some (k9_r 90 0), some (k9_r 1 0), some (k9_r 12 0), some (k9_i x3)] [k9_i s2, k9_i s1, k9_r 1 0] I J = (k9_R S d 123 0 [some (k9_r 1 0), some (k9_i s1), some (k9_i s2), none, none, none] [] I J).bind fun q => k9_R S (d + 1) 247 552 [some (k9_r 90 0), some (k9_r 1 0), some (k9_r 12 0), some (k9_i x3)] (k9_ps q.1 []) q.2.1 q.2.2 := k9_b S 1 rfl
set_option maxRecDepth 20000 in
theorem k9e_247_552 : k9_R S d 247 552 [some (k9_r 90 0), some (k9_r 1 0), some (k9_r 12 0), some (k9_i x3)] [k9_i s0] I J = if k9_in (x3 + 1) S.2 = true then k9_R S d 247 559 [some (k9_r 90 0), some (k9_r 1 0), some (k9_r 12 0), some (k9_i x3)] [k9_i (S.1 (Int32.toNatClampNeg (x3 + 1))), k9_r 12 0] I J else none := k9_b S 7 rfl
set_option maxRecDepth 20000 in
theorem k9e_247_559 : k9_R S d 247 559 [some (k9_r 90 0), some (k9_r 1 0), some (k9_r 12 0), some (k9_i x3)] [k9_i s1, k9_r 12 0] I J = if k9_in (x3 + 2) S.2 = true then k9_R S d 247 564 [some (k9_r 90 0), some (k9_r 1 0), some (k9_r 12 0), some (k9_i x3)] [k9_i (S.1 (Int32.toNatClampNeg (x3 + 2))), k9_i s1, k9_r 12 0] I J else none := k9_b S 5 rfl
set_option maxRecDepth 20000 in
theorem k9e_247_564 : k9_R S (d + 1) 247 564 [some (k9_r 90 0), some (k9_r 1 0), some (k9_r 12 0), some (k9_i x3)] [k9_i s2, k9_i s1, k9_r 12 0] I J = (k9_R S d 220 0 [some (k9_r 12 0), some (k9_i s1), some (k9_i s2), none, none, none, none, none] [] I J).bind fun q => k9_R S (d + 1) 247 565 [some (k9_r 90 0), some (k9_r 1 0), some (k9_r 12 0), some (k9_i x3)] (k9_ps q.1 []) q.2.1 q.2.2 := k9_b S 1 rfl
set_option maxRecDepth 20000 in
theorem k9e_247_565 : k9_R S d 247 565 [some (k9_r 90 0), some (k9_r 1 0), some (k9_r 12 0), some (k9_i x3)] [k9_i s0] I J = k9_R S d 247 1051 [some (k9_r 90 0), some (k9_r 1 0), some (k9_r 12 0), some (k9_i x3)] [] I J := k9_b S 2 rfl
set_option maxRecDepth 20000 in
theorem k9e_247_567 : k9_R S d 247 567 [some (k9_r 90 0), some (k9_r 1 0), some (k9_r 12 0), some (k9_i x3)] [] I J = if k9_in (x3 + 1) S.2 = true then k9_R S d 247 573 [some (k9_r 90 0), some (k9_r 1 0), some (k9_r 12 0), some (k9_i x3)] [k9_i (S.1 (Int32.toNatClampNeg (x3 + 1))), k9_r 1 0] I J else none := k9_b S 6 rfl
set_option maxRecDepth 20000 in
theorem k9e_247_573 : k9_R S d 247 573 [some (k9_r 90 0), some (k9_r 1 0), some (k9_r 12 0), some (k9_i x3)] [k9_i s1, k9_r 1 0] I J = if k9_in (x3 + 2) S.2 = true then k9_R S d 247 578 [some (k9_r 90 0), some (k9_r 1 0), some (k9_r 12 0), some (k9_i x3)] [k9_i (S.1 (Int32.toNatClampNeg (x3 + 2))), k9_i s1, k9_r 1 0] I J else none := k9_b S 5 rfl
set_option maxRecDepth 20000 in
theorem k9e_247_578 : k9_R S d 247 578 [some (k9_r 90 0), some (k9_r 1 0), some (k9_r 12 0), some (k9_i x3)] [k9_i s2, k9_i s1, k9_r 1 0] I J = if k9_in (x3 + 3) S.2 = true then k9_R S d 247 583 [some (k9_r 90 0), some (k9_r 1 0), some (k9_r 12 0), some (k9_i x3)] [k9_i (S.1 (Int32.toNatClampNeg (x3 + 3))), k9_i s2, k9_i s1, k9_r 1 0] I J else none := k9_b S 5 rfl
set_option maxRecDepth 20000 in
theorem k9e_247_583 : k9_R S (d + 1) 247 583 [some (k9_r 90 0), some (k9_r 1 0), some (k9_r 12 0), some (k9_i x3)] [k9_i s3, k9_i s2, k9_i s1, k9_r 1 0] I J = (k9_R S d 124 0 [some (k9_r 1 0), some (k9_i s1), some (k9_i s2), some (k9_i s3), none] [] I J).bind fun q => k9_R S (d + 1) 247 584 [some (k9_r 90 0), some (k9_r 1 0), some (k9_r 12 0), some (k9_i x3)] (k9_ps q.1 []) q.2.1 q.2.2 := k9_b S 1 rfl
set_option maxRecDepth 20000 in
theorem k9e_247_584 : k9_R S d 247 584 [some (k9_r 90 0), some (k9_r 1 0), some (k9_r 12 0), some (k9_i x3)] [k9_i s0] I J = if k9_in (x3 + 1) S.2 = true then k9_R S d 247 591 [some (k9_r 90 0), some (k9_r 1 0), some (k9_r 12 0), some (k9_i x3)] [k9_i (S.1 (Int32.toNatClampNeg (x3 + 1))), k9_r 12 0] I J else none := k9_b S 7 rfl
set_option maxRecDepth 20000 in
theorem k9e_247_591 : k9_R S d 247 591 [some (k9_r 90 0), some (k9_r 1 0), some (k9_r 12 0), some (k9_i x3)] [k9_i s1, k9_r 12 0] I J = if k9_in (x3 + 2) S.2 = true then k9_R S d 247 596 [some (k9_r 90 0), some (k9_r 1 0), some (k9_r 12 0), some (k9_i x3)] [k9_i (S.1 (Int32.toNatClampNeg (x3 + 2))), k9_i s1, k9_r 12 0] I J else none := k9_b S 5 rfl
set_option maxRecDepth 20000 in
theorem k9e_247_596 : k9_R S d 247 596 [some (k9_r 90 0), some (k9_r 1 0), some (k9_r 12 0), some (k9_i x3)] [k9_i s2, k9_i s1, k9_r 12 0] I J = if k9_in (x3 + 3) S.2 = true then k9_R S d 247 601 [some (k9_r 90 0), some (k9_r 1 0), some (k9_r 12 0), some (k9_i x3)] [k9_i (S.1 (Int32.toNatClampNeg (x3 + 3))), k9_i s2, k9_i s1, k9_r 12 0] I J else none := k9_b S 5 rfl
set_option maxRecDepth 20000 in
theorem k9e_247_601 : k9_R S (d + 1) 247 601 [some (k9_r 90 0), some (k9_r 1 0), some (k9_r 12 0), some (k9_i x3)] [k9_i s3, k9_i s2, k9_i s1, k9_r 12 0] I J = (k9_R S d 221 0 [some (k9_r 12 0), some (k9_i s1), some (k9_i s2), some (k9_i s3), none, none, none, none] [] I J).bind fun q => k9_R S (d + 1) 247 602 [some (k9_r 90 0), some (k9_r 1 0), some (k9_r 12 0), some (k9_i x3)] (k9_ps q.1 []) q.2.1 q.2.2 := k9_b S 1 rfl
set_option maxRecDepth 20000 in
theorem k9e_247_602 : k9_R S d 247 602 [some (k9_r 90 0), some (k9_r 1 0), some (k9_r 12 0), some (k9_i x3)] [k9_i s0] I J = k9_R S d 247 1051 [some (k9_r 90 0), some (k9_r 1 0), some (k9_r 12 0), some (k9_i x3)] [] I J := k9_b S 2 rfl
set_option maxRecDepth 20000 in
theorem k9e_247_604 : k9_R S d 247 604 [some (k9_r 90 0), some (k9_r 1 0), some (k9_r 12 0), some (k9_i x3)] [] I J = if k9_in (x3 + 1) S.2 = true then k9_R S d 247 610 [some (k9_r 90 0), some (k9_r 1 0), some (k9_r 12 0), some (k9_i x3)] [k9_i (S.1 (Int32.toNatClampNeg (x3 + 1))), k9_r 1 0] I J else none := k9_b S 6 rfl
set_option maxRecDepth 20000 in
theorem k9e_247_610 : k9_R S d 247 610 [some (k9_r 90 0), some (k9_r 1 0), some (k9_r 12 0), some (k9_i x3)] [k9_i s1, k9_r 1 0] I J = if k9_in (x3 + 2) S.2 = true then k9_R S d 247 615 [some (k9_r 90 0), some (k9_r 1 0), some (k9_r 12 0), some (k9_i x3)] [k9_i (S.1 (Int32.toNatClampNeg (x3 + 2))), k9_i s1, k9_r 1 0] I J else none := k9_b S 5 rfl
set_option maxRecDepth 20000 in
theorem k9e_247_615 : k9_R S d 247 615 [some (k9_r 90 0), some (k9_r 1 0), some (k9_r 12 0), some (k9_i x3)] [k9_i s2, k9_i s1, k9_r 1 0] I J = if k9_in (x3 + 3) S.2 = true then k9_R S d 247 620 [some (k9_r 90 0), some (k9_r 1 0), some (k9_r 12 0), some (k9_i x3)] [k9_i (S.1 (Int32.toNatClampNeg (x3 + 3))), k9_i s2, k9_i s1, k9_r 1 0] I J else none := k9_b S 5 rfl
set_option maxRecDepth 20000 in
theorem k9e_247_620 : k9_R S d 247 620 [some (k9_r 90 0), some (k9_r 1 0), some (k9_r 12 0), some (k9_i x3)] [k9_i s3, k9_i s2, k9_i s1, k9_r 1 0] I J = if k9_in (x3 + 4) S.2 = true then k9_R S d 247 625 [some (k9_r 90 0), some (k9_r 1 0), some (k9_r 12 0), some (k9_i x3)] [k9_i (S.1 (Int32.toNatClampNeg (x3 + 4))), k9_i s3, k9_i s2, k9_i s1, k9_r 1 0] I J else none := k9_b S 5 rfl
set_option maxRecDepth 20000 in
theorem k9e_247_625 : k9_R S (d + 1) 247 625 [some (k9_r 90 0), some (k9_r 1 0), some (k9_r 12 0), some (k9_i x3)] [k9_i s4, k9_i s3, k9_i s2, k9_i s1, k9_r 1 0] I J = (k9_R S d 125 0 [some (k9_r 1 0), some (k9_i s1), some (k9_i s2), some (k9_i s3), some (k9_i s4), none, none, none, none] [] I J).bind fun q => k9_R S (d + 1) 247 626 [some (k9_r 90 0), some (k9_r 1 0), some (k9_r 12 0), some (k9_i x3)] (k9_ps q.1 []) q.2.1 q.2.2 := k9_b S 1 rfl
set_option maxRecDepth 20000 in
theorem k9e_247_626 : k9_R S d 247 626 [some (k9_r 90 0), some (k9_r 1 0), some (k9_r 12 0), some (k9_i x3)] [k9_i s0] I J = if k9_in (x3 + 1) S.2 = true then k9_R S d 247 633 [some (k9_r 90 0), some (k9_r 1 0), some (k9_r 12 0), some (k9_i x3)] [k9_i (S.1 (Int32.toNatClampNeg (x3 + 1))), k9_r 12 0] I J else none := k9_b S 7 rfl
set_option maxRecDepth 20000 in
theorem k9e_247_633 : k9_R S d 247 633 [some (k9_r 90 0), some (k9_r 1 0), some (k9_r 12 0), some (k9_i x3)] [k9_i s1, k9_r 12 0] I J = if k9_in (x3 + 2) S.2 = true then k9_R S d 247 638 [some (k9_r 90 0), some (k9_r 1 0), some (k9_r 12 0), some (k9_i x3)] [k9_i (S.1 (Int32.toNatClampNeg (x3 + 2))), k9_i s1, k9_r 12 0] I J else none := k9_b S 5 rfl
set_option maxRecDepth 20000 in
theorem k9e_247_638 : k9_R S d 247 638 [some (k9_r 90 0), some (k9_r 1 0), some (k9_r 12 0), some (k9_i x3)] [k9_i s2, k9_i s1, k9_r 12 0] I J = if k9_in (x3 + 3) S.2 = true then k9_R S d 247 643 [some (k9_r 90 0), some (k9_r 1 0), some (k9_r 12 0), some (k9_i x3)] [k9_i (S.1 (Int32.toNatClampNeg (x3 + 3))), k9_i s2, k9_i s1, k9_r 12 0] I J else none := k9_b S 5 rfl
set_option maxRecDepth 20000 in
theorem k9e_247_643 : k9_R S d 247 643 [some (k9_r 90 0), some (k9_r 1 0), some (k9_r 12 0), some (k9_i x3)] [k9_i s3, k9_i s2, k9_i s1, k9_r 12 0] I J = if k9_in (x3 + 4) S.2 = true then k9_R S d 247 648 [some (k9_r 90 0), some (k9_r 1 0), some (k9_r 12 0), some (k9_i x3)] [k9_i (S.1 (Int32.toNatClampNeg (x3 + 4))), k9_i s3, k9_i s2, k9_i s1, k9_r 12 0] I J else none := k9_b S 5 rfl
set_option maxRecDepth 20000 in
theorem k9e_247_648 : k9_R S (d + 1) 247 648 [some (k9_r 90 0), some (k9_r 1 0), some (k9_r 12 0), some (k9_i x3)] [k9_i s4, k9_i s3, k9_i s2, k9_i s1, k9_r 12 0] I J = (k9_R S d 222 0 [some (k9_r 12 0), some (k9_i s1), some (k9_i s2), some (k9_i s3), some (k9_i s4), none, none, none, none, none, none] [] I J).bind fun q => k9_R S (d + 1) 247 649 [some (k9_r 90 0), some (k9_r 1 0), some (k9_r 12 0), some (k9_i x3)] (k9_ps q.1 []) q.2.1 q.2.2 := k9_b S 1 rfl
set_option maxRecDepth 20000 in
theorem k9e_247_649 : k9_R S d 247 649 [some (k9_r 90 0), some (k9_r 1 0), some (k9_r 12 0), some (k9_i x3)] [k9_i s0] I J = k9_R S d 247 1051 [some (k9_r 90 0), some (k9_r 1 0), some (k9_r 12 0), some (k9_i x3)] [] I J := k9_b S 2 rfl
set_option maxRecDepth 20000 in
theorem k9e_247_651 : k9_R S (d + 1) 247 651 [some (k9_r 90 0), some (k9_r 1 0), some (k9_r 12 0), some (k9_i x3)] [] I J = (k9_R S d 126 0 [some (k9_r 1 0)] [] I J).bind fun q => k9_R S (d + 1) 247 653 [some (k9_r 90 0), some (k9_r 1 0), some (k9_r 12 0), some (k9_i x3)] (k9_ps q.1 []) q.2.1 q.2.2 := k9_b S 2 rfl
set_option maxRecDepth 20000 in
theorem k9e_247_653 : k9_R S (d + 1) 247 653 [some (k9_r 90 0), some (k9_r 1 0), some (k9_r 12 0), some (k9_i x3)] [k9_i s0] I J = (k9_R S d 223 0 [some (k9_r 12 0)] [] I J).bind fun q => k9_R S (d + 1) 247 656 [some (k9_r 90 0), some (k9_r 1 0), some (k9_r 12 0), some (k9_i x3)] (k9_ps q.1 []) q.2.1 q.2.2 := k9_b S 3 rfl
set_option maxRecDepth 20000 in
theorem k9e_247_656 : k9_R S d 247 656 [some (k9_r 90 0), some (k9_r 1 0), some (k9_r 12 0), some (k9_i x3)] [k9_i s0] I J = k9_R S d 247 1051 [some (k9_r 90 0), some (k9_r 1 0), some (k9_r 12 0), some (k9_i x3)] [] I J := k9_b S 2 rfl
set_option maxRecDepth 20000 in
theorem k9e_247_658 : k9_R S d 247 658 [some (k9_r 90 0), some (k9_r 1 0), some (k9_r 12 0), some (k9_i x3)] [] I J = if k9_in (x3 + 1) S.2 = true then k9_R S d 247 664 [some (k9_r 90 0), some (k9_r 1 0), some (k9_r 12 0), some (k9_i x3)] [k9_i (S.1 (Int32.toNatClampNeg (x3 + 1))), k9_r 1 0] I J else none := k9_b S 6 rfl
set_option maxRecDepth 20000 in
theorem k9e_247_664 : k9_R S (d + 1) 247 664 [some (k9_r 90 0), some (k9_r 1 0), some (k9_r 12 0), some (k9_i x3)] [k9_i s1, k9_r 1 0] I J = (k9_R S d 127 0 [some (k9_r 1 0), some (k9_i s1), none] [] I J).bind fun q => k9_R S (d + 1) 247 665 [some (k9_r 90 0), some (k9_r 1 0), some (k9_r 12 0), some (k9_i x3)] (k9_ps q.1 []) q.2.1 q.2.2 := k9_b S 1 rfl
set_option maxRecDepth 20000 in
theorem k9e_247_665 : k9_R S d 247 665 [some (k9_r 90 0), some (k9_r 1 0), some (k9_r 12 0), some (k9_i x3)] [k9_i s0] I J = if k9_in (x3 + 1) S.2 = true then k9_R S d 247 672 [some (k9_r 90 0), some (k9_r 1 0), some (k9_r 12 0), some (k9_i x3)] [k9_i (S.1 (Int32.toNatClampNeg (x3 + 1))), k9_r 12 0] I J else none := k9_b S 7 rfl
set_option maxRecDepth 20000 in
theorem k9e_247_672 : k9_R S (d + 1) 247 672 [some (k9_r 90 0), some (k9_r 1 0), some (k9_r 12 0), some (k9_i x3)] [k9_i s1, k9_r 12 0] I J = (k9_R S d 224 0 [some (k9_r 12 0), some (k9_i s1), none, none] [] I J).bind fun q => k9_R S (d + 1) 247 673 [some (k9_r 90 0), some (k9_r 1 0), some (k9_r 12 0), some (k9_i x3)] (k9_ps q.1 []) q.2.1 q.2.2 := k9_b S 1 rfl
set_option maxRecDepth 20000 in
theorem k9e_247_673 : k9_R S d 247 673 [some (k9_r 90 0), some (k9_r 1 0), some (k9_r 12 0), some (k9_i x3)] [k9_i s0] I J = k9_R S d 247 1051 [some (k9_r 90 0), some (k9_r 1 0), some (k9_r 12 0), some (k9_i x3)] [] I J := k9_b S 2 rfl
set_option maxRecDepth 20000 in
theorem k9e_247_675 : k9_R S (d + 1) 247 675 [some (k9_r 90 0), some (k9_r 1 0), some (k9_r 12 0), some (k9_i x3)] [] I J = (k9_R S d 128 0 [some (k9_r 1 0), none] [] I J).bind fun q => k9_R S (d + 1) 247 677 [some (k9_r 90 0), some (k9_r 1 0), some (k9_r 12 0), some (k9_i x3)] (k9_ps q.1 []) q.2.1 q.2.2 := k9_b S 2 rfl
set_option maxRecDepth 20000 in
theorem k9e_247_677 : k9_R S (d + 1) 247 677 [some (k9_r 90 0), some (k9_r 1 0), some (k9_r 12 0), some (k9_i x3)] [k9_i s0] I J = (k9_R S d 225 0 [some (k9_r 12 0), none] [] I J).bind fun q => k9_R S (d + 1) 247 680 [some (k9_r 90 0), some (k9_r 1 0), some (k9_r 12 0), some (k9_i x3)] (k9_ps q.1 []) q.2.1 q.2.2 := k9_b S 3 rfl
set_option maxRecDepth 20000 in
theorem k9e_247_680 : k9_R S d 247 680 [some (k9_r 90 0), some (k9_r 1 0), some (k9_r 12 0), some (k9_i x3)] [k9_i s0] I J = k9_R S d 247 1051 [some (k9_r 90 0), some (k9_r 1 0), some (k9_r 12 0), some (k9_i x3)] [] I J := k9_b S 2 rfl
set_option maxRecDepth 20000 in
theorem k9e_247_682 : k9_R S d 247 682 [some (k9_r 90 0), some (k9_r 1 0), some (k9_r 12 0), some (k9_i x3)] [] I J = if k9_in (x3 + 1) S.2 = true then k9_R S d 247 688 [some (k9_r 90 0), some (k9_r 1 0), some (k9_r 12 0), some (k9_i x3)] [k9_i (S.1 (Int32.toNatClampNeg (x3 + 1))), k9_r 1 0] I J else none := k9_b S 6 rfl
set_option maxRecDepth 20000 in
theorem k9e_247_688 : k9_R S (d + 1) 247 688 [some (k9_r 90 0), some (k9_r 1 0), some (k9_r 12 0), some (k9_i x3)] [k9_i s1, k9_r 1 0] I J = (k9_R S d 129 0 [some (k9_r 1 0), some (k9_i s1)] [] I J).bind fun q => k9_R S (d + 1) 247 689 [some (k9_r 90 0), some (k9_r 1 0), some (k9_r 12 0), some (k9_i x3)] (k9_ps q.1 []) q.2.1 q.2.2 := k9_b S 1 rfl
set_option maxRecDepth 20000 in
theorem k9e_247_689 : k9_R S d 247 689 [some (k9_r 90 0), some (k9_r 1 0), some (k9_r 12 0), some (k9_i x3)] [k9_i s0] I J = if k9_in (x3 + 1) S.2 = true then k9_R S d 247 696 [some (k9_r 90 0), some (k9_r 1 0), some (k9_r 12 0), some (k9_i x3)] [k9_i (S.1 (Int32.toNatClampNeg (x3 + 1))), k9_r 12 0] I J else none := k9_b S 7 rfl
set_option maxRecDepth 20000 in
theorem k9e_247_696 : k9_R S (d + 1) 247 696 [some (k9_r 90 0), some (k9_r 1 0), some (k9_r 12 0), some (k9_i x3)] [k9_i s1, k9_r 12 0] I J = (k9_R S d 226 0 [some (k9_r 12 0), some (k9_i s1)] [] I J).bind fun q => k9_R S (d + 1) 247 697 [some (k9_r 90 0), some (k9_r 1 0), some (k9_r 12 0), some (k9_i x3)] (k9_ps q.1 []) q.2.1 q.2.2 := k9_b S 1 rfl
set_option maxRecDepth 20000 in
theorem k9e_247_697 : k9_R S d 247 697 [some (k9_r 90 0), some (k9_r 1 0), some (k9_r 12 0), some (k9_i x3)] [k9_i s0] I J = k9_R S d 247 1051 [some (k9_r 90 0), some (k9_r 1 0), some (k9_r 12 0), some (k9_i x3)] [] I J := k9_b S 2 rfl
set_option maxRecDepth 20000 in
theorem k9e_247_699 : k9_R S (d + 1) 247 699 [some (k9_r 90 0), some (k9_r 1 0), some (k9_r 12 0), some (k9_i x3)] [] I J = (k9_R S d 130 0 [some (k9_r 1 0)] [] I J).bind fun q => k9_R S (d + 1) 247 701 [some (k9_r 90 0), some (k9_r 1 0), some (k9_r 12 0), some (k9_i x3)] (k9_ps q.1 []) q.2.1 q.2.2 := k9_b S 2 rfl
set_option maxRecDepth 20000 in
theorem k9e_247_701 : k9_R S (d + 1) 247 701 [some (k9_r 90 0), some (k9_r 1 0), some (k9_r 12 0), some (k9_i x3)] [k9_i s0] I J = (k9_R S d 227 0 [some (k9_r 12 0), none] [] I J).bind fun q => k9_R S (d + 1) 247 704 [some (k9_r 90 0), some (k9_r 1 0), some (k9_r 12 0), some (k9_i x3)] (k9_ps q.1 []) q.2.1 q.2.2 := k9_b S 3 rfl
set_option maxRecDepth 20000 in
theorem k9e_247_704 : k9_R S d 247 704 [some (k9_r 90 0), some (k9_r 1 0), some (k9_r 12 0), some (k9_i x3)] [k9_i s0] I J = k9_R S d 247 1051 [some (k9_r 90 0), some (k9_r 1 0), some (k9_r 12 0), some (k9_i x3)] [] I J := k9_b S 2 rfl
set_option maxRecDepth 20000 in
theorem k9e_247_706 : k9_R S (d + 1) 247 706 [some (k9_r 90 0), some (k9_r 1 0), some (k9_r 12 0), some (k9_i x3)] [] I J = (k9_R S d 131 0 [some (k9_r 1 0)] [] I J).bind fun q => k9_R S (d + 1) 247 708 [some (k9_r 90 0), some (k9_r 1 0), some (k9_r 12 0), some (k9_i x3)] (k9_ps q.1 []) q.2.1 q.2.2 := k9_b S 2 rfl
set_option maxRecDepth 20000 in
theorem k9e_247_708 : k9_R S (d + 1) 247 708 [some (k9_r 90 0), some (k9_r 1 0), some (k9_r 12 0), some (k9_i x3)] [k9_i s0] I J = (k9_R S d 228 0 [some (k9_r 12 0), none] [] I J).bind fun q => k9_R S (d + 1) 247 711 [some (k9_r 90 0), some (k9_r 1 0), some (k9_r 12 0), some (k9_i x3)] (k9_ps q.1 []) q.2.1 q.2.2 := k9_b S 3 rfl
set_option maxRecDepth 20000 in
theorem k9e_247_711 : k9_R S d 247 711 [some (k9_r 90 0), some (k9_r 1 0), some (k9_r 12 0), some (k9_i x3)] [k9_i s0] I J = k9_R S d 247 1051 [some (k9_r 90 0), some (k9_r 1 0), some (k9_r 12 0), some (k9_i x3)] [] I J := k9_b S 2 rfl
set_option maxRecDepth 20000 in
theorem k9e_247_713 : k9_R S (d + 1) 247 713 [some (k9_r 90 0), some (k9_r 1 0), some (k9_r 12 0), some (k9_i x3)] [] I J = (k9_R S d 132 0 [some (k9_r 1 0)] [] I J).bind fun q => k9_R S (d + 1) 247 715 [some (k9_r 90 0), some (k9_r 1 0), some (k9_r 12 0), some (k9_i x3)] (k9_ps q.1 []) q.2.1 q.2.2 := k9_b S 2 rfl
set_option maxRecDepth 20000 in
theorem k9e_247_715 : k9_R S (d + 1) 247 715 [some (k9_r 90 0), some (k9_r 1 0), some (k9_r 12 0), some (k9_i x3)] [k9_i s0] I J = (k9_R S d 166 0 [some (k9_r 12 0)] [] I J).bind fun q => k9_R S (d + 1) 247 718 [some (k9_r 90 0), some (k9_r 1 0), some (k9_r 12 0), some (k9_i x3)] (k9_ps q.1 []) q.2.1 q.2.2 := k9_b S 3 rfl
set_option maxRecDepth 20000 in
theorem k9e_247_718 : k9_R S d 247 718 [some (k9_r 90 0), some (k9_r 1 0), some (k9_r 12 0), some (k9_i x3)] [k9_i s0] I J = k9_R S d 247 1051 [some (k9_r 90 0), some (k9_r 1 0), some (k9_r 12 0), some (k9_i x3)] [] I J := k9_b S 2 rfl
set_option maxRecDepth 20000 in
theorem k9e_247_720 : k9_R S (d + 1) 247 720 [some (k9_r 90 0), some (k9_r 1 0), some (k9_r 12 0), some (k9_i x3)] [] I J = (k9_R S d 133 0 [some (k9_r 1 0)] [] I J).bind fun q => k9_R S (d + 1) 247 722 [some (k9_r 90 0), some (k9_r 1 0), some (k9_r 12 0), some (k9_i x3)] (k9_ps q.1 []) q.2.1 q.2.2 := k9_b S 2 rfl
set_option maxRecDepth 20000 in
theorem k9e_247_722 : k9_R S (d + 1) 247 722 [some (k9_r 90 0), some (k9_r 1 0), some (k9_r 12 0), some (k9_i x3)] [k9_i s0] I J = (k9_R S d 167 0 [some (k9_r 12 0)] [] I J).bind fun q => k9_R S (d + 1) 247 725 [some (k9_r 90 0), some (k9_r 1 0), some (k9_r 12 0), some (k9_i x3)] (k9_ps q.1 []) q.2.1 q.2.2 := k9_b S 3 rfl
set_option maxRecDepth 20000 in
theorem k9e_247_725 : k9_R S d 247 725 [some (k9_r 90 0), some (k9_r 1 0), some (k9_r 12 0), some (k9_i x3)] [k9_i s0] I J = k9_R S d 247 1051 [some (k9_r 90 0), some (k9_r 1 0), some (k9_r 12 0), some (k9_i x3)] [] I J := k9_b S 2 rfl
set_option maxRecDepth 20000 in
theorem k9e_247_727 : k9_R S d 247 727 [some (k9_r 90 0), some (k9_r 1 0), some (k9_r 12 0), some (k9_i x3)] [] I J = if k9_in (x3 + 1) S.2 = true then k9_R S d 247 733 [some (k9_r 90 0), some (k9_r 1 0), some (k9_r 12 0), some (k9_i x3)] [k9_i (S.1 (Int32.toNatClampNeg (x3 + 1))), k9_r 1 0] I J else none := k9_b S 6 rfl
set_option maxRecDepth 20000 in
theorem k9e_247_733 : k9_R S (d + 1) 247 733 [some (k9_r 90 0), some (k9_r 1 0), some (k9_r 12 0), some (k9_i x3)] [k9_i s1, k9_r 1 0] I J = (k9_R S d 134 0 [some (k9_r 1 0), some (k9_i s1)] [] I J).bind fun q => k9_R S (d + 1) 247 734 [some (k9_r 90 0), some (k9_r 1 0), some (k9_r 12 0), some (k9_i x3)] (k9_ps q.1 []) q.2.1 q.2.2 := k9_b S 1 rfl
set_option maxRecDepth 20000 in
theorem k9e_247_734 : k9_R S d 247 734 [some (k9_r 90 0), some (k9_r 1 0), some (k9_r 12 0), some (k9_i x3)] [k9_i s0] I J = if k9_in (x3 + 1) S.2 = true then k9_R S d 247 741 [some (k9_r 90 0), some (k9_r 1 0), some (k9_r 12 0), some (k9_i x3)] [k9_i (S.1 (Int32.toNatClampNeg (x3 + 1))), k9_r 12 0] I J else none := k9_b S 7 rfl
set_option maxRecDepth 20000 in
theorem k9e_247_741 : k9_R S (d + 1) 247 741 [some (k9_r 90 0), some (k9_r 1 0), some (k9_r 12 0), some (k9_i x3)] [k9_i s1, k9_r 12 0] I J = (k9_R S d 235 0 [some (k9_r 12 0), some (k9_i s1)] [] I J).bind fun q => k9_R S (d + 1) 247 742 [some (k9_r 90 0), some (k9_r 1 0), some (k9_r 12 0), some (k9_i x3)] (k9_ps q.1 []) q.2.1 q.2.2 := k9_b S 1 rfl
set_option maxRecDepth 20000 in
theorem k9e_247_742 : k9_R S d 247 742 [some (k9_r 90 0), some (k9_r 1 0), some (k9_r 12 0), some (k9_i x3)] [k9_i s0] I J = k9_R S d 247 1051 [some (k9_r 90 0), some (k9_r 1 0), some (k9_r 12 0), some (k9_i x3)] [] I J := k9_b S 2 rfl
set_option maxRecDepth 20000 in
theorem k9e_247_744 : k9_R S d 247 744 [some (k9_r 90 0), some (k9_r 1 0), some (k9_r 12 0), some (k9_i x3)] [] I J = if k9_in (x3 + 1) S.2 = true then k9_R S d 247 750 [some (k9_r 90 0), some (k9_r 1 0), some (k9_r 12 0), some (k9_i x3)] [k9_i (S.1 (Int32.toNatClampNeg (x3 + 1))), k9_r 1 0] I J else none := k9_b S 6 rfl
set_option maxRecDepth 20000 in
theorem k9e_247_750 : k9_R S d 247 750 [some (k9_r 90 0), some (k9_r 1 0), some (k9_r 12 0), some (k9_i x3)] [k9_i s1, k9_r 1 0] I J = if k9_in (x3 + 2) S.2 = true then k9_R S d 247 755 [some (k9_r 90 0), some (k9_r 1 0), some (k9_r 12 0), some (k9_i x3)] [k9_i (S.1 (Int32.toNatClampNeg (x3 + 2))), k9_i s1, k9_r 1 0] I J else none := k9_b S 5 rfl
set_option maxRecDepth 20000 in
theorem k9e_247_755 : k9_R S d 247 755 [some (k9_r 90 0), some (k9_r 1 0), some (k9_r 12 0), some (k9_i x3)] [k9_i s2, k9_i s1, k9_r 1 0] I J = if k9_in (x3 + 3) S.2 = true then k9_R S d 247 760 [some (k9_r 90 0), some (k9_r 1 0), some (k9_r 12 0), some (k9_i x3)] [k9_i (S.1 (Int32.toNatClampNeg (x3 + 3))), k9_i s2, k9_i s1, k9_r 1 0] I J else none := k9_b S 5 rfl
set_option maxRecDepth 20000 in
theorem k9e_247_760 : k9_R S (d + 1) 247 760 [some (k9_r 90 0), some (k9_r 1 0), some (k9_r 12 0), some (k9_i x3)] [k9_i s3, k9_i s2, k9_i s1, k9_r 1 0] I J = (k9_R S d 135 0 [some (k9_r 1 0), some (k9_i s1), some (k9_i s2), some (k9_i s3)] [] I J).bind fun q => k9_R S (d + 1) 247 761 [some (k9_r 90 0), some (k9_r 1 0), some (k9_r 12 0), some (k9_i x3)] (k9_ps q.1 []) q.2.1 q.2.2 := k9_b S 1 rfl
set_option maxRecDepth 20000 in
theorem k9e_247_761 : k9_R S d 247 761 [some (k9_r 90 0), some (k9_r 1 0), some (k9_r 12 0), some (k9_i x3)] [k9_i s0] I J = if k9_in (x3 + 1) S.2 = true then k9_R S d 247 768 [some (k9_r 90 0), some (k9_r 1 0), some (k9_r 12 0), some (k9_i x3)] [k9_i (S.1 (Int32.toNatClampNeg (x3 + 1))), k9_r 12 0] I J else none := k9_b S 7 rfl
set_option maxRecDepth 20000 in
theorem k9e_247_768 : k9_R S d 247 768 [some (k9_r 90 0), some (k9_r 1 0), some (k9_r 12 0), some (k9_i x3)] [k9_i s1, k9_r 12 0] I J = if k9_in (x3 + 2) S.2 = true then k9_R S d 247 773 [some (k9_r 90 0), some (k9_r 1 0), some (k9_r 12 0), some (k9_i x3)] [k9_i (S.1 (Int32.toNatClampNeg (x3 + 2))), k9_i s1, k9_r 12 0] I J else none := k9_b S 5 rfl
set_option maxRecDepth 20000 in
theorem k9e_247_773 : k9_R S d 247 773 [some (k9_r 90 0), some (k9_r 1 0), some (k9_r 12 0), some (k9_i x3)] [k9_i s2, k9_i s1, k9_r 12 0] I J = if k9_in (x3 + 3) S.2 = true then k9_R S d 247 778 [some (k9_r 90 0), some (k9_r 1 0), some (k9_r 12 0), some (k9_i x3)] [k9_i (S.1 (Int32.toNatClampNeg (x3 + 3))), k9_i s2, k9_i s1, k9_r 12 0] I J else none := k9_b S 5 rfl
set_option maxRecDepth 20000 in
theorem k9e_247_778 : k9_R S (d + 1) 247 778 [some (k9_r 90 0), some (k9_r 1 0), some (k9_r 12 0), some (k9_i x3)] [k9_i s3, k9_i s2, k9_i s1, k9_r 12 0] I J = (k9_R S d 236 0 [some (k9_r 12 0), some (k9_i s1), some (k9_i s2), some (k9_i s3), none] [] I J).bind fun q => k9_R S (d + 1) 247 779 [some (k9_r 90 0), some (k9_r 1 0), some (k9_r 12 0), some (k9_i x3)] (k9_ps q.1 []) q.2.1 q.2.2 := k9_b S 1 rfl
set_option maxRecDepth 20000 in
theorem k9e_247_779 : k9_R S d 247 779 [some (k9_r 90 0), some (k9_r 1 0), some (k9_r 12 0), some (k9_i x3)] [k9_i s0] I J = k9_R S d 247 1051 [some (k9_r 90 0), some (k9_r 1 0), some (k9_r 12 0), some (k9_i x3)] [] I J := k9_b S 2 rfl
set_option maxRecDepth 20000 in
theorem k9e_247_781 : k9_R S d 247 781 [some (k9_r 90 0), some (k9_r 1 0), some (k9_r 12 0), some (k9_i x3)] [] I J = if k9_in (x3 + 1) S.2 = true then k9_R S d 247 787 [some (k9_r 90 0), some (k9_r 1 0), some (k9_r 12 0), some (k9_i x3)] [k9_i (S.1 (Int32.toNatClampNeg (x3 + 1))), k9_r 1 0] I J else none := k9_b S 6 rfl
set_option maxRecDepth 20000 in
theorem k9e_247_787 : k9_R S (d + 1) 247 787 [some (k9_r 90 0), some (k9_r 1 0), some (k9_r 12 0), some (k9_i x3)] [k9_i s1, k9_r 1 0] I J = (k9_R S d 136 0 [some (k9_r 1 0), some (k9_i s1)] [] I J).bind fun q => k9_R S (d + 1) 247 788 [some (k9_r 90 0), some (k9_r 1 0), some (k9_r 12 0), some (k9_i x3)] (k9_ps q.1 []) q.2.1 q.2.2 := k9_b S 1 rfl
set_option maxRecDepth 20000 in
theorem k9e_247_788 : k9_R S d 247 788 [some (k9_r 90 0), some (k9_r 1 0), some (k9_r 12 0), some (k9_i x3)] [k9_i s0] I J = if k9_in (x3 + 1) S.2 = true then k9_R S d 247 795 [some (k9_r 90 0), some (k9_r 1 0), some (k9_r 12 0), some (k9_i x3)] [k9_i (S.1 (Int32.toNatClampNeg (x3 + 1))), k9_r 12 0] I J else none := k9_b S 7 rfl
set_option maxRecDepth 20000 in
theorem k9e_247_795 : k9_R S (d + 1) 247 795 [some (k9_r 90 0), some (k9_r 1 0), some (k9_r 12 0), some (k9_i x3)] [k9_i s1, k9_r 12 0] I J = (k9_R S d 237 0 [some (k9_r 12 0), some (k9_i s1)] [] I J).bind fun q => k9_R S (d + 1) 247 796 [some (k9_r 90 0), some (k9_r 1 0), some (k9_r 12 0), some (k9_i x3)] (k9_ps q.1 []) q.2.1 q.2.2 := k9_b S 1 rfl
set_option maxRecDepth 20000 in
theorem k9e_247_796 : k9_R S d 247 796 [some (k9_r 90 0), some (k9_r 1 0), some (k9_r 12 0), some (k9_i x3)] [k9_i s0] I J = k9_R S d 247 1051 [some (k9_r 90 0), some (k9_r 1 0), some (k9_r 12 0), some (k9_i x3)] [] I J := k9_b S 2 rfl
set_option maxRecDepth 20000 in
theorem k9e_247_798 : k9_R S d 247 798 [some (k9_r 90 0), some (k9_r 1 0), some (k9_r 12 0), some (k9_i x3)] [] I J = if k9_in (x3 + 1) S.2 = true then k9_R S d 247 804 [some (k9_r 90 0), some (k9_r 1 0), some (k9_r 12 0), some (k9_i x3)] [k9_i (S.1 (Int32.toNatClampNeg (x3 + 1))), k9_r 1 0] I J else none := k9_b S 6 rfl
set_option maxRecDepth 20000 in
theorem k9e_247_804 : k9_R S d 247 804 [some (k9_r 90 0), some (k9_r 1 0), some (k9_r 12 0), some (k9_i x3)] [k9_i s1, k9_r 1 0] I J = if k9_in (x3 + 2) S.2 = true then k9_R S d 247 809 [some (k9_r 90 0), some (k9_r 1 0), some (k9_r 12 0), some (k9_i x3)] [k9_i (S.1 (Int32.toNatClampNeg (x3 + 2))), k9_i s1, k9_r 1 0] I J else none := k9_b S 5 rfl
set_option maxRecDepth 20000 in
theorem k9e_247_809 : k9_R S (d + 1) 247 809 [some (k9_r 90 0), some (k9_r 1 0), some (k9_r 12 0), some (k9_i x3)] [k9_i s2, k9_i s1, k9_r 1 0] I J = (k9_R S d 137 0 [some (k9_r 1 0), some (k9_i s1), some (k9_i s2), none] [] I J).bind fun q => k9_R S (d + 1) 247 810 [some (k9_r 90 0), some (k9_r 1 0), some (k9_r 12 0), some (k9_i x3)] (k9_ps q.1 []) q.2.1 q.2.2 := k9_b S 1 rfl
set_option maxRecDepth 20000 in
theorem k9e_247_810 : k9_R S d 247 810 [some (k9_r 90 0), some (k9_r 1 0), some (k9_r 12 0), some (k9_i x3)] [k9_i s0] I J = if k9_in (x3 + 1) S.2 = true then k9_R S d 247 817 [some (k9_r 90 0), some (k9_r 1 0), some (k9_r 12 0), some (k9_i x3)] [k9_i (S.1 (Int32.toNatClampNeg (x3 + 1))), k9_r 12 0] I J else none := k9_b S 7 rfl
set_option maxRecDepth 20000 in
theorem k9e_247_817 : k9_R S d 247 817 [some (k9_r 90 0), some (k9_r 1 0), some (k9_r 12 0), some (k9_i x3)] [k9_i s1, k9_r 12 0] I J = if k9_in (x3 + 2) S.2 = true then k9_R S d 247 822 [some (k9_r 90 0), some (k9_r 1 0), some (k9_r 12 0), some (k9_i x3)] [k9_i (S.1 (Int32.toNatClampNeg (x3 + 2))), k9_i s1, k9_r 12 0] I J else none := k9_b S 5 rfl
set_option maxRecDepth 20000 in
theorem k9e_247_822 : k9_R S (d + 1) 247 822 [some (k9_r 90 0), some (k9_r 1 0), some (k9_r 12 0), some (k9_i x3)] [k9_i s2, k9_i s1, k9_r 12 0] I J = (k9_R S d 238 0 [some (k9_r 12 0), some (k9_i s1), some (k9_i s2)] [] I J).bind fun q => k9_R S (d + 1) 247 823 [some (k9_r 90 0), some (k9_r 1 0), some (k9_r 12 0), some (k9_i x3)] (k9_ps q.1 []) q.2.1 q.2.2 := k9_b S 1 rfl
set_option maxRecDepth 20000 in
theorem k9e_247_823 : k9_R S d 247 823 [some (k9_r 90 0), some (k9_r 1 0), some (k9_r 12 0), some (k9_i x3)] [k9_i s0] I J = k9_R S d 247 1051 [some (k9_r 90 0), some (k9_r 1 0), some (k9_r 12 0), some (k9_i x3)] [] I J := k9_b S 2 rfl
set_option maxRecDepth 20000 in
theorem k9e_247_825 : k9_R S d 247 825 [some (k9_r 90 0), some (k9_r 1 0), some (k9_r 12 0), some (k9_i x3)] [] I J = if k9_in (x3 + 1) S.2 = true then k9_R S d 247 831 [some (k9_r 90 0), some (k9_r 1 0), some (k9_r 12 0), some (k9_i x3)] [k9_i (S.1 (Int32.toNatClampNeg (x3 + 1))), k9_r 1 0] I J else none := k9_b S 6 rfl
set_option maxRecDepth 20000 in
theorem k9e_247_831 : k9_R S d 247 831 [some (k9_r 90 0), some (k9_r 1 0), some (k9_r 12 0), some (k9_i x3)] [k9_i s1, k9_r 1 0] I J = if k9_in (x3 + 2) S.2 = true then k9_R S d 247 836 [some (k9_r 90 0), some (k9_r 1 0), some (k9_r 12 0), some (k9_i x3)] [k9_i (S.1 (Int32.toNatClampNeg (x3 + 2))), k9_i s1, k9_r 1 0] I J else none := k9_b S 5 rfl
set_option maxRecDepth 20000 in
theorem k9e_247_836 : k9_R S d 247 836 [some (k9_r 90 0), some (k9_r 1 0), some (k9_r 12 0), some (k9_i x3)] [k9_i s2, k9_i s1, k9_r 1 0] I J = if k9_in (x3 + 3) S.2 = true then k9_R S d 247 841 [some (k9_r 90 0), some (k9_r 1 0), some (k9_r 12 0), some (k9_i x3)] [k9_i (S.1 (Int32.toNatClampNeg (x3 + 3))), k9_i s2, k9_i s1, k9_r 1 0] I J else none := k9_b S 5 rfl
set_option maxRecDepth 20000 in
theorem k9e_247_841 : k9_R S (d + 1) 247 841 [some (k9_r 90 0), some (k9_r 1 0), some (k9_r 12 0), some (k9_i x3)] [k9_i s3, k9_i s2, k9_i s1, k9_r 1 0] I J = (k9_R S d 138 0 [some (k9_r 1 0), some (k9_i s1), some (k9_i s2), some (k9_i s3), none] [] I J).bind fun q => k9_R S (d + 1) 247 842 [some (k9_r 90 0), some (k9_r 1 0), some (k9_r 12 0), some (k9_i x3)] (k9_ps q.1 []) q.2.1 q.2.2 := k9_b S 1 rfl
set_option maxRecDepth 20000 in
theorem k9e_247_842 : k9_R S d 247 842 [some (k9_r 90 0), some (k9_r 1 0), some (k9_r 12 0), some (k9_i x3)] [k9_i s0] I J = if k9_in (x3 + 1) S.2 = true then k9_R S d 247 849 [some (k9_r 90 0), some (k9_r 1 0), some (k9_r 12 0), some (k9_i x3)] [k9_i (S.1 (Int32.toNatClampNeg (x3 + 1))), k9_r 12 0] I J else none := k9_b S 7 rfl
set_option maxRecDepth 20000 in
theorem k9e_247_849 : k9_R S d 247 849 [some (k9_r 90 0), some (k9_r 1 0), some (k9_r 12 0), some (k9_i x3)] [k9_i s1, k9_r 12 0] I J = if k9_in (x3 + 2) S.2 = true then k9_R S d 247 854 [some (k9_r 90 0), some (k9_r 1 0), some (k9_r 12 0), some (k9_i x3)] [k9_i (S.1 (Int32.toNatClampNeg (x3 + 2))), k9_i s1, k9_r 12 0] I J else none := k9_b S 5 rfl
set_option maxRecDepth 20000 in
theorem k9e_247_854 : k9_R S d 247 854 [some (k9_r 90 0), some (k9_r 1 0), some (k9_r 12 0), some (k9_i x3)] [k9_i s2, k9_i s1, k9_r 12 0] I J = if k9_in (x3 + 3) S.2 = true then k9_R S d 247 859 [some (k9_r 90 0), some (k9_r 1 0), some (k9_r 12 0), some (k9_i x3)] [k9_i (S.1 (Int32.toNatClampNeg (x3 + 3))), k9_i s2, k9_i s1, k9_r 12 0] I J else none := k9_b S 5 rfl
set_option maxRecDepth 20000 in
theorem k9e_247_859 : k9_R S (d + 1) 247 859 [some (k9_r 90 0), some (k9_r 1 0), some (k9_r 12 0), some (k9_i x3)] [k9_i s3, k9_i s2, k9_i s1, k9_r 12 0] I J = (k9_R S d 239 0 [some (k9_r 12 0), some (k9_i s1), some (k9_i s2), some (k9_i s3), none] [] I J).bind fun q => k9_R S (d + 1) 247 860 [some (k9_r 90 0), some (k9_r 1 0), some (k9_r 12 0), some (k9_i x3)] (k9_ps q.1 []) q.2.1 q.2.2 := k9_b S 1 rfl
set_option maxRecDepth 20000 in
theorem k9e_247_860 : k9_R S d 247 860 [some (k9_r 90 0), some (k9_r 1 0), some (k9_r 12 0), some (k9_i x3)] [k9_i s0] I J = k9_R S d 247 1051 [some (k9_r 90 0), some (k9_r 1 0), some (k9_r 12 0), some (k9_i x3)] [] I J := k9_b S 2 rfl
set_option maxRecDepth 20000 in
theorem k9e_247_862 : k9_R S d 247 862 [some (k9_r 90 0), some (k9_r 1 0), some (k9_r 12 0), some (k9_i x3)] [] I J = if k9_in (x3 + 1) S.2 = true then k9_R S d 247 868 [some (k9_r 90 0), some (k9_r 1 0), some (k9_r 12 0), some (k9_i x3)] [k9_i (S.1 (Int32.toNatClampNeg (x3 + 1))), k9_r 1 0] I J else none := k9_b S 6 rfl
set_option maxRecDepth 20000 in
theorem k9e_247_868 : k9_R S d 247 868 [some (k9_r 90 0), some (k9_r 1 0), some (k9_r 12 0), some (k9_i x3)] [k9_i s1, k9_r 1 0] I J = if k9_in (x3 + 2) S.2 = true then k9_R S d 247 873 [some (k9_r 90 0), some (k9_r 1 0), some (k9_r 12 0), some (k9_i x3)] [k9_i (S.1 (Int32.toNatClampNeg (x3 + 2))), k9_i s1, k9_r 1 0] I J else none := k9_b S 5 rfl
set_option maxRecDepth 20000 in
theorem k9e_247_873 : k9_R S d 247 873 [some (k9_r 90 0), some (k9_r 1 0), some (k9_r 12 0), some (k9_i x3)] [k9_i s2, k9_i s1, k9_r 1 0] I J = if k9_in (x3 + 3) S.2 = true then k9_R S d 247 878 [some (k9_r 90 0), some (k9_r 1 0), some (k9_r 12 0), some (k9_i x3)] [k9_i (S.1 (Int32.toNatClampNeg (x3 + 3))), k9_i s2, k9_i s1, k9_r 1 0] I J else none := k9_b S 5 rfl
set_option maxRecDepth 20000 in
theorem k9e_247_878 : k9_R S d 247 878 [some (k9_r 90 0), some (k9_r 1 0), some (k9_r 12 0), some (k9_i x3)] [k9_i s3, k9_i s2, k9_i s1, k9_r 1 0] I J = if k9_in (x3 + 4) S.2 = true then k9_R S d 247 886 [some (k9_r 90 0), some (k9_r 1 0), some (k9_r 12 0), some (k9_i x3)] [k9_i (S.1 (Int32.toNatClampNeg (x3 + 4))), k9_l ((Int32.toInt64 s3) <<< (Int32.toInt64 32 &&& 63)), k9_i s2, k9_i s1, k9_r 1 0] I J else none := k9_b S 8 rfl
set_option maxRecDepth 20000 in
theorem k9e_247_886 : k9_R S (d + 1) 247 886 [some (k9_r 90 0), some (k9_r 1 0), some (k9_r 12 0), some (k9_i x3)] [k9_i s4, k9_l t3, k9_i s2, k9_i s1, k9_r 1 0] I J = (k9_R S d 139 0 [some (k9_r 1 0), some (k9_i s1), some (k9_i s2), some (k9_l (t3 ||| ((Int32.toInt64 s4) &&& 4294967295))), none, none, none] [] I J).bind fun q => k9_R S (d + 1) 247 891 [some (k9_r 90 0), some (k9_r 1 0), some (k9_r 12 0), some (k9_i x3)] (k9_ps q.1 []) q.2.1 q.2.2 := k9_b S 5 rfl
set_option maxRecDepth 20000 in
theorem k9e_247_891 : k9_R S d 247 891 [some (k9_r 90 0), some (k9_r 1 0), some (k9_r 12 0), some (k9_i x3)] [k9_i s0] I J = if k9_in (x3 + 1) S.2 = true then k9_R S d 247 898 [some (k9_r 90 0), some (k9_r 1 0), some (k9_r 12 0), some (k9_i x3)] [k9_i (S.1 (Int32.toNatClampNeg (x3 + 1))), k9_r 12 0] I J else none := k9_b S 7 rfl
set_option maxRecDepth 20000 in
theorem k9e_247_898 : k9_R S d 247 898 [some (k9_r 90 0), some (k9_r 1 0), some (k9_r 12 0), some (k9_i x3)] [k9_i s1, k9_r 12 0] I J = if k9_in (x3 + 2) S.2 = true then k9_R S d 247 903 [some (k9_r 90 0), some (k9_r 1 0), some (k9_r 12 0), some (k9_i x3)] [k9_i (S.1 (Int32.toNatClampNeg (x3 + 2))), k9_i s1, k9_r 12 0] I J else none := k9_b S 5 rfl
set_option maxRecDepth 20000 in
theorem k9e_247_903 : k9_R S d 247 903 [some (k9_r 90 0), some (k9_r 1 0), some (k9_r 12 0), some (k9_i x3)] [k9_i s2, k9_i s1, k9_r 12 0] I J = if k9_in (x3 + 3) S.2 = true then k9_R S d 247 908 [some (k9_r 90 0), some (k9_r 1 0), some (k9_r 12 0), some (k9_i x3)] [k9_i (S.1 (Int32.toNatClampNeg (x3 + 3))), k9_i s2, k9_i s1, k9_r 12 0] I J else none := k9_b S 5 rfl
set_option maxRecDepth 20000 in
theorem k9e_247_908 : k9_R S d 247 908 [some (k9_r 90 0), some (k9_r 1 0), some (k9_r 12 0), some (k9_i x3)] [k9_i s3, k9_i s2, k9_i s1, k9_r 12 0] I J = if k9_in (x3 + 4) S.2 = true then k9_R S d 247 916 [some (k9_r 90 0), some (k9_r 1 0), some (k9_r 12 0), some (k9_i x3)] [k9_i (S.1 (Int32.toNatClampNeg (x3 + 4))), k9_l ((Int32.toInt64 s3) <<< (Int32.toInt64 32 &&& 63)), k9_i s2, k9_i s1, k9_r 12 0] I J else none := k9_b S 8 rfl
set_option maxRecDepth 20000 in
theorem k9e_247_916 : k9_R S (d + 1) 247 916 [some (k9_r 90 0), some (k9_r 1 0), some (k9_r 12 0), some (k9_i x3)] [k9_i s4, k9_l t3, k9_i s2, k9_i s1, k9_r 12 0] I J = (k9_R S d 242 0 [some (k9_r 12 0), some (k9_i s1), some (k9_i s2), some (k9_l (t3 ||| ((Int32.toInt64 s4) &&& 4294967295))), none] [] I J).bind fun q => k9_R S (d + 1) 247 921 [some (k9_r 90 0), some (k9_r 1 0), some (k9_r 12 0), some (k9_i x3)] (k9_ps q.1 []) q.2.1 q.2.2 := k9_b S 5 rfl
set_option maxRecDepth 20000 in
theorem k9e_247_921 : k9_R S d 247 921 [some (k9_r 90 0), some (k9_r 1 0), some (k9_r 12 0), some (k9_i x3)] [k9_i s0] I J = k9_R S d 247 1051 [some (k9_r 90 0), some (k9_r 1 0), some (k9_r 12 0), some (k9_i x3)] [] I J := k9_b S 2 rfl
set_option maxRecDepth 20000 in
theorem k9e_247_923 : k9_R S d 247 923 [some (k9_r 90 0), some (k9_r 1 0), some (k9_r 12 0), some (k9_i x3)] [] I J = if k9_in (x3 + 1) S.2 = true then k9_R S d 247 929 [some (k9_r 90 0), some (k9_r 1 0), some (k9_r 12 0), some (k9_i x3)] [k9_i (S.1 (Int32.toNatClampNeg (x3 + 1))), k9_r 1 0] I J else none := k9_b S 6 rfl
set_option maxRecDepth 20000 in
theorem k9e_247_929 : k9_R S d 247 929 [some (k9_r 90 0), some (k9_r 1 0), some (k9_r 12 0), some (k9_i x3)] [k9_i s1, k9_r 1 0] I J = if k9_in (x3 + 2) S.2 = true then k9_R S d 247 934 [some (k9_r 90 0), some (k9_r 1 0), some (k9_r 12 0), some (k9_i x3)] [k9_i (S.1 (Int32.toNatClampNeg (x3 + 2))), k9_i s1, k9_r 1 0] I J else none := k9_b S 5 rfl
set_option maxRecDepth 20000 in
theorem k9e_247_934 : k9_R S (d + 1) 247 934 [some (k9_r 90 0), some (k9_r 1 0), some (k9_r 12 0), some (k9_i x3)] [k9_i s2, k9_i s1, k9_r 1 0] I J = (k9_R S d 140 0 [some (k9_r 1 0), some (k9_i s1), some (k9_i s2), none] [] I J).bind fun q => k9_R S (d + 1) 247 935 [some (k9_r 90 0), some (k9_r 1 0), some (k9_r 12 0), some (k9_i x3)] (k9_ps q.1 []) q.2.1 q.2.2 := k9_b S 1 rfl
set_option maxRecDepth 20000 in
theorem k9e_247_935 : k9_R S d 247 935 [some (k9_r 90 0), some (k9_r 1 0), some (k9_r 12 0), some (k9_i x3)] [k9_l t0] I J = if k9_in (x3 + 1) S.2 = true then k9_R S d 247 942 [some (k9_r 90 0), some (k9_r 1 0), some (k9_r 12 0), some (k9_i x3)] [k9_i (S.1 (Int32.toNatClampNeg (x3 + 1))), k9_r 12 0] I J else none := k9_b S 7 rfl
set_option maxRecDepth 20000 in
theorem k9e_247_942 : k9_R S d 247 942 [some (k9_r 90 0), some (k9_r 1 0), some (k9_r 12 0), some (k9_i x3)] [k9_i s1, k9_r 12 0] I J = if k9_in (x3 + 2) S.2 = true then k9_R S d 247 947 [some (k9_r 90 0), some (k9_r 1 0), some (k9_r 12 0), some (k9_i x3)] [k9_i (S.1 (Int32.toNatClampNeg (x3 + 2))), k9_i s1, k9_r 12 0] I J else none := k9_b S 5 rfl
set_option maxRecDepth 20000 in
theorem k9e_247_947 : k9_R S (d + 1) 247 947 [some (k9_r 90 0), some (k9_r 1 0), some (k9_r 12 0), some (k9_i x3)] [k9_i s2, k9_i s1, k9_r 12 0] I J = (k9_R S d 243 0 [some (k9_r 12 0), some (k9_i s1), some (k9_i s2)] [] I J).bind fun q => k9_R S (d + 1) 247 948 [some (k9_r 90 0), some (k9_r 1 0), some (k9_r 12 0), some (k9_i x3)] (k9_ps q.1 []) q.2.1 q.2.2 := k9_b S 1 rfl
set_option maxRecDepth 20000 in
theorem k9e_247_948 : k9_R S d 247 948 [some (k9_r 90 0), some (k9_r 1 0), some (k9_r 12 0), some (k9_i x3)] [k9_l t0] I J = k9_R S d 247 1051 [some (k9_r 90 0), some (k9_r 1 0), some (k9_r 12 0), some (k9_i x3)] [] I J := k9_b S 2 rfl
set_option maxRecDepth 20000 in
theorem k9e_247_950 : k9_R S d 247 950 [some (k9_r 90 0), some (k9_r 1 0), some (k9_r 12 0), some (k9_i x3)] [] I J = if k9_in (x3 + 1) S.2 = true then k9_R S d 247 956 [some (k9_r 90 0), some (k9_r 1 0), some (k9_r 12 0), some (k9_i x3)] [k9_i (S.1 (Int32.toNatClampNeg (x3 + 1))), k9_r 1 0] I J else none := k9_b S 6 rfl
set_option maxRecDepth 20000 in
theorem k9e_247_956 : k9_R S d 247 956 [some (k9_r 90 0), some (k9_r 1 0), some (k9_r 12 0), some (k9_i x3)] [k9_i s1, k9_r 1 0] I J = if k9_in (x3 + 2) S.2 = true then k9_R S d 247 961 [some (k9_r 90 0), some (k9_r 1 0), some (k9_r 12 0), some (k9_i x3)] [k9_i (S.1 (Int32.toNatClampNeg (x3 + 2))), k9_i s1, k9_r 1 0] I J else none := k9_b S 5 rfl
set_option maxRecDepth 20000 in
theorem k9e_247_961 : k9_R S d 247 961 [some (k9_r 90 0), some (k9_r 1 0), some (k9_r 12 0), some (k9_i x3)] [k9_i s2, k9_i s1, k9_r 1 0] I J = if k9_in (x3 + 3) S.2 = true then k9_R S d 247 966 [some (k9_r 90 0), some (k9_r 1 0), some (k9_r 12 0), some (k9_i x3)] [k9_i (S.1 (Int32.toNatClampNeg (x3 + 3))), k9_i s2, k9_i s1, k9_r 1 0] I J else none := k9_b S 5 rfl
set_option maxRecDepth 20000 in
theorem k9e_247_966 : k9_R S d 247 966 [some (k9_r 90 0), some (k9_r 1 0), some (k9_r 12 0), some (k9_i x3)] [k9_i s3, k9_i s2, k9_i s1, k9_r 1 0] I J = if k9_in (x3 + 4) S.2 = true then k9_R S d 247 971 [some (k9_r 90 0), some (k9_r 1 0), some (k9_r 12 0), some (k9_i x3)] [k9_i (S.1 (Int32.toNatClampNeg (x3 + 4))), k9_i s3, k9_i s2, k9_i s1, k9_r 1 0] I J else none := k9_b S 5 rfl
set_option maxRecDepth 20000 in
theorem k9e_247_971 : k9_R S d 247 971 [some (k9_r 90 0), some (k9_r 1 0), some (k9_r 12 0), some (k9_i x3)] [k9_i s4, k9_i s3, k9_i s2, k9_i s1, k9_r 1 0] I J = if k9_in (x3 + 5) S.2 = true then k9_R S d 247 976 [some (k9_r 90 0), some (k9_r 1 0), some (k9_r 12 0), some (k9_i x3)] [k9_i (S.1 (Int32.toNatClampNeg (x3 + 5))), k9_i s4, k9_i s3, k9_i s2, k9_i s1, k9_r 1 0] I J else none := k9_b S 5 rfl
set_option maxRecDepth 20000 in
theorem k9e_247_976 : k9_R S (d + 1) 247 976 [some (k9_r 90 0), some (k9_r 1 0), some (k9_r 12 0), some (k9_i x3)] [k9_i s5, k9_i s4, k9_i s3, k9_i s2, k9_i s1, k9_r 1 0] I J = (k9_R S d 141 0 [some (k9_r 1 0), some (k9_i s1), some (k9_i s2), some (k9_i s3), some (k9_i s4), some (k9_i s5), none, none] [] I J).bind fun q => k9_R S (d + 1) 247 977 [some (k9_r 90 0), some (k9_r 1 0), some (k9_r 12 0), some (k9_i x3)] (k9_ps q.1 []) q.2.1 q.2.2 := k9_b S 1 rfl
set_option maxRecDepth 20000 in
theorem k9e_247_977 : k9_R S d 247 977 [some (k9_r 90 0), some (k9_r 1 0), some (k9_r 12 0), some (k9_i x3)] [k9_i s0] I J = if k9_in (x3 + 1) S.2 = true then k9_R S d 247 984 [some (k9_r 90 0), some (k9_r 1 0), some (k9_r 12 0), some (k9_i x3)] [k9_i (S.1 (Int32.toNatClampNeg (x3 + 1))), k9_r 12 0] I J else none := k9_b S 7 rfl
set_option maxRecDepth 20000 in
theorem k9e_247_984 : k9_R S d 247 984 [some (k9_r 90 0), some (k9_r 1 0), some (k9_r 12 0), some (k9_i x3)] [k9_i s1, k9_r 12 0] I J = if k9_in (x3 + 2) S.2 = true then k9_R S d 247 989 [some (k9_r 90 0), some (k9_r 1 0), some (k9_r 12 0), some (k9_i x3)] [k9_i (S.1 (Int32.toNatClampNeg (x3 + 2))), k9_i s1, k9_r 12 0] I J else none := k9_b S 5 rfl
set_option maxRecDepth 20000 in
theorem k9e_247_989 : k9_R S d 247 989 [some (k9_r 90 0), some (k9_r 1 0), some (k9_r 12 0), some (k9_i x3)] [k9_i s2, k9_i s1, k9_r 12 0] I J = if k9_in (x3 + 3) S.2 = true then k9_R S d 247 994 [some (k9_r 90 0), some (k9_r 1 0), some (k9_r 12 0), some (k9_i x3)] [k9_i (S.1 (Int32.toNatClampNeg (x3 + 3))), k9_i s2, k9_i s1, k9_r 12 0] I J else none := k9_b S 5 rfl
set_option maxRecDepth 20000 in
theorem k9e_247_994 : k9_R S d 247 994 [some (k9_r 90 0), some (k9_r 1 0), some (k9_r 12 0), some (k9_i x3)] [k9_i s3, k9_i s2, k9_i s1, k9_r 12 0] I J = if k9_in (x3 + 4) S.2 = true then k9_R S d 247 999 [some (k9_r 90 0), some (k9_r 1 0), some (k9_r 12 0), some (k9_i x3)] [k9_i (S.1 (Int32.toNatClampNeg (x3 + 4))), k9_i s3, k9_i s2, k9_i s1, k9_r 12 0] I J else none := k9_b S 5 rfl
set_option maxRecDepth 20000 in
theorem k9e_247_999 : k9_R S d 247 999 [some (k9_r 90 0), some (k9_r 1 0), some (k9_r 12 0), some (k9_i x3)] [k9_i s4, k9_i s3, k9_i s2, k9_i s1, k9_r 12 0] I J = if k9_in (x3 + 5) S.2 = true then k9_R S d 247 1004 [some (k9_r 90 0), some (k9_r 1 0), some (k9_r 12 0), some (k9_i x3)] [k9_i (S.1 (Int32.toNatClampNeg (x3 + 5))), k9_i s4, k9_i s3, k9_i s2, k9_i s1, k9_r 12 0] I J else none := k9_b S 5 rfl
set_option maxRecDepth 20000 in
theorem k9e_247_1004 : k9_R S (d + 1) 247 1004 [some (k9_r 90 0), some (k9_r 1 0), some (k9_r 12 0), some (k9_i x3)] [k9_i s5, k9_i s4, k9_i s3, k9_i s2, k9_i s1, k9_r 12 0] I J = (k9_R S d 244 0 [some (k9_r 12 0), some (k9_i s1), some (k9_i s2), some (k9_i s3), some (k9_i s4), some (k9_i s5), none] [] I J).bind fun q => k9_R S (d + 1) 247 1005 [some (k9_r 90 0), some (k9_r 1 0), some (k9_r 12 0), some (k9_i x3)] (k9_ps q.1 []) q.2.1 q.2.2 := k9_b S 1 rfl
set_option maxRecDepth 20000 in
theorem k9e_247_1005 : k9_R S d 247 1005 [some (k9_r 90 0), some (k9_r 1 0), some (k9_r 12 0), some (k9_i x3)] [k9_i s0] I J = k9_R S d 247 1051 [some (k9_r 90 0), some (k9_r 1 0), some (k9_r 12 0), some (k9_i x3)] [] I J := k9_b S 2 rfl
set_option maxRecDepth 20000 in
theorem k9e_247_1007 : k9_R S d 247 1007 [some (k9_r 90 0), some (k9_r 1 0), some (k9_r 12 0), some (k9_i x3)] [] I J = if k9_in (x3 + 1) S.2 = true then k9_R S d 247 1013 [some (k9_r 90 0), some (k9_r 1 0), some (k9_r 12 0), some (k9_i x3)] [k9_i (S.1 (Int32.toNatClampNeg (x3 + 1))), k9_r 1 0] I J else none := k9_b S 6 rfl
set_option maxRecDepth 20000 in
theorem k9e_247_1013 : k9_R S d 247 1013 [some (k9_r 90 0), some (k9_r 1 0), some (k9_r 12 0), some (k9_i x3)] [k9_i s1, k9_r 1 0] I J = if k9_in (x3 + 2) S.2 = true then k9_R S d 247 1018 [some (k9_r 90 0), some (k9_r 1 0), some (k9_r 12 0), some (k9_i x3)] [k9_i (S.1 (Int32.toNatClampNeg (x3 + 2))), k9_i s1, k9_r 1 0] I J else none := k9_b S 5 rfl
set_option maxRecDepth 20000 in
theorem k9e_247_1018 : k9_R S (d + 1) 247 1018 [some (k9_r 90 0), some (k9_r 1 0), some (k9_r 12 0), some (k9_i x3)] [k9_i s2, k9_i s1, k9_r 1 0] I J = (k9_R S d 142 0 [some (k9_r 1 0), some (k9_i s1), some (k9_i s2), none, none] [] I J).bind fun q => k9_R S (d + 1) 247 1019 [some (k9_r 90 0), some (k9_r 1 0), some (k9_r 12 0), some (k9_i x3)] (k9_ps q.1 []) q.2.1 q.2.2 := k9_b S 1 rfl
set_option maxRecDepth 20000 in
theorem k9e_247_1019 : k9_R S d 247 1019 [some (k9_r 90 0), some (k9_r 1 0), some (k9_r 12 0), some (k9_i x3)] [k9_i s0] I J = if k9_in (x3 + 1) S.2 = true then k9_R S d 247 1026 [some (k9_r 90 0), some (k9_r 1 0), some (k9_r 12 0), some (k9_i x3)] [k9_i (S.1 (Int32.toNatClampNeg (x3 + 1))), k9_r 12 0] I J else none := k9_b S 7 rfl
set_option maxRecDepth 20000 in
theorem k9e_247_1026 : k9_R S d 247 1026 [some (k9_r 90 0), some (k9_r 1 0), some (k9_r 12 0), some (k9_i x3)] [k9_i s1, k9_r 12 0] I J = if k9_in (x3 + 2) S.2 = true then k9_R S d 247 1031 [some (k9_r 90 0), some (k9_r 1 0), some (k9_r 12 0), some (k9_i x3)] [k9_i (S.1 (Int32.toNatClampNeg (x3 + 2))), k9_i s1, k9_r 12 0] I J else none := k9_b S 5 rfl
set_option maxRecDepth 20000 in
theorem k9e_247_1031 : k9_R S (d + 1) 247 1031 [some (k9_r 90 0), some (k9_r 1 0), some (k9_r 12 0), some (k9_i x3)] [k9_i s2, k9_i s1, k9_r 12 0] I J = (k9_R S d 245 0 [some (k9_r 12 0), some (k9_i s1), some (k9_i s2), none, none] [] I J).bind fun q => k9_R S (d + 1) 247 1032 [some (k9_r 90 0), some (k9_r 1 0), some (k9_r 12 0), some (k9_i x3)] (k9_ps q.1 []) q.2.1 q.2.2 := k9_b S 1 rfl
set_option maxRecDepth 20000 in
theorem k9e_247_1032 : k9_R S d 247 1032 [some (k9_r 90 0), some (k9_r 1 0), some (k9_r 12 0), some (k9_i x3)] [k9_i s0] I J = k9_R S d 247 1051 [some (k9_r 90 0), some (k9_r 1 0), some (k9_r 12 0), some (k9_i x3)] [] I J := k9_b S 2 rfl
set_option maxRecDepth 20000 in
theorem k9e_247_1034 : k9_R S d 247 1034 [some (k9_r 90 0), some (k9_r 1 0), some (k9_r 12 0), some (k9_i x3)] [] I J = if k9_in (x3 + 1) S.2 = true then k9_R S d 247 1040 [some (k9_r 90 0), some (k9_r 1 0), some (k9_r 12 0), some (k9_i x3)] [k9_i (S.1 (Int32.toNatClampNeg (x3 + 1))), k9_r 1 0] I J else none := k9_b S 6 rfl
set_option maxRecDepth 20000 in
theorem k9e_247_1040 : k9_R S (d + 1) 247 1040 [some (k9_r 90 0), some (k9_r 1 0), some (k9_r 12 0), some (k9_i x3)] [k9_i s1, k9_r 1 0] I J = (k9_R S d 143 0 [some (k9_r 1 0), some (k9_i s1)] [] I J).bind fun q => k9_R S (d + 1) 247 1041 [some (k9_r 90 0), some (k9_r 1 0), some (k9_r 12 0), some (k9_i x3)] (k9_ps q.1 []) q.2.1 q.2.2 := k9_b S 1 rfl
set_option maxRecDepth 20000 in
theorem k9e_247_1041 : k9_R S d 247 1041 [some (k9_r 90 0), some (k9_r 1 0), some (k9_r 12 0), some (k9_i x3)] [k9_i s0] I J = if k9_in (x3 + 1) S.2 = true then k9_R S d 247 1047 [some (k9_r 90 0), some (k9_r 1 0), some (k9_r 12 0), some (k9_i x3)] [k9_i (S.1 (Int32.toNatClampNeg (x3 + 1))), k9_r 12 0, k9_i s0] I J else none := k9_b S 6 rfl
set_option maxRecDepth 20000 in
theorem k9e_247_1047 : k9_R S (d + 1) 247 1047 [some (k9_r 90 0), some (k9_r 1 0), some (k9_r 12 0), some (k9_i x3)] [k9_i s2, k9_r 12 0, k9_i s0] I J = (k9_R S d 246 0 [some (k9_r 12 0), some (k9_i s2)] [] I J).bind fun q => k9_R S (d + 1) 247 1048 [some (k9_r 90 0), some (k9_r 1 0), some (k9_r 12 0), some (k9_i x3)] (k9_ps q.1 [k9_i s0]) q.2.1 q.2.2 := k9_b S 1 rfl
set_option maxRecDepth 20000 in
theorem k9e_247_1048 : k9_R S d 247 1048 [some (k9_r 90 0), some (k9_r 1 0), some (k9_r 12 0), some (k9_i x3)] [k9_i s1, k9_i s0] I J = if s0.toInt = s1.toInt then k9_R S d 247 1051 [some (k9_r 90 0), some (k9_r 1 0), some (k9_r 12 0), some (k9_i x3)] [] I J else k9_R S d 247 1049 [some (k9_r 90 0), some (k9_r 1 0), some (k9_r 12 0), some (k9_i x3)] [] I J := k9_bc S 1 (k9c_eq rfl rfl) rfl
set_option maxRecDepth 20000 in
theorem k9e_247_1049 : k9_R S d 247 1049 [some (k9_r 90 0), some (k9_r 1 0), some (k9_r 12 0), some (k9_i x3)] [] I J = some (some (k9_i 0), I, J) := k9_b S 2 rfl
set_option maxRecDepth 20000 in
theorem k9e_247_1051 : k9_R S d 247 1051 [some (k9_r 90 0), some (k9_r 1 0), some (k9_r 12 0), some (k9_i x3)] [] I J = k9_R S d 247 10 [some (k9_r 90 0), some (k9_r 1 0), some (k9_r 12 0), some (k9_i (x3 + 6))] [] I J := k9_b S 2 rfl
set_option maxRecDepth 20000 in
theorem k9e_247_1053 : k9_R S d 247 1053 [some (k9_r 90 0), some (k9_r 1 0), some (k9_r 12 0), some (k9_i x3)] [] I J = some (some (k9_i 1), I, J) := k9_b S 2 rfl
end KEblkL
