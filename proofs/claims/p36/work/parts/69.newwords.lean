-- printed by wip/p36/gen_n2.py: the words of the constructors
theorem oi_i : Cond.instanceMethod Lib.objectInit ∈ qw := qw_mem (i := 62) (by decide +kernel) rfl
theorem oi_c : Cond.code Lib.objectInit ⟨#[0xb1]⟩ 1 none ∈ qw := qw_mem (i := 63) (by decide +kernel) rfl
theorem ac_int : Cond.arrayClass .int ∈ qw := qw_mem (i := 90) (by decide +kernel) rfl
theorem ac_char : Cond.arrayClass .char ∈ qw := qw_mem (i := 218) (by decide +kernel) rfl
theorem ac_boolean : Cond.arrayClass .boolean ∈ qw := qw_mem (i := 219) (by decide +kernel) rfl
theorem ins_X0 : Cond.instantiable RX0 6 ∈ qw := qw_mem (i := 98) (by decide +kernel) rfl
theorem ini_X0 : Cond.initialized RX0 ∈ qw := qw_mem (i := 33) (by decide +kernel) rfl
theorem ol_X0 : Cond.methodLink RX0 3 Lib.objectInit ∈ qw := qw_mem (i := 102) (by decide +kernel) rfl
theorem mi_X0_init : nMi yX0_init cX0_init 1 := ⟨qw_mem (i := 100) (by decide +kernel) rfl, ini_X0, qw_mem (i := 101) (by decide +kernel) rfl, rfl, by decide, by decide, by decide +kernel⟩
theorem ins_X2 : Cond.instantiable RX2 9 ∈ qw := qw_mem (i := 190) (by decide +kernel) rfl
theorem ini_X2 : Cond.initialized RX2 ∈ qw := qw_mem (i := 36) (by decide +kernel) rfl
theorem ol_X2 : Cond.methodLink RX2 3 Lib.objectInit ∈ qw := qw_mem (i := 194) (by decide +kernel) rfl
theorem mi_X2_init : nMi yX2_init cX2_init 2 := ⟨qw_mem (i := 192) (by decide +kernel) rfl, ini_X2, qw_mem (i := 193) (by decide +kernel) rfl, rfl, by decide, by decide, by decide +kernel⟩
theorem ins_X3 : Cond.instantiable RX3 14 ∈ qw := qw_mem (i := 278) (by decide +kernel) rfl
theorem ini_X3 : Cond.initialized RX3 ∈ qw := qw_mem (i := 38) (by decide +kernel) rfl
theorem ol_X3 : Cond.methodLink RX3 3 Lib.objectInit ∈ qw := qw_mem (i := 282) (by decide +kernel) rfl
theorem mi_X3_init : nMi yX3_init cX3_init 1 := ⟨qw_mem (i := 280) (by decide +kernel) rfl, ini_X3, qw_mem (i := 281) (by decide +kernel) rfl, rfl, by decide, by decide, by decide +kernel⟩
theorem ins_X4 : Cond.instantiable RX4 5 ∈ qw := qw_mem (i := 92) (by decide +kernel) rfl
theorem ini_X4 : Cond.initialized RX4 ∈ qw := qw_mem (i := 32) (by decide +kernel) rfl
theorem ol_X4 : Cond.methodLink RX4 3 Lib.objectInit ∈ qw := qw_mem (i := 96) (by decide +kernel) rfl
theorem mi_X4_init : nMi yX4_init cX4_init 1 := ⟨qw_mem (i := 94) (by decide +kernel) rfl, ini_X4, qw_mem (i := 95) (by decide +kernel) rfl, rfl, by decide, by decide, by decide +kernel⟩
theorem ins_X5 : Cond.instantiable RX5 6 ∈ qw := qw_mem (i := 184) (by decide +kernel) rfl
theorem ini_X5 : Cond.initialized RX5 ∈ qw := qw_mem (i := 35) (by decide +kernel) rfl
theorem ol_X5 : Cond.methodLink RX5 3 Lib.objectInit ∈ qw := qw_mem (i := 188) (by decide +kernel) rfl
theorem mi_X5_init : nMi yX5_init cX5_init 1 := ⟨qw_mem (i := 186) (by decide +kernel) rfl, ini_X5, qw_mem (i := 187) (by decide +kernel) rfl, rfl, by decide, by decide, by decide +kernel⟩
theorem ins_X6 : Cond.instantiable RX6 3 ∈ qw := qw_mem (i := 196) (by decide +kernel) rfl
theorem ini_X6 : Cond.initialized RX6 ∈ qw := qw_mem (i := 37) (by decide +kernel) rfl
theorem ol_X6 : Cond.methodLink RX6 3 Lib.objectInit ∈ qw := qw_mem (i := 200) (by decide +kernel) rfl
theorem mi_X6_init : nMi yX6_init cX6_init 2 := ⟨qw_mem (i := 198) (by decide +kernel) rfl, ini_X6, qw_mem (i := 199) (by decide +kernel) rfl, rfl, by decide, by decide, by decide +kernel⟩
theorem ins_X7 : Cond.instantiable RX7 4 ∈ qw := qw_mem (i := 104) (by decide +kernel) rfl
theorem ini_X7 : Cond.initialized RX7 ∈ qw := qw_mem (i := 34) (by decide +kernel) rfl
theorem ol_X7 : Cond.methodLink RX7 3 Lib.objectInit ∈ qw := qw_mem (i := 108) (by decide +kernel) rfl
theorem mi_X7_init : nMi yX7_init cX7_init 1 := ⟨qw_mem (i := 106) (by decide +kernel) rfl, ini_X7, qw_mem (i := 107) (by decide +kernel) rfl, rfl, by decide, by decide, by decide +kernel⟩
theorem ins_X8 : Cond.instantiable RX8 4 ∈ qw := qw_mem (i := 69) (by decide +kernel) rfl
theorem ini_X8 : Cond.initialized RX8 ∈ qw := qw_mem (i := 31) (by decide +kernel) rfl
theorem ol_X8 : Cond.methodLink RX8 3 Lib.objectInit ∈ qw := qw_mem (i := 73) (by decide +kernel) rfl
theorem mi_X8_init : nMi yX8_init cX8_init 1 := ⟨qw_mem (i := 71) (by decide +kernel) rfl, ini_X8, qw_mem (i := 72) (by decide +kernel) rfl, rfl, by decide, by decide, by decide +kernel⟩
theorem ins_X9 : Cond.instantiable RX9 9 ∈ qw := qw_mem (i := 57) (by decide +kernel) rfl
theorem ini_X9 : Cond.initialized RX9 ∈ qw := qw_mem (i := 30) (by decide +kernel) rfl
theorem ol_X9 : Cond.methodLink RX9 1 Lib.objectInit ∈ qw := qw_mem (i := 61) (by decide +kernel) rfl
theorem mi_X9_init : nMi yX9_init cX9_init 2 := ⟨qw_mem (i := 59) (by decide +kernel) rfl, ini_X9, qw_mem (i := 60) (by decide +kernel) rfl, rfl, by decide, by decide, by decide +kernel⟩
theorem cw_L_12 : Cond.classLink RL 12 RX9 ∈ qw := qw_mem (i := 56) (by decide +kernel) rfl
theorem cw_X9_9 : Cond.classLink RX9 9 RX5 ∈ qw := qw_mem (i := 64) (by decide +kernel) rfl
theorem cw_X9_15 : Cond.classLink RX9 15 RX0 ∈ qw := qw_mem (i := 66) (by decide +kernel) rfl
theorem cw_X9_28 : Cond.classLink RX9 28 RX8 ∈ qw := qw_mem (i := 68) (by decide +kernel) rfl
theorem cw_X9_38 : Cond.classLink RX9 38 RX4 ∈ qw := qw_mem (i := 91) (by decide +kernel) rfl
theorem cw_X4_9 : Cond.classLink RX4 9 RX0 ∈ qw := qw_mem (i := 97) (by decide +kernel) rfl
theorem cw_X0_9 : Cond.classLink RX0 9 RX7 ∈ qw := qw_mem (i := 103) (by decide +kernel) rfl
theorem cw_X4_18 : Cond.classLink RX4 18 RX7 ∈ qw := qw_mem (i := 164) (by decide +kernel) rfl
theorem cw_X5_9 : Cond.classLink RX5 9 RX2 ∈ qw := qw_mem (i := 189) (by decide +kernel) rfl
theorem cw_X2_35 : Cond.classLink RX2 35 RX6 ∈ qw := qw_mem (i := 195) (by decide +kernel) rfl
theorem cw_X5_18 : Cond.classLink RX5 18 RX3 ∈ qw := qw_mem (i := 277) (by decide +kernel) rfl
theorem np_X0_12 : nFp RX0 12 0 0 (tyX0 0) true := ⟨RX0, TX0, 6, tyX0, rfl, in_X0, by decide, qw_mem (i := 135) (by decide +kernel) rfl, tyX0_ok, nmX0, rfl, rfl, tyX0_ok 0 (by decide)⟩
theorem np_X0_18 : nFp RX0 18 0 1 (tyX0 1) false := ⟨RX0, TX0, 6, tyX0, rfl, in_X0, by decide, qw_mem (i := 139) (by decide +kernel) rfl, tyX0_ok, nmX0, rfl, rfl, tyX0_ok 1 (by decide)⟩
theorem np_X0_22 : nFp RX0 22 0 2 (tyX0 2) true := ⟨RX0, TX0, 6, tyX0, rfl, in_X0, by decide, qw_mem (i := 143) (by decide +kernel) rfl, tyX0_ok, nmX0, rfl, rfl, tyX0_ok 2 (by decide)⟩
theorem np_X0_26 : nFp RX0 26 0 3 (tyX0 3) true := ⟨RX0, TX0, 6, tyX0, rfl, in_X0, by decide, qw_mem (i := 145) (by decide +kernel) rfl, tyX0_ok, nmX0, rfl, rfl, tyX0_ok 3 (by decide)⟩
theorem np_X0_29 : nFp RX0 29 0 4 (tyX0 4) true := ⟨RX0, TX0, 6, tyX0, rfl, in_X0, by decide, qw_mem (i := 147) (by decide +kernel) rfl, tyX0_ok, nmX0, rfl, rfl, tyX0_ok 4 (by decide)⟩
theorem np_X0_32 : nFp RX0 32 0 5 (tyX0 5) true := ⟨RX0, TX0, 6, tyX0, rfl, in_X0, by decide, qw_mem (i := 149) (by decide +kernel) rfl, tyX0_ok, nmX0, rfl, rfl, tyX0_ok 5 (by decide)⟩
theorem np_X2_9 : nFp RX2 9 1 0 (tyX2 0) true := ⟨RX2, TX2, 9, tyX2, rfl, in_X2, by decide, qw_mem (i := 220) (by decide +kernel) rfl, tyX2_ok, nmX2, rfl, rfl, tyX2_ok 0 (by decide)⟩
theorem np_X2_15 : nFp RX2 15 1 1 (tyX2 1) true := ⟨RX2, TX2, 9, tyX2, rfl, in_X2, by decide, qw_mem (i := 225) (by decide +kernel) rfl, tyX2_ok, nmX2, rfl, rfl, tyX2_ok 1 (by decide)⟩
theorem np_X2_19 : nFp RX2 19 1 2 (tyX2 2) true := ⟨RX2, TX2, 9, tyX2, rfl, in_X2, by decide, qw_mem (i := 228) (by decide +kernel) rfl, tyX2_ok, nmX2, rfl, rfl, tyX2_ok 2 (by decide)⟩
theorem np_X2_22 : nFp RX2 22 1 3 (tyX2 3) true := ⟨RX2, TX2, 9, tyX2, rfl, in_X2, by decide, qw_mem (i := 231) (by decide +kernel) rfl, tyX2_ok, nmX2, rfl, rfl, tyX2_ok 3 (by decide)⟩
theorem np_X2_25 : nFp RX2 25 1 4 (tyX2 4) true := ⟨RX2, TX2, 9, tyX2, rfl, in_X2, by decide, qw_mem (i := 235) (by decide +kernel) rfl, tyX2_ok, nmX2, rfl, rfl, tyX2_ok 4 (by decide)⟩
theorem np_X2_28 : nFp RX2 28 1 5 (tyX2 5) true := ⟨RX2, TX2, 9, tyX2, rfl, in_X2, by decide, qw_mem (i := 239) (by decide +kernel) rfl, tyX2_ok, nmX2, rfl, rfl, tyX2_ok 5 (by decide)⟩
theorem np_X2_32 : nFp RX2 32 1 6 (tyX2 6) true := ⟨RX2, TX2, 9, tyX2, rfl, in_X2, by decide, qw_mem (i := 244) (by decide +kernel) rfl, tyX2_ok, nmX2, rfl, rfl, tyX2_ok 6 (by decide)⟩
theorem np_X2_38 : nFp RX2 38 1 7 (tyX2 7) true := ⟨RX2, TX2, 9, tyX2, rfl, in_X2, by decide, qw_mem (i := 248) (by decide +kernel) rfl, tyX2_ok, nmX2, rfl, rfl, tyX2_ok 7 (by decide)⟩
theorem np_X2_42 : nFp RX2 42 1 8 (tyX2 8) true := ⟨RX2, TX2, 9, tyX2, rfl, in_X2, by decide, qw_mem (i := 253) (by decide +kernel) rfl, tyX2_ok, nmX2, rfl, rfl, tyX2_ok 8 (by decide)⟩
theorem np_X3_9 : nFp RX3 9 2 2 (tyX3 2) true := ⟨RX3, TX3, 14, tyX3, rfl, in_X3, by decide, qw_mem (i := 289) (by decide +kernel) rfl, tyX3_ok, nmX3, rfl, rfl, tyX3_ok 2 (by decide)⟩
theorem np_X3_15 : nFp RX3 15 2 3 (tyX3 3) true := ⟨RX3, TX3, 14, tyX3, rfl, in_X3, by decide, qw_mem (i := 292) (by decide +kernel) rfl, tyX3_ok, nmX3, rfl, rfl, tyX3_ok 3 (by decide)⟩
theorem np_X3_18 : nFp RX3 18 2 4 (tyX3 4) true := ⟨RX3, TX3, 14, tyX3, rfl, in_X3, by decide, qw_mem (i := 293) (by decide +kernel) rfl, tyX3_ok, nmX3, rfl, rfl, tyX3_ok 4 (by decide)⟩
theorem np_X3_21 : nFp RX3 21 2 5 (tyX3 5) true := ⟨RX3, TX3, 14, tyX3, rfl, in_X3, by decide, qw_mem (i := 295) (by decide +kernel) rfl, tyX3_ok, nmX3, rfl, rfl, tyX3_ok 5 (by decide)⟩
theorem np_X3_24 : nFp RX3 24 2 6 (tyX3 6) true := ⟨RX3, TX3, 14, tyX3, rfl, in_X3, by decide, qw_mem (i := 297) (by decide +kernel) rfl, tyX3_ok, nmX3, rfl, rfl, tyX3_ok 6 (by decide)⟩
theorem np_X3_27 : nFp RX3 27 2 7 (tyX3 7) true := ⟨RX3, TX3, 14, tyX3, rfl, in_X3, by decide, qw_mem (i := 298) (by decide +kernel) rfl, tyX3_ok, nmX3, rfl, rfl, tyX3_ok 7 (by decide)⟩
theorem np_X3_30 : nFp RX3 30 2 8 (tyX3 8) true := ⟨RX3, TX3, 14, tyX3, rfl, in_X3, by decide, qw_mem (i := 300) (by decide +kernel) rfl, tyX3_ok, nmX3, rfl, rfl, tyX3_ok 8 (by decide)⟩
theorem np_X3_33 : nFp RX3 33 2 9 (tyX3 9) true := ⟨RX3, TX3, 14, tyX3, rfl, in_X3, by decide, qw_mem (i := 303) (by decide +kernel) rfl, tyX3_ok, nmX3, rfl, rfl, tyX3_ok 9 (by decide)⟩
theorem np_X3_40 : nFp RX3 40 2 13 (tyX3 13) true := ⟨RX3, TX3, 14, tyX3, rfl, in_X3, by decide, qw_mem (i := 311) (by decide +kernel) rfl, tyX3_ok, nmX3, rfl, rfl, tyX3_ok 13 (by decide)⟩
theorem np_X4_12 : nFp RX4 12 3 0 (tyX4 0) true := ⟨RX4, TX4, 5, tyX4, rfl, in_X4, by decide, qw_mem (i := 167) (by decide +kernel) rfl, tyX4_ok, nmX4, rfl, rfl, tyX4_ok 0 (by decide)⟩
theorem np_X4_21 : nFp RX4 21 3 1 (tyX4 1) true := ⟨RX4, TX4, 5, tyX4, rfl, in_X4, by decide, qw_mem (i := 169) (by decide +kernel) rfl, tyX4_ok, nmX4, rfl, rfl, tyX4_ok 1 (by decide)⟩
theorem np_X4_25 : nFp RX4 25 3 2 (tyX4 2) false := ⟨RX4, TX4, 5, tyX4, rfl, in_X4, by decide, qw_mem (i := 170) (by decide +kernel) rfl, tyX4_ok, nmX4, rfl, rfl, tyX4_ok 2 (by decide)⟩
theorem np_X4_29 : nFp RX4 29 3 3 (tyX4 3) false := ⟨RX4, TX4, 5, tyX4, rfl, in_X4, by decide, qw_mem (i := 171) (by decide +kernel) rfl, tyX4_ok, nmX4, rfl, rfl, tyX4_ok 3 (by decide)⟩
theorem np_X4_33 : nFp RX4 33 3 4 (tyX4 4) false := ⟨RX4, TX4, 5, tyX4, rfl, in_X4, by decide, qw_mem (i := 172) (by decide +kernel) rfl, tyX4_ok, nmX4, rfl, rfl, tyX4_ok 4 (by decide)⟩
theorem np_X5_12 : nFp RX5 12 4 0 (tyX5 0) true := ⟨RX5, TX5, 6, tyX5, rfl, in_X5, by decide, qw_mem (i := 342) (by decide +kernel) rfl, tyX5_ok, nmX5, rfl, rfl, tyX5_ok 0 (by decide)⟩
theorem np_X5_21 : nFp RX5 21 4 1 (tyX5 1) true := ⟨RX5, TX5, 6, tyX5, rfl, in_X5, by decide, qw_mem (i := 344) (by decide +kernel) rfl, tyX5_ok, nmX5, rfl, rfl, tyX5_ok 1 (by decide)⟩
theorem np_X5_25 : nFp RX5 25 4 2 (tyX5 2) false := ⟨RX5, TX5, 6, tyX5, rfl, in_X5, by decide, qw_mem (i := 346) (by decide +kernel) rfl, tyX5_ok, nmX5, rfl, rfl, tyX5_ok 2 (by decide)⟩
theorem np_X5_29 : nFp RX5 29 4 3 (tyX5 3) false := ⟨RX5, TX5, 6, tyX5, rfl, in_X5, by decide, qw_mem (i := 347) (by decide +kernel) rfl, tyX5_ok, nmX5, rfl, rfl, tyX5_ok 3 (by decide)⟩
theorem np_X5_33 : nFp RX5 33 4 4 (tyX5 4) false := ⟨RX5, TX5, 6, tyX5, rfl, in_X5, by decide, qw_mem (i := 348) (by decide +kernel) rfl, tyX5_ok, nmX5, rfl, rfl, tyX5_ok 4 (by decide)⟩
theorem np_X5_36 : nFp RX5 36 4 5 (tyX5 5) false := ⟨RX5, TX5, 6, tyX5, rfl, in_X5, by decide, qw_mem (i := 349) (by decide +kernel) rfl, tyX5_ok, nmX5, rfl, rfl, tyX5_ok 5 (by decide)⟩
theorem np_X6_9 : nFp RX6 9 5 0 (tyX6 0) true := ⟨RX6, TX6, 3, tyX6, rfl, in_X6, by decide, qw_mem (i := 201) (by decide +kernel) rfl, tyX6_ok, nmX6, rfl, rfl, tyX6_ok 0 (by decide)⟩
theorem np_X6_15 : nFp RX6 15 5 1 (tyX6 1) true := ⟨RX6, TX6, 3, tyX6, rfl, in_X6, by decide, qw_mem (i := 205) (by decide +kernel) rfl, tyX6_ok, nmX6, rfl, rfl, tyX6_ok 1 (by decide)⟩
theorem np_X6_18 : nFp RX6 18 5 2 (tyX6 2) true := ⟨RX6, TX6, 3, tyX6, rfl, in_X6, by decide, qw_mem (i := 209) (by decide +kernel) rfl, tyX6_ok, nmX6, rfl, rfl, tyX6_ok 2 (by decide)⟩
theorem np_X7_9 : nFp RX7 9 6 0 (tyX7 0) false := ⟨RX7, TX7, 4, tyX7, rfl, in_X7, by decide, qw_mem (i := 109) (by decide +kernel) rfl, tyX7_ok, nmX7, rfl, rfl, tyX7_ok 0 (by decide)⟩
theorem np_X7_15 : nFp RX7 15 6 1 (tyX7 1) false := ⟨RX7, TX7, 4, tyX7, rfl, in_X7, by decide, qw_mem (i := 113) (by decide +kernel) rfl, tyX7_ok, nmX7, rfl, rfl, tyX7_ok 1 (by decide)⟩
theorem np_X7_19 : nFp RX7 19 6 2 (tyX7 2) false := ⟨RX7, TX7, 4, tyX7, rfl, in_X7, by decide, qw_mem (i := 117) (by decide +kernel) rfl, tyX7_ok, nmX7, rfl, rfl, tyX7_ok 2 (by decide)⟩
theorem np_X7_22 : nFp RX7 22 6 3 (tyX7 3) false := ⟨RX7, TX7, 4, tyX7, rfl, in_X7, by decide, qw_mem (i := 121) (by decide +kernel) rfl, tyX7_ok, nmX7, rfl, rfl, tyX7_ok 3 (by decide)⟩
theorem np_X8_9 : nFp RX8 9 7 0 (tyX8 0) false := ⟨RX8, TX8, 4, tyX8, rfl, in_X8, by decide, qw_mem (i := 74) (by decide +kernel) rfl, tyX8_ok, nmX8, rfl, rfl, tyX8_ok 0 (by decide)⟩
theorem np_X8_15 : nFp RX8 15 7 1 (tyX8 1) false := ⟨RX8, TX8, 4, tyX8, rfl, in_X8, by decide, qw_mem (i := 76) (by decide +kernel) rfl, tyX8_ok, nmX8, rfl, rfl, tyX8_ok 1 (by decide)⟩
theorem np_X8_19 : nFp RX8 19 7 2 (tyX8 2) false := ⟨RX8, TX8, 4, tyX8, rfl, in_X8, by decide, qw_mem (i := 78) (by decide +kernel) rfl, tyX8_ok, nmX8, rfl, rfl, tyX8_ok 2 (by decide)⟩
theorem np_X8_23 : nFp RX8 23 7 3 (tyX8 3) true := ⟨RX8, TX8, 4, tyX8, rfl, in_X8, by decide, qw_mem (i := 80) (by decide +kernel) rfl, tyX8_ok, nmX8, rfl, rfl, tyX8_ok 3 (by decide)⟩
theorem np_X9_11 : nFp RX9 11 8 0 (tyX9 0) true := ⟨RX9, TX9, 9, tyX9, rfl, in_X9, by decide, qw_mem (i := 364) (by decide +kernel) rfl, tyX9_ok, nmX9, rfl, rfl, tyX9_ok 0 (by decide)⟩
theorem np_X9_17 : nFp RX9 17 8 1 (tyX9 1) true := ⟨RX9, TX9, 9, tyX9, rfl, in_X9, by decide, qw_mem (i := 365) (by decide +kernel) rfl, tyX9_ok, nmX9, rfl, rfl, tyX9_ok 1 (by decide)⟩
theorem np_X9_21 : nFp RX9 21 8 2 (tyX9 2) true := ⟨RX9, TX9, 9, tyX9, rfl, in_X9, by decide, qw_mem (i := 366) (by decide +kernel) rfl, tyX9_ok, nmX9, rfl, rfl, tyX9_ok 2 (by decide)⟩
theorem np_X9_24 : nFp RX9 24 8 3 (tyX9 3) true := ⟨RX9, TX9, 9, tyX9, rfl, in_X9, by decide, qw_mem (i := 367) (by decide +kernel) rfl, tyX9_ok, nmX9, rfl, rfl, tyX9_ok 3 (by decide)⟩
theorem np_X9_31 : nFp RX9 31 8 4 (tyX9 4) true := ⟨RX9, TX9, 9, tyX9, rfl, in_X9, by decide, qw_mem (i := 368) (by decide +kernel) rfl, tyX9_ok, nmX9, rfl, rfl, tyX9_ok 4 (by decide)⟩
theorem np_X9_35 : nFp RX9 35 8 5 (tyX9 5) true := ⟨RX9, TX9, 9, tyX9, rfl, in_X9, by decide, qw_mem (i := 369) (by decide +kernel) rfl, tyX9_ok, nmX9, rfl, rfl, tyX9_ok 5 (by decide)⟩
theorem np_X9_41 : nFp RX9 41 8 6 (tyX9 6) true := ⟨RX9, TX9, 9, tyX9, rfl, in_X9, by decide, qw_mem (i := 370) (by decide +kernel) rfl, tyX9_ok, nmX9, rfl, rfl, tyX9_ok 6 (by decide)⟩
theorem np_X9_45 : nFp RX9 45 8 7 (tyX9 7) true := ⟨RX9, TX9, 9, tyX9, rfl, in_X9, by decide, qw_mem (i := 371) (by decide +kernel) rfl, tyX9_ok, nmX9, rfl, rfl, tyX9_ok 7 (by decide)⟩
theorem np_X9_48 : nFp RX9 48 8 8 (tyX9 8) false := ⟨RX9, TX9, 9, tyX9, rfl, in_X9, by decide, qw_mem (i := 372) (by decide +kernel) rfl, tyX9_ok, nmX9, rfl, rfl, tyX9_ok 8 (by decide)⟩
