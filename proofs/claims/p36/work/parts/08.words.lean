-- printed by wip/p36/gen_words.py: the words of the tables by their places
theorem q_in {ws : List Cond} (ps : List Nat) (hp : ws = ps.filterMap (fun i => lw_tbl[i]?)) (hg : ws.all goodWord = true) : ∀ w ∈ ws, w ∈ qw := by
  intro w hw
  have h1 := List.all_eq_true.mp hg w hw
  rw [hp] at hw
  obtain ⟨i, -, hi⟩ := List.mem_filterMap.mp hw
  exact qw_mem hi h1
theorem q_hD {Γ : qG} {cc : ByteArray} {own : String} {nL : Nat} {rt : Option FieldType} {R : Room} {po : Option Value → qM → Prop} (hC : qC Γ cc own nL rt R po) : q_D Γ.1.2.2.2.1 := by
  obtain ⟨⟨l, D, cy, ad, o⟩, ⟨p, e, s⟩, ⟨m, args, below, meth, c⟩, Q⟩ := Γ
  exact hC.2.2.2.2.2.2.2.2.1
theorem in_X0 : ∀ w ∈ u_ws RX0 TX0 6, w ∈ qw := q_in [151, 153, 155, 157, 159, 161] (by decide +kernel) (by decide +kernel)
theorem in_X2 : ∀ w ∈ u_ws RX2 TX2 9, w ∈ qw := q_in [258, 260, 262, 264, 266, 268, 270, 272, 274] (by decide +kernel) (by decide +kernel)
theorem in_X3 : ∀ w ∈ u_ws RX3 TX3 14, w ∈ qw := q_in [313, 315, 317, 319, 321, 323, 325, 327, 329, 331, 333, 335, 337, 339] (by decide +kernel) (by decide +kernel)
theorem in_X4 : ∀ w ∈ u_ws RX4 TX4 5, w ∈ qw := q_in [173, 175, 177, 179, 181] (by decide +kernel) (by decide +kernel)
theorem in_X5 : ∀ w ∈ u_ws RX5 TX5 6, w ∈ qw := q_in [350, 352, 354, 356, 358, 360] (by decide +kernel) (by decide +kernel)
theorem in_X6 : ∀ w ∈ u_ws RX6 TX6 3, w ∈ qw := q_in [211, 213, 215] (by decide +kernel) (by decide +kernel)
theorem in_X7 : ∀ w ∈ u_ws RX7 TX7 4, w ∈ qw := q_in [126, 128, 130, 132] (by decide +kernel) (by decide +kernel)
theorem in_X8 : ∀ w ∈ u_ws RX8 TX8 4, w ∈ qw := q_in [81, 83, 85, 87] (by decide +kernel) (by decide +kernel)
theorem in_X9 : ∀ w ∈ u_ws RX9 TX9 9, w ∈ qw := q_in [373, 375, 377, 379, 381, 383, 385, 387, 389] (by decide +kernel) (by decide +kernel)
theorem f_X9_11 : qFd RX9 11 8 0 := ⟨RX9, TX9, 9, rfl, in_X9, by decide, qw_mem (i := 364) (by decide +kernel) rfl⟩
theorem f_X9_17 : qFd RX9 17 8 1 := ⟨RX9, TX9, 9, rfl, in_X9, by decide, qw_mem (i := 365) (by decide +kernel) rfl⟩
theorem f_X9_21 : qFd RX9 21 8 2 := ⟨RX9, TX9, 9, rfl, in_X9, by decide, qw_mem (i := 366) (by decide +kernel) rfl⟩
theorem f_X9_24 : qFd RX9 24 8 3 := ⟨RX9, TX9, 9, rfl, in_X9, by decide, qw_mem (i := 367) (by decide +kernel) rfl⟩
theorem f_X9_31 : qFd RX9 31 8 4 := ⟨RX9, TX9, 9, rfl, in_X9, by decide, qw_mem (i := 368) (by decide +kernel) rfl⟩
theorem f_X9_35 : qFd RX9 35 8 5 := ⟨RX9, TX9, 9, rfl, in_X9, by decide, qw_mem (i := 369) (by decide +kernel) rfl⟩
theorem f_X9_41 : qFd RX9 41 8 6 := ⟨RX9, TX9, 9, rfl, in_X9, by decide, qw_mem (i := 370) (by decide +kernel) rfl⟩
theorem f_X9_45 : qFd RX9 45 8 7 := ⟨RX9, TX9, 9, rfl, in_X9, by decide, qw_mem (i := 371) (by decide +kernel) rfl⟩
theorem f_X9_48 : qFd RX9 48 8 8 := ⟨RX9, TX9, 9, rfl, in_X9, by decide, qw_mem (i := 372) (by decide +kernel) rfl⟩
theorem fp_X9_48 : qFp RX9 48 8 8 .int := ⟨RX9, TX9, 9, tyX9, rfl, in_X9, by decide, qw_mem (i := 372) (by decide +kernel) rfl, tyX9_ok, nmX9, rfl, by decide +kernel⟩
theorem f_X9_66 : qFd RX9 66 4 0 := ⟨RX5, TX5, 6, rfl, in_X5, by decide, qw_mem (i := 343) (by decide +kernel) rfl⟩
theorem f_X9_70 : qFd RX9 70 1 0 := ⟨RX2, TX2, 9, rfl, in_X2, by decide, qw_mem (i := 223) (by decide +kernel) rfl⟩
theorem f_X9_91 : qFd RX9 91 1 5 := ⟨RX2, TX2, 9, rfl, in_X2, by decide, qw_mem (i := 242) (by decide +kernel) rfl⟩
theorem f_X9_101 : qFd RX9 101 1 4 := ⟨RX2, TX2, 9, rfl, in_X2, by decide, qw_mem (i := 237) (by decide +kernel) rfl⟩
theorem f_X9_104 : qFd RX9 104 1 6 := ⟨RX2, TX2, 9, rfl, in_X2, by decide, qw_mem (i := 247) (by decide +kernel) rfl⟩
theorem f_X9_119 : qFd RX9 119 1 7 := ⟨RX2, TX2, 9, rfl, in_X2, by decide, qw_mem (i := 251) (by decide +kernel) rfl⟩
theorem f_X9_133 : qFd RX9 133 1 8 := ⟨RX2, TX2, 9, rfl, in_X2, by decide, qw_mem (i := 255) (by decide +kernel) rfl⟩
theorem f_X9_166 : qFd RX9 166 0 1 := ⟨RX0, TX0, 6, rfl, in_X0, by decide, qw_mem (i := 142) (by decide +kernel) rfl⟩
theorem f_X9_172 : qFd RX9 172 0 0 := ⟨RX0, TX0, 6, rfl, in_X0, by decide, qw_mem (i := 138) (by decide +kernel) rfl⟩
theorem f_X9_176 : qFd RX9 176 6 0 := ⟨RX7, TX7, 4, rfl, in_X7, by decide, qw_mem (i := 112) (by decide +kernel) rfl⟩
theorem fp_X9_176 : qFp RX9 176 6 0 .boolean := ⟨RX7, TX7, 4, tyX7, rfl, in_X7, by decide, qw_mem (i := 112) (by decide +kernel) rfl, tyX7_ok, nmX7, rfl, by decide +kernel⟩
theorem f_X9_183 : qFd RX9 183 6 1 := ⟨RX7, TX7, 4, rfl, in_X7, by decide, qw_mem (i := 116) (by decide +kernel) rfl⟩
theorem fp_X9_183 : qFp RX9 183 6 1 .int := ⟨RX7, TX7, 4, tyX7, rfl, in_X7, by decide, qw_mem (i := 116) (by decide +kernel) rfl, tyX7_ok, nmX7, rfl, by decide +kernel⟩
theorem f_X9_185 : qFd RX9 185 6 2 := ⟨RX7, TX7, 4, rfl, in_X7, by decide, qw_mem (i := 120) (by decide +kernel) rfl⟩
theorem fp_X9_185 : qFp RX9 185 6 2 .int := ⟨RX7, TX7, 4, tyX7, rfl, in_X7, by decide, qw_mem (i := 120) (by decide +kernel) rfl, tyX7_ok, nmX7, rfl, by decide +kernel⟩
theorem f_X9_196 : qFd RX9 196 6 3 := ⟨RX7, TX7, 4, rfl, in_X7, by decide, qw_mem (i := 125) (by decide +kernel) rfl⟩
theorem fp_X9_196 : qFp RX9 196 6 3 .int := ⟨RX7, TX7, 4, tyX7, rfl, in_X7, by decide, qw_mem (i := 125) (by decide +kernel) rfl, tyX7_ok, nmX7, rfl, by decide +kernel⟩
theorem f_X9_242 : qFd RX9 242 7 1 := ⟨RX8, TX8, 4, rfl, in_X8, by decide, qw_mem (i := 77) (by decide +kernel) rfl⟩
theorem f_X9_245 : qFd RX9 245 7 0 := ⟨RX8, TX8, 4, rfl, in_X8, by decide, qw_mem (i := 75) (by decide +kernel) rfl⟩
theorem f_X9_248 : qFd RX9 248 7 2 := ⟨RX8, TX8, 4, rfl, in_X8, by decide, qw_mem (i := 79) (by decide +kernel) rfl⟩
theorem f_X9_259 : qFd RX9 259 3 0 := ⟨RX4, TX4, 5, rfl, in_X4, by decide, qw_mem (i := 168) (by decide +kernel) rfl⟩
theorem fs_X9_325 : Cond.fieldLink RX9 325 RX9 "KINDS" "[C" ∈ qw := qw_mem (i := 1108) (by decide +kernel) rfl
theorem f_X0_12 : qFd RX0 12 0 0 := ⟨RX0, TX0, 6, rfl, in_X0, by decide, qw_mem (i := 135) (by decide +kernel) rfl⟩
theorem f_X0_18 : qFd RX0 18 0 1 := ⟨RX0, TX0, 6, rfl, in_X0, by decide, qw_mem (i := 139) (by decide +kernel) rfl⟩
theorem fp_X0_18 : qFp RX0 18 0 1 .int := ⟨RX0, TX0, 6, tyX0, rfl, in_X0, by decide, qw_mem (i := 139) (by decide +kernel) rfl, tyX0_ok, nmX0, rfl, by decide +kernel⟩
theorem f_X0_22 : qFd RX0 22 0 2 := ⟨RX0, TX0, 6, rfl, in_X0, by decide, qw_mem (i := 143) (by decide +kernel) rfl⟩
theorem f_X0_26 : qFd RX0 26 0 3 := ⟨RX0, TX0, 6, rfl, in_X0, by decide, qw_mem (i := 145) (by decide +kernel) rfl⟩
theorem f_X0_29 : qFd RX0 29 0 4 := ⟨RX0, TX0, 6, rfl, in_X0, by decide, qw_mem (i := 147) (by decide +kernel) rfl⟩
theorem f_X0_32 : qFd RX0 32 0 5 := ⟨RX0, TX0, 6, rfl, in_X0, by decide, qw_mem (i := 149) (by decide +kernel) rfl⟩
theorem f_X1_9 : qFd RX1 9 1 0 := ⟨RX2, TX2, 9, rfl, in_X2, by decide, qw_mem (i := 221) (by decide +kernel) rfl⟩
theorem f_X1_21 : qFd RX1 21 1 5 := ⟨RX2, TX2, 9, rfl, in_X2, by decide, qw_mem (i := 240) (by decide +kernel) rfl⟩
theorem f_X1_25 : qFd RX1 25 1 3 := ⟨RX2, TX2, 9, rfl, in_X2, by decide, qw_mem (i := 232) (by decide +kernel) rfl⟩
theorem f_X1_29 : qFd RX1 29 1 6 := ⟨RX2, TX2, 9, rfl, in_X2, by decide, qw_mem (i := 246) (by decide +kernel) rfl⟩
theorem f_X1_32 : qFd RX1 32 2 0 := ⟨RX3, TX3, 14, rfl, in_X3, by decide, qw_mem (i := 286) (by decide +kernel) rfl⟩
theorem f_X1_38 : qFd RX1 38 2 1 := ⟨RX3, TX3, 14, rfl, in_X3, by decide, qw_mem (i := 288) (by decide +kernel) rfl⟩
theorem f_X1_41 : qFd RX1 41 2 2 := ⟨RX3, TX3, 14, rfl, in_X3, by decide, qw_mem (i := 290) (by decide +kernel) rfl⟩
theorem f_X1_65 : qFd RX1 65 1 2 := ⟨RX2, TX2, 9, rfl, in_X2, by decide, qw_mem (i := 229) (by decide +kernel) rfl⟩
theorem f_X1_72 : qFd RX1 72 1 4 := ⟨RX2, TX2, 9, rfl, in_X2, by decide, qw_mem (i := 236) (by decide +kernel) rfl⟩
theorem f_X1_75 : qFd RX1 75 1 7 := ⟨RX2, TX2, 9, rfl, in_X2, by decide, qw_mem (i := 250) (by decide +kernel) rfl⟩
theorem f_X1_79 : qFd RX1 79 5 0 := ⟨RX6, TX6, 3, rfl, in_X6, by decide, qw_mem (i := 202) (by decide +kernel) rfl⟩
theorem f_X1_84 : qFd RX1 84 5 1 := ⟨RX6, TX6, 3, rfl, in_X6, by decide, qw_mem (i := 207) (by decide +kernel) rfl⟩
theorem f_X1_85 : qFd RX1 85 1 8 := ⟨RX2, TX2, 9, rfl, in_X2, by decide, qw_mem (i := 254) (by decide +kernel) rfl⟩
theorem f_X1_96 : qFd RX1 96 2 5 := ⟨RX3, TX3, 14, rfl, in_X3, by decide, qw_mem (i := 296) (by decide +kernel) rfl⟩
theorem f_X1_99 : qFd RX1 99 2 4 := ⟨RX3, TX3, 14, rfl, in_X3, by decide, qw_mem (i := 294) (by decide +kernel) rfl⟩
theorem f_X1_102 : qFd RX1 102 2 8 := ⟨RX3, TX3, 14, rfl, in_X3, by decide, qw_mem (i := 301) (by decide +kernel) rfl⟩
theorem f_X2_9 : qFd RX2 9 1 0 := ⟨RX2, TX2, 9, rfl, in_X2, by decide, qw_mem (i := 220) (by decide +kernel) rfl⟩
theorem f_X2_15 : qFd RX2 15 1 1 := ⟨RX2, TX2, 9, rfl, in_X2, by decide, qw_mem (i := 225) (by decide +kernel) rfl⟩
theorem f_X2_19 : qFd RX2 19 1 2 := ⟨RX2, TX2, 9, rfl, in_X2, by decide, qw_mem (i := 228) (by decide +kernel) rfl⟩
theorem f_X2_22 : qFd RX2 22 1 3 := ⟨RX2, TX2, 9, rfl, in_X2, by decide, qw_mem (i := 231) (by decide +kernel) rfl⟩
theorem f_X2_25 : qFd RX2 25 1 4 := ⟨RX2, TX2, 9, rfl, in_X2, by decide, qw_mem (i := 235) (by decide +kernel) rfl⟩
theorem f_X2_28 : qFd RX2 28 1 5 := ⟨RX2, TX2, 9, rfl, in_X2, by decide, qw_mem (i := 239) (by decide +kernel) rfl⟩
theorem f_X2_32 : qFd RX2 32 1 6 := ⟨RX2, TX2, 9, rfl, in_X2, by decide, qw_mem (i := 244) (by decide +kernel) rfl⟩
theorem f_X2_38 : qFd RX2 38 1 7 := ⟨RX2, TX2, 9, rfl, in_X2, by decide, qw_mem (i := 248) (by decide +kernel) rfl⟩
theorem f_X2_42 : qFd RX2 42 1 8 := ⟨RX2, TX2, 9, rfl, in_X2, by decide, qw_mem (i := 253) (by decide +kernel) rfl⟩
theorem f_X3_9 : qFd RX3 9 2 2 := ⟨RX3, TX3, 14, rfl, in_X3, by decide, qw_mem (i := 289) (by decide +kernel) rfl⟩
theorem f_X3_15 : qFd RX3 15 2 3 := ⟨RX3, TX3, 14, rfl, in_X3, by decide, qw_mem (i := 292) (by decide +kernel) rfl⟩
theorem f_X3_18 : qFd RX3 18 2 4 := ⟨RX3, TX3, 14, rfl, in_X3, by decide, qw_mem (i := 293) (by decide +kernel) rfl⟩
theorem f_X3_21 : qFd RX3 21 2 5 := ⟨RX3, TX3, 14, rfl, in_X3, by decide, qw_mem (i := 295) (by decide +kernel) rfl⟩
theorem f_X3_24 : qFd RX3 24 2 6 := ⟨RX3, TX3, 14, rfl, in_X3, by decide, qw_mem (i := 297) (by decide +kernel) rfl⟩
theorem f_X3_27 : qFd RX3 27 2 7 := ⟨RX3, TX3, 14, rfl, in_X3, by decide, qw_mem (i := 298) (by decide +kernel) rfl⟩
theorem f_X3_30 : qFd RX3 30 2 8 := ⟨RX3, TX3, 14, rfl, in_X3, by decide, qw_mem (i := 300) (by decide +kernel) rfl⟩
theorem f_X3_33 : qFd RX3 33 2 9 := ⟨RX3, TX3, 14, rfl, in_X3, by decide, qw_mem (i := 303) (by decide +kernel) rfl⟩
theorem f_X3_40 : qFd RX3 40 2 13 := ⟨RX3, TX3, 14, rfl, in_X3, by decide, qw_mem (i := 311) (by decide +kernel) rfl⟩
theorem f_X3_43 : qFd RX3 43 2 0 := ⟨RX3, TX3, 14, rfl, in_X3, by decide, qw_mem (i := 285) (by decide +kernel) rfl⟩
theorem fp_X3_43 : qFp RX3 43 2 0 .int := ⟨RX3, TX3, 14, tyX3, rfl, in_X3, by decide, qw_mem (i := 285) (by decide +kernel) rfl, tyX3_ok, nmX3, rfl, by decide +kernel⟩
theorem f_X3_47 : qFd RX3 47 2 1 := ⟨RX3, TX3, 14, rfl, in_X3, by decide, qw_mem (i := 287) (by decide +kernel) rfl⟩
theorem fp_X3_47 : qFp RX3 47 2 1 .int := ⟨RX3, TX3, 14, tyX3, rfl, in_X3, by decide, qw_mem (i := 287) (by decide +kernel) rfl, tyX3_ok, nmX3, rfl, by decide +kernel⟩
theorem f_X3_50 : qFd RX3 50 1 0 := ⟨RX2, TX2, 9, rfl, in_X2, by decide, qw_mem (i := 222) (by decide +kernel) rfl⟩
theorem f_X3_59 : qFd RX3 59 1 7 := ⟨RX2, TX2, 9, rfl, in_X2, by decide, qw_mem (i := 249) (by decide +kernel) rfl⟩
theorem f_X3_74 : qFd RX3 74 1 6 := ⟨RX2, TX2, 9, rfl, in_X2, by decide, qw_mem (i := 245) (by decide +kernel) rfl⟩
theorem f_X3_77 : qFd RX3 77 1 5 := ⟨RX2, TX2, 9, rfl, in_X2, by decide, qw_mem (i := 241) (by decide +kernel) rfl⟩
theorem f_X3_90 : qFd RX3 90 5 1 := ⟨RX6, TX6, 3, rfl, in_X6, by decide, qw_mem (i := 206) (by decide +kernel) rfl⟩
theorem f_X3_97 : qFd RX3 97 5 0 := ⟨RX6, TX6, 3, rfl, in_X6, by decide, qw_mem (i := 203) (by decide +kernel) rfl⟩
theorem f_X3_115 : qFd RX3 115 2 11 := ⟨RX3, TX3, 14, rfl, in_X3, by decide, qw_mem (i := 308) (by decide +kernel) rfl⟩
theorem fp_X3_115 : qFp RX3 115 2 11 .int := ⟨RX3, TX3, 14, tyX3, rfl, in_X3, by decide, qw_mem (i := 308) (by decide +kernel) rfl, tyX3_ok, nmX3, rfl, by decide +kernel⟩
theorem f_X3_118 : qFd RX3 118 2 12 := ⟨RX3, TX3, 14, rfl, in_X3, by decide, qw_mem (i := 310) (by decide +kernel) rfl⟩
theorem fp_X3_118 : qFp RX3 118 2 12 .int := ⟨RX3, TX3, 14, tyX3, rfl, in_X3, by decide, qw_mem (i := 310) (by decide +kernel) rfl, tyX3_ok, nmX3, rfl, by decide +kernel⟩
theorem f_X3_121 : qFd RX3 121 1 1 := ⟨RX2, TX2, 9, rfl, in_X2, by decide, qw_mem (i := 227) (by decide +kernel) rfl⟩
theorem f_X3_125 : qFd RX3 125 1 3 := ⟨RX2, TX2, 9, rfl, in_X2, by decide, qw_mem (i := 234) (by decide +kernel) rfl⟩
theorem f_X3_131 : qFd RX3 131 1 8 := ⟨RX2, TX2, 9, rfl, in_X2, by decide, qw_mem (i := 257) (by decide +kernel) rfl⟩
theorem f_X3_138 : qFd RX3 138 2 10 := ⟨RX3, TX3, 14, rfl, in_X3, by decide, qw_mem (i := 306) (by decide +kernel) rfl⟩
theorem fp_X3_138 : qFp RX3 138 2 10 .int := ⟨RX3, TX3, 14, tyX3, rfl, in_X3, by decide, qw_mem (i := 306) (by decide +kernel) rfl, tyX3_ok, nmX3, rfl, by decide +kernel⟩
theorem f_X3_145 : qFd RX3 145 6 2 := ⟨RX7, TX7, 4, rfl, in_X7, by decide, qw_mem (i := 119) (by decide +kernel) rfl⟩
theorem f_X3_149 : qFd RX3 149 6 1 := ⟨RX7, TX7, 4, rfl, in_X7, by decide, qw_mem (i := 115) (by decide +kernel) rfl⟩
theorem f_X3_151 : qFd RX3 151 6 3 := ⟨RX7, TX7, 4, rfl, in_X7, by decide, qw_mem (i := 124) (by decide +kernel) rfl⟩
theorem f_X4_12 : qFd RX4 12 3 0 := ⟨RX4, TX4, 5, rfl, in_X4, by decide, qw_mem (i := 167) (by decide +kernel) rfl⟩
theorem f_X4_21 : qFd RX4 21 3 1 := ⟨RX4, TX4, 5, rfl, in_X4, by decide, qw_mem (i := 169) (by decide +kernel) rfl⟩
theorem f_X4_25 : qFd RX4 25 3 2 := ⟨RX4, TX4, 5, rfl, in_X4, by decide, qw_mem (i := 170) (by decide +kernel) rfl⟩
theorem fp_X4_25 : qFp RX4 25 3 2 (.object "Linkwitness$Machine") := ⟨RX4, TX4, 5, tyX4, rfl, in_X4, by decide, qw_mem (i := 170) (by decide +kernel) rfl, tyX4_ok, nmX4, rfl, by decide +kernel⟩
theorem f_X4_29 : qFd RX4 29 3 3 := ⟨RX4, TX4, 5, rfl, in_X4, by decide, qw_mem (i := 171) (by decide +kernel) rfl⟩
theorem fp_X4_29 : qFp RX4 29 3 3 (.object "Linkwitness$Machine") := ⟨RX4, TX4, 5, tyX4, rfl, in_X4, by decide, qw_mem (i := 171) (by decide +kernel) rfl, tyX4_ok, nmX4, rfl, by decide +kernel⟩
theorem f_X4_33 : qFd RX4 33 3 4 := ⟨RX4, TX4, 5, rfl, in_X4, by decide, qw_mem (i := 172) (by decide +kernel) rfl⟩
theorem fp_X4_33 : qFp RX4 33 3 4 .int := ⟨RX4, TX4, 5, tyX4, rfl, in_X4, by decide, qw_mem (i := 172) (by decide +kernel) rfl, tyX4_ok, nmX4, rfl, by decide +kernel⟩
theorem f_X4_54 : qFd RX4 54 4 1 := ⟨RX5, TX5, 6, rfl, in_X5, by decide, qw_mem (i := 345) (by decide +kernel) rfl⟩
theorem f_X4_58 : qFd RX4 58 2 10 := ⟨RX3, TX3, 14, rfl, in_X3, by decide, qw_mem (i := 305) (by decide +kernel) rfl⟩
theorem f_X4_84 : qFd RX4 84 6 0 := ⟨RX7, TX7, 4, rfl, in_X7, by decide, qw_mem (i := 110) (by decide +kernel) rfl⟩
theorem f_X4_114 : qFd RX4 114 2 13 := ⟨RX3, TX3, 14, rfl, in_X3, by decide, qw_mem (i := 312) (by decide +kernel) rfl⟩
theorem f_X4_117 : qFd RX4 117 6 3 := ⟨RX7, TX7, 4, rfl, in_X7, by decide, qw_mem (i := 122) (by decide +kernel) rfl⟩
theorem f_X4_120 : qFd RX4 120 0 1 := ⟨RX0, TX0, 6, rfl, in_X0, by decide, qw_mem (i := 141) (by decide +kernel) rfl⟩
theorem fp_X4_120 : qFp RX4 120 0 1 .int := ⟨RX0, TX0, 6, tyX0, rfl, in_X0, by decide, qw_mem (i := 141) (by decide +kernel) rfl, tyX0_ok, nmX0, rfl, by decide +kernel⟩
theorem f_X4_123 : qFd RX4 123 0 0 := ⟨RX0, TX0, 6, rfl, in_X0, by decide, qw_mem (i := 137) (by decide +kernel) rfl⟩
theorem f_X5_12 : qFd RX5 12 4 0 := ⟨RX5, TX5, 6, rfl, in_X5, by decide, qw_mem (i := 342) (by decide +kernel) rfl⟩
theorem f_X5_21 : qFd RX5 21 4 1 := ⟨RX5, TX5, 6, rfl, in_X5, by decide, qw_mem (i := 344) (by decide +kernel) rfl⟩
theorem f_X5_25 : qFd RX5 25 4 2 := ⟨RX5, TX5, 6, rfl, in_X5, by decide, qw_mem (i := 346) (by decide +kernel) rfl⟩
theorem fp_X5_25 : qFp RX5 25 4 2 .boolean := ⟨RX5, TX5, 6, tyX5, rfl, in_X5, by decide, qw_mem (i := 346) (by decide +kernel) rfl, tyX5_ok, nmX5, rfl, by decide +kernel⟩
theorem f_X5_29 : qFd RX5 29 4 3 := ⟨RX5, TX5, 6, rfl, in_X5, by decide, qw_mem (i := 347) (by decide +kernel) rfl⟩
theorem fp_X5_29 : qFp RX5 29 4 3 .int := ⟨RX5, TX5, 6, tyX5, rfl, in_X5, by decide, qw_mem (i := 347) (by decide +kernel) rfl, tyX5_ok, nmX5, rfl, by decide +kernel⟩
theorem f_X5_33 : qFd RX5 33 4 4 := ⟨RX5, TX5, 6, rfl, in_X5, by decide, qw_mem (i := 348) (by decide +kernel) rfl⟩
theorem fp_X5_33 : qFp RX5 33 4 4 .boolean := ⟨RX5, TX5, 6, tyX5, rfl, in_X5, by decide, qw_mem (i := 348) (by decide +kernel) rfl, tyX5_ok, nmX5, rfl, by decide +kernel⟩
theorem f_X5_36 : qFd RX5 36 4 5 := ⟨RX5, TX5, 6, rfl, in_X5, by decide, qw_mem (i := 349) (by decide +kernel) rfl⟩
theorem fp_X5_36 : qFp RX5 36 4 5 .int := ⟨RX5, TX5, 6, tyX5, rfl, in_X5, by decide, qw_mem (i := 349) (by decide +kernel) rfl, tyX5_ok, nmX5, rfl, by decide +kernel⟩
theorem f_X5_55 : qFd RX5 55 6 0 := ⟨RX7, TX7, 4, rfl, in_X7, by decide, qw_mem (i := 111) (by decide +kernel) rfl⟩
theorem f_X5_60 : qFd RX5 60 6 1 := ⟨RX7, TX7, 4, rfl, in_X7, by decide, qw_mem (i := 114) (by decide +kernel) rfl⟩
theorem f_X5_67 : qFd RX5 67 6 2 := ⟨RX7, TX7, 4, rfl, in_X7, by decide, qw_mem (i := 118) (by decide +kernel) rfl⟩
theorem f_X5_74 : qFd RX5 74 6 3 := ⟨RX7, TX7, 4, rfl, in_X7, by decide, qw_mem (i := 123) (by decide +kernel) rfl⟩
theorem f_X5_88 : qFd RX5 88 2 11 := ⟨RX3, TX3, 14, rfl, in_X3, by decide, qw_mem (i := 307) (by decide +kernel) rfl⟩
theorem f_X5_91 : qFd RX5 91 2 12 := ⟨RX3, TX3, 14, rfl, in_X3, by decide, qw_mem (i := 309) (by decide +kernel) rfl⟩
theorem f_X5_94 : qFd RX5 94 1 0 := ⟨RX2, TX2, 9, rfl, in_X2, by decide, qw_mem (i := 224) (by decide +kernel) rfl⟩
theorem f_X5_98 : qFd RX5 98 1 3 := ⟨RX2, TX2, 9, rfl, in_X2, by decide, qw_mem (i := 233) (by decide +kernel) rfl⟩
theorem f_X5_102 : qFd RX5 102 1 1 := ⟨RX2, TX2, 9, rfl, in_X2, by decide, qw_mem (i := 226) (by decide +kernel) rfl⟩
theorem f_X5_105 : qFd RX5 105 1 7 := ⟨RX2, TX2, 9, rfl, in_X2, by decide, qw_mem (i := 252) (by decide +kernel) rfl⟩
theorem f_X5_109 : qFd RX5 109 5 0 := ⟨RX6, TX6, 3, rfl, in_X6, by decide, qw_mem (i := 204) (by decide +kernel) rfl⟩
theorem f_X5_114 : qFd RX5 114 5 1 := ⟨RX6, TX6, 3, rfl, in_X6, by decide, qw_mem (i := 208) (by decide +kernel) rfl⟩
theorem f_X5_115 : qFd RX5 115 1 5 := ⟨RX2, TX2, 9, rfl, in_X2, by decide, qw_mem (i := 243) (by decide +kernel) rfl⟩
theorem f_X5_130 : qFd RX5 130 2 7 := ⟨RX3, TX3, 14, rfl, in_X3, by decide, qw_mem (i := 299) (by decide +kernel) rfl⟩
theorem f_X5_133 : qFd RX5 133 2 9 := ⟨RX3, TX3, 14, rfl, in_X3, by decide, qw_mem (i := 304) (by decide +kernel) rfl⟩
theorem f_X5_139 : qFd RX5 139 1 8 := ⟨RX2, TX2, 9, rfl, in_X2, by decide, qw_mem (i := 256) (by decide +kernel) rfl⟩
theorem f_X5_149 : qFd RX5 149 2 2 := ⟨RX3, TX3, 14, rfl, in_X3, by decide, qw_mem (i := 291) (by decide +kernel) rfl⟩
theorem f_X5_156 : qFd RX5 156 5 2 := ⟨RX6, TX6, 3, rfl, in_X6, by decide, qw_mem (i := 210) (by decide +kernel) rfl⟩
theorem f_X5_159 : qFd RX5 159 1 4 := ⟨RX2, TX2, 9, rfl, in_X2, by decide, qw_mem (i := 238) (by decide +kernel) rfl⟩
theorem f_X5_162 : qFd RX5 162 1 2 := ⟨RX2, TX2, 9, rfl, in_X2, by decide, qw_mem (i := 230) (by decide +kernel) rfl⟩
theorem f_X5_165 : qFd RX5 165 2 8 := ⟨RX3, TX3, 14, rfl, in_X3, by decide, qw_mem (i := 302) (by decide +kernel) rfl⟩
theorem f_X6_9 : qFd RX6 9 5 0 := ⟨RX6, TX6, 3, rfl, in_X6, by decide, qw_mem (i := 201) (by decide +kernel) rfl⟩
theorem f_X6_15 : qFd RX6 15 5 1 := ⟨RX6, TX6, 3, rfl, in_X6, by decide, qw_mem (i := 205) (by decide +kernel) rfl⟩
theorem f_X6_18 : qFd RX6 18 5 2 := ⟨RX6, TX6, 3, rfl, in_X6, by decide, qw_mem (i := 209) (by decide +kernel) rfl⟩
theorem f_X7_9 : qFd RX7 9 6 0 := ⟨RX7, TX7, 4, rfl, in_X7, by decide, qw_mem (i := 109) (by decide +kernel) rfl⟩
theorem fp_X7_9 : qFp RX7 9 6 0 .boolean := ⟨RX7, TX7, 4, tyX7, rfl, in_X7, by decide, qw_mem (i := 109) (by decide +kernel) rfl, tyX7_ok, nmX7, rfl, by decide +kernel⟩
theorem f_X7_15 : qFd RX7 15 6 1 := ⟨RX7, TX7, 4, rfl, in_X7, by decide, qw_mem (i := 113) (by decide +kernel) rfl⟩
theorem fp_X7_15 : qFp RX7 15 6 1 .int := ⟨RX7, TX7, 4, tyX7, rfl, in_X7, by decide, qw_mem (i := 113) (by decide +kernel) rfl, tyX7_ok, nmX7, rfl, by decide +kernel⟩
theorem f_X7_19 : qFd RX7 19 6 2 := ⟨RX7, TX7, 4, rfl, in_X7, by decide, qw_mem (i := 117) (by decide +kernel) rfl⟩
theorem fp_X7_19 : qFp RX7 19 6 2 .int := ⟨RX7, TX7, 4, tyX7, rfl, in_X7, by decide, qw_mem (i := 117) (by decide +kernel) rfl, tyX7_ok, nmX7, rfl, by decide +kernel⟩
theorem f_X7_22 : qFd RX7 22 6 3 := ⟨RX7, TX7, 4, rfl, in_X7, by decide, qw_mem (i := 121) (by decide +kernel) rfl⟩
theorem fp_X7_22 : qFp RX7 22 6 3 .int := ⟨RX7, TX7, 4, tyX7, rfl, in_X7, by decide, qw_mem (i := 121) (by decide +kernel) rfl, tyX7_ok, nmX7, rfl, by decide +kernel⟩
theorem f_X8_9 : qFd RX8 9 7 0 := ⟨RX8, TX8, 4, rfl, in_X8, by decide, qw_mem (i := 74) (by decide +kernel) rfl⟩
theorem fp_X8_9 : qFp RX8 9 7 0 .boolean := ⟨RX8, TX8, 4, tyX8, rfl, in_X8, by decide, qw_mem (i := 74) (by decide +kernel) rfl, tyX8_ok, nmX8, rfl, by decide +kernel⟩
theorem f_X8_15 : qFd RX8 15 7 1 := ⟨RX8, TX8, 4, rfl, in_X8, by decide, qw_mem (i := 76) (by decide +kernel) rfl⟩
theorem fp_X8_15 : qFp RX8 15 7 1 .int := ⟨RX8, TX8, 4, tyX8, rfl, in_X8, by decide, qw_mem (i := 76) (by decide +kernel) rfl, tyX8_ok, nmX8, rfl, by decide +kernel⟩
theorem f_X8_19 : qFd RX8 19 7 2 := ⟨RX8, TX8, 4, rfl, in_X8, by decide, qw_mem (i := 78) (by decide +kernel) rfl⟩
theorem fp_X8_19 : qFp RX8 19 7 2 .char := ⟨RX8, TX8, 4, tyX8, rfl, in_X8, by decide, qw_mem (i := 78) (by decide +kernel) rfl, tyX8_ok, nmX8, rfl, by decide +kernel⟩
theorem f_X8_23 : qFd RX8 23 7 3 := ⟨RX8, TX8, 4, rfl, in_X8, by decide, qw_mem (i := 80) (by decide +kernel) rfl⟩
theorem f_X8_27 : qFd RX8 27 0 0 := ⟨RX0, TX0, 6, rfl, in_X0, by decide, qw_mem (i := 136) (by decide +kernel) rfl⟩
theorem f_X8_39 : qFd RX8 39 0 1 := ⟨RX0, TX0, 6, rfl, in_X0, by decide, qw_mem (i := 140) (by decide +kernel) rfl⟩
theorem f_X8_42 : qFd RX8 42 0 2 := ⟨RX0, TX0, 6, rfl, in_X0, by decide, qw_mem (i := 144) (by decide +kernel) rfl⟩
theorem f_X8_45 : qFd RX8 45 0 3 := ⟨RX0, TX0, 6, rfl, in_X0, by decide, qw_mem (i := 146) (by decide +kernel) rfl⟩
theorem f_X8_48 : qFd RX8 48 0 4 := ⟨RX0, TX0, 6, rfl, in_X0, by decide, qw_mem (i := 148) (by decide +kernel) rfl⟩
theorem f_X8_51 : qFd RX8 51 0 5 := ⟨RX0, TX0, 6, rfl, in_X0, by decide, qw_mem (i := 150) (by decide +kernel) rfl⟩
theorem fn_X3_36 : Cond.fieldLinkNest RX3 36 RX9 "KINDS" "[C" "Linkwitness" ∈ q_nest := q_nest_mem (i := 283) (by decide +kernel) rfl
theorem fn_X4_63 : Cond.fieldLinkNest RX4 63 RX9 "PAIRS" "[I" "Linkwitness" ∈ q_nest := q_nest_mem (i := 790) (by decide +kernel) rfl
theorem fn_X4_88 : Cond.fieldLinkNest RX4 88 RX9 "KINDS" "[C" "Linkwitness" ∈ q_nest := q_nest_mem (i := 758) (by decide +kernel) rfl
theorem lk_X9_54 : Cond.methodLink RX9 54 yX9_needPlace ∈ qw := qw_mem (i := 488) (by decide +kernel) rfl
theorem lk_X9_58 : Cond.methodLink RX9 58 yX9_isType ∈ qw := qw_mem (i := 858) (by decide +kernel) rfl
theorem lk_X9_62 : Cond.methodLink RX9 62 yX9_needRange ∈ qw := qw_mem (i := 861) (by decide +kernel) rfl
theorem lk_X9_76 : Cond.methodLink RX9 76 yX2_renew ∈ qw := qw_mem (i := 879) (by decide +kernel) rfl
theorem lk_X9_80 : Cond.methodLink RX9 80 yX5_changed ∈ qw := qw_mem (i := 891) (by decide +kernel) rfl
theorem lk_X9_83 : Cond.methodLink RX9 83 yX9_needThere ∈ qw := qw_mem (i := 947) (by decide +kernel) rfl
theorem lk_X9_87 : Cond.methodLink RX9 87 yX2_flagsOf ∈ qw := qw_mem (i := 1001) (by decide +kernel) rfl
theorem lk_X9_94 : Cond.methodLink RX9 94 yX9_letter ∈ qw := qw_mem (i := 950) (by decide +kernel) rfl
theorem lk_X9_98 : Cond.methodLink RX9 98 yX9_isSight ∈ qw := qw_mem (i := 974) (by decide +kernel) rfl
theorem lk_X9_107 : Cond.methodLink RX9 107 yX9_with ∈ qw := qw_mem (i := 960) (by decide +kernel) rfl
theorem lk_X9_111 : Cond.methodLink RX9 111 yX9_has ∈ qw := qw_mem (i := 834) (by decide +kernel) rfl
theorem lk_X9_115 : Cond.methodLink RX9 115 yX9_isMember ∈ qw := qw_mem (i := 971) (by decide +kernel) rfl
theorem lk_X9_123 : Cond.methodLink RX9 123 yX9_memberPlace ∈ qw := qw_mem (i := 978) (by decide +kernel) rfl
theorem lk_X9_127 : Cond.methodLink RX9 127 yX6_put ∈ qw := qw_mem (i := 984) (by decide +kernel) rfl
theorem lk_X9_140 : Cond.methodLink RX9 140 yX5_become ∈ qw := qw_mem (i := 512) (by decide +kernel) rfl
theorem lk_X9_144 : Cond.methodLink RX9 144 yX2_typeCount ∈ qw := qw_mem (i := 528) (by decide +kernel) rfl
theorem lk_X9_148 : Cond.methodLink RX9 148 yX5_law ∈ qw := qw_mem (i := 541) (by decide +kernel) rfl
theorem lk_X9_151 : Cond.methodLink RX9 151 yX9_needSupport ∈ qw := qw_mem (i := 640) (by decide +kernel) rfl
theorem lk_X9_169 : Cond.methodLink RX9 169 yX0_clear ∈ qw := qw_mem (i := 1036) (by decide +kernel) rfl
theorem lk_X9_182 : Cond.methodLink RX9 182 yX7_clear ∈ qw := qw_mem (i := 1050) (by decide +kernel) rfl
theorem lk_X9_187 : Cond.methodLink RX9 187 yJ6_bitCount_0f7a4 ∈ qw := qw_mem (i := 1066) (by decide +kernel) rfl
theorem lk_X9_193 : Cond.methodLink RX9 193 yX9_needState ∈ qw := qw_mem (i := 1067) (by decide +kernel) rfl
theorem lk_X9_199 : Cond.methodLink RX9 199 yX9_memberIndex ∈ qw := qw_mem (i := 981) (by decide +kernel) rfl
theorem lk_X9_203 : Cond.methodLink RX9 203 yX9_nameOf ∈ qw := qw_mem (i := 1093) (by decide +kernel) rfl
theorem lk_X9_206 : Cond.methodLink RX9 206 yX9_kindIndex ∈ qw := qw_mem (i := 1105) (by decide +kernel) rfl
theorem lk_X9_210 : Cond.methodLink RX9 210 yX9_hasType ∈ qw := qw_mem (i := 1109) (by decide +kernel) rfl
theorem lk_X9_214 : Cond.methodLink RX9 214 yX9_hasMember ∈ qw := qw_mem (i := 1110) (by decide +kernel) rfl
theorem lk_X9_217 : Cond.methodLink RX9 217 yX9_hasObject ∈ qw := qw_mem (i := 1111) (by decide +kernel) rfl
theorem lk_X9_220 : Cond.methodLink RX9 220 yX9_rowOf ∈ qw := qw_mem (i := 1112) (by decide +kernel) rfl
theorem lk_X9_223 : Cond.methodLink RX9 223 yX0_add ∈ qw := qw_mem (i := 1115) (by decide +kernel) rfl
theorem lk_X9_227 : Cond.methodLink RX9 227 yX9_needElement ∈ qw := qw_mem (i := 720) (by decide +kernel) rfl
theorem lk_X9_238 : Cond.methodLink RX9 238 yX8_follow ∈ qw := qw_mem (i := 658) (by decide +kernel) rfl
theorem lk_X9_255 : Cond.methodLink RX9 255 yX4_find ∈ qw := qw_mem (i := 745) (by decide +kernel) rfl
theorem lk_X9_263 : Cond.methodLink RX9 263 yX0_become ∈ qw := qw_mem (i := 808) (by decide +kernel) rfl
theorem lk_X9_266 : Cond.methodLink RX9 266 yX9_stepOf ∈ qw := qw_mem (i := 839) (by decide +kernel) rfl
theorem lk_X9_269 : Cond.methodLink RX9 269 yX9_numberDue ∈ qw := qw_mem (i := 843) (by decide +kernel) rfl
theorem lk_X9_291 : Cond.methodLink RX9 291 yX9_areFittingsSound ∈ qw := qw_mem (i := 822) (by decide +kernel) rfl
theorem lk_X9_295 : Cond.methodLink RX9 295 yX9_doesFittingGoOn ∈ qw := qw_mem (i := 830) (by decide +kernel) rfl
theorem lk_X9_298 : Cond.methodLink RX9 298 yX9_areNumbersSound ∈ qw := qw_mem (i := 835) (by decide +kernel) rfl
theorem lk_X9_301 : Cond.methodLink RX9 301 yX9_doesLeastTell ∈ qw := qw_mem (i := 826) (by decide +kernel) rfl
theorem lk_X9_322 : Cond.methodLink RX9 322 yX9_sightRank ∈ qw := qw_mem (i := 977) (by decide +kernel) rfl
theorem lk_X0_35 : Cond.methodLink RX0 35 yX7_clear ∈ qw := qw_mem (i := 1040) (by decide +kernel) rfl
theorem lk_X0_38 : Cond.methodLink RX0 38 yX7_become ∈ qw := qw_mem (i := 812) (by decide +kernel) rfl
theorem lk_X0_42 : Cond.methodLink RX0 42 yX0_add ∈ qw := qw_mem (i := 813) (by decide +kernel) rfl
theorem lk_X1_15 : Cond.methodLink RX1 15 yX1_brokenBy ∈ qw := qw_mem (i := 592) (by decide +kernel) rfl
theorem lk_X1_48 : Cond.methodLink RX1 48 yX1_isBadlyMade ∈ qw := qw_mem (i := 596) (by decide +kernel) rfl
theorem lk_X1_52 : Cond.methodLink RX1 52 yX1_hasWrongMember ∈ qw := qw_mem (i := 599) (by decide +kernel) rfl
theorem lk_X1_55 : Cond.methodLink RX1 55 yX1_hasWrongAbstract ∈ qw := qw_mem (i := 602) (by decide +kernel) rfl
theorem lk_X1_58 : Cond.methodLink RX1 58 yX1_standsWrongly ∈ qw := qw_mem (i := 605) (by decide +kernel) rfl
theorem lk_X1_61 : Cond.methodLink RX1 61 yX1_hidesInterface ∈ qw := qw_mem (i := 614) (by decide +kernel) rfl
theorem lk_X1_68 : Cond.methodLink RX1 68 yX1_lacksMethod ∈ qw := qw_mem (i := 617) (by decide +kernel) rfl
theorem lk_X1_88 : Cond.methodLink RX1 88 yX1_clashes ∈ qw := qw_mem (i := 608) (by decide +kernel) rfl
theorem lk_X2_37 : Cond.methodLink RX2 37 yX6_init ∈ qw := qw_mem (i := 197) (by decide +kernel) rfl
theorem lk_X2_45 : Cond.methodLink RX2 45 yX6_clear ∈ qw := qw_mem (i := 883) (by decide +kernel) rfl
theorem lk_X2_55 : Cond.methodLink RX2 55 yX6_become ∈ qw := qw_mem (i := 523) (by decide +kernel) rfl
theorem lk_X3_55 : Cond.methodLink RX3 55 yX3_deriveAbove ∈ qw := qw_mem (i := 549) (by decide +kernel) rfl
theorem lk_X3_63 : Cond.methodLink RX3 63 yX3_deriveInterfaceMethods ∈ qw := qw_mem (i := 556) (by decide +kernel) rfl
theorem lk_X3_67 : Cond.methodLink RX3 67 yX3_walkChain ∈ qw := qw_mem (i := 563) (by decide +kernel) rfl
theorem lk_X3_71 : Cond.methodLink RX3 71 yX3_deriveChoices ∈ qw := qw_mem (i := 571) (by decide +kernel) rfl
theorem lk_X3_84 : Cond.methodLink RX3 84 yJ7_fill_53178 ∈ qw := qw_mem (i := 560) (by decide +kernel) rfl
theorem lk_X3_93 : Cond.methodLink RX3 93 yX3_noteMethods ∈ qw := qw_mem (i := 567) (by decide +kernel) rfl
theorem lk_X3_100 : Cond.methodLink RX3 100 yX3_nearest ∈ qw := qw_mem (i := 575) (by decide +kernel) rfl
theorem lk_X3_104 : Cond.methodLink RX3 104 yJ6_bitCount_0f7a4 ∈ qw := qw_mem (i := 579) (by decide +kernel) rfl
theorem lk_X3_109 : Cond.methodLink RX3 109 yX3_lowest ∈ qw := qw_mem (i := 585) (by decide +kernel) rfl
theorem lk_X3_112 : Cond.methodLink RX3 112 yX3_deriveFields ∈ qw := qw_mem (i := 624) (by decide +kernel) rfl
theorem lk_X3_128 : Cond.methodLink RX3 128 yX3_deriveUsable ∈ qw := qw_mem (i := 632) (by decide +kernel) rfl
theorem lk_X3_134 : Cond.methodLink RX3 134 yX3_inheritedField ∈ qw := qw_mem (i := 628) (by decide +kernel) rfl
theorem lk_X3_141 : Cond.methodLink RX3 141 yX3_isFarSeen ∈ qw := qw_mem (i := 636) (by decide +kernel) rfl
theorem lk_X4_37 : Cond.methodLink RX4 37 yX7_clear ∈ qw := qw_mem (i := 749) (by decide +kernel) rfl
theorem lk_X4_40 : Cond.methodLink RX4 40 yX5_load ∈ qw := qw_mem (i := 753) (by decide +kernel) rfl
theorem lk_X4_46 : Cond.methodLink RX4 46 yX4_tryActs ∈ qw := qw_mem (i := 754) (by decide +kernel) rfl
theorem lk_X4_50 : Cond.methodLink RX4 50 yX4_trySize ∈ qw := qw_mem (i := 786) (by decide +kernel) rfl
theorem lk_X4_67 : Cond.methodLink RX4 67 yJ6_bitCount_0f7a4 ∈ qw := qw_mem (i := 792) (by decide +kernel) rfl
theorem lk_X4_73 : Cond.methodLink RX4 73 yX5_mayBeAbove ∈ qw := qw_mem (i := 793) (by decide +kernel) rfl
theorem lk_X4_77 : Cond.methodLink RX4 77 yX7_set ∈ qw := qw_mem (i := 797) (by decide +kernel) rfl
theorem lk_X4_92 : Cond.methodLink RX4 92 yX4_worthTrying ∈ qw := qw_mem (i := 759) (by decide +kernel) rfl
theorem lk_X4_106 : Cond.methodLink RX4 106 yX5_perform ∈ qw := qw_mem (i := 773) (by decide +kernel) rfl
theorem lk_X4_110 : Cond.methodLink RX4 110 yX4_keep ∈ qw := qw_mem (i := 774) (by decide +kernel) rfl
theorem lk_X4_126 : Cond.methodLink RX4 126 yX7_become ∈ qw := qw_mem (i := 778) (by decide +kernel) rfl
theorem lk_X4_130 : Cond.methodLink RX4 130 yX0_add ∈ qw := qw_mem (i := 782) (by decide +kernel) rfl
theorem lk_X5_11 : Cond.methodLink RX5 11 yX2_init ∈ qw := qw_mem (i := 191) (by decide +kernel) rfl
theorem lk_X5_39 : Cond.methodLink RX5 39 yX2_become ∈ qw := qw_mem (i := 516) (by decide +kernel) rfl
theorem lk_X5_43 : Cond.methodLink RX5 43 yX3_derive ∈ qw := qw_mem (i := 545) (by decide +kernel) rfl
theorem lk_X5_46 : Cond.methodLink RX5 46 yX1_firstBroken ∈ qw := qw_mem (i := 589) (by decide +kernel) rfl
theorem lk_X5_52 : Cond.methodLink RX5 52 yX3_deriveLawful ∈ qw := qw_mem (i := 620) (by decide +kernel) rfl
theorem lk_X5_63 : Cond.methodLink RX5 63 yX5_aboveFault ∈ qw := qw_mem (i := 666) (by decide +kernel) rfl
theorem lk_X5_77 : Cond.methodLink RX5 77 yX5_isBarred ∈ qw := qw_mem (i := 671) (by decide +kernel) rfl
theorem lk_X5_80 : Cond.methodLink RX5 80 yX3_seat ∈ qw := qw_mem (i := 675) (by decide +kernel) rfl
theorem lk_X5_84 : Cond.methodLink RX5 84 yX3_deriveChoices ∈ qw := qw_mem (i := 679) (by decide +kernel) rfl
theorem lk_X5_118 : Cond.methodLink RX5 118 yX5_makingFault ∈ qw := qw_mem (i := 684) (by decide +kernel) rfl
theorem lk_X5_122 : Cond.methodLink RX5 122 yX5_typeFault ∈ qw := qw_mem (i := 688) (by decide +kernel) rfl
theorem lk_X5_136 : Cond.methodLink RX5 136 yX5_isClass ∈ qw := qw_mem (i := 695) (by decide +kernel) rfl
theorem lk_X5_142 : Cond.methodLink RX5 142 yX5_ownUseFault ∈ qw := qw_mem (i := 699) (by decide +kernel) rfl
theorem lk_X5_145 : Cond.methodLink RX5 145 yX5_useFault ∈ qw := qw_mem (i := 703) (by decide +kernel) rfl
theorem lk_X5_152 : Cond.methodLink RX5 152 yX5_dispatch ∈ qw := qw_mem (i := 707) (by decide +kernel) rfl
theorem lk_X6_22 : Cond.methodLink RX6 22 yX6_put ∈ qw := qw_mem (i := 887) (by decide +kernel) rfl
theorem lk_X8_33 : Cond.methodLink RX8 33 yX5_load ∈ qw := qw_mem (i := 662) (by decide +kernel) rfl
theorem lk_X8_54 : Cond.methodLink RX8 54 yX5_perform ∈ qw := qw_mem (i := 680) (by decide +kernel) rfl
theorem lk_L_11 : Cond.methodLink RL 11 yX9_type ∈ qw := qw_mem (i := 854) (by decide +kernel) rfl
theorem lk_L_27 : Cond.methodLink RL 27 yX9_flag ∈ qw := qw_mem (i := 997) (by decide +kernel) rfl
theorem lk_L_35 : Cond.methodLink RL 35 yX9_above ∈ qw := qw_mem (i := 943) (by decide +kernel) rfl
theorem lk_L_38 : Cond.methodLink RL 38 yX9_maker ∈ qw := qw_mem (i := 1008) (by decide +kernel) rfl
theorem lk_L_41 : Cond.methodLink RL 41 yX9_under ∈ qw := qw_mem (i := 956) (by decide +kernel) rfl
theorem lk_L_44 : Cond.methodLink RL 44 yX9_method ∈ qw := qw_mem (i := 967) (by decide +kernel) rfl
theorem lk_L_48 : Cond.methodLink RL 48 yX9_field ∈ qw := qw_mem (i := 989) (by decide +kernel) rfl
theorem lk_L_51 : Cond.methodLink RL 51 yX9_copy ∈ qw := qw_mem (i := 484) (by decide +kernel) rfl
theorem lk_L_55 : Cond.methodLink RL 55 yX9_check ∈ qw := qw_mem (i := 1019) (by decide +kernel) rfl
theorem lk_L_59 : Cond.methodLink RL 59 yX9_wipe ∈ qw := qw_mem (i := 1032) (by decide +kernel) rfl
theorem lk_L_62 : Cond.methodLink RL 62 yX9_own ∈ qw := qw_mem (i := 1046) (by decide +kernel) rfl
theorem lk_L_68 : Cond.methodLink RL 68 yX9_ownAbove ∈ qw := qw_mem (i := 1054) (by decide +kernel) rfl
theorem lk_L_72 : Cond.methodLink RL 72 yX9_ownUnder ∈ qw := qw_mem (i := 1062) (by decide +kernel) rfl
theorem lk_L_80 : Cond.methodLink RL 80 yX9_ownMethod ∈ qw := qw_mem (i := 1089) (by decide +kernel) rfl
theorem lk_L_84 : Cond.methodLink RL 84 yX9_act ∈ qw := qw_mem (i := 1101) (by decide +kernel) rfl
theorem lk_L_88 : Cond.methodLink RL 88 yX9_run ∈ qw := qw_mem (i := 537) (by decide +kernel) rfl
theorem lk_L_91 : Cond.methodLink RL 91 yX9_fault ∈ qw := qw_mem (i := 716) (by decide +kernel) rfl
theorem lk_L_95 : Cond.methodLink RL 95 yX9_fits ∈ qw := qw_mem (i := 741) (by decide +kernel) rfl
theorem lk_L_99 : Cond.methodLink RL 99 yX9_witness ∈ qw := qw_mem (i := 804) (by decide +kernel) rfl
theorem lk_L_109 : Cond.methodLink RL 109 yX9_isSound ∈ qw := qw_mem (i := 818) (by decide +kernel) rfl
theorem lk_L_113 : Cond.methodLink RL 113 yL_cell ∈ qw := qw_mem (i := 392) (by decide +kernel) rfl
theorem lk_L_117 : Cond.methodLink RL 117 yL_chosen ∈ qw := qw_mem (i := 398) (by decide +kernel) rfl
theorem lk_L_120 : Cond.methodLink RL 120 yL_type ∈ qw := qw_mem (i := 850) (by decide +kernel) rfl
theorem lk_L_124 : Cond.methodLink RL 124 yL_changes ∈ qw := qw_mem (i := 896) (by decide +kernel) rfl
theorem lk_L_130 : Cond.methodLink RL 130 yJ0_charAt_5068e ∈ qw := qw_mem (i := 900) (by decide +kernel) rfl
theorem lk_L_136 : Cond.methodLink RL 136 yL_above ∈ qw := qw_mem (i := 940) (by decide +kernel) rfl
theorem lk_L_138 : Cond.methodLink RL 138 yL_under ∈ qw := qw_mem (i := 953) (by decide +kernel) rfl
theorem lk_L_143 : Cond.methodLink RL 143 yL_method ∈ qw := qw_mem (i := 964) (by decide +kernel) rfl
theorem lk_L_148 : Cond.methodLink RL 148 yL_field ∈ qw := qw_mem (i := 986) (by decide +kernel) rfl
theorem lk_L_152 : Cond.methodLink RL 152 yL_flag ∈ qw := qw_mem (i := 994) (by decide +kernel) rfl
theorem lk_L_154 : Cond.methodLink RL 154 yL_maker ∈ qw := qw_mem (i := 1005) (by decide +kernel) rfl
theorem lk_L_158 : Cond.methodLink RL 158 yL_check ∈ qw := qw_mem (i := 1016) (by decide +kernel) rfl
theorem lk_L_167 : Cond.methodLink RL 167 yL_wipe ∈ qw := qw_mem (i := 1029) (by decide +kernel) rfl
theorem lk_L_171 : Cond.methodLink RL 171 yL_own ∈ qw := qw_mem (i := 1043) (by decide +kernel) rfl
theorem lk_L_174 : Cond.methodLink RL 174 yL_ownAbove ∈ qw := qw_mem (i := 1051) (by decide +kernel) rfl
theorem lk_L_177 : Cond.methodLink RL 177 yL_ownUnder ∈ qw := qw_mem (i := 1058) (by decide +kernel) rfl
theorem lk_L_180 : Cond.methodLink RL 180 yL_ownMethod ∈ qw := qw_mem (i := 1086) (by decide +kernel) rfl
theorem lk_L_187 : Cond.methodLink RL 187 yL_act ∈ qw := qw_mem (i := 1098) (by decide +kernel) rfl
theorem lk_L_190 : Cond.methodLink RL 190 yX9_init ∈ qw := qw_mem (i := 58) (by decide +kernel) rfl
theorem lk_L_191 : Cond.methodLink RL 191 yL_makes ∈ qw := qw_mem (i := 847) (by decide +kernel) rfl
theorem lk_L_195 : Cond.methodLink RL 195 yL_isMended ∈ qw := qw_mem (i := 1013) (by decide +kernel) rfl
theorem lk_L_199 : Cond.methodLink RL 199 yL_copy ∈ qw := qw_mem (i := 402) (by decide +kernel) rfl
theorem lk_L_202 : Cond.methodLink RL 202 yL_fits ∈ qw := qw_mem (i := 738) (by decide +kernel) rfl
theorem lk_L_204 : Cond.methodLink RL 204 yL_witness ∈ qw := qw_mem (i := 801) (by decide +kernel) rfl
theorem lk_L_207 : Cond.methodLink RL 207 yL_run ∈ qw := qw_mem (i := 533) (by decide +kernel) rfl
theorem lk_L_209 : Cond.methodLink RL 209 yL_fault ∈ qw := qw_mem (i := 712) (by decide +kernel) rfl
theorem lk_L_214 : Cond.methodLink RL 214 yL_asks ∈ qw := qw_mem (i := 1026) (by decide +kernel) rfl
theorem lk_L_218 : Cond.methodLink RL 218 yL_isSound ∈ qw := qw_mem (i := 815) (by decide +kernel) rfl
theorem ln_X9_30 : Cond.methodLinkNest RX9 30 yX8_init "Linkwitness" ∈ q_nest := q_nest_mem (i := 70) (by decide +kernel) rfl
theorem ln_X9_40 : Cond.methodLinkNest RX9 40 yX4_init "Linkwitness" ∈ q_nest := q_nest_mem (i := 93) (by decide +kernel) rfl
theorem ln_X9_52 : Cond.methodLinkNest RX9 52 yX5_init "Linkwitness" ∈ q_nest := q_nest_mem (i := 185) (by decide +kernel) rfl
theorem ln_X9_53 : Cond.methodLinkNest RX9 53 yX0_init "Linkwitness" ∈ q_nest := q_nest_mem (i := 363) (by decide +kernel) rfl
theorem ln_X0_11 : Cond.methodLinkNest RX0 11 yX7_init "Linkwitness" ∈ q_nest := q_nest_mem (i := 105) (by decide +kernel) rfl
theorem ln_X1_44 : Cond.methodLinkNest RX1 44 yX9_has "Linkwitness" ∈ q_nest := q_nest_mem (i := 595) (by decide +kernel) rfl
theorem ln_X1_92 : Cond.methodLinkNest RX1 92 yX9_sightRank "Linkwitness" ∈ q_nest := q_nest_mem (i := 611) (by decide +kernel) rfl
theorem ln_X3_80 : Cond.methodLinkNest RX3 80 yX9_has "Linkwitness" ∈ q_nest := q_nest_mem (i := 553) (by decide +kernel) rfl
theorem ln_X4_11 : Cond.methodLinkNest RX4 11 yX0_init "Linkwitness" ∈ q_nest := q_nest_mem (i := 99) (by decide +kernel) rfl
theorem ln_X4_20 : Cond.methodLinkNest RX4 20 yX7_init "Linkwitness" ∈ q_nest := q_nest_mem (i := 165) (by decide +kernel) rfl
theorem ln_X4_81 : Cond.methodLinkNest RX4 81 yX9_has "Linkwitness" ∈ q_nest := q_nest_mem (i := 772) (by decide +kernel) rfl
theorem ln_X4_96 : Cond.methodLinkNest RX4 96 yX9_hasMember "Linkwitness" ∈ q_nest := q_nest_mem (i := 763) (by decide +kernel) rfl
theorem ln_X4_100 : Cond.methodLinkNest RX4 100 yX9_hasType "Linkwitness" ∈ q_nest := q_nest_mem (i := 766) (by decide +kernel) rfl
theorem ln_X4_103 : Cond.methodLinkNest RX4 103 yX9_hasObject "Linkwitness" ∈ q_nest := q_nest_mem (i := 769) (by decide +kernel) rfl
theorem ln_X5_20 : Cond.methodLinkNest RX5 20 yX3_init "Linkwitness" ∈ q_nest := q_nest_mem (i := 279) (by decide +kernel) rfl
theorem ln_X5_70 : Cond.methodLinkNest RX5 70 yX9_has "Linkwitness" ∈ q_nest := q_nest_mem (i := 670) (by decide +kernel) rfl
theorem ln_X5_126 : Cond.methodLinkNest RX5 126 yX9_isCall "Linkwitness" ∈ q_nest := q_nest_mem (i := 692) (by decide +kernel) rfl
theorem cn_X4_32 : Cond.constant RX4 32 (1048576) ∈ qw := qw_mem (i := 166) (by decide +kernel) rfl
theorem cn_L_7 : Cond.constant RL 7 (16777619) ∈ qw := qw_mem (i := 395) (by decide +kernel) rfl
theorem cn_L_8 : Cond.constant RL 8 (69069) ∈ qw := qw_mem (i := 396) (by decide +kernel) rfl
theorem cn_L_9 : Cond.constant RL 9 (1103515245) ∈ qw := qw_mem (i := 397) (by decide +kernel) rfl
theorem cn_L_10 : Cond.constant RL 10 (2147483647) ∈ qw := qw_mem (i := 401) (by decide +kernel) rfl
theorem cn_L_123 : Cond.constant RL 123 (1000000) ∈ qw := qw_mem (i := 895) (by decide +kernel) rfl
theorem cn_L_169 : Cond.constant RL 169 (104729) ∈ qw := qw_mem (i := 1041) (by decide +kernel) rfl
theorem cn_L_170 : Cond.constant RL 170 (100000000) ∈ qw := qw_mem (i := 1042) (by decide +kernel) rfl
theorem cn_J6_265 : Cond.constant RJ6 265 (1431655765) ∈ qw := qw_mem (i := 582) (by decide +kernel) rfl
theorem cn_J6_266 : Cond.constant RJ6 266 (858993459) ∈ qw := qw_mem (i := 583) (by decide +kernel) rfl
theorem cn_J6_267 : Cond.constant RJ6 267 (252645135) ∈ qw := qw_mem (i := 584) (by decide +kernel) rfl
theorem cl_L_21 : Cond.constantLong RL 21 (-4000000000000000001) ∈ qw := qw_mem (i := 532) (by decide +kernel) rfl
theorem cl_L_25 : Cond.constantLong RL 25 (-4000000000000000002) ∈ qw := qw_mem (i := 711) (by decide +kernel) rfl
theorem cl_L_33 : Cond.constantLong RL 33 (-4000000000000000003) ∈ qw := qw_mem (i := 814) (by decide +kernel) rfl
theorem cl_L_78 : Cond.constantLong RL 78 (-4000000000000000004) ∈ qw := qw_mem (i := 1085) (by decide +kernel) rfl
theorem cl_L_161 : Cond.constantLong RL 161 (65) ∈ qw := qw_mem (i := 1023) (by decide +kernel) rfl
theorem cl_L_163 : Cond.constantLong RL 163 (100) ∈ qw := qw_mem (i := 1024) (by decide +kernel) rfl
theorem cl_L_165 : Cond.constantLong RL 165 (-1) ∈ qw := qw_mem (i := 1025) (by decide +kernel) rfl
theorem cl_L_212 : Cond.constantLong RL 212 (45) ∈ qw := qw_mem (i := 1116) (by decide +kernel) rfl
theorem m_J6_bitCount_0f7a4 : qMs yJ6_bitCount_0f7a4 cJ6_bitCount_0f7a4 1 (some .int) 1 := ⟨qw_mem (i := 580) (by decide +kernel) rfl, qw_mem (i := 51) (by decide +kernel) rfl, qw_mem (i := 581) (by decide +kernel) rfl, by decide, by decide, by decide +kernel⟩
theorem m_J7_fill_53178 : qMs yJ7_fill_53178 cJ7_fill_53178 4 none 2 := ⟨qw_mem (i := 561) (by decide +kernel) rfl, qw_mem (i := 50) (by decide +kernel) rfl, qw_mem (i := 562) (by decide +kernel) rfl, by decide, by decide, by decide +kernel⟩
theorem m_L_asks : qMs yL_asks cL_asks 9 (some .int) 5 := ⟨qw_mem (i := 1027) (by decide +kernel) rfl, qw_mem (i := 29) (by decide +kernel) rfl, qw_mem (i := 1028) (by decide +kernel) rfl, by decide, by decide, by decide +kernel⟩
theorem m_L_cell : qMs yL_cell cL_cell 7 (some .int) 2 := ⟨qw_mem (i := 393) (by decide +kernel) rfl, qw_mem (i := 29) (by decide +kernel) rfl, qw_mem (i := 394) (by decide +kernel) rfl, by decide, by decide, by decide +kernel⟩
theorem m_L_changes : qMs yL_changes cL_changes 9 none 3 := ⟨qw_mem (i := 897) (by decide +kernel) rfl, qw_mem (i := 29) (by decide +kernel) rfl, qw_mem (i := 898) (by decide +kernel) rfl, by decide, by decide, by decide +kernel⟩
theorem m_L_chosen : qMs yL_chosen cL_chosen 2 (some .int) 2 := ⟨qw_mem (i := 399) (by decide +kernel) rfl, qw_mem (i := 29) (by decide +kernel) rfl, qw_mem (i := 400) (by decide +kernel) rfl, by decide, by decide, by decide +kernel⟩
theorem m_L_isMended : qMs yL_isMended cL_isMended 3 (some .boolean) 2 := ⟨qw_mem (i := 1014) (by decide +kernel) rfl, qw_mem (i := 29) (by decide +kernel) rfl, qw_mem (i := 1015) (by decide +kernel) rfl, by decide, by decide, by decide +kernel⟩
theorem m_L_isSound : qMs yL_isSound cL_isSound 1 (some .long) 1 := ⟨qw_mem (i := 816) (by decide +kernel) rfl, qw_mem (i := 29) (by decide +kernel) rfl, qw_mem (i := 817) (by decide +kernel) rfl, by decide, by decide, by decide +kernel⟩
theorem m_L_makes : qMs yL_makes cL_makes 6 none 4 := ⟨qw_mem (i := 848) (by decide +kernel) rfl, qw_mem (i := 29) (by decide +kernel) rfl, qw_mem (i := 849) (by decide +kernel) rfl, by decide, by decide, by decide +kernel⟩
theorem m_X0_add : qMv yX0_add cX0_add 5 none 4 := ⟨qw_mem (i := 783) (by decide +kernel) rfl, qw_mem (i := 784) (by decide +kernel) rfl, qw_mem (i := 33) (by decide +kernel) rfl, qw_mem (i := 785) (by decide +kernel) rfl, by decide, by decide, by decide +kernel⟩
theorem m_X0_become : qMv yX0_become cX0_become 3 none 1 := ⟨qw_mem (i := 809) (by decide +kernel) rfl, qw_mem (i := 810) (by decide +kernel) rfl, qw_mem (i := 33) (by decide +kernel) rfl, qw_mem (i := 811) (by decide +kernel) rfl, by decide, by decide, by decide +kernel⟩
theorem m_X0_clear : qMv yX0_clear cX0_clear 1 none 0 := ⟨qw_mem (i := 1037) (by decide +kernel) rfl, qw_mem (i := 1038) (by decide +kernel) rfl, qw_mem (i := 33) (by decide +kernel) rfl, qw_mem (i := 1039) (by decide +kernel) rfl, by decide, by decide, by decide +kernel⟩
theorem m_X1_brokenBy : qMs yX1_brokenBy cX1_brokenBy 4 (some .int) 3 := ⟨qw_mem (i := 593) (by decide +kernel) rfl, qw_mem (i := 52) (by decide +kernel) rfl, qw_mem (i := 594) (by decide +kernel) rfl, by decide, by decide, by decide +kernel⟩
theorem m_X1_clashes : qMs yX1_clashes cX1_clashes 4 (some .boolean) 3 := ⟨qw_mem (i := 609) (by decide +kernel) rfl, qw_mem (i := 52) (by decide +kernel) rfl, qw_mem (i := 610) (by decide +kernel) rfl, by decide, by decide, by decide +kernel⟩
theorem m_X1_firstBroken : qMs yX1_firstBroken cX1_firstBroken 4 (some .int) 2 := ⟨qw_mem (i := 590) (by decide +kernel) rfl, qw_mem (i := 52) (by decide +kernel) rfl, qw_mem (i := 591) (by decide +kernel) rfl, by decide, by decide, by decide +kernel⟩
theorem m_X1_hasWrongAbstract : qMs yX1_hasWrongAbstract cX1_hasWrongAbstract 4 (some .boolean) 2 := ⟨qw_mem (i := 603) (by decide +kernel) rfl, qw_mem (i := 52) (by decide +kernel) rfl, qw_mem (i := 604) (by decide +kernel) rfl, by decide, by decide, by decide +kernel⟩
theorem m_X1_hasWrongMember : qMs yX1_hasWrongMember cX1_hasWrongMember 5 (some .boolean) 2 := ⟨qw_mem (i := 600) (by decide +kernel) rfl, qw_mem (i := 52) (by decide +kernel) rfl, qw_mem (i := 601) (by decide +kernel) rfl, by decide, by decide, by decide +kernel⟩
theorem m_X1_hidesInterface : qMs yX1_hidesInterface cX1_hidesInterface 7 (some .boolean) 3 := ⟨qw_mem (i := 615) (by decide +kernel) rfl, qw_mem (i := 52) (by decide +kernel) rfl, qw_mem (i := 616) (by decide +kernel) rfl, by decide, by decide, by decide +kernel⟩
theorem m_X1_isBadlyMade : qMs yX1_isBadlyMade cX1_isBadlyMade 3 (some .boolean) 2 := ⟨qw_mem (i := 597) (by decide +kernel) rfl, qw_mem (i := 52) (by decide +kernel) rfl, qw_mem (i := 598) (by decide +kernel) rfl, by decide, by decide, by decide +kernel⟩
theorem m_X1_lacksMethod : qMs yX1_lacksMethod cX1_lacksMethod 4 (some .boolean) 2 := ⟨qw_mem (i := 618) (by decide +kernel) rfl, qw_mem (i := 52) (by decide +kernel) rfl, qw_mem (i := 619) (by decide +kernel) rfl, by decide, by decide, by decide +kernel⟩
theorem m_X1_standsWrongly : qMs yX1_standsWrongly cX1_standsWrongly 5 (some .boolean) 2 := ⟨qw_mem (i := 606) (by decide +kernel) rfl, qw_mem (i := 52) (by decide +kernel) rfl, qw_mem (i := 607) (by decide +kernel) rfl, by decide, by decide, by decide +kernel⟩
theorem m_X2_become : qMv yX2_become cX2_become 2 none 1 := ⟨qw_mem (i := 517) (by decide +kernel) rfl, qw_mem (i := 518) (by decide +kernel) rfl, qw_mem (i := 36) (by decide +kernel) rfl, qw_mem (i := 519) (by decide +kernel) rfl, by decide, by decide, by decide +kernel⟩
theorem m_X2_flagsOf : qMv yX2_flagsOf cX2_flagsOf 2 (some (.array .boolean)) 1 := ⟨qw_mem (i := 1002) (by decide +kernel) rfl, qw_mem (i := 1003) (by decide +kernel) rfl, qw_mem (i := 36) (by decide +kernel) rfl, qw_mem (i := 1004) (by decide +kernel) rfl, by decide, by decide, by decide +kernel⟩
theorem m_X2_renew : qMv yX2_renew cX2_renew 3 none 2 := ⟨qw_mem (i := 880) (by decide +kernel) rfl, qw_mem (i := 881) (by decide +kernel) rfl, qw_mem (i := 36) (by decide +kernel) rfl, qw_mem (i := 882) (by decide +kernel) rfl, by decide, by decide, by decide +kernel⟩
theorem m_X2_typeCount : qMv yX2_typeCount cX2_typeCount 6 (some .int) 0 := ⟨qw_mem (i := 529) (by decide +kernel) rfl, qw_mem (i := 530) (by decide +kernel) rfl, qw_mem (i := 36) (by decide +kernel) rfl, qw_mem (i := 531) (by decide +kernel) rfl, by decide, by decide, by decide +kernel⟩
theorem m_X3_derive : qMv yX3_derive cX3_derive 3 none 1 := ⟨qw_mem (i := 546) (by decide +kernel) rfl, qw_mem (i := 547) (by decide +kernel) rfl, qw_mem (i := 38) (by decide +kernel) rfl, qw_mem (i := 548) (by decide +kernel) rfl, by decide, by decide, by decide +kernel⟩
theorem m_X3_deriveAbove : qMv yX3_deriveAbove cX3_deriveAbove 4 none 1 := ⟨qw_mem (i := 551) (by decide +kernel) rfl, qw_mem (i := 1) (by decide +kernel) rfl, qw_mem (i := 38) (by decide +kernel) rfl, qw_mem (i := 552) (by decide +kernel) rfl, by decide, by decide, by decide +kernel⟩
theorem m_X3_deriveChoices : qMv yX3_deriveChoices cX3_deriveChoices 9 none 2 := ⟨qw_mem (i := 572) (by decide +kernel) rfl, qw_mem (i := 573) (by decide +kernel) rfl, qw_mem (i := 38) (by decide +kernel) rfl, qw_mem (i := 574) (by decide +kernel) rfl, by decide, by decide, by decide +kernel⟩
theorem m_X3_deriveFields : qMv yX3_deriveFields cX3_deriveFields 5 none 2 := ⟨qw_mem (i := 626) (by decide +kernel) rfl, qw_mem (i := 7) (by decide +kernel) rfl, qw_mem (i := 38) (by decide +kernel) rfl, qw_mem (i := 627) (by decide +kernel) rfl, by decide, by decide, by decide +kernel⟩
theorem m_X3_deriveInterfaceMethods : qMv yX3_deriveInterfaceMethods cX3_deriveInterfaceMethods 5 none 1 := ⟨qw_mem (i := 558) (by decide +kernel) rfl, qw_mem (i := 2) (by decide +kernel) rfl, qw_mem (i := 38) (by decide +kernel) rfl, qw_mem (i := 559) (by decide +kernel) rfl, by decide, by decide, by decide +kernel⟩
theorem m_X3_deriveLawful : qMv yX3_deriveLawful cX3_deriveLawful 4 none 1 := ⟨qw_mem (i := 621) (by decide +kernel) rfl, qw_mem (i := 622) (by decide +kernel) rfl, qw_mem (i := 38) (by decide +kernel) rfl, qw_mem (i := 623) (by decide +kernel) rfl, by decide, by decide, by decide +kernel⟩
theorem m_X3_deriveUsable : qMv yX3_deriveUsable cX3_deriveUsable 5 none 1 := ⟨qw_mem (i := 634) (by decide +kernel) rfl, qw_mem (i := 9) (by decide +kernel) rfl, qw_mem (i := 38) (by decide +kernel) rfl, qw_mem (i := 635) (by decide +kernel) rfl, by decide, by decide, by decide +kernel⟩
theorem m_X3_inheritedField : qMv yX3_inheritedField cX3_inheritedField 5 (some .int) 3 := ⟨qw_mem (i := 630) (by decide +kernel) rfl, qw_mem (i := 8) (by decide +kernel) rfl, qw_mem (i := 38) (by decide +kernel) rfl, qw_mem (i := 631) (by decide +kernel) rfl, by decide, by decide, by decide +kernel⟩
theorem m_X3_isFarSeen : qMv yX3_isFarSeen cX3_isFarSeen 2 (some .boolean) 1 := ⟨qw_mem (i := 638) (by decide +kernel) rfl, qw_mem (i := 10) (by decide +kernel) rfl, qw_mem (i := 38) (by decide +kernel) rfl, qw_mem (i := 639) (by decide +kernel) rfl, by decide, by decide, by decide +kernel⟩
theorem m_X3_lowest : qMv yX3_lowest cX3_lowest 3 (some .int) 1 := ⟨qw_mem (i := 587) (by decide +kernel) rfl, qw_mem (i := 6) (by decide +kernel) rfl, qw_mem (i := 38) (by decide +kernel) rfl, qw_mem (i := 588) (by decide +kernel) rfl, by decide, by decide, by decide +kernel⟩
theorem m_X3_nearest : qMv yX3_nearest cX3_nearest 5 (some .int) 1 := ⟨qw_mem (i := 577) (by decide +kernel) rfl, qw_mem (i := 5) (by decide +kernel) rfl, qw_mem (i := 38) (by decide +kernel) rfl, qw_mem (i := 578) (by decide +kernel) rfl, by decide, by decide, by decide +kernel⟩
theorem m_X3_noteMethods : qMv yX3_noteMethods cX3_noteMethods 8 none 3 := ⟨qw_mem (i := 569) (by decide +kernel) rfl, qw_mem (i := 4) (by decide +kernel) rfl, qw_mem (i := 38) (by decide +kernel) rfl, qw_mem (i := 570) (by decide +kernel) rfl, by decide, by decide, by decide +kernel⟩
theorem m_X3_seat : qMv yX3_seat cX3_seat 5 none 1 := ⟨qw_mem (i := 676) (by decide +kernel) rfl, qw_mem (i := 677) (by decide +kernel) rfl, qw_mem (i := 38) (by decide +kernel) rfl, qw_mem (i := 678) (by decide +kernel) rfl, by decide, by decide, by decide +kernel⟩
theorem m_X3_walkChain : qMv yX3_walkChain cX3_walkChain 5 none 2 := ⟨qw_mem (i := 565) (by decide +kernel) rfl, qw_mem (i := 3) (by decide +kernel) rfl, qw_mem (i := 38) (by decide +kernel) rfl, qw_mem (i := 566) (by decide +kernel) rfl, by decide, by decide, by decide +kernel⟩
theorem m_X4_find : qMv yX4_find cX4_find 4 (some .int) 2 := ⟨qw_mem (i := 746) (by decide +kernel) rfl, qw_mem (i := 747) (by decide +kernel) rfl, qw_mem (i := 32) (by decide +kernel) rfl, qw_mem (i := 748) (by decide +kernel) rfl, by decide, by decide, by decide +kernel⟩
theorem m_X4_keep : qMv yX4_keep cX4_keep 6 none 5 := ⟨qw_mem (i := 776) (by decide +kernel) rfl, qw_mem (i := 21) (by decide +kernel) rfl, qw_mem (i := 32) (by decide +kernel) rfl, qw_mem (i := 777) (by decide +kernel) rfl, by decide, by decide, by decide +kernel⟩
theorem m_X4_tryActs : qMv yX4_tryActs cX4_tryActs 13 none 1 := ⟨qw_mem (i := 756) (by decide +kernel) rfl, qw_mem (i := 19) (by decide +kernel) rfl, qw_mem (i := 32) (by decide +kernel) rfl, qw_mem (i := 757) (by decide +kernel) rfl, by decide, by decide, by decide +kernel⟩
theorem m_X4_trySize : qMv yX4_trySize cX4_trySize 11 none 1 := ⟨qw_mem (i := 788) (by decide +kernel) rfl, qw_mem (i := 22) (by decide +kernel) rfl, qw_mem (i := 32) (by decide +kernel) rfl, qw_mem (i := 789) (by decide +kernel) rfl, by decide, by decide, by decide +kernel⟩
theorem m_X4_worthTrying : qMv yX4_worthTrying cX4_worthTrying 4 (some .int) 2 := ⟨qw_mem (i := 761) (by decide +kernel) rfl, qw_mem (i := 20) (by decide +kernel) rfl, qw_mem (i := 32) (by decide +kernel) rfl, qw_mem (i := 762) (by decide +kernel) rfl, by decide, by decide, by decide +kernel⟩
theorem m_X5_aboveFault : qMv yX5_aboveFault cX5_aboveFault 4 (some .char) 2 := ⟨qw_mem (i := 668) (by decide +kernel) rfl, qw_mem (i := 11) (by decide +kernel) rfl, qw_mem (i := 35) (by decide +kernel) rfl, qw_mem (i := 669) (by decide +kernel) rfl, by decide, by decide, by decide +kernel⟩
theorem m_X5_become : qMv yX5_become cX5_become 2 none 1 := ⟨qw_mem (i := 513) (by decide +kernel) rfl, qw_mem (i := 514) (by decide +kernel) rfl, qw_mem (i := 35) (by decide +kernel) rfl, qw_mem (i := 515) (by decide +kernel) rfl, by decide, by decide, by decide +kernel⟩
theorem m_X5_changed : qMv yX5_changed cX5_changed 1 none 0 := ⟨qw_mem (i := 892) (by decide +kernel) rfl, qw_mem (i := 893) (by decide +kernel) rfl, qw_mem (i := 35) (by decide +kernel) rfl, qw_mem (i := 894) (by decide +kernel) rfl, by decide, by decide, by decide +kernel⟩
theorem m_X5_dispatch : qMv yX5_dispatch cX5_dispatch 6 (some .int) 3 := ⟨qw_mem (i := 709) (by decide +kernel) rfl, qw_mem (i := 18) (by decide +kernel) rfl, qw_mem (i := 35) (by decide +kernel) rfl, qw_mem (i := 710) (by decide +kernel) rfl, by decide, by decide, by decide +kernel⟩
theorem m_X5_isBarred : qMv yX5_isBarred cX5_isBarred 7 (some .boolean) 2 := ⟨qw_mem (i := 673) (by decide +kernel) rfl, qw_mem (i := 12) (by decide +kernel) rfl, qw_mem (i := 35) (by decide +kernel) rfl, qw_mem (i := 674) (by decide +kernel) rfl, by decide, by decide, by decide +kernel⟩
theorem m_X5_isClass : qMv yX5_isClass cX5_isClass 2 (some .boolean) 1 := ⟨qw_mem (i := 697) (by decide +kernel) rfl, qw_mem (i := 15) (by decide +kernel) rfl, qw_mem (i := 35) (by decide +kernel) rfl, qw_mem (i := 698) (by decide +kernel) rfl, by decide, by decide, by decide +kernel⟩
theorem m_X5_law : qMv yX5_law cX5_law 1 (some .int) 0 := ⟨qw_mem (i := 542) (by decide +kernel) rfl, qw_mem (i := 543) (by decide +kernel) rfl, qw_mem (i := 35) (by decide +kernel) rfl, qw_mem (i := 544) (by decide +kernel) rfl, by decide, by decide, by decide +kernel⟩
theorem m_X5_load : qMv yX5_load cX5_load 4 (some .char) 1 := ⟨qw_mem (i := 663) (by decide +kernel) rfl, qw_mem (i := 664) (by decide +kernel) rfl, qw_mem (i := 35) (by decide +kernel) rfl, qw_mem (i := 665) (by decide +kernel) rfl, by decide, by decide, by decide +kernel⟩
theorem m_X5_makingFault : qMv yX5_makingFault cX5_makingFault 3 (some .char) 1 := ⟨qw_mem (i := 686) (by decide +kernel) rfl, qw_mem (i := 13) (by decide +kernel) rfl, qw_mem (i := 35) (by decide +kernel) rfl, qw_mem (i := 687) (by decide +kernel) rfl, by decide, by decide, by decide +kernel⟩
theorem m_X5_mayBeAbove : qMv yX5_mayBeAbove cX5_mayBeAbove 3 (some .boolean) 2 := ⟨qw_mem (i := 794) (by decide +kernel) rfl, qw_mem (i := 795) (by decide +kernel) rfl, qw_mem (i := 35) (by decide +kernel) rfl, qw_mem (i := 796) (by decide +kernel) rfl, by decide, by decide, by decide +kernel⟩
theorem m_X5_ownUseFault : qMv yX5_ownUseFault cX5_ownUseFault 2 (some .char) 1 := ⟨qw_mem (i := 701) (by decide +kernel) rfl, qw_mem (i := 16) (by decide +kernel) rfl, qw_mem (i := 35) (by decide +kernel) rfl, qw_mem (i := 702) (by decide +kernel) rfl, by decide, by decide, by decide +kernel⟩
theorem m_X5_perform : qMv yX5_perform cX5_perform 11 (some .int) 4 := ⟨qw_mem (i := 681) (by decide +kernel) rfl, qw_mem (i := 682) (by decide +kernel) rfl, qw_mem (i := 35) (by decide +kernel) rfl, qw_mem (i := 683) (by decide +kernel) rfl, by decide, by decide, by decide +kernel⟩
theorem m_X5_typeFault : qMv yX5_typeFault cX5_typeFault 5 (some .char) 2 := ⟨qw_mem (i := 690) (by decide +kernel) rfl, qw_mem (i := 14) (by decide +kernel) rfl, qw_mem (i := 35) (by decide +kernel) rfl, qw_mem (i := 691) (by decide +kernel) rfl, by decide, by decide, by decide +kernel⟩
theorem m_X5_useFault : qMv yX5_useFault cX5_useFault 12 (some .char) 5 := ⟨qw_mem (i := 705) (by decide +kernel) rfl, qw_mem (i := 17) (by decide +kernel) rfl, qw_mem (i := 35) (by decide +kernel) rfl, qw_mem (i := 706) (by decide +kernel) rfl, by decide, by decide, by decide +kernel⟩
theorem m_X6_become : qMv yX6_become cX6_become 2 none 1 := ⟨qw_mem (i := 524) (by decide +kernel) rfl, qw_mem (i := 525) (by decide +kernel) rfl, qw_mem (i := 37) (by decide +kernel) rfl, qw_mem (i := 526) (by decide +kernel) rfl, by decide, by decide, by decide +kernel⟩
theorem m_X6_clear : qMv yX6_clear cX6_clear 3 none 1 := ⟨qw_mem (i := 884) (by decide +kernel) rfl, qw_mem (i := 885) (by decide +kernel) rfl, qw_mem (i := 37) (by decide +kernel) rfl, qw_mem (i := 886) (by decide +kernel) rfl, by decide, by decide, by decide +kernel⟩
theorem m_X6_put : qMv yX6_put cX6_put 7 (some .char) 4 := ⟨qw_mem (i := 888) (by decide +kernel) rfl, qw_mem (i := 889) (by decide +kernel) rfl, qw_mem (i := 37) (by decide +kernel) rfl, qw_mem (i := 890) (by decide +kernel) rfl, by decide, by decide, by decide +kernel⟩
theorem m_X7_become : qMv yX7_become cX7_become 2 none 1 := ⟨qw_mem (i := 779) (by decide +kernel) rfl, qw_mem (i := 780) (by decide +kernel) rfl, qw_mem (i := 34) (by decide +kernel) rfl, qw_mem (i := 781) (by decide +kernel) rfl, by decide, by decide, by decide +kernel⟩
theorem m_X7_clear : qMv yX7_clear cX7_clear 1 none 0 := ⟨qw_mem (i := 750) (by decide +kernel) rfl, qw_mem (i := 751) (by decide +kernel) rfl, qw_mem (i := 34) (by decide +kernel) rfl, qw_mem (i := 752) (by decide +kernel) rfl, by decide, by decide, by decide +kernel⟩
theorem m_X7_set : qMv yX7_set cX7_set 4 none 3 := ⟨qw_mem (i := 798) (by decide +kernel) rfl, qw_mem (i := 799) (by decide +kernel) rfl, qw_mem (i := 34) (by decide +kernel) rfl, qw_mem (i := 800) (by decide +kernel) rfl, by decide, by decide, by decide +kernel⟩
theorem m_X8_follow : qMv yX8_follow cX8_follow 5 none 2 := ⟨qw_mem (i := 659) (by decide +kernel) rfl, qw_mem (i := 660) (by decide +kernel) rfl, qw_mem (i := 31) (by decide +kernel) rfl, qw_mem (i := 661) (by decide +kernel) rfl, by decide, by decide, by decide +kernel⟩
theorem m_X9_above : qMv yX9_above cX9_above 6 (some .char) 3 := ⟨qw_mem (i := 944) (by decide +kernel) rfl, qw_mem (i := 945) (by decide +kernel) rfl, qw_mem (i := 30) (by decide +kernel) rfl, qw_mem (i := 946) (by decide +kernel) rfl, by decide, by decide, by decide +kernel⟩
theorem m_X9_act : qMv yX9_act cX9_act 13 (some .int) 6 := ⟨qw_mem (i := 1102) (by decide +kernel) rfl, qw_mem (i := 1103) (by decide +kernel) rfl, qw_mem (i := 30) (by decide +kernel) rfl, qw_mem (i := 1104) (by decide +kernel) rfl, by decide, by decide, by decide +kernel⟩
theorem m_X9_areFittingsSound : qMv yX9_areFittingsSound cX9_areFittingsSound 4 (some .boolean) 0 := ⟨qw_mem (i := 824) (by decide +kernel) rfl, qw_mem (i := 23) (by decide +kernel) rfl, qw_mem (i := 30) (by decide +kernel) rfl, qw_mem (i := 825) (by decide +kernel) rfl, by decide, by decide, by decide +kernel⟩
theorem m_X9_areNumbersSound : qMv yX9_areNumbersSound cX9_areNumbersSound 4 (some .boolean) 0 := ⟨qw_mem (i := 837) (by decide +kernel) rfl, qw_mem (i := 26) (by decide +kernel) rfl, qw_mem (i := 30) (by decide +kernel) rfl, qw_mem (i := 838) (by decide +kernel) rfl, by decide, by decide, by decide +kernel⟩
theorem m_X9_check : qMv yX9_check cX9_check 2 (some .int) 1 := ⟨qw_mem (i := 1020) (by decide +kernel) rfl, qw_mem (i := 1021) (by decide +kernel) rfl, qw_mem (i := 30) (by decide +kernel) rfl, qw_mem (i := 1022) (by decide +kernel) rfl, by decide, by decide, by decide +kernel⟩
theorem m_X9_copy : qMv yX9_copy cX9_copy 3 (some .int) 2 := ⟨qw_mem (i := 485) (by decide +kernel) rfl, qw_mem (i := 486) (by decide +kernel) rfl, qw_mem (i := 30) (by decide +kernel) rfl, qw_mem (i := 487) (by decide +kernel) rfl, by decide, by decide, by decide +kernel⟩
theorem m_X9_doesFittingGoOn : qMv yX9_doesFittingGoOn cX9_doesFittingGoOn 3 (some .boolean) 0 := ⟨qw_mem (i := 832) (by decide +kernel) rfl, qw_mem (i := 25) (by decide +kernel) rfl, qw_mem (i := 30) (by decide +kernel) rfl, qw_mem (i := 833) (by decide +kernel) rfl, by decide, by decide, by decide +kernel⟩
theorem m_X9_doesLeastTell : qMv yX9_doesLeastTell cX9_doesLeastTell 3 (some .boolean) 2 := ⟨qw_mem (i := 828) (by decide +kernel) rfl, qw_mem (i := 24) (by decide +kernel) rfl, qw_mem (i := 30) (by decide +kernel) rfl, qw_mem (i := 829) (by decide +kernel) rfl, by decide, by decide, by decide +kernel⟩
theorem m_X9_fault : qMv yX9_fault cX9_fault 1 (some .char) 0 := ⟨qw_mem (i := 717) (by decide +kernel) rfl, qw_mem (i := 718) (by decide +kernel) rfl, qw_mem (i := 30) (by decide +kernel) rfl, qw_mem (i := 719) (by decide +kernel) rfl, by decide, by decide, by decide +kernel⟩
theorem m_X9_field : qMv yX9_field cX9_field 9 (some .char) 7 := ⟨qw_mem (i := 990) (by decide +kernel) rfl, qw_mem (i := 991) (by decide +kernel) rfl, qw_mem (i := 30) (by decide +kernel) rfl, qw_mem (i := 992) (by decide +kernel) rfl, by decide, by decide, by decide +kernel⟩
theorem m_X9_fits : qMv yX9_fits cX9_fits 3 (some .boolean) 2 := ⟨qw_mem (i := 742) (by decide +kernel) rfl, qw_mem (i := 743) (by decide +kernel) rfl, qw_mem (i := 30) (by decide +kernel) rfl, qw_mem (i := 744) (by decide +kernel) rfl, by decide, by decide, by decide +kernel⟩
theorem m_X9_flag : qMv yX9_flag cX9_flag 8 (some .boolean) 4 := ⟨qw_mem (i := 998) (by decide +kernel) rfl, qw_mem (i := 999) (by decide +kernel) rfl, qw_mem (i := 30) (by decide +kernel) rfl, qw_mem (i := 1000) (by decide +kernel) rfl, by decide, by decide, by decide +kernel⟩
theorem m_X9_has : qMs yX9_has cX9_has 2 (some .boolean) 2 := ⟨qw_mem (i := 554) (by decide +kernel) rfl, qw_mem (i := 30) (by decide +kernel) rfl, qw_mem (i := 555) (by decide +kernel) rfl, by decide, by decide, by decide +kernel⟩
theorem m_X9_hasMember : qMs yX9_hasMember cX9_hasMember 1 (some .boolean) 1 := ⟨qw_mem (i := 764) (by decide +kernel) rfl, qw_mem (i := 30) (by decide +kernel) rfl, qw_mem (i := 765) (by decide +kernel) rfl, by decide, by decide, by decide +kernel⟩
theorem m_X9_hasObject : qMs yX9_hasObject cX9_hasObject 1 (some .boolean) 1 := ⟨qw_mem (i := 770) (by decide +kernel) rfl, qw_mem (i := 30) (by decide +kernel) rfl, qw_mem (i := 771) (by decide +kernel) rfl, by decide, by decide, by decide +kernel⟩
theorem m_X9_hasType : qMs yX9_hasType cX9_hasType 1 (some .boolean) 1 := ⟨qw_mem (i := 767) (by decide +kernel) rfl, qw_mem (i := 30) (by decide +kernel) rfl, qw_mem (i := 768) (by decide +kernel) rfl, by decide, by decide, by decide +kernel⟩
theorem m_X9_isCall : qMs yX9_isCall cX9_isCall 1 (some .boolean) 1 := ⟨qw_mem (i := 693) (by decide +kernel) rfl, qw_mem (i := 30) (by decide +kernel) rfl, qw_mem (i := 694) (by decide +kernel) rfl, by decide, by decide, by decide +kernel⟩
theorem m_X9_isMember : qMs yX9_isMember cX9_isMember 2 (some .boolean) 2 := ⟨qw_mem (i := 972) (by decide +kernel) rfl, qw_mem (i := 30) (by decide +kernel) rfl, qw_mem (i := 973) (by decide +kernel) rfl, by decide, by decide, by decide +kernel⟩
theorem m_X9_isSight : qMs yX9_isSight cX9_isSight 1 (some .boolean) 1 := ⟨qw_mem (i := 975) (by decide +kernel) rfl, qw_mem (i := 30) (by decide +kernel) rfl, qw_mem (i := 976) (by decide +kernel) rfl, by decide, by decide, by decide +kernel⟩
theorem m_X9_isSound : qMv yX9_isSound cX9_isSound 1 (some .boolean) 0 := ⟨qw_mem (i := 819) (by decide +kernel) rfl, qw_mem (i := 820) (by decide +kernel) rfl, qw_mem (i := 30) (by decide +kernel) rfl, qw_mem (i := 821) (by decide +kernel) rfl, by decide, by decide, by decide +kernel⟩
theorem m_X9_isType : qMs yX9_isType cX9_isType 1 (some .boolean) 1 := ⟨qw_mem (i := 859) (by decide +kernel) rfl, qw_mem (i := 30) (by decide +kernel) rfl, qw_mem (i := 860) (by decide +kernel) rfl, by decide, by decide, by decide +kernel⟩
theorem m_X9_kindIndex : qMs yX9_kindIndex cX9_kindIndex 2 (some .int) 1 := ⟨qw_mem (i := 1106) (by decide +kernel) rfl, qw_mem (i := 30) (by decide +kernel) rfl, qw_mem (i := 1107) (by decide +kernel) rfl, by decide, by decide, by decide +kernel⟩
theorem m_X9_letter : qMs yX9_letter cX9_letter 1 (some .char) 1 := ⟨qw_mem (i := 951) (by decide +kernel) rfl, qw_mem (i := 30) (by decide +kernel) rfl, qw_mem (i := 952) (by decide +kernel) rfl, by decide, by decide, by decide +kernel⟩
theorem m_X9_maker : qMv yX9_maker cX9_maker 6 (some .char) 3 := ⟨qw_mem (i := 1009) (by decide +kernel) rfl, qw_mem (i := 1010) (by decide +kernel) rfl, qw_mem (i := 30) (by decide +kernel) rfl, qw_mem (i := 1011) (by decide +kernel) rfl, by decide, by decide, by decide +kernel⟩
theorem m_X9_memberIndex : qMs yX9_memberIndex cX9_memberIndex 2 (some .int) 2 := ⟨qw_mem (i := 982) (by decide +kernel) rfl, qw_mem (i := 30) (by decide +kernel) rfl, qw_mem (i := 983) (by decide +kernel) rfl, by decide, by decide, by decide +kernel⟩
theorem m_X9_memberPlace : qMs yX9_memberPlace cX9_memberPlace 3 (some .int) 3 := ⟨qw_mem (i := 979) (by decide +kernel) rfl, qw_mem (i := 30) (by decide +kernel) rfl, qw_mem (i := 980) (by decide +kernel) rfl, by decide, by decide, by decide +kernel⟩
theorem m_X9_method : qMv yX9_method cX9_method 9 (some .char) 7 := ⟨qw_mem (i := 968) (by decide +kernel) rfl, qw_mem (i := 969) (by decide +kernel) rfl, qw_mem (i := 30) (by decide +kernel) rfl, qw_mem (i := 970) (by decide +kernel) rfl, by decide, by decide, by decide +kernel⟩
theorem m_X9_nameOf : qMs yX9_nameOf cX9_nameOf 1 (some .char) 1 := ⟨qw_mem (i := 1094) (by decide +kernel) rfl, qw_mem (i := 30) (by decide +kernel) rfl, qw_mem (i := 1095) (by decide +kernel) rfl, by decide, by decide, by decide +kernel⟩
theorem m_X9_needElement : qMs yX9_needElement cX9_needElement 1 none 1 := ⟨qw_mem (i := 721) (by decide +kernel) rfl, qw_mem (i := 30) (by decide +kernel) rfl, qw_mem (i := 722) (by decide +kernel) rfl, by decide, by decide, by decide +kernel⟩
theorem m_X9_needPlace : qMs yX9_needPlace cX9_needPlace 2 none 2 := ⟨qw_mem (i := 489) (by decide +kernel) rfl, qw_mem (i := 30) (by decide +kernel) rfl, qw_mem (i := 490) (by decide +kernel) rfl, by decide, by decide, by decide +kernel⟩
theorem m_X9_needRange : qMs yX9_needRange cX9_needRange 1 none 1 := ⟨qw_mem (i := 862) (by decide +kernel) rfl, qw_mem (i := 30) (by decide +kernel) rfl, qw_mem (i := 863) (by decide +kernel) rfl, by decide, by decide, by decide +kernel⟩
theorem m_X9_needState : qMs yX9_needState cX9_needState 1 none 1 := ⟨qw_mem (i := 1068) (by decide +kernel) rfl, qw_mem (i := 30) (by decide +kernel) rfl, qw_mem (i := 1069) (by decide +kernel) rfl, by decide, by decide, by decide +kernel⟩
theorem m_X9_needSupport : qMs yX9_needSupport cX9_needSupport 1 none 1 := ⟨qw_mem (i := 641) (by decide +kernel) rfl, qw_mem (i := 30) (by decide +kernel) rfl, qw_mem (i := 642) (by decide +kernel) rfl, by decide, by decide, by decide +kernel⟩
theorem m_X9_needThere : qMs yX9_needThere cX9_needThere 2 none 2 := ⟨qw_mem (i := 948) (by decide +kernel) rfl, qw_mem (i := 30) (by decide +kernel) rfl, qw_mem (i := 949) (by decide +kernel) rfl, by decide, by decide, by decide +kernel⟩
theorem m_X9_numberDue : qMv yX9_numberDue cX9_numberDue 5 (some .int) 3 := ⟨qw_mem (i := 845) (by decide +kernel) rfl, qw_mem (i := 28) (by decide +kernel) rfl, qw_mem (i := 30) (by decide +kernel) rfl, qw_mem (i := 846) (by decide +kernel) rfl, by decide, by decide, by decide +kernel⟩
theorem m_X9_own : qMv yX9_own cX9_own 5 (some .boolean) 2 := ⟨qw_mem (i := 1047) (by decide +kernel) rfl, qw_mem (i := 1048) (by decide +kernel) rfl, qw_mem (i := 30) (by decide +kernel) rfl, qw_mem (i := 1049) (by decide +kernel) rfl, by decide, by decide, by decide +kernel⟩
theorem m_X9_ownAbove : qMv yX9_ownAbove cX9_ownAbove 5 (some .char) 2 := ⟨qw_mem (i := 1055) (by decide +kernel) rfl, qw_mem (i := 1056) (by decide +kernel) rfl, qw_mem (i := 30) (by decide +kernel) rfl, qw_mem (i := 1057) (by decide +kernel) rfl, by decide, by decide, by decide +kernel⟩
theorem m_X9_ownMethod : qMv yX9_ownMethod cX9_ownMethod 6 (some .char) 3 := ⟨qw_mem (i := 1090) (by decide +kernel) rfl, qw_mem (i := 1091) (by decide +kernel) rfl, qw_mem (i := 30) (by decide +kernel) rfl, qw_mem (i := 1092) (by decide +kernel) rfl, by decide, by decide, by decide +kernel⟩
theorem m_X9_ownUnder : qMv yX9_ownUnder cX9_ownUnder 7 (some .boolean) 3 := ⟨qw_mem (i := 1063) (by decide +kernel) rfl, qw_mem (i := 1064) (by decide +kernel) rfl, qw_mem (i := 30) (by decide +kernel) rfl, qw_mem (i := 1065) (by decide +kernel) rfl, by decide, by decide, by decide +kernel⟩
theorem m_X9_rowOf : qMs yX9_rowOf cX9_rowOf 1 (some .int) 1 := ⟨qw_mem (i := 1113) (by decide +kernel) rfl, qw_mem (i := 30) (by decide +kernel) rfl, qw_mem (i := 1114) (by decide +kernel) rfl, by decide, by decide, by decide +kernel⟩
theorem m_X9_run : qMv yX9_run cX9_run 3 (some .int) 2 := ⟨qw_mem (i := 538) (by decide +kernel) rfl, qw_mem (i := 539) (by decide +kernel) rfl, qw_mem (i := 30) (by decide +kernel) rfl, qw_mem (i := 540) (by decide +kernel) rfl, by decide, by decide, by decide +kernel⟩
theorem m_X9_sightRank : qMs yX9_sightRank cX9_sightRank 1 (some .int) 1 := ⟨qw_mem (i := 612) (by decide +kernel) rfl, qw_mem (i := 30) (by decide +kernel) rfl, qw_mem (i := 613) (by decide +kernel) rfl, by decide, by decide, by decide +kernel⟩
theorem m_X9_stepOf : qMv yX9_stepOf cX9_stepOf 2 (some .int) 1 := ⟨qw_mem (i := 841) (by decide +kernel) rfl, qw_mem (i := 27) (by decide +kernel) rfl, qw_mem (i := 30) (by decide +kernel) rfl, qw_mem (i := 842) (by decide +kernel) rfl, by decide, by decide, by decide +kernel⟩
theorem m_X9_type : qMv yX9_type cX9_type 6 (some .char) 3 := ⟨qw_mem (i := 855) (by decide +kernel) rfl, qw_mem (i := 856) (by decide +kernel) rfl, qw_mem (i := 30) (by decide +kernel) rfl, qw_mem (i := 857) (by decide +kernel) rfl, by decide, by decide, by decide +kernel⟩
theorem m_X9_under : qMv yX9_under cX9_under 7 (some .boolean) 4 := ⟨qw_mem (i := 957) (by decide +kernel) rfl, qw_mem (i := 958) (by decide +kernel) rfl, qw_mem (i := 30) (by decide +kernel) rfl, qw_mem (i := 959) (by decide +kernel) rfl, by decide, by decide, by decide +kernel⟩
theorem m_X9_wipe : qMv yX9_wipe cX9_wipe 3 (some .int) 1 := ⟨qw_mem (i := 1033) (by decide +kernel) rfl, qw_mem (i := 1034) (by decide +kernel) rfl, qw_mem (i := 30) (by decide +kernel) rfl, qw_mem (i := 1035) (by decide +kernel) rfl, by decide, by decide, by decide +kernel⟩
theorem m_X9_with : qMs yX9_with cX9_with 3 (some .int) 3 := ⟨qw_mem (i := 961) (by decide +kernel) rfl, qw_mem (i := 30) (by decide +kernel) rfl, qw_mem (i := 962) (by decide +kernel) rfl, by decide, by decide, by decide +kernel⟩
theorem m_X9_witness : qMv yX9_witness cX9_witness 5 (some .int) 3 := ⟨qw_mem (i := 805) (by decide +kernel) rfl, qw_mem (i := 806) (by decide +kernel) rfl, qw_mem (i := 30) (by decide +kernel) rfl, qw_mem (i := 807) (by decide +kernel) rfl, by decide, by decide, by decide +kernel⟩
