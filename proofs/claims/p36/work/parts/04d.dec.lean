-- pasted from the claim's printed text: decode rows
theorem dX9_init_0 : decode cX9_init 0 = .ok (.aload_n 0, 1) := by decide +kernel
theorem dX9_init_1 : decode cX9_init 1 = .ok (.invokespecial 1, 3) := by decide +kernel
theorem dX9_init_4 : decode cX9_init 4 = .ok (.aload_n 0, 1) := by decide +kernel
theorem dX9_init_5 : decode cX9_init 5 = .ok (.iconst 4, 1) := by decide +kernel
theorem dX9_init_6 : decode cX9_init 6 = .ok (.anewarray 9, 3) := by decide +kernel
theorem dX9_init_9 : decode cX9_init 9 = .ok (.putfield 11, 3) := by decide +kernel
theorem dX9_init_12 : decode cX9_init 12 = .ok (.aload_n 0, 1) := by decide +kernel
theorem dX9_init_13 : decode cX9_init 13 = .ok (.iconst 4, 1) := by decide +kernel
theorem dX9_init_14 : decode cX9_init 14 = .ok (.anewarray 15, 3) := by decide +kernel
theorem dX9_init_17 : decode cX9_init 17 = .ok (.putfield 17, 3) := by decide +kernel
theorem dX9_init_20 : decode cX9_init 20 = .ok (.aload_n 0, 1) := by decide +kernel
theorem dX9_init_21 : decode cX9_init 21 = .ok (.bipush 8, 2) := by decide +kernel
theorem dX9_init_23 : decode cX9_init 23 = .ok (.anewarray 9, 3) := by decide +kernel
theorem dX9_init_26 : decode cX9_init 26 = .ok (.putfield 21, 3) := by decide +kernel
theorem dX9_init_29 : decode cX9_init 29 = .ok (.aload_n 0, 1) := by decide +kernel
theorem dX9_init_30 : decode cX9_init 30 = .ok (.bipush 24, 2) := by decide +kernel
theorem dX9_init_32 : decode cX9_init 32 = .ok (.newarray .int, 2) := by decide +kernel
theorem dX9_init_34 : decode cX9_init 34 = .ok (.putfield 24, 3) := by decide +kernel
theorem dX9_init_37 : decode cX9_init 37 = .ok (.aload_n 0, 1) := by decide +kernel
theorem dX9_init_38 : decode cX9_init 38 = .ok (.new 28, 3) := by decide +kernel
theorem dX9_init_41 : decode cX9_init 41 = .ok (.dup, 1) := by decide +kernel
theorem dX9_init_42 : decode cX9_init 42 = .ok (.invokespecial 30, 3) := by decide +kernel
theorem dX9_init_45 : decode cX9_init 45 = .ok (.putfield 31, 3) := by decide +kernel
theorem dX9_init_48 : decode cX9_init 48 = .ok (.aload_n 0, 1) := by decide +kernel
theorem dX9_init_49 : decode cX9_init 49 = .ok (.new 28, 3) := by decide +kernel
theorem dX9_init_52 : decode cX9_init 52 = .ok (.dup, 1) := by decide +kernel
theorem dX9_init_53 : decode cX9_init 53 = .ok (.invokespecial 30, 3) := by decide +kernel
theorem dX9_init_56 : decode cX9_init 56 = .ok (.putfield 35, 3) := by decide +kernel
theorem dX9_init_59 : decode cX9_init 59 = .ok (.aload_n 0, 1) := by decide +kernel
theorem dX9_init_60 : decode cX9_init 60 = .ok (.new 38, 3) := by decide +kernel
theorem dX9_init_63 : decode cX9_init 63 = .ok (.dup, 1) := by decide +kernel
theorem dX9_init_64 : decode cX9_init 64 = .ok (.invokespecial 40, 3) := by decide +kernel
theorem dX9_init_67 : decode cX9_init 67 = .ok (.putfield 41, 3) := by decide +kernel
theorem dX9_init_70 : decode cX9_init 70 = .ok (.aload_n 0, 1) := by decide +kernel
theorem dX9_init_71 : decode cX9_init 71 = .ok (.iconst 4, 1) := by decide +kernel
theorem dX9_init_72 : decode cX9_init 72 = .ok (.newarray .int, 2) := by decide +kernel
theorem dX9_init_74 : decode cX9_init 74 = .ok (.putfield 45, 3) := by decide +kernel
theorem dX9_init_77 : decode cX9_init 77 = .ok (.aload_n 0, 1) := by decide +kernel
theorem dX9_init_78 : decode cX9_init 78 = .ok (.iconst 0, 1) := by decide +kernel
theorem dX9_init_79 : decode cX9_init 79 = .ok (.putfield 48, 3) := by decide +kernel
theorem dX9_init_82 : decode cX9_init 82 = .ok (.iconst 0, 1) := by decide +kernel
theorem dX9_init_83 : decode cX9_init 83 = .ok (.istore_n 1, 1) := by decide +kernel
theorem dX9_init_84 : decode cX9_init 84 = .ok (.iload_n 1, 1) := by decide +kernel
theorem dX9_init_85 : decode cX9_init 85 = .ok (.iconst 4, 1) := by decide +kernel
theorem dX9_init_86 : decode cX9_init 86 = .ok (.if_icmp .ge 22, 3) := by decide +kernel
theorem dX9_init_89 : decode cX9_init 89 = .ok (.aload_n 0, 1) := by decide +kernel
theorem dX9_init_90 : decode cX9_init 90 = .ok (.getfield 11, 3) := by decide +kernel
theorem dX9_init_93 : decode cX9_init 93 = .ok (.iload_n 1, 1) := by decide +kernel
theorem dX9_init_94 : decode cX9_init 94 = .ok (.new 9, 3) := by decide +kernel
theorem dX9_init_97 : decode cX9_init 97 = .ok (.dup, 1) := by decide +kernel
theorem dX9_init_98 : decode cX9_init 98 = .ok (.invokespecial 52, 3) := by decide +kernel
theorem dX9_init_101 : decode cX9_init 101 = .ok (.aastore, 1) := by decide +kernel
theorem dX9_init_102 : decode cX9_init 102 = .ok (.iinc 1 1, 3) := by decide +kernel
theorem dX9_init_105 : decode cX9_init 105 = .ok (.goto (-21), 3) := by decide +kernel
theorem dX9_init_108 : decode cX9_init 108 = .ok (.iconst 0, 1) := by decide +kernel
theorem dX9_init_109 : decode cX9_init 109 = .ok (.istore_n 1, 1) := by decide +kernel
theorem dX9_init_110 : decode cX9_init 110 = .ok (.iload_n 1, 1) := by decide +kernel
theorem dX9_init_111 : decode cX9_init 111 = .ok (.iconst 4, 1) := by decide +kernel
theorem dX9_init_112 : decode cX9_init 112 = .ok (.if_icmp .ge 22, 3) := by decide +kernel
theorem dX9_init_115 : decode cX9_init 115 = .ok (.aload_n 0, 1) := by decide +kernel
theorem dX9_init_116 : decode cX9_init 116 = .ok (.getfield 17, 3) := by decide +kernel
theorem dX9_init_119 : decode cX9_init 119 = .ok (.iload_n 1, 1) := by decide +kernel
theorem dX9_init_120 : decode cX9_init 120 = .ok (.new 15, 3) := by decide +kernel
theorem dX9_init_123 : decode cX9_init 123 = .ok (.dup, 1) := by decide +kernel
theorem dX9_init_124 : decode cX9_init 124 = .ok (.invokespecial 53, 3) := by decide +kernel
theorem dX9_init_127 : decode cX9_init 127 = .ok (.aastore, 1) := by decide +kernel
theorem dX9_init_128 : decode cX9_init 128 = .ok (.iinc 1 1, 3) := by decide +kernel
theorem dX9_init_131 : decode cX9_init 131 = .ok (.goto (-21), 3) := by decide +kernel
theorem dX9_init_134 : decode cX9_init 134 = .ok (.iconst 0, 1) := by decide +kernel
theorem dX9_init_135 : decode cX9_init 135 = .ok (.istore_n 1, 1) := by decide +kernel
theorem dX9_init_136 : decode cX9_init 136 = .ok (.iload_n 1, 1) := by decide +kernel
theorem dX9_init_137 : decode cX9_init 137 = .ok (.bipush 8, 2) := by decide +kernel
theorem dX9_init_139 : decode cX9_init 139 = .ok (.if_icmp .ge 22, 3) := by decide +kernel
theorem dX9_init_142 : decode cX9_init 142 = .ok (.aload_n 0, 1) := by decide +kernel
theorem dX9_init_143 : decode cX9_init 143 = .ok (.getfield 21, 3) := by decide +kernel
theorem dX9_init_146 : decode cX9_init 146 = .ok (.iload_n 1, 1) := by decide +kernel
theorem dX9_init_147 : decode cX9_init 147 = .ok (.new 9, 3) := by decide +kernel
theorem dX9_init_150 : decode cX9_init 150 = .ok (.dup, 1) := by decide +kernel
theorem dX9_init_151 : decode cX9_init 151 = .ok (.invokespecial 52, 3) := by decide +kernel
theorem dX9_init_154 : decode cX9_init 154 = .ok (.aastore, 1) := by decide +kernel
theorem dX9_init_155 : decode cX9_init 155 = .ok (.iinc 1 1, 3) := by decide +kernel
theorem dX9_init_158 : decode cX9_init 158 = .ok (.goto (-22), 3) := by decide +kernel
theorem dX9_init_161 : decode cX9_init 161 = .ok (.return_, 1) := by decide +kernel
theorem dX9_type_0 : decode cX9_type 0 = .ok (.iload_n 1, 1) := by decide +kernel
theorem dX9_type_1 : decode cX9_type 1 = .ok (.iconst 4, 1) := by decide +kernel
theorem dX9_type_2 : decode cX9_type 2 = .ok (.invokestatic 54, 3) := by decide +kernel
theorem dX9_type_5 : decode cX9_type 5 = .ok (.iload_n 2, 1) := by decide +kernel
theorem dX9_type_6 : decode cX9_type 6 = .ok (.invokestatic 58, 3) := by decide +kernel
theorem dX9_type_9 : decode cX9_type 9 = .ok (.ifCond .eq 25, 3) := by decide +kernel
theorem dX9_type_12 : decode cX9_type 12 = .ok (.iload_n 3, 1) := by decide +kernel
theorem dX9_type_13 : decode cX9_type 13 = .ok (.bipush 99, 2) := by decide +kernel
theorem dX9_type_15 : decode cX9_type 15 = .ok (.if_icmp .eq 15, 3) := by decide +kernel
theorem dX9_type_18 : decode cX9_type 18 = .ok (.iload_n 3, 1) := by decide +kernel
theorem dX9_type_19 : decode cX9_type 19 = .ok (.bipush 105, 2) := by decide +kernel
theorem dX9_type_21 : decode cX9_type 21 = .ok (.if_icmp .eq 9, 3) := by decide +kernel
theorem dX9_type_24 : decode cX9_type 24 = .ok (.iload_n 3, 1) := by decide +kernel
theorem dX9_type_25 : decode cX9_type 25 = .ok (.bipush 45, 2) := by decide +kernel
theorem dX9_type_27 : decode cX9_type 27 = .ok (.if_icmp .ne 7, 3) := by decide +kernel
theorem dX9_type_30 : decode cX9_type 30 = .ok (.iconst 1, 1) := by decide +kernel
theorem dX9_type_31 : decode cX9_type 31 = .ok (.goto 4, 3) := by decide +kernel
theorem dX9_type_34 : decode cX9_type 34 = .ok (.iconst 0, 1) := by decide +kernel
theorem dX9_type_35 : decode cX9_type 35 = .ok (.invokestatic 62, 3) := by decide +kernel
theorem dX9_type_38 : decode cX9_type 38 = .ok (.aload_n 0, 1) := by decide +kernel
theorem dX9_type_39 : decode cX9_type 39 = .ok (.getfield 11, 3) := by decide +kernel
theorem dX9_type_42 : decode cX9_type 42 = .ok (.iload_n 1, 1) := by decide +kernel
theorem dX9_type_43 : decode cX9_type 43 = .ok (.aaload, 1) := by decide +kernel
theorem dX9_type_44 : decode cX9_type 44 = .ok (.astore 4, 2) := by decide +kernel
theorem dX9_type_46 : decode cX9_type 46 = .ok (.aload 4, 2) := by decide +kernel
theorem dX9_type_48 : decode cX9_type 48 = .ok (.getfield 66, 3) := by decide +kernel
theorem dX9_type_51 : decode cX9_type 51 = .ok (.getfield 70, 3) := by decide +kernel
theorem dX9_type_54 : decode cX9_type 54 = .ok (.iload_n 2, 1) := by decide +kernel
theorem dX9_type_55 : decode cX9_type 55 = .ok (.bipush 65, 2) := by decide +kernel
theorem dX9_type_57 : decode cX9_type 57 = .ok (.isub, 1) := by decide +kernel
theorem dX9_type_58 : decode cX9_type 58 = .ok (.caload, 1) := by decide +kernel
theorem dX9_type_59 : decode cX9_type 59 = .ok (.istore 5, 2) := by decide +kernel
theorem dX9_type_61 : decode cX9_type 61 = .ok (.aload 4, 2) := by decide +kernel
theorem dX9_type_63 : decode cX9_type 63 = .ok (.getfield 66, 3) := by decide +kernel
theorem dX9_type_66 : decode cX9_type 66 = .ok (.iload_n 2, 1) := by decide +kernel
theorem dX9_type_67 : decode cX9_type 67 = .ok (.bipush 65, 2) := by decide +kernel
theorem dX9_type_69 : decode cX9_type 69 = .ok (.isub, 1) := by decide +kernel
theorem dX9_type_70 : decode cX9_type 70 = .ok (.iload_n 3, 1) := by decide +kernel
theorem dX9_type_71 : decode cX9_type 71 = .ok (.invokevirtual 76, 3) := by decide +kernel
theorem dX9_type_74 : decode cX9_type 74 = .ok (.aload 4, 2) := by decide +kernel
theorem dX9_type_76 : decode cX9_type 76 = .ok (.invokevirtual 80, 3) := by decide +kernel
theorem dX9_type_79 : decode cX9_type 79 = .ok (.iload 5, 2) := by decide +kernel
theorem dX9_type_81 : decode cX9_type 81 = .ok (.ireturn, 1) := by decide +kernel
theorem dX9_flag_0 : decode cX9_flag 0 = .ok (.iload_n 1, 1) := by decide +kernel
theorem dX9_flag_1 : decode cX9_flag 1 = .ok (.iconst 4, 1) := by decide +kernel
theorem dX9_flag_2 : decode cX9_flag 2 = .ok (.invokestatic 54, 3) := by decide +kernel
theorem dX9_flag_5 : decode cX9_flag 5 = .ok (.iload_n 2, 1) := by decide +kernel
theorem dX9_flag_6 : decode cX9_flag 6 = .ok (.invokestatic 58, 3) := by decide +kernel
theorem dX9_flag_9 : decode cX9_flag 9 = .ok (.ifCond .eq 25, 3) := by decide +kernel
theorem dX9_flag_12 : decode cX9_flag 12 = .ok (.iload_n 3, 1) := by decide +kernel
theorem dX9_flag_13 : decode cX9_flag 13 = .ok (.bipush 111, 2) := by decide +kernel
theorem dX9_flag_15 : decode cX9_flag 15 = .ok (.if_icmp .eq 15, 3) := by decide +kernel
theorem dX9_flag_18 : decode cX9_flag 18 = .ok (.iload_n 3, 1) := by decide +kernel
theorem dX9_flag_19 : decode cX9_flag 19 = .ok (.bipush 97, 2) := by decide +kernel
theorem dX9_flag_21 : decode cX9_flag 21 = .ok (.if_icmp .eq 9, 3) := by decide +kernel
theorem dX9_flag_24 : decode cX9_flag 24 = .ok (.iload_n 3, 1) := by decide +kernel
theorem dX9_flag_25 : decode cX9_flag 25 = .ok (.bipush 102, 2) := by decide +kernel
theorem dX9_flag_27 : decode cX9_flag 27 = .ok (.if_icmp .ne 7, 3) := by decide +kernel
theorem dX9_flag_30 : decode cX9_flag 30 = .ok (.iconst 1, 1) := by decide +kernel
theorem dX9_flag_31 : decode cX9_flag 31 = .ok (.goto 4, 3) := by decide +kernel
theorem dX9_flag_34 : decode cX9_flag 34 = .ok (.iconst 0, 1) := by decide +kernel
theorem dX9_flag_35 : decode cX9_flag 35 = .ok (.invokestatic 62, 3) := by decide +kernel
theorem dX9_flag_38 : decode cX9_flag 38 = .ok (.aload_n 0, 1) := by decide +kernel
theorem dX9_flag_39 : decode cX9_flag 39 = .ok (.getfield 11, 3) := by decide +kernel
theorem dX9_flag_42 : decode cX9_flag 42 = .ok (.iload_n 1, 1) := by decide +kernel
theorem dX9_flag_43 : decode cX9_flag 43 = .ok (.aaload, 1) := by decide +kernel
theorem dX9_flag_44 : decode cX9_flag 44 = .ok (.astore 5, 2) := by decide +kernel
theorem dX9_flag_46 : decode cX9_flag 46 = .ok (.aload 5, 2) := by decide +kernel
theorem dX9_flag_48 : decode cX9_flag 48 = .ok (.iload_n 2, 1) := by decide +kernel
theorem dX9_flag_49 : decode cX9_flag 49 = .ok (.invokestatic 83, 3) := by decide +kernel
theorem dX9_flag_52 : decode cX9_flag 52 = .ok (.aload 5, 2) := by decide +kernel
theorem dX9_flag_54 : decode cX9_flag 54 = .ok (.getfield 66, 3) := by decide +kernel
theorem dX9_flag_57 : decode cX9_flag 57 = .ok (.iload_n 3, 1) := by decide +kernel
theorem dX9_flag_58 : decode cX9_flag 58 = .ok (.invokevirtual 87, 3) := by decide +kernel
theorem dX9_flag_61 : decode cX9_flag 61 = .ok (.astore 6, 2) := by decide +kernel
theorem dX9_flag_63 : decode cX9_flag 63 = .ok (.aload 6, 2) := by decide +kernel
theorem dX9_flag_65 : decode cX9_flag 65 = .ok (.iload_n 2, 1) := by decide +kernel
theorem dX9_flag_66 : decode cX9_flag 66 = .ok (.bipush 65, 2) := by decide +kernel
theorem dX9_flag_68 : decode cX9_flag 68 = .ok (.isub, 1) := by decide +kernel
theorem dX9_flag_69 : decode cX9_flag 69 = .ok (.baload, 1) := by decide +kernel
theorem dX9_flag_70 : decode cX9_flag 70 = .ok (.istore 7, 2) := by decide +kernel
theorem dX9_flag_72 : decode cX9_flag 72 = .ok (.aload 6, 2) := by decide +kernel
theorem dX9_flag_74 : decode cX9_flag 74 = .ok (.iload_n 2, 1) := by decide +kernel
theorem dX9_flag_75 : decode cX9_flag 75 = .ok (.bipush 65, 2) := by decide +kernel
theorem dX9_flag_77 : decode cX9_flag 77 = .ok (.isub, 1) := by decide +kernel
theorem dX9_flag_78 : decode cX9_flag 78 = .ok (.iload 4, 2) := by decide +kernel
theorem dX9_flag_80 : decode cX9_flag 80 = .ok (.bastore, 1) := by decide +kernel
theorem dX9_flag_81 : decode cX9_flag 81 = .ok (.aload 5, 2) := by decide +kernel
theorem dX9_flag_83 : decode cX9_flag 83 = .ok (.invokevirtual 80, 3) := by decide +kernel
theorem dX9_flag_86 : decode cX9_flag 86 = .ok (.iload 7, 2) := by decide +kernel
theorem dX9_flag_88 : decode cX9_flag 88 = .ok (.ireturn, 1) := by decide +kernel
theorem dX9_above_0 : decode cX9_above 0 = .ok (.iload_n 1, 1) := by decide +kernel
theorem dX9_above_1 : decode cX9_above 1 = .ok (.iconst 4, 1) := by decide +kernel
theorem dX9_above_2 : decode cX9_above 2 = .ok (.invokestatic 54, 3) := by decide +kernel
theorem dX9_above_5 : decode cX9_above 5 = .ok (.iload_n 2, 1) := by decide +kernel
theorem dX9_above_6 : decode cX9_above 6 = .ok (.invokestatic 58, 3) := by decide +kernel
theorem dX9_above_9 : decode cX9_above 9 = .ok (.ifCond .eq 20, 3) := by decide +kernel
theorem dX9_above_12 : decode cX9_above 12 = .ok (.iload_n 3, 1) := by decide +kernel
theorem dX9_above_13 : decode cX9_above 13 = .ok (.invokestatic 58, 3) := by decide +kernel
theorem dX9_above_16 : decode cX9_above 16 = .ok (.ifCond .ne 9, 3) := by decide +kernel
theorem dX9_above_19 : decode cX9_above 19 = .ok (.iload_n 3, 1) := by decide +kernel
theorem dX9_above_20 : decode cX9_above 20 = .ok (.bipush 45, 2) := by decide +kernel
theorem dX9_above_22 : decode cX9_above 22 = .ok (.if_icmp .ne 7, 3) := by decide +kernel
theorem dX9_above_25 : decode cX9_above 25 = .ok (.iconst 1, 1) := by decide +kernel
theorem dX9_above_26 : decode cX9_above 26 = .ok (.goto 4, 3) := by decide +kernel
theorem dX9_above_29 : decode cX9_above 29 = .ok (.iconst 0, 1) := by decide +kernel
theorem dX9_above_30 : decode cX9_above 30 = .ok (.invokestatic 62, 3) := by decide +kernel
theorem dX9_above_33 : decode cX9_above 33 = .ok (.aload_n 0, 1) := by decide +kernel
theorem dX9_above_34 : decode cX9_above 34 = .ok (.getfield 11, 3) := by decide +kernel
theorem dX9_above_37 : decode cX9_above 37 = .ok (.iload_n 1, 1) := by decide +kernel
theorem dX9_above_38 : decode cX9_above 38 = .ok (.aaload, 1) := by decide +kernel
theorem dX9_above_39 : decode cX9_above 39 = .ok (.astore 4, 2) := by decide +kernel
theorem dX9_above_41 : decode cX9_above 41 = .ok (.aload 4, 2) := by decide +kernel
theorem dX9_above_43 : decode cX9_above 43 = .ok (.iload_n 2, 1) := by decide +kernel
theorem dX9_above_44 : decode cX9_above 44 = .ok (.invokestatic 83, 3) := by decide +kernel
theorem dX9_above_47 : decode cX9_above 47 = .ok (.aload 4, 2) := by decide +kernel
theorem dX9_above_49 : decode cX9_above 49 = .ok (.getfield 66, 3) := by decide +kernel
theorem dX9_above_52 : decode cX9_above 52 = .ok (.getfield 91, 3) := by decide +kernel
theorem dX9_above_55 : decode cX9_above 55 = .ok (.iload_n 2, 1) := by decide +kernel
theorem dX9_above_56 : decode cX9_above 56 = .ok (.bipush 65, 2) := by decide +kernel
theorem dX9_above_58 : decode cX9_above 58 = .ok (.isub, 1) := by decide +kernel
theorem dX9_above_59 : decode cX9_above 59 = .ok (.iaload, 1) := by decide +kernel
theorem dX9_above_60 : decode cX9_above 60 = .ok (.istore 5, 2) := by decide +kernel
theorem dX9_above_62 : decode cX9_above 62 = .ok (.aload 4, 2) := by decide +kernel
theorem dX9_above_64 : decode cX9_above 64 = .ok (.getfield 66, 3) := by decide +kernel
theorem dX9_above_67 : decode cX9_above 67 = .ok (.getfield 91, 3) := by decide +kernel
theorem dX9_above_70 : decode cX9_above 70 = .ok (.iload_n 2, 1) := by decide +kernel
theorem dX9_above_71 : decode cX9_above 71 = .ok (.bipush 65, 2) := by decide +kernel
theorem dX9_above_73 : decode cX9_above 73 = .ok (.isub, 1) := by decide +kernel
theorem dX9_above_74 : decode cX9_above 74 = .ok (.iload_n 3, 1) := by decide +kernel
theorem dX9_above_75 : decode cX9_above 75 = .ok (.bipush 45, 2) := by decide +kernel
theorem dX9_above_77 : decode cX9_above 77 = .ok (.if_icmp .ne 7, 3) := by decide +kernel
theorem dX9_above_80 : decode cX9_above 80 = .ok (.iconst (-1), 1) := by decide +kernel
theorem dX9_above_81 : decode cX9_above 81 = .ok (.goto 7, 3) := by decide +kernel
theorem dX9_above_84 : decode cX9_above 84 = .ok (.iload_n 3, 1) := by decide +kernel
theorem dX9_above_85 : decode cX9_above 85 = .ok (.bipush 65, 2) := by decide +kernel
theorem dX9_above_87 : decode cX9_above 87 = .ok (.isub, 1) := by decide +kernel
theorem dX9_above_88 : decode cX9_above 88 = .ok (.iastore, 1) := by decide +kernel
theorem dX9_above_89 : decode cX9_above 89 = .ok (.aload 4, 2) := by decide +kernel
theorem dX9_above_91 : decode cX9_above 91 = .ok (.invokevirtual 80, 3) := by decide +kernel
theorem dX9_above_94 : decode cX9_above 94 = .ok (.iload 5, 2) := by decide +kernel
theorem dX9_above_96 : decode cX9_above 96 = .ok (.invokestatic 94, 3) := by decide +kernel
theorem dX9_above_99 : decode cX9_above 99 = .ok (.ireturn, 1) := by decide +kernel
theorem dX9_maker_0 : decode cX9_maker 0 = .ok (.iload_n 1, 1) := by decide +kernel
theorem dX9_maker_1 : decode cX9_maker 1 = .ok (.iconst 4, 1) := by decide +kernel
theorem dX9_maker_2 : decode cX9_maker 2 = .ok (.invokestatic 54, 3) := by decide +kernel
theorem dX9_maker_5 : decode cX9_maker 5 = .ok (.iload_n 2, 1) := by decide +kernel
theorem dX9_maker_6 : decode cX9_maker 6 = .ok (.invokestatic 58, 3) := by decide +kernel
theorem dX9_maker_9 : decode cX9_maker 9 = .ok (.ifCond .eq 14, 3) := by decide +kernel
theorem dX9_maker_12 : decode cX9_maker 12 = .ok (.iload_n 3, 1) := by decide +kernel
theorem dX9_maker_13 : decode cX9_maker 13 = .ok (.invokestatic 98, 3) := by decide +kernel
theorem dX9_maker_16 : decode cX9_maker 16 = .ok (.ifCond .eq 7, 3) := by decide +kernel
theorem dX9_maker_19 : decode cX9_maker 19 = .ok (.iconst 1, 1) := by decide +kernel
theorem dX9_maker_20 : decode cX9_maker 20 = .ok (.goto 4, 3) := by decide +kernel
theorem dX9_maker_23 : decode cX9_maker 23 = .ok (.iconst 0, 1) := by decide +kernel
theorem dX9_maker_24 : decode cX9_maker 24 = .ok (.invokestatic 62, 3) := by decide +kernel
theorem dX9_maker_27 : decode cX9_maker 27 = .ok (.aload_n 0, 1) := by decide +kernel
theorem dX9_maker_28 : decode cX9_maker 28 = .ok (.getfield 11, 3) := by decide +kernel
theorem dX9_maker_31 : decode cX9_maker 31 = .ok (.iload_n 1, 1) := by decide +kernel
theorem dX9_maker_32 : decode cX9_maker 32 = .ok (.aaload, 1) := by decide +kernel
theorem dX9_maker_33 : decode cX9_maker 33 = .ok (.astore 4, 2) := by decide +kernel
theorem dX9_maker_35 : decode cX9_maker 35 = .ok (.aload 4, 2) := by decide +kernel
theorem dX9_maker_37 : decode cX9_maker 37 = .ok (.iload_n 2, 1) := by decide +kernel
theorem dX9_maker_38 : decode cX9_maker 38 = .ok (.invokestatic 83, 3) := by decide +kernel
theorem dX9_maker_41 : decode cX9_maker 41 = .ok (.aload 4, 2) := by decide +kernel
theorem dX9_maker_43 : decode cX9_maker 43 = .ok (.getfield 66, 3) := by decide +kernel
theorem dX9_maker_46 : decode cX9_maker 46 = .ok (.getfield 101, 3) := by decide +kernel
theorem dX9_maker_49 : decode cX9_maker 49 = .ok (.iload_n 2, 1) := by decide +kernel
theorem dX9_maker_50 : decode cX9_maker 50 = .ok (.bipush 65, 2) := by decide +kernel
theorem dX9_maker_52 : decode cX9_maker 52 = .ok (.isub, 1) := by decide +kernel
theorem dX9_maker_53 : decode cX9_maker 53 = .ok (.caload, 1) := by decide +kernel
theorem dX9_maker_54 : decode cX9_maker 54 = .ok (.istore 5, 2) := by decide +kernel
theorem dX9_maker_56 : decode cX9_maker 56 = .ok (.aload 4, 2) := by decide +kernel
theorem dX9_maker_58 : decode cX9_maker 58 = .ok (.getfield 66, 3) := by decide +kernel
theorem dX9_maker_61 : decode cX9_maker 61 = .ok (.getfield 101, 3) := by decide +kernel
theorem dX9_maker_64 : decode cX9_maker 64 = .ok (.iload_n 2, 1) := by decide +kernel
theorem dX9_maker_65 : decode cX9_maker 65 = .ok (.bipush 65, 2) := by decide +kernel
theorem dX9_maker_67 : decode cX9_maker 67 = .ok (.isub, 1) := by decide +kernel
theorem dX9_maker_68 : decode cX9_maker 68 = .ok (.iload_n 3, 1) := by decide +kernel
theorem dX9_maker_69 : decode cX9_maker 69 = .ok (.castore, 1) := by decide +kernel
theorem dX9_maker_70 : decode cX9_maker 70 = .ok (.aload 4, 2) := by decide +kernel
theorem dX9_maker_72 : decode cX9_maker 72 = .ok (.invokevirtual 80, 3) := by decide +kernel
theorem dX9_maker_75 : decode cX9_maker 75 = .ok (.iload 5, 2) := by decide +kernel
theorem dX9_maker_77 : decode cX9_maker 77 = .ok (.ireturn, 1) := by decide +kernel
theorem dX9_under_0 : decode cX9_under 0 = .ok (.iload_n 1, 1) := by decide +kernel
theorem dX9_under_1 : decode cX9_under 1 = .ok (.iconst 4, 1) := by decide +kernel
theorem dX9_under_2 : decode cX9_under 2 = .ok (.invokestatic 54, 3) := by decide +kernel
theorem dX9_under_5 : decode cX9_under 5 = .ok (.iload_n 2, 1) := by decide +kernel
theorem dX9_under_6 : decode cX9_under 6 = .ok (.invokestatic 58, 3) := by decide +kernel
theorem dX9_under_9 : decode cX9_under 9 = .ok (.ifCond .eq 14, 3) := by decide +kernel
theorem dX9_under_12 : decode cX9_under 12 = .ok (.iload_n 3, 1) := by decide +kernel
theorem dX9_under_13 : decode cX9_under 13 = .ok (.invokestatic 58, 3) := by decide +kernel
theorem dX9_under_16 : decode cX9_under 16 = .ok (.ifCond .eq 7, 3) := by decide +kernel
theorem dX9_under_19 : decode cX9_under 19 = .ok (.iconst 1, 1) := by decide +kernel
theorem dX9_under_20 : decode cX9_under 20 = .ok (.goto 4, 3) := by decide +kernel
theorem dX9_under_23 : decode cX9_under 23 = .ok (.iconst 0, 1) := by decide +kernel
theorem dX9_under_24 : decode cX9_under 24 = .ok (.invokestatic 62, 3) := by decide +kernel
theorem dX9_under_27 : decode cX9_under 27 = .ok (.aload_n 0, 1) := by decide +kernel
theorem dX9_under_28 : decode cX9_under 28 = .ok (.getfield 11, 3) := by decide +kernel
theorem dX9_under_31 : decode cX9_under 31 = .ok (.iload_n 1, 1) := by decide +kernel
theorem dX9_under_32 : decode cX9_under 32 = .ok (.aaload, 1) := by decide +kernel
theorem dX9_under_33 : decode cX9_under 33 = .ok (.astore 5, 2) := by decide +kernel
theorem dX9_under_35 : decode cX9_under 35 = .ok (.aload 5, 2) := by decide +kernel
theorem dX9_under_37 : decode cX9_under 37 = .ok (.iload_n 2, 1) := by decide +kernel
theorem dX9_under_38 : decode cX9_under 38 = .ok (.invokestatic 83, 3) := by decide +kernel
theorem dX9_under_41 : decode cX9_under 41 = .ok (.aload 5, 2) := by decide +kernel
theorem dX9_under_43 : decode cX9_under 43 = .ok (.getfield 66, 3) := by decide +kernel
theorem dX9_under_46 : decode cX9_under 46 = .ok (.getfield 104, 3) := by decide +kernel
theorem dX9_under_49 : decode cX9_under 49 = .ok (.iload_n 2, 1) := by decide +kernel
theorem dX9_under_50 : decode cX9_under 50 = .ok (.bipush 65, 2) := by decide +kernel
theorem dX9_under_52 : decode cX9_under 52 = .ok (.isub, 1) := by decide +kernel
theorem dX9_under_53 : decode cX9_under 53 = .ok (.iaload, 1) := by decide +kernel
theorem dX9_under_54 : decode cX9_under 54 = .ok (.istore 6, 2) := by decide +kernel
theorem dX9_under_56 : decode cX9_under 56 = .ok (.aload 5, 2) := by decide +kernel
theorem dX9_under_58 : decode cX9_under 58 = .ok (.getfield 66, 3) := by decide +kernel
theorem dX9_under_61 : decode cX9_under 61 = .ok (.getfield 104, 3) := by decide +kernel
theorem dX9_under_64 : decode cX9_under 64 = .ok (.iload_n 2, 1) := by decide +kernel
theorem dX9_under_65 : decode cX9_under 65 = .ok (.bipush 65, 2) := by decide +kernel
theorem dX9_under_67 : decode cX9_under 67 = .ok (.isub, 1) := by decide +kernel
theorem dX9_under_68 : decode cX9_under 68 = .ok (.iload 6, 2) := by decide +kernel
theorem dX9_under_70 : decode cX9_under 70 = .ok (.iload_n 3, 1) := by decide +kernel
theorem dX9_under_71 : decode cX9_under 71 = .ok (.bipush 65, 2) := by decide +kernel
theorem dX9_under_73 : decode cX9_under 73 = .ok (.isub, 1) := by decide +kernel
theorem dX9_under_74 : decode cX9_under 74 = .ok (.iload 4, 2) := by decide +kernel
theorem dX9_under_76 : decode cX9_under 76 = .ok (.invokestatic 107, 3) := by decide +kernel
theorem dX9_under_79 : decode cX9_under 79 = .ok (.iastore, 1) := by decide +kernel
theorem dX9_under_80 : decode cX9_under 80 = .ok (.aload 5, 2) := by decide +kernel
theorem dX9_under_82 : decode cX9_under 82 = .ok (.invokevirtual 80, 3) := by decide +kernel
theorem dX9_under_85 : decode cX9_under 85 = .ok (.iload 6, 2) := by decide +kernel
theorem dX9_under_87 : decode cX9_under 87 = .ok (.iload_n 3, 1) := by decide +kernel
theorem dX9_under_88 : decode cX9_under 88 = .ok (.bipush 65, 2) := by decide +kernel
theorem dX9_under_90 : decode cX9_under 90 = .ok (.isub, 1) := by decide +kernel
theorem dX9_under_91 : decode cX9_under 91 = .ok (.invokestatic 111, 3) := by decide +kernel
theorem dX9_under_94 : decode cX9_under 94 = .ok (.ireturn, 1) := by decide +kernel
theorem dX9_method_0 : decode cX9_method 0 = .ok (.iload_n 1, 1) := by decide +kernel
theorem dX9_method_1 : decode cX9_method 1 = .ok (.iconst 4, 1) := by decide +kernel
theorem dX9_method_2 : decode cX9_method 2 = .ok (.invokestatic 54, 3) := by decide +kernel
theorem dX9_method_5 : decode cX9_method 5 = .ok (.iload_n 2, 1) := by decide +kernel
theorem dX9_method_6 : decode cX9_method 6 = .ok (.invokestatic 58, 3) := by decide +kernel
theorem dX9_method_9 : decode cX9_method 9 = .ok (.ifCond .eq 31, 3) := by decide +kernel
theorem dX9_method_12 : decode cX9_method 12 = .ok (.iload_n 3, 1) := by decide +kernel
theorem dX9_method_13 : decode cX9_method 13 = .ok (.iload 4, 2) := by decide +kernel
theorem dX9_method_15 : decode cX9_method 15 = .ok (.invokestatic 115, 3) := by decide +kernel
theorem dX9_method_18 : decode cX9_method 18 = .ok (.ifCond .eq 22, 3) := by decide +kernel
theorem dX9_method_21 : decode cX9_method 21 = .ok (.iload 5, 2) := by decide +kernel
theorem dX9_method_23 : decode cX9_method 23 = .ok (.invokestatic 98, 3) := by decide +kernel
theorem dX9_method_26 : decode cX9_method 26 = .ok (.ifCond .ne 10, 3) := by decide +kernel
theorem dX9_method_29 : decode cX9_method 29 = .ok (.iload 5, 2) := by decide +kernel
theorem dX9_method_31 : decode cX9_method 31 = .ok (.bipush 45, 2) := by decide +kernel
theorem dX9_method_33 : decode cX9_method 33 = .ok (.if_icmp .ne 7, 3) := by decide +kernel
theorem dX9_method_36 : decode cX9_method 36 = .ok (.iconst 1, 1) := by decide +kernel
theorem dX9_method_37 : decode cX9_method 37 = .ok (.goto 4, 3) := by decide +kernel
theorem dX9_method_40 : decode cX9_method 40 = .ok (.iconst 0, 1) := by decide +kernel
theorem dX9_method_41 : decode cX9_method 41 = .ok (.invokestatic 62, 3) := by decide +kernel
theorem dX9_method_44 : decode cX9_method 44 = .ok (.iload 6, 2) := by decide +kernel
theorem dX9_method_46 : decode cX9_method 46 = .ok (.bipush 110, 2) := by decide +kernel
theorem dX9_method_48 : decode cX9_method 48 = .ok (.if_icmp .eq 24, 3) := by decide +kernel
theorem dX9_method_51 : decode cX9_method 51 = .ok (.iload 6, 2) := by decide +kernel
theorem dX9_method_53 : decode cX9_method 53 = .ok (.bipush 115, 2) := by decide +kernel
theorem dX9_method_55 : decode cX9_method 55 = .ok (.if_icmp .eq 17, 3) := by decide +kernel
theorem dX9_method_58 : decode cX9_method 58 = .ok (.iload 6, 2) := by decide +kernel
theorem dX9_method_60 : decode cX9_method 60 = .ok (.bipush 97, 2) := by decide +kernel
theorem dX9_method_62 : decode cX9_method 62 = .ok (.if_icmp .eq 10, 3) := by decide +kernel
theorem dX9_method_65 : decode cX9_method 65 = .ok (.iload 6, 2) := by decide +kernel
theorem dX9_method_67 : decode cX9_method 67 = .ok (.bipush 102, 2) := by decide +kernel
theorem dX9_method_69 : decode cX9_method 69 = .ok (.if_icmp .ne 19, 3) := by decide +kernel
theorem dX9_method_72 : decode cX9_method 72 = .ok (.iload 7, 2) := by decide +kernel
theorem dX9_method_74 : decode cX9_method 74 = .ok (.ifCond .lt 14, 3) := by decide +kernel
theorem dX9_method_77 : decode cX9_method 77 = .ok (.iload 7, 2) := by decide +kernel
theorem dX9_method_79 : decode cX9_method 79 = .ok (.bipush 99, 2) := by decide +kernel
theorem dX9_method_81 : decode cX9_method 81 = .ok (.if_icmp .gt 7, 3) := by decide +kernel
theorem dX9_method_84 : decode cX9_method 84 = .ok (.iconst 1, 1) := by decide +kernel
theorem dX9_method_85 : decode cX9_method 85 = .ok (.goto 4, 3) := by decide +kernel
theorem dX9_method_88 : decode cX9_method 88 = .ok (.iconst 0, 1) := by decide +kernel
theorem dX9_method_89 : decode cX9_method 89 = .ok (.invokestatic 62, 3) := by decide +kernel
theorem dX9_method_92 : decode cX9_method 92 = .ok (.aload_n 0, 1) := by decide +kernel
theorem dX9_method_93 : decode cX9_method 93 = .ok (.getfield 11, 3) := by decide +kernel
theorem dX9_method_96 : decode cX9_method 96 = .ok (.iload_n 1, 1) := by decide +kernel
theorem dX9_method_97 : decode cX9_method 97 = .ok (.aaload, 1) := by decide +kernel
theorem dX9_method_98 : decode cX9_method 98 = .ok (.astore 8, 2) := by decide +kernel
theorem dX9_method_100 : decode cX9_method 100 = .ok (.aload 8, 2) := by decide +kernel
theorem dX9_method_102 : decode cX9_method 102 = .ok (.iload_n 2, 1) := by decide +kernel
theorem dX9_method_103 : decode cX9_method 103 = .ok (.invokestatic 83, 3) := by decide +kernel
theorem dX9_method_106 : decode cX9_method 106 = .ok (.aload 8, 2) := by decide +kernel
theorem dX9_method_108 : decode cX9_method 108 = .ok (.invokevirtual 80, 3) := by decide +kernel
theorem dX9_method_111 : decode cX9_method 111 = .ok (.aload 8, 2) := by decide +kernel
theorem dX9_method_113 : decode cX9_method 113 = .ok (.getfield 66, 3) := by decide +kernel
theorem dX9_method_116 : decode cX9_method 116 = .ok (.getfield 119, 3) := by decide +kernel
theorem dX9_method_119 : decode cX9_method 119 = .ok (.iload_n 2, 1) := by decide +kernel
theorem dX9_method_120 : decode cX9_method 120 = .ok (.iload_n 3, 1) := by decide +kernel
theorem dX9_method_121 : decode cX9_method 121 = .ok (.iload 4, 2) := by decide +kernel
theorem dX9_method_123 : decode cX9_method 123 = .ok (.invokestatic 123, 3) := by decide +kernel
theorem dX9_method_126 : decode cX9_method 126 = .ok (.iload 5, 2) := by decide +kernel
theorem dX9_method_128 : decode cX9_method 128 = .ok (.iload 6, 2) := by decide +kernel
theorem dX9_method_130 : decode cX9_method 130 = .ok (.iload 7, 2) := by decide +kernel
theorem dX9_method_132 : decode cX9_method 132 = .ok (.invokevirtual 127, 3) := by decide +kernel
theorem dX9_method_135 : decode cX9_method 135 = .ok (.ireturn, 1) := by decide +kernel
theorem dX9_field_0 : decode cX9_field 0 = .ok (.iload_n 1, 1) := by decide +kernel
theorem dX9_field_1 : decode cX9_field 1 = .ok (.iconst 4, 1) := by decide +kernel
theorem dX9_field_2 : decode cX9_field 2 = .ok (.invokestatic 54, 3) := by decide +kernel
theorem dX9_field_5 : decode cX9_field 5 = .ok (.iload_n 2, 1) := by decide +kernel
theorem dX9_field_6 : decode cX9_field 6 = .ok (.invokestatic 58, 3) := by decide +kernel
theorem dX9_field_9 : decode cX9_field 9 = .ok (.ifCond .eq 31, 3) := by decide +kernel
theorem dX9_field_12 : decode cX9_field 12 = .ok (.iload_n 3, 1) := by decide +kernel
theorem dX9_field_13 : decode cX9_field 13 = .ok (.iload 4, 2) := by decide +kernel
theorem dX9_field_15 : decode cX9_field 15 = .ok (.invokestatic 115, 3) := by decide +kernel
theorem dX9_field_18 : decode cX9_field 18 = .ok (.ifCond .eq 22, 3) := by decide +kernel
theorem dX9_field_21 : decode cX9_field 21 = .ok (.iload 5, 2) := by decide +kernel
theorem dX9_field_23 : decode cX9_field 23 = .ok (.invokestatic 98, 3) := by decide +kernel
theorem dX9_field_26 : decode cX9_field 26 = .ok (.ifCond .ne 10, 3) := by decide +kernel
theorem dX9_field_29 : decode cX9_field 29 = .ok (.iload 5, 2) := by decide +kernel
theorem dX9_field_31 : decode cX9_field 31 = .ok (.bipush 45, 2) := by decide +kernel
theorem dX9_field_33 : decode cX9_field 33 = .ok (.if_icmp .ne 7, 3) := by decide +kernel
theorem dX9_field_36 : decode cX9_field 36 = .ok (.iconst 1, 1) := by decide +kernel
theorem dX9_field_37 : decode cX9_field 37 = .ok (.goto 4, 3) := by decide +kernel
theorem dX9_field_40 : decode cX9_field 40 = .ok (.iconst 0, 1) := by decide +kernel
theorem dX9_field_41 : decode cX9_field 41 = .ok (.invokestatic 62, 3) := by decide +kernel
theorem dX9_field_44 : decode cX9_field 44 = .ok (.iload 6, 2) := by decide +kernel
theorem dX9_field_46 : decode cX9_field 46 = .ok (.bipush 110, 2) := by decide +kernel
theorem dX9_field_48 : decode cX9_field 48 = .ok (.if_icmp .eq 24, 3) := by decide +kernel
theorem dX9_field_51 : decode cX9_field 51 = .ok (.iload 6, 2) := by decide +kernel
theorem dX9_field_53 : decode cX9_field 53 = .ok (.bipush 115, 2) := by decide +kernel
theorem dX9_field_55 : decode cX9_field 55 = .ok (.if_icmp .eq 17, 3) := by decide +kernel
theorem dX9_field_58 : decode cX9_field 58 = .ok (.iload 6, 2) := by decide +kernel
theorem dX9_field_60 : decode cX9_field 60 = .ok (.bipush 102, 2) := by decide +kernel
theorem dX9_field_62 : decode cX9_field 62 = .ok (.if_icmp .eq 10, 3) := by decide +kernel
theorem dX9_field_65 : decode cX9_field 65 = .ok (.iload 6, 2) := by decide +kernel
theorem dX9_field_67 : decode cX9_field 67 = .ok (.bipush 70, 2) := by decide +kernel
theorem dX9_field_69 : decode cX9_field 69 = .ok (.if_icmp .ne 19, 3) := by decide +kernel
theorem dX9_field_72 : decode cX9_field 72 = .ok (.iload 7, 2) := by decide +kernel
theorem dX9_field_74 : decode cX9_field 74 = .ok (.ifCond .lt 14, 3) := by decide +kernel
theorem dX9_field_77 : decode cX9_field 77 = .ok (.iload 7, 2) := by decide +kernel
theorem dX9_field_79 : decode cX9_field 79 = .ok (.bipush 99, 2) := by decide +kernel
theorem dX9_field_81 : decode cX9_field 81 = .ok (.if_icmp .gt 7, 3) := by decide +kernel
theorem dX9_field_84 : decode cX9_field 84 = .ok (.iconst 1, 1) := by decide +kernel
theorem dX9_field_85 : decode cX9_field 85 = .ok (.goto 4, 3) := by decide +kernel
theorem dX9_field_88 : decode cX9_field 88 = .ok (.iconst 0, 1) := by decide +kernel
theorem dX9_field_89 : decode cX9_field 89 = .ok (.invokestatic 62, 3) := by decide +kernel
theorem dX9_field_92 : decode cX9_field 92 = .ok (.aload_n 0, 1) := by decide +kernel
theorem dX9_field_93 : decode cX9_field 93 = .ok (.getfield 11, 3) := by decide +kernel
theorem dX9_field_96 : decode cX9_field 96 = .ok (.iload_n 1, 1) := by decide +kernel
theorem dX9_field_97 : decode cX9_field 97 = .ok (.aaload, 1) := by decide +kernel
theorem dX9_field_98 : decode cX9_field 98 = .ok (.astore 8, 2) := by decide +kernel
theorem dX9_field_100 : decode cX9_field 100 = .ok (.aload 8, 2) := by decide +kernel
theorem dX9_field_102 : decode cX9_field 102 = .ok (.iload_n 2, 1) := by decide +kernel
theorem dX9_field_103 : decode cX9_field 103 = .ok (.invokestatic 83, 3) := by decide +kernel
theorem dX9_field_106 : decode cX9_field 106 = .ok (.aload 8, 2) := by decide +kernel
theorem dX9_field_108 : decode cX9_field 108 = .ok (.invokevirtual 80, 3) := by decide +kernel
theorem dX9_field_111 : decode cX9_field 111 = .ok (.aload 8, 2) := by decide +kernel
theorem dX9_field_113 : decode cX9_field 113 = .ok (.getfield 66, 3) := by decide +kernel
theorem dX9_field_116 : decode cX9_field 116 = .ok (.getfield 133, 3) := by decide +kernel
theorem dX9_field_119 : decode cX9_field 119 = .ok (.iload_n 2, 1) := by decide +kernel
theorem dX9_field_120 : decode cX9_field 120 = .ok (.iload_n 3, 1) := by decide +kernel
theorem dX9_field_121 : decode cX9_field 121 = .ok (.iload 4, 2) := by decide +kernel
theorem dX9_field_123 : decode cX9_field 123 = .ok (.invokestatic 123, 3) := by decide +kernel
theorem dX9_field_126 : decode cX9_field 126 = .ok (.iload 5, 2) := by decide +kernel
theorem dX9_field_128 : decode cX9_field 128 = .ok (.iload 6, 2) := by decide +kernel
theorem dX9_field_130 : decode cX9_field 130 = .ok (.iload 7, 2) := by decide +kernel
theorem dX9_field_132 : decode cX9_field 132 = .ok (.invokevirtual 127, 3) := by decide +kernel
theorem dX9_field_135 : decode cX9_field 135 = .ok (.ireturn, 1) := by decide +kernel
theorem dX9_copy_0 : decode cX9_copy 0 = .ok (.iload_n 1, 1) := by decide +kernel
theorem dX9_copy_1 : decode cX9_copy 1 = .ok (.iconst 4, 1) := by decide +kernel
theorem dX9_copy_2 : decode cX9_copy 2 = .ok (.invokestatic 54, 3) := by decide +kernel
theorem dX9_copy_5 : decode cX9_copy 5 = .ok (.iload_n 2, 1) := by decide +kernel
theorem dX9_copy_6 : decode cX9_copy 6 = .ok (.iconst 4, 1) := by decide +kernel
theorem dX9_copy_7 : decode cX9_copy 7 = .ok (.invokestatic 54, 3) := by decide +kernel
theorem dX9_copy_10 : decode cX9_copy 10 = .ok (.aload_n 0, 1) := by decide +kernel
theorem dX9_copy_11 : decode cX9_copy 11 = .ok (.getfield 11, 3) := by decide +kernel
theorem dX9_copy_14 : decode cX9_copy 14 = .ok (.iload_n 2, 1) := by decide +kernel
theorem dX9_copy_15 : decode cX9_copy 15 = .ok (.aaload, 1) := by decide +kernel
theorem dX9_copy_16 : decode cX9_copy 16 = .ok (.aload_n 0, 1) := by decide +kernel
theorem dX9_copy_17 : decode cX9_copy 17 = .ok (.getfield 11, 3) := by decide +kernel
theorem dX9_copy_20 : decode cX9_copy 20 = .ok (.iload_n 1, 1) := by decide +kernel
theorem dX9_copy_21 : decode cX9_copy 21 = .ok (.aaload, 1) := by decide +kernel
theorem dX9_copy_22 : decode cX9_copy 22 = .ok (.invokevirtual 140, 3) := by decide +kernel
theorem dX9_copy_25 : decode cX9_copy 25 = .ok (.aload_n 0, 1) := by decide +kernel
theorem dX9_copy_26 : decode cX9_copy 26 = .ok (.getfield 11, 3) := by decide +kernel
theorem dX9_copy_29 : decode cX9_copy 29 = .ok (.iload_n 2, 1) := by decide +kernel
theorem dX9_copy_30 : decode cX9_copy 30 = .ok (.aaload, 1) := by decide +kernel
theorem dX9_copy_31 : decode cX9_copy 31 = .ok (.getfield 66, 3) := by decide +kernel
theorem dX9_copy_34 : decode cX9_copy 34 = .ok (.invokevirtual 144, 3) := by decide +kernel
theorem dX9_copy_37 : decode cX9_copy 37 = .ok (.ireturn, 1) := by decide +kernel
theorem dX9_check_0 : decode cX9_check 0 = .ok (.iload_n 1, 1) := by decide +kernel
theorem dX9_check_1 : decode cX9_check 1 = .ok (.iconst 4, 1) := by decide +kernel
theorem dX9_check_2 : decode cX9_check 2 = .ok (.invokestatic 54, 3) := by decide +kernel
theorem dX9_check_5 : decode cX9_check 5 = .ok (.aload_n 0, 1) := by decide +kernel
theorem dX9_check_6 : decode cX9_check 6 = .ok (.getfield 11, 3) := by decide +kernel
theorem dX9_check_9 : decode cX9_check 9 = .ok (.iload_n 1, 1) := by decide +kernel
theorem dX9_check_10 : decode cX9_check 10 = .ok (.aaload, 1) := by decide +kernel
theorem dX9_check_11 : decode cX9_check 11 = .ok (.invokevirtual 148, 3) := by decide +kernel
theorem dX9_check_14 : decode cX9_check 14 = .ok (.ireturn, 1) := by decide +kernel
theorem dX9_wipe_0 : decode cX9_wipe 0 = .ok (.iload_n 1, 1) := by decide +kernel
theorem dX9_wipe_1 : decode cX9_wipe 1 = .ok (.iconst 4, 1) := by decide +kernel
theorem dX9_wipe_2 : decode cX9_wipe 2 = .ok (.invokestatic 54, 3) := by decide +kernel
theorem dX9_wipe_5 : decode cX9_wipe 5 = .ok (.aload_n 0, 1) := by decide +kernel
theorem dX9_wipe_6 : decode cX9_wipe 6 = .ok (.getfield 17, 3) := by decide +kernel
theorem dX9_wipe_9 : decode cX9_wipe 9 = .ok (.iload_n 1, 1) := by decide +kernel
theorem dX9_wipe_10 : decode cX9_wipe 10 = .ok (.aaload, 1) := by decide +kernel
theorem dX9_wipe_11 : decode cX9_wipe 11 = .ok (.getfield 166, 3) := by decide +kernel
theorem dX9_wipe_14 : decode cX9_wipe 14 = .ok (.istore_n 2, 1) := by decide +kernel
theorem dX9_wipe_15 : decode cX9_wipe 15 = .ok (.aload_n 0, 1) := by decide +kernel
theorem dX9_wipe_16 : decode cX9_wipe 16 = .ok (.getfield 17, 3) := by decide +kernel
theorem dX9_wipe_19 : decode cX9_wipe 19 = .ok (.iload_n 1, 1) := by decide +kernel
theorem dX9_wipe_20 : decode cX9_wipe 20 = .ok (.aaload, 1) := by decide +kernel
theorem dX9_wipe_21 : decode cX9_wipe 21 = .ok (.invokevirtual 169, 3) := by decide +kernel
theorem dX9_wipe_24 : decode cX9_wipe 24 = .ok (.iload_n 2, 1) := by decide +kernel
theorem dX9_wipe_25 : decode cX9_wipe 25 = .ok (.ireturn, 1) := by decide +kernel
theorem dX9_own_0 : decode cX9_own 0 = .ok (.iload_n 1, 1) := by decide +kernel
theorem dX9_own_1 : decode cX9_own 1 = .ok (.iconst 4, 1) := by decide +kernel
theorem dX9_own_2 : decode cX9_own 2 = .ok (.invokestatic 54, 3) := by decide +kernel
theorem dX9_own_5 : decode cX9_own 5 = .ok (.aload_n 0, 1) := by decide +kernel
theorem dX9_own_6 : decode cX9_own 6 = .ok (.getfield 17, 3) := by decide +kernel
theorem dX9_own_9 : decode cX9_own 9 = .ok (.iload_n 1, 1) := by decide +kernel
theorem dX9_own_10 : decode cX9_own 10 = .ok (.aaload, 1) := by decide +kernel
theorem dX9_own_11 : decode cX9_own 11 = .ok (.astore_n 3, 1) := by decide +kernel
theorem dX9_own_12 : decode cX9_own 12 = .ok (.aload_n 3, 1) := by decide +kernel
theorem dX9_own_13 : decode cX9_own 13 = .ok (.getfield 172, 3) := by decide +kernel
theorem dX9_own_16 : decode cX9_own 16 = .ok (.getfield 176, 3) := by decide +kernel
theorem dX9_own_19 : decode cX9_own 19 = .ok (.istore 4, 2) := by decide +kernel
theorem dX9_own_21 : decode cX9_own 21 = .ok (.aload_n 3, 1) := by decide +kernel
theorem dX9_own_22 : decode cX9_own 22 = .ok (.getfield 166, 3) := by decide +kernel
theorem dX9_own_25 : decode cX9_own 25 = .ok (.ifCond .eq 9, 3) := by decide +kernel
theorem dX9_own_28 : decode cX9_own 28 = .ok (.iload 4, 2) := by decide +kernel
theorem dX9_own_30 : decode cX9_own 30 = .ok (.iload_n 2, 1) := by decide +kernel
theorem dX9_own_31 : decode cX9_own 31 = .ok (.if_icmp .ne 7, 3) := by decide +kernel
theorem dX9_own_34 : decode cX9_own 34 = .ok (.iconst 1, 1) := by decide +kernel
theorem dX9_own_35 : decode cX9_own 35 = .ok (.goto 4, 3) := by decide +kernel
theorem dX9_own_38 : decode cX9_own 38 = .ok (.iconst 0, 1) := by decide +kernel
theorem dX9_own_39 : decode cX9_own 39 = .ok (.invokestatic 151, 3) := by decide +kernel
theorem dX9_own_42 : decode cX9_own 42 = .ok (.iload 4, 2) := by decide +kernel
theorem dX9_own_44 : decode cX9_own 44 = .ok (.iload_n 2, 1) := by decide +kernel
theorem dX9_own_45 : decode cX9_own 45 = .ok (.if_icmp .eq 18, 3) := by decide +kernel
theorem dX9_own_48 : decode cX9_own 48 = .ok (.aload_n 3, 1) := by decide +kernel
theorem dX9_own_49 : decode cX9_own 49 = .ok (.getfield 172, 3) := by decide +kernel
theorem dX9_own_52 : decode cX9_own 52 = .ok (.invokevirtual 182, 3) := by decide +kernel
theorem dX9_own_55 : decode cX9_own 55 = .ok (.aload_n 3, 1) := by decide +kernel
theorem dX9_own_56 : decode cX9_own 56 = .ok (.getfield 172, 3) := by decide +kernel
theorem dX9_own_59 : decode cX9_own 59 = .ok (.iload_n 2, 1) := by decide +kernel
theorem dX9_own_60 : decode cX9_own 60 = .ok (.putfield 176, 3) := by decide +kernel
theorem dX9_own_63 : decode cX9_own 63 = .ok (.iload 4, 2) := by decide +kernel
theorem dX9_own_65 : decode cX9_own 65 = .ok (.ireturn, 1) := by decide +kernel
theorem dX9_ownAbove_0 : decode cX9_ownAbove 0 = .ok (.iload_n 1, 1) := by decide +kernel
theorem dX9_ownAbove_1 : decode cX9_ownAbove 1 = .ok (.iconst 4, 1) := by decide +kernel
theorem dX9_ownAbove_2 : decode cX9_ownAbove 2 = .ok (.invokestatic 54, 3) := by decide +kernel
theorem dX9_ownAbove_5 : decode cX9_ownAbove 5 = .ok (.iload_n 2, 1) := by decide +kernel
theorem dX9_ownAbove_6 : decode cX9_ownAbove 6 = .ok (.invokestatic 58, 3) := by decide +kernel
theorem dX9_ownAbove_9 : decode cX9_ownAbove 9 = .ok (.ifCond .ne 9, 3) := by decide +kernel
theorem dX9_ownAbove_12 : decode cX9_ownAbove 12 = .ok (.iload_n 2, 1) := by decide +kernel
theorem dX9_ownAbove_13 : decode cX9_ownAbove 13 = .ok (.bipush 45, 2) := by decide +kernel
theorem dX9_ownAbove_15 : decode cX9_ownAbove 15 = .ok (.if_icmp .ne 7, 3) := by decide +kernel
theorem dX9_ownAbove_18 : decode cX9_ownAbove 18 = .ok (.iconst 1, 1) := by decide +kernel
theorem dX9_ownAbove_19 : decode cX9_ownAbove 19 = .ok (.goto 4, 3) := by decide +kernel
theorem dX9_ownAbove_22 : decode cX9_ownAbove 22 = .ok (.iconst 0, 1) := by decide +kernel
theorem dX9_ownAbove_23 : decode cX9_ownAbove 23 = .ok (.invokestatic 62, 3) := by decide +kernel
theorem dX9_ownAbove_26 : decode cX9_ownAbove 26 = .ok (.aload_n 0, 1) := by decide +kernel
theorem dX9_ownAbove_27 : decode cX9_ownAbove 27 = .ok (.getfield 17, 3) := by decide +kernel
theorem dX9_ownAbove_30 : decode cX9_ownAbove 30 = .ok (.iload_n 1, 1) := by decide +kernel
theorem dX9_ownAbove_31 : decode cX9_ownAbove 31 = .ok (.aaload, 1) := by decide +kernel
theorem dX9_ownAbove_32 : decode cX9_ownAbove 32 = .ok (.getfield 172, 3) := by decide +kernel
theorem dX9_ownAbove_35 : decode cX9_ownAbove 35 = .ok (.astore_n 3, 1) := by decide +kernel
theorem dX9_ownAbove_36 : decode cX9_ownAbove 36 = .ok (.aload_n 3, 1) := by decide +kernel
theorem dX9_ownAbove_37 : decode cX9_ownAbove 37 = .ok (.getfield 176, 3) := by decide +kernel
theorem dX9_ownAbove_40 : decode cX9_ownAbove 40 = .ok (.invokestatic 151, 3) := by decide +kernel
theorem dX9_ownAbove_43 : decode cX9_ownAbove 43 = .ok (.aload_n 3, 1) := by decide +kernel
theorem dX9_ownAbove_44 : decode cX9_ownAbove 44 = .ok (.getfield 183, 3) := by decide +kernel
theorem dX9_ownAbove_47 : decode cX9_ownAbove 47 = .ok (.istore 4, 2) := by decide +kernel
theorem dX9_ownAbove_49 : decode cX9_ownAbove 49 = .ok (.aload_n 3, 1) := by decide +kernel
theorem dX9_ownAbove_50 : decode cX9_ownAbove 50 = .ok (.iload_n 2, 1) := by decide +kernel
theorem dX9_ownAbove_51 : decode cX9_ownAbove 51 = .ok (.bipush 45, 2) := by decide +kernel
theorem dX9_ownAbove_53 : decode cX9_ownAbove 53 = .ok (.if_icmp .ne 7, 3) := by decide +kernel
theorem dX9_ownAbove_56 : decode cX9_ownAbove 56 = .ok (.iconst (-1), 1) := by decide +kernel
theorem dX9_ownAbove_57 : decode cX9_ownAbove 57 = .ok (.goto 7, 3) := by decide +kernel
theorem dX9_ownAbove_60 : decode cX9_ownAbove 60 = .ok (.iload_n 2, 1) := by decide +kernel
theorem dX9_ownAbove_61 : decode cX9_ownAbove 61 = .ok (.bipush 65, 2) := by decide +kernel
theorem dX9_ownAbove_63 : decode cX9_ownAbove 63 = .ok (.isub, 1) := by decide +kernel
theorem dX9_ownAbove_64 : decode cX9_ownAbove 64 = .ok (.putfield 183, 3) := by decide +kernel
theorem dX9_ownAbove_67 : decode cX9_ownAbove 67 = .ok (.iload 4, 2) := by decide +kernel
theorem dX9_ownAbove_69 : decode cX9_ownAbove 69 = .ok (.invokestatic 94, 3) := by decide +kernel
theorem dX9_ownAbove_72 : decode cX9_ownAbove 72 = .ok (.ireturn, 1) := by decide +kernel
theorem dX9_ownUnder_0 : decode cX9_ownUnder 0 = .ok (.iload_n 1, 1) := by decide +kernel
theorem dX9_ownUnder_1 : decode cX9_ownUnder 1 = .ok (.iconst 4, 1) := by decide +kernel
theorem dX9_ownUnder_2 : decode cX9_ownUnder 2 = .ok (.invokestatic 54, 3) := by decide +kernel
theorem dX9_ownUnder_5 : decode cX9_ownUnder 5 = .ok (.iload_n 2, 1) := by decide +kernel
theorem dX9_ownUnder_6 : decode cX9_ownUnder 6 = .ok (.invokestatic 58, 3) := by decide +kernel
theorem dX9_ownUnder_9 : decode cX9_ownUnder 9 = .ok (.invokestatic 62, 3) := by decide +kernel
theorem dX9_ownUnder_12 : decode cX9_ownUnder 12 = .ok (.aload_n 0, 1) := by decide +kernel
theorem dX9_ownUnder_13 : decode cX9_ownUnder 13 = .ok (.getfield 17, 3) := by decide +kernel
theorem dX9_ownUnder_16 : decode cX9_ownUnder 16 = .ok (.iload_n 1, 1) := by decide +kernel
theorem dX9_ownUnder_17 : decode cX9_ownUnder 17 = .ok (.aaload, 1) := by decide +kernel
theorem dX9_ownUnder_18 : decode cX9_ownUnder 18 = .ok (.getfield 172, 3) := by decide +kernel
theorem dX9_ownUnder_21 : decode cX9_ownUnder 21 = .ok (.astore 4, 2) := by decide +kernel
theorem dX9_ownUnder_23 : decode cX9_ownUnder 23 = .ok (.aload 4, 2) := by decide +kernel
theorem dX9_ownUnder_25 : decode cX9_ownUnder 25 = .ok (.getfield 176, 3) := by decide +kernel
theorem dX9_ownUnder_28 : decode cX9_ownUnder 28 = .ok (.invokestatic 151, 3) := by decide +kernel
theorem dX9_ownUnder_31 : decode cX9_ownUnder 31 = .ok (.aload 4, 2) := by decide +kernel
theorem dX9_ownUnder_33 : decode cX9_ownUnder 33 = .ok (.getfield 185, 3) := by decide +kernel
theorem dX9_ownUnder_36 : decode cX9_ownUnder 36 = .ok (.istore 5, 2) := by decide +kernel
theorem dX9_ownUnder_38 : decode cX9_ownUnder 38 = .ok (.iload 5, 2) := by decide +kernel
theorem dX9_ownUnder_40 : decode cX9_ownUnder 40 = .ok (.iload_n 2, 1) := by decide +kernel
theorem dX9_ownUnder_41 : decode cX9_ownUnder 41 = .ok (.bipush 65, 2) := by decide +kernel
theorem dX9_ownUnder_43 : decode cX9_ownUnder 43 = .ok (.isub, 1) := by decide +kernel
theorem dX9_ownUnder_44 : decode cX9_ownUnder 44 = .ok (.iload_n 3, 1) := by decide +kernel
theorem dX9_ownUnder_45 : decode cX9_ownUnder 45 = .ok (.invokestatic 107, 3) := by decide +kernel
theorem dX9_ownUnder_48 : decode cX9_ownUnder 48 = .ok (.istore 6, 2) := by decide +kernel
theorem dX9_ownUnder_50 : decode cX9_ownUnder 50 = .ok (.iload 6, 2) := by decide +kernel
theorem dX9_ownUnder_52 : decode cX9_ownUnder 52 = .ok (.invokestatic 187, 3) := by decide +kernel
theorem dX9_ownUnder_55 : decode cX9_ownUnder 55 = .ok (.iconst 2, 1) := by decide +kernel
theorem dX9_ownUnder_56 : decode cX9_ownUnder 56 = .ok (.if_icmp .gt 7, 3) := by decide +kernel
theorem dX9_ownUnder_59 : decode cX9_ownUnder 59 = .ok (.iconst 1, 1) := by decide +kernel
theorem dX9_ownUnder_60 : decode cX9_ownUnder 60 = .ok (.goto 4, 3) := by decide +kernel
theorem dX9_ownUnder_63 : decode cX9_ownUnder 63 = .ok (.iconst 0, 1) := by decide +kernel
theorem dX9_ownUnder_64 : decode cX9_ownUnder 64 = .ok (.invokestatic 193, 3) := by decide +kernel
theorem dX9_ownUnder_67 : decode cX9_ownUnder 67 = .ok (.aload 4, 2) := by decide +kernel
theorem dX9_ownUnder_69 : decode cX9_ownUnder 69 = .ok (.iload 6, 2) := by decide +kernel
theorem dX9_ownUnder_71 : decode cX9_ownUnder 71 = .ok (.putfield 185, 3) := by decide +kernel
theorem dX9_ownUnder_74 : decode cX9_ownUnder 74 = .ok (.iload 5, 2) := by decide +kernel
theorem dX9_ownUnder_76 : decode cX9_ownUnder 76 = .ok (.iload_n 2, 1) := by decide +kernel
theorem dX9_ownUnder_77 : decode cX9_ownUnder 77 = .ok (.bipush 65, 2) := by decide +kernel
theorem dX9_ownUnder_79 : decode cX9_ownUnder 79 = .ok (.isub, 1) := by decide +kernel
theorem dX9_ownUnder_80 : decode cX9_ownUnder 80 = .ok (.invokestatic 111, 3) := by decide +kernel
theorem dX9_ownUnder_83 : decode cX9_ownUnder 83 = .ok (.ireturn, 1) := by decide +kernel
theorem dX9_ownMethod_0 : decode cX9_ownMethod 0 = .ok (.iload_n 1, 1) := by decide +kernel
theorem dX9_ownMethod_1 : decode cX9_ownMethod 1 = .ok (.iconst 4, 1) := by decide +kernel
theorem dX9_ownMethod_2 : decode cX9_ownMethod 2 = .ok (.invokestatic 54, 3) := by decide +kernel
theorem dX9_ownMethod_5 : decode cX9_ownMethod 5 = .ok (.iload_n 2, 1) := by decide +kernel
theorem dX9_ownMethod_6 : decode cX9_ownMethod 6 = .ok (.iload_n 3, 1) := by decide +kernel
theorem dX9_ownMethod_7 : decode cX9_ownMethod 7 = .ok (.invokestatic 115, 3) := by decide +kernel
theorem dX9_ownMethod_10 : decode cX9_ownMethod 10 = .ok (.ifCond .ne 18, 3) := by decide +kernel
theorem dX9_ownMethod_13 : decode cX9_ownMethod 13 = .ok (.iload_n 2, 1) := by decide +kernel
theorem dX9_ownMethod_14 : decode cX9_ownMethod 14 = .ok (.bipush 45, 2) := by decide +kernel
theorem dX9_ownMethod_16 : decode cX9_ownMethod 16 = .ok (.if_icmp .ne 16, 3) := by decide +kernel
theorem dX9_ownMethod_19 : decode cX9_ownMethod 19 = .ok (.iload_n 3, 1) := by decide +kernel
theorem dX9_ownMethod_20 : decode cX9_ownMethod 20 = .ok (.ifCond .eq 8, 3) := by decide +kernel
theorem dX9_ownMethod_23 : decode cX9_ownMethod 23 = .ok (.iload_n 3, 1) := by decide +kernel
theorem dX9_ownMethod_24 : decode cX9_ownMethod 24 = .ok (.iconst 1, 1) := by decide +kernel
theorem dX9_ownMethod_25 : decode cX9_ownMethod 25 = .ok (.if_icmp .ne 7, 3) := by decide +kernel
theorem dX9_ownMethod_28 : decode cX9_ownMethod 28 = .ok (.iconst 1, 1) := by decide +kernel
theorem dX9_ownMethod_29 : decode cX9_ownMethod 29 = .ok (.goto 4, 3) := by decide +kernel
theorem dX9_ownMethod_32 : decode cX9_ownMethod 32 = .ok (.iconst 0, 1) := by decide +kernel
theorem dX9_ownMethod_33 : decode cX9_ownMethod 33 = .ok (.invokestatic 62, 3) := by decide +kernel
theorem dX9_ownMethod_36 : decode cX9_ownMethod 36 = .ok (.aload_n 0, 1) := by decide +kernel
theorem dX9_ownMethod_37 : decode cX9_ownMethod 37 = .ok (.getfield 17, 3) := by decide +kernel
theorem dX9_ownMethod_40 : decode cX9_ownMethod 40 = .ok (.iload_n 1, 1) := by decide +kernel
theorem dX9_ownMethod_41 : decode cX9_ownMethod 41 = .ok (.aaload, 1) := by decide +kernel
theorem dX9_ownMethod_42 : decode cX9_ownMethod 42 = .ok (.getfield 172, 3) := by decide +kernel
theorem dX9_ownMethod_45 : decode cX9_ownMethod 45 = .ok (.astore 4, 2) := by decide +kernel
theorem dX9_ownMethod_47 : decode cX9_ownMethod 47 = .ok (.aload 4, 2) := by decide +kernel
theorem dX9_ownMethod_49 : decode cX9_ownMethod 49 = .ok (.getfield 176, 3) := by decide +kernel
theorem dX9_ownMethod_52 : decode cX9_ownMethod 52 = .ok (.invokestatic 151, 3) := by decide +kernel
theorem dX9_ownMethod_55 : decode cX9_ownMethod 55 = .ok (.aload 4, 2) := by decide +kernel
theorem dX9_ownMethod_57 : decode cX9_ownMethod 57 = .ok (.getfield 196, 3) := by decide +kernel
theorem dX9_ownMethod_60 : decode cX9_ownMethod 60 = .ok (.istore 5, 2) := by decide +kernel
theorem dX9_ownMethod_62 : decode cX9_ownMethod 62 = .ok (.aload 4, 2) := by decide +kernel
theorem dX9_ownMethod_64 : decode cX9_ownMethod 64 = .ok (.iload_n 2, 1) := by decide +kernel
theorem dX9_ownMethod_65 : decode cX9_ownMethod 65 = .ok (.bipush 45, 2) := by decide +kernel
theorem dX9_ownMethod_67 : decode cX9_ownMethod 67 = .ok (.if_icmp .ne 7, 3) := by decide +kernel
theorem dX9_ownMethod_70 : decode cX9_ownMethod 70 = .ok (.iconst (-1), 1) := by decide +kernel
theorem dX9_ownMethod_71 : decode cX9_ownMethod 71 = .ok (.goto 8, 3) := by decide +kernel
theorem dX9_ownMethod_74 : decode cX9_ownMethod 74 = .ok (.iload_n 2, 1) := by decide +kernel
theorem dX9_ownMethod_75 : decode cX9_ownMethod 75 = .ok (.iload_n 3, 1) := by decide +kernel
theorem dX9_ownMethod_76 : decode cX9_ownMethod 76 = .ok (.invokestatic 199, 3) := by decide +kernel
theorem dX9_ownMethod_79 : decode cX9_ownMethod 79 = .ok (.putfield 196, 3) := by decide +kernel
theorem dX9_ownMethod_82 : decode cX9_ownMethod 82 = .ok (.iload 5, 2) := by decide +kernel
theorem dX9_ownMethod_84 : decode cX9_ownMethod 84 = .ok (.invokestatic 203, 3) := by decide +kernel
theorem dX9_ownMethod_87 : decode cX9_ownMethod 87 = .ok (.ireturn, 1) := by decide +kernel
theorem dX9_act_0 : decode cX9_act 0 = .ok (.iload_n 1, 1) := by decide +kernel
theorem dX9_act_1 : decode cX9_act 1 = .ok (.iconst 4, 1) := by decide +kernel
theorem dX9_act_2 : decode cX9_act 2 = .ok (.invokestatic 54, 3) := by decide +kernel
theorem dX9_act_5 : decode cX9_act 5 = .ok (.aload_n 0, 1) := by decide +kernel
theorem dX9_act_6 : decode cX9_act 6 = .ok (.getfield 17, 3) := by decide +kernel
theorem dX9_act_9 : decode cX9_act 9 = .ok (.iload_n 1, 1) := by decide +kernel
theorem dX9_act_10 : decode cX9_act 10 = .ok (.aaload, 1) := by decide +kernel
theorem dX9_act_11 : decode cX9_act 11 = .ok (.astore 7, 2) := by decide +kernel
theorem dX9_act_13 : decode cX9_act 13 = .ok (.iload_n 2, 1) := by decide +kernel
theorem dX9_act_14 : decode cX9_act 14 = .ok (.invokestatic 206, 3) := by decide +kernel
theorem dX9_act_17 : decode cX9_act 17 = .ok (.istore 8, 2) := by decide +kernel
theorem dX9_act_19 : decode cX9_act 19 = .ok (.aload 7, 2) := by decide +kernel
theorem dX9_act_21 : decode cX9_act 21 = .ok (.getfield 172, 3) := by decide +kernel
theorem dX9_act_24 : decode cX9_act 24 = .ok (.getfield 176, 3) := by decide +kernel
theorem dX9_act_27 : decode cX9_act 27 = .ok (.istore 9, 2) := by decide +kernel
theorem dX9_act_29 : decode cX9_act 29 = .ok (.iload 8, 2) := by decide +kernel
theorem dX9_act_31 : decode cX9_act 31 = .ok (.iconst (-1), 1) := by decide +kernel
theorem dX9_act_32 : decode cX9_act 32 = .ok (.if_icmp .eq 18, 3) := by decide +kernel
theorem dX9_act_35 : decode cX9_act 35 = .ok (.iload 8, 2) := by decide +kernel
theorem dX9_act_37 : decode cX9_act 37 = .ok (.iconst 4, 1) := by decide +kernel
theorem dX9_act_38 : decode cX9_act 38 = .ok (.if_icmp .ne 8, 3) := by decide +kernel
theorem dX9_act_41 : decode cX9_act 41 = .ok (.iload 9, 2) := by decide +kernel
theorem dX9_act_43 : decode cX9_act 43 = .ok (.ifCond .eq 7, 3) := by decide +kernel
theorem dX9_act_46 : decode cX9_act 46 = .ok (.iconst 1, 1) := by decide +kernel
theorem dX9_act_47 : decode cX9_act 47 = .ok (.goto 4, 3) := by decide +kernel
theorem dX9_act_50 : decode cX9_act 50 = .ok (.iconst 0, 1) := by decide +kernel
theorem dX9_act_51 : decode cX9_act 51 = .ok (.invokestatic 62, 3) := by decide +kernel
theorem dX9_act_54 : decode cX9_act 54 = .ok (.iload 8, 2) := by decide +kernel
theorem dX9_act_56 : decode cX9_act 56 = .ok (.invokestatic 210, 3) := by decide +kernel
theorem dX9_act_59 : decode cX9_act 59 = .ok (.ifCond .eq 21, 3) := by decide +kernel
theorem dX9_act_62 : decode cX9_act 62 = .ok (.iload_n 3, 1) := by decide +kernel
theorem dX9_act_63 : decode cX9_act 63 = .ok (.invokestatic 58, 3) := by decide +kernel
theorem dX9_act_66 : decode cX9_act 66 = .ok (.ifCond .ne 14, 3) := by decide +kernel
theorem dX9_act_69 : decode cX9_act 69 = .ok (.iload_n 3, 1) := by decide +kernel
theorem dX9_act_70 : decode cX9_act 70 = .ok (.bipush 88, 2) := by decide +kernel
theorem dX9_act_72 : decode cX9_act 72 = .ok (.if_icmp .ne 12, 3) := by decide +kernel
theorem dX9_act_75 : decode cX9_act 75 = .ok (.iload 9, 2) := by decide +kernel
theorem dX9_act_77 : decode cX9_act 77 = .ok (.ifCond .eq 7, 3) := by decide +kernel
theorem dX9_act_80 : decode cX9_act 80 = .ok (.iconst 1, 1) := by decide +kernel
theorem dX9_act_81 : decode cX9_act 81 = .ok (.goto 4, 3) := by decide +kernel
theorem dX9_act_84 : decode cX9_act 84 = .ok (.iconst 0, 1) := by decide +kernel
theorem dX9_act_85 : decode cX9_act 85 = .ok (.invokestatic 62, 3) := by decide +kernel
theorem dX9_act_88 : decode cX9_act 88 = .ok (.iload 8, 2) := by decide +kernel
theorem dX9_act_90 : decode cX9_act 90 = .ok (.invokestatic 214, 3) := by decide +kernel
theorem dX9_act_93 : decode cX9_act 93 = .ok (.ifCond .eq 13, 3) := by decide +kernel
theorem dX9_act_96 : decode cX9_act 96 = .ok (.iload 4, 2) := by decide +kernel
theorem dX9_act_98 : decode cX9_act 98 = .ok (.iload 5, 2) := by decide +kernel
theorem dX9_act_100 : decode cX9_act 100 = .ok (.invokestatic 115, 3) := by decide +kernel
theorem dX9_act_103 : decode cX9_act 103 = .ok (.ifCond .eq 7, 3) := by decide +kernel
theorem dX9_act_106 : decode cX9_act 106 = .ok (.iconst 1, 1) := by decide +kernel
theorem dX9_act_107 : decode cX9_act 107 = .ok (.goto 4, 3) := by decide +kernel
theorem dX9_act_110 : decode cX9_act 110 = .ok (.iconst 0, 1) := by decide +kernel
theorem dX9_act_111 : decode cX9_act 111 = .ok (.invokestatic 62, 3) := by decide +kernel
theorem dX9_act_114 : decode cX9_act 114 = .ok (.iload 8, 2) := by decide +kernel
theorem dX9_act_116 : decode cX9_act 116 = .ok (.invokestatic 217, 3) := by decide +kernel
theorem dX9_act_119 : decode cX9_act 119 = .ok (.ifCond .eq 23, 3) := by decide +kernel
theorem dX9_act_122 : decode cX9_act 122 = .ok (.iload 6, 2) := by decide +kernel
theorem dX9_act_124 : decode cX9_act 124 = .ok (.invokestatic 58, 3) := by decide +kernel
theorem dX9_act_127 : decode cX9_act 127 = .ok (.ifCond .ne 15, 3) := by decide +kernel
theorem dX9_act_130 : decode cX9_act 130 = .ok (.iload 6, 2) := by decide +kernel
theorem dX9_act_132 : decode cX9_act 132 = .ok (.bipush 88, 2) := by decide +kernel
theorem dX9_act_134 : decode cX9_act 134 = .ok (.if_icmp .ne 12, 3) := by decide +kernel
theorem dX9_act_137 : decode cX9_act 137 = .ok (.iload 9, 2) := by decide +kernel
theorem dX9_act_139 : decode cX9_act 139 = .ok (.ifCond .eq 7, 3) := by decide +kernel
theorem dX9_act_142 : decode cX9_act 142 = .ok (.iconst 1, 1) := by decide +kernel
theorem dX9_act_143 : decode cX9_act 143 = .ok (.goto 4, 3) := by decide +kernel
theorem dX9_act_146 : decode cX9_act 146 = .ok (.iconst 0, 1) := by decide +kernel
theorem dX9_act_147 : decode cX9_act 147 = .ok (.invokestatic 62, 3) := by decide +kernel
theorem dX9_act_150 : decode cX9_act 150 = .ok (.aload 7, 2) := by decide +kernel
theorem dX9_act_152 : decode cX9_act 152 = .ok (.getfield 166, 3) := by decide +kernel
theorem dX9_act_155 : decode cX9_act 155 = .ok (.bipush 8, 2) := by decide +kernel
theorem dX9_act_157 : decode cX9_act 157 = .ok (.if_icmp .ge 7, 3) := by decide +kernel
theorem dX9_act_160 : decode cX9_act 160 = .ok (.iconst 1, 1) := by decide +kernel
theorem dX9_act_161 : decode cX9_act 161 = .ok (.goto 4, 3) := by decide +kernel
theorem dX9_act_164 : decode cX9_act 164 = .ok (.iconst 0, 1) := by decide +kernel
theorem dX9_act_165 : decode cX9_act 165 = .ok (.invokestatic 193, 3) := by decide +kernel
theorem dX9_act_168 : decode cX9_act 168 = .ok (.iload 8, 2) := by decide +kernel
theorem dX9_act_170 : decode cX9_act 170 = .ok (.invokestatic 210, 3) := by decide +kernel
theorem dX9_act_173 : decode cX9_act 173 = .ok (.ifCond .eq 10, 3) := by decide +kernel
theorem dX9_act_176 : decode cX9_act 176 = .ok (.iload_n 3, 1) := by decide +kernel
theorem dX9_act_177 : decode cX9_act 177 = .ok (.invokestatic 220, 3) := by decide +kernel
theorem dX9_act_180 : decode cX9_act 180 = .ok (.goto 4, 3) := by decide +kernel
theorem dX9_act_183 : decode cX9_act 183 = .ok (.iconst (-1), 1) := by decide +kernel
theorem dX9_act_184 : decode cX9_act 184 = .ok (.istore 10, 2) := by decide +kernel
theorem dX9_act_186 : decode cX9_act 186 = .ok (.iload 8, 2) := by decide +kernel
theorem dX9_act_188 : decode cX9_act 188 = .ok (.invokestatic 214, 3) := by decide +kernel
theorem dX9_act_191 : decode cX9_act 191 = .ok (.ifCond .eq 13, 3) := by decide +kernel
theorem dX9_act_194 : decode cX9_act 194 = .ok (.iload 4, 2) := by decide +kernel
theorem dX9_act_196 : decode cX9_act 196 = .ok (.iload 5, 2) := by decide +kernel
theorem dX9_act_198 : decode cX9_act 198 = .ok (.invokestatic 199, 3) := by decide +kernel
theorem dX9_act_201 : decode cX9_act 201 = .ok (.goto 4, 3) := by decide +kernel
theorem dX9_act_204 : decode cX9_act 204 = .ok (.iconst (-1), 1) := by decide +kernel
theorem dX9_act_205 : decode cX9_act 205 = .ok (.istore 11, 2) := by decide +kernel
theorem dX9_act_207 : decode cX9_act 207 = .ok (.iload 8, 2) := by decide +kernel
theorem dX9_act_209 : decode cX9_act 209 = .ok (.invokestatic 217, 3) := by decide +kernel
theorem dX9_act_212 : decode cX9_act 212 = .ok (.ifCond .eq 11, 3) := by decide +kernel
theorem dX9_act_215 : decode cX9_act 215 = .ok (.iload 6, 2) := by decide +kernel
theorem dX9_act_217 : decode cX9_act 217 = .ok (.invokestatic 220, 3) := by decide +kernel
theorem dX9_act_220 : decode cX9_act 220 = .ok (.goto 4, 3) := by decide +kernel
theorem dX9_act_223 : decode cX9_act 223 = .ok (.iconst (-1), 1) := by decide +kernel
theorem dX9_act_224 : decode cX9_act 224 = .ok (.istore 12, 2) := by decide +kernel
theorem dX9_act_226 : decode cX9_act 226 = .ok (.aload 7, 2) := by decide +kernel
theorem dX9_act_228 : decode cX9_act 228 = .ok (.iload 8, 2) := by decide +kernel
theorem dX9_act_230 : decode cX9_act 230 = .ok (.iload 10, 2) := by decide +kernel
theorem dX9_act_232 : decode cX9_act 232 = .ok (.iload 11, 2) := by decide +kernel
theorem dX9_act_234 : decode cX9_act 234 = .ok (.iload 12, 2) := by decide +kernel
theorem dX9_act_236 : decode cX9_act 236 = .ok (.invokevirtual 223, 3) := by decide +kernel
theorem dX9_act_239 : decode cX9_act 239 = .ok (.aload 7, 2) := by decide +kernel
theorem dX9_act_241 : decode cX9_act 241 = .ok (.getfield 166, 3) := by decide +kernel
theorem dX9_act_244 : decode cX9_act 244 = .ok (.ireturn, 1) := by decide +kernel
theorem dX9_run_0 : decode cX9_run 0 = .ok (.iload_n 1, 1) := by decide +kernel
theorem dX9_run_1 : decode cX9_run 1 = .ok (.iconst 4, 1) := by decide +kernel
theorem dX9_run_2 : decode cX9_run 2 = .ok (.invokestatic 54, 3) := by decide +kernel
theorem dX9_run_5 : decode cX9_run 5 = .ok (.iload_n 2, 1) := by decide +kernel
theorem dX9_run_6 : decode cX9_run 6 = .ok (.iconst 4, 1) := by decide +kernel
theorem dX9_run_7 : decode cX9_run 7 = .ok (.invokestatic 54, 3) := by decide +kernel
theorem dX9_run_10 : decode cX9_run 10 = .ok (.aload_n 0, 1) := by decide +kernel
theorem dX9_run_11 : decode cX9_run 11 = .ok (.getfield 11, 3) := by decide +kernel
theorem dX9_run_14 : decode cX9_run 14 = .ok (.iload_n 2, 1) := by decide +kernel
theorem dX9_run_15 : decode cX9_run 15 = .ok (.aaload, 1) := by decide +kernel
theorem dX9_run_16 : decode cX9_run 16 = .ok (.invokevirtual 148, 3) := by decide +kernel
theorem dX9_run_19 : decode cX9_run 19 = .ok (.iconst (-1), 1) := by decide +kernel
theorem dX9_run_20 : decode cX9_run 20 = .ok (.if_icmp .ne 7, 3) := by decide +kernel
theorem dX9_run_23 : decode cX9_run 23 = .ok (.iconst 1, 1) := by decide +kernel
theorem dX9_run_24 : decode cX9_run 24 = .ok (.goto 4, 3) := by decide +kernel
theorem dX9_run_27 : decode cX9_run 27 = .ok (.iconst 0, 1) := by decide +kernel
theorem dX9_run_28 : decode cX9_run 28 = .ok (.invokestatic 151, 3) := by decide +kernel
theorem dX9_run_31 : decode cX9_run 31 = .ok (.aload_n 0, 1) := by decide +kernel
theorem dX9_run_32 : decode cX9_run 32 = .ok (.getfield 31, 3) := by decide +kernel
theorem dX9_run_35 : decode cX9_run 35 = .ok (.aload_n 0, 1) := by decide +kernel
theorem dX9_run_36 : decode cX9_run 36 = .ok (.getfield 17, 3) := by decide +kernel
theorem dX9_run_39 : decode cX9_run 39 = .ok (.iload_n 1, 1) := by decide +kernel
theorem dX9_run_40 : decode cX9_run 40 = .ok (.aaload, 1) := by decide +kernel
theorem dX9_run_41 : decode cX9_run 41 = .ok (.aload_n 0, 1) := by decide +kernel
theorem dX9_run_42 : decode cX9_run 42 = .ok (.getfield 11, 3) := by decide +kernel
theorem dX9_run_45 : decode cX9_run 45 = .ok (.iload_n 2, 1) := by decide +kernel
theorem dX9_run_46 : decode cX9_run 46 = .ok (.aaload, 1) := by decide +kernel
theorem dX9_run_47 : decode cX9_run 47 = .ok (.invokevirtual 238, 3) := by decide +kernel
theorem dX9_run_50 : decode cX9_run 50 = .ok (.aload_n 0, 1) := by decide +kernel
theorem dX9_run_51 : decode cX9_run 51 = .ok (.getfield 31, 3) := by decide +kernel
theorem dX9_run_54 : decode cX9_run 54 = .ok (.getfield 242, 3) := by decide +kernel
theorem dX9_run_57 : decode cX9_run 57 = .ok (.ireturn, 1) := by decide +kernel
theorem dX9_fault_0 : decode cX9_fault 0 = .ok (.aload_n 0, 1) := by decide +kernel
theorem dX9_fault_1 : decode cX9_fault 1 = .ok (.getfield 31, 3) := by decide +kernel
theorem dX9_fault_4 : decode cX9_fault 4 = .ok (.getfield 245, 3) := by decide +kernel
theorem dX9_fault_7 : decode cX9_fault 7 = .ok (.invokestatic 227, 3) := by decide +kernel
theorem dX9_fault_10 : decode cX9_fault 10 = .ok (.aload_n 0, 1) := by decide +kernel
theorem dX9_fault_11 : decode cX9_fault 11 = .ok (.getfield 31, 3) := by decide +kernel
theorem dX9_fault_14 : decode cX9_fault 14 = .ok (.getfield 248, 3) := by decide +kernel
theorem dX9_fault_17 : decode cX9_fault 17 = .ok (.ireturn, 1) := by decide +kernel
theorem dX9_fits_0 : decode cX9_fits 0 = .ok (.iload_n 1, 1) := by decide +kernel
theorem dX9_fits_1 : decode cX9_fits 1 = .ok (.iconst 4, 1) := by decide +kernel
theorem dX9_fits_2 : decode cX9_fits 2 = .ok (.invokestatic 54, 3) := by decide +kernel
theorem dX9_fits_5 : decode cX9_fits 5 = .ok (.iload_n 2, 1) := by decide +kernel
theorem dX9_fits_6 : decode cX9_fits 6 = .ok (.iconst 4, 1) := by decide +kernel
theorem dX9_fits_7 : decode cX9_fits 7 = .ok (.invokestatic 54, 3) := by decide +kernel
theorem dX9_fits_10 : decode cX9_fits 10 = .ok (.aload_n 0, 1) := by decide +kernel
theorem dX9_fits_11 : decode cX9_fits 11 = .ok (.getfield 11, 3) := by decide +kernel
theorem dX9_fits_14 : decode cX9_fits 14 = .ok (.iload_n 1, 1) := by decide +kernel
theorem dX9_fits_15 : decode cX9_fits 15 = .ok (.aaload, 1) := by decide +kernel
theorem dX9_fits_16 : decode cX9_fits 16 = .ok (.invokevirtual 148, 3) := by decide +kernel
theorem dX9_fits_19 : decode cX9_fits 19 = .ok (.iconst (-1), 1) := by decide +kernel
theorem dX9_fits_20 : decode cX9_fits 20 = .ok (.if_icmp .ne 20, 3) := by decide +kernel
theorem dX9_fits_23 : decode cX9_fits 23 = .ok (.aload_n 0, 1) := by decide +kernel
theorem dX9_fits_24 : decode cX9_fits 24 = .ok (.getfield 11, 3) := by decide +kernel
theorem dX9_fits_27 : decode cX9_fits 27 = .ok (.iload_n 2, 1) := by decide +kernel
theorem dX9_fits_28 : decode cX9_fits 28 = .ok (.aaload, 1) := by decide +kernel
theorem dX9_fits_29 : decode cX9_fits 29 = .ok (.invokevirtual 148, 3) := by decide +kernel
theorem dX9_fits_32 : decode cX9_fits 32 = .ok (.iconst (-1), 1) := by decide +kernel
theorem dX9_fits_33 : decode cX9_fits 33 = .ok (.if_icmp .ne 7, 3) := by decide +kernel
theorem dX9_fits_36 : decode cX9_fits 36 = .ok (.iconst 1, 1) := by decide +kernel
theorem dX9_fits_37 : decode cX9_fits 37 = .ok (.goto 4, 3) := by decide +kernel
theorem dX9_fits_40 : decode cX9_fits 40 = .ok (.iconst 0, 1) := by decide +kernel
theorem dX9_fits_41 : decode cX9_fits 41 = .ok (.invokestatic 151, 3) := by decide +kernel
theorem dX9_fits_44 : decode cX9_fits 44 = .ok (.aload_n 0, 1) := by decide +kernel
theorem dX9_fits_45 : decode cX9_fits 45 = .ok (.getfield 41, 3) := by decide +kernel
theorem dX9_fits_48 : decode cX9_fits 48 = .ok (.aload_n 0, 1) := by decide +kernel
theorem dX9_fits_49 : decode cX9_fits 49 = .ok (.getfield 11, 3) := by decide +kernel
theorem dX9_fits_52 : decode cX9_fits 52 = .ok (.iload_n 1, 1) := by decide +kernel
theorem dX9_fits_53 : decode cX9_fits 53 = .ok (.aaload, 1) := by decide +kernel
theorem dX9_fits_54 : decode cX9_fits 54 = .ok (.aload_n 0, 1) := by decide +kernel
theorem dX9_fits_55 : decode cX9_fits 55 = .ok (.getfield 11, 3) := by decide +kernel
theorem dX9_fits_58 : decode cX9_fits 58 = .ok (.iload_n 2, 1) := by decide +kernel
theorem dX9_fits_59 : decode cX9_fits 59 = .ok (.aaload, 1) := by decide +kernel
theorem dX9_fits_60 : decode cX9_fits 60 = .ok (.invokevirtual 255, 3) := by decide +kernel
theorem dX9_fits_63 : decode cX9_fits 63 = .ok (.ifCond .ne 7, 3) := by decide +kernel
theorem dX9_fits_66 : decode cX9_fits 66 = .ok (.iconst 1, 1) := by decide +kernel
theorem dX9_fits_67 : decode cX9_fits 67 = .ok (.goto 4, 3) := by decide +kernel
theorem dX9_fits_70 : decode cX9_fits 70 = .ok (.iconst 0, 1) := by decide +kernel
theorem dX9_fits_71 : decode cX9_fits 71 = .ok (.ireturn, 1) := by decide +kernel
theorem dX9_witness_0 : decode cX9_witness 0 = .ok (.iload_n 1, 1) := by decide +kernel
theorem dX9_witness_1 : decode cX9_witness 1 = .ok (.iconst 4, 1) := by decide +kernel
theorem dX9_witness_2 : decode cX9_witness 2 = .ok (.invokestatic 54, 3) := by decide +kernel
theorem dX9_witness_5 : decode cX9_witness 5 = .ok (.iload_n 2, 1) := by decide +kernel
theorem dX9_witness_6 : decode cX9_witness 6 = .ok (.iconst 4, 1) := by decide +kernel
theorem dX9_witness_7 : decode cX9_witness 7 = .ok (.invokestatic 54, 3) := by decide +kernel
theorem dX9_witness_10 : decode cX9_witness 10 = .ok (.iload_n 3, 1) := by decide +kernel
theorem dX9_witness_11 : decode cX9_witness 11 = .ok (.iconst 4, 1) := by decide +kernel
theorem dX9_witness_12 : decode cX9_witness 12 = .ok (.invokestatic 54, 3) := by decide +kernel
theorem dX9_witness_15 : decode cX9_witness 15 = .ok (.aload_n 0, 1) := by decide +kernel
theorem dX9_witness_16 : decode cX9_witness 16 = .ok (.getfield 11, 3) := by decide +kernel
theorem dX9_witness_19 : decode cX9_witness 19 = .ok (.iload_n 1, 1) := by decide +kernel
theorem dX9_witness_20 : decode cX9_witness 20 = .ok (.aaload, 1) := by decide +kernel
theorem dX9_witness_21 : decode cX9_witness 21 = .ok (.invokevirtual 148, 3) := by decide +kernel
theorem dX9_witness_24 : decode cX9_witness 24 = .ok (.iconst (-1), 1) := by decide +kernel
theorem dX9_witness_25 : decode cX9_witness 25 = .ok (.if_icmp .ne 20, 3) := by decide +kernel
theorem dX9_witness_28 : decode cX9_witness 28 = .ok (.aload_n 0, 1) := by decide +kernel
theorem dX9_witness_29 : decode cX9_witness 29 = .ok (.getfield 11, 3) := by decide +kernel
theorem dX9_witness_32 : decode cX9_witness 32 = .ok (.iload_n 2, 1) := by decide +kernel
theorem dX9_witness_33 : decode cX9_witness 33 = .ok (.aaload, 1) := by decide +kernel
theorem dX9_witness_34 : decode cX9_witness 34 = .ok (.invokevirtual 148, 3) := by decide +kernel
theorem dX9_witness_37 : decode cX9_witness 37 = .ok (.iconst (-1), 1) := by decide +kernel
theorem dX9_witness_38 : decode cX9_witness 38 = .ok (.if_icmp .ne 7, 3) := by decide +kernel
theorem dX9_witness_41 : decode cX9_witness 41 = .ok (.iconst 1, 1) := by decide +kernel
theorem dX9_witness_42 : decode cX9_witness 42 = .ok (.goto 4, 3) := by decide +kernel
theorem dX9_witness_45 : decode cX9_witness 45 = .ok (.iconst 0, 1) := by decide +kernel
theorem dX9_witness_46 : decode cX9_witness 46 = .ok (.invokestatic 151, 3) := by decide +kernel
theorem dX9_witness_49 : decode cX9_witness 49 = .ok (.aload_n 0, 1) := by decide +kernel
theorem dX9_witness_50 : decode cX9_witness 50 = .ok (.getfield 41, 3) := by decide +kernel
theorem dX9_witness_53 : decode cX9_witness 53 = .ok (.aload_n 0, 1) := by decide +kernel
theorem dX9_witness_54 : decode cX9_witness 54 = .ok (.getfield 11, 3) := by decide +kernel
theorem dX9_witness_57 : decode cX9_witness 57 = .ok (.iload_n 1, 1) := by decide +kernel
theorem dX9_witness_58 : decode cX9_witness 58 = .ok (.aaload, 1) := by decide +kernel
theorem dX9_witness_59 : decode cX9_witness 59 = .ok (.aload_n 0, 1) := by decide +kernel
theorem dX9_witness_60 : decode cX9_witness 60 = .ok (.getfield 11, 3) := by decide +kernel
theorem dX9_witness_63 : decode cX9_witness 63 = .ok (.iload_n 2, 1) := by decide +kernel
theorem dX9_witness_64 : decode cX9_witness 64 = .ok (.aaload, 1) := by decide +kernel
theorem dX9_witness_65 : decode cX9_witness 65 = .ok (.invokevirtual 255, 3) := by decide +kernel
theorem dX9_witness_68 : decode cX9_witness 68 = .ok (.istore 4, 2) := by decide +kernel
theorem dX9_witness_70 : decode cX9_witness 70 = .ok (.iload 4, 2) := by decide +kernel
theorem dX9_witness_72 : decode cX9_witness 72 = .ok (.ifCond .eq 7, 3) := by decide +kernel
theorem dX9_witness_75 : decode cX9_witness 75 = .ok (.iconst 1, 1) := by decide +kernel
theorem dX9_witness_76 : decode cX9_witness 76 = .ok (.goto 4, 3) := by decide +kernel
theorem dX9_witness_79 : decode cX9_witness 79 = .ok (.iconst 0, 1) := by decide +kernel
theorem dX9_witness_80 : decode cX9_witness 80 = .ok (.invokestatic 227, 3) := by decide +kernel
theorem dX9_witness_83 : decode cX9_witness 83 = .ok (.aload_n 0, 1) := by decide +kernel
theorem dX9_witness_84 : decode cX9_witness 84 = .ok (.getfield 17, 3) := by decide +kernel
theorem dX9_witness_87 : decode cX9_witness 87 = .ok (.iload_n 3, 1) := by decide +kernel
theorem dX9_witness_88 : decode cX9_witness 88 = .ok (.aaload, 1) := by decide +kernel
theorem dX9_witness_89 : decode cX9_witness 89 = .ok (.aload_n 0, 1) := by decide +kernel
theorem dX9_witness_90 : decode cX9_witness 90 = .ok (.getfield 41, 3) := by decide +kernel
theorem dX9_witness_93 : decode cX9_witness 93 = .ok (.getfield 259, 3) := by decide +kernel
theorem dX9_witness_96 : decode cX9_witness 96 = .ok (.invokevirtual 263, 3) := by decide +kernel
theorem dX9_witness_99 : decode cX9_witness 99 = .ok (.iload 4, 2) := by decide +kernel
theorem dX9_witness_101 : decode cX9_witness 101 = .ok (.ireturn, 1) := by decide +kernel
theorem dX9_isSound_0 : decode cX9_isSound 0 = .ok (.aload_n 0, 1) := by decide +kernel
theorem dX9_isSound_1 : decode cX9_isSound 1 = .ok (.invokevirtual 291, 3) := by decide +kernel
theorem dX9_isSound_4 : decode cX9_isSound 4 = .ok (.ifCond .eq 21, 3) := by decide +kernel
theorem dX9_isSound_7 : decode cX9_isSound 7 = .ok (.aload_n 0, 1) := by decide +kernel
theorem dX9_isSound_8 : decode cX9_isSound 8 = .ok (.invokevirtual 295, 3) := by decide +kernel
theorem dX9_isSound_11 : decode cX9_isSound 11 = .ok (.ifCond .eq 14, 3) := by decide +kernel
theorem dX9_isSound_14 : decode cX9_isSound 14 = .ok (.aload_n 0, 1) := by decide +kernel
theorem dX9_isSound_15 : decode cX9_isSound 15 = .ok (.invokevirtual 298, 3) := by decide +kernel
theorem dX9_isSound_18 : decode cX9_isSound 18 = .ok (.ifCond .eq 7, 3) := by decide +kernel
theorem dX9_isSound_21 : decode cX9_isSound 21 = .ok (.iconst 1, 1) := by decide +kernel
theorem dX9_isSound_22 : decode cX9_isSound 22 = .ok (.goto 4, 3) := by decide +kernel
theorem dX9_isSound_25 : decode cX9_isSound 25 = .ok (.iconst 0, 1) := by decide +kernel
theorem dX9_isSound_26 : decode cX9_isSound 26 = .ok (.ireturn, 1) := by decide +kernel
theorem dX9_areFittingsSound_0 : decode cX9_areFittingsSound 0 = .ok (.iconst 0, 1) := by decide +kernel
theorem dX9_areFittingsSound_1 : decode cX9_areFittingsSound 1 = .ok (.istore_n 1, 1) := by decide +kernel
theorem dX9_areFittingsSound_2 : decode cX9_areFittingsSound 2 = .ok (.iload_n 1, 1) := by decide +kernel
theorem dX9_areFittingsSound_3 : decode cX9_areFittingsSound 3 = .ok (.iconst 4, 1) := by decide +kernel
theorem dX9_areFittingsSound_4 : decode cX9_areFittingsSound 4 = .ok (.if_icmp .ge 113, 3) := by decide +kernel
theorem dX9_areFittingsSound_7 : decode cX9_areFittingsSound 7 = .ok (.aload_n 0, 1) := by decide +kernel
theorem dX9_areFittingsSound_8 : decode cX9_areFittingsSound 8 = .ok (.getfield 45, 3) := by decide +kernel
theorem dX9_areFittingsSound_11 : decode cX9_areFittingsSound 11 = .ok (.iload_n 1, 1) := by decide +kernel
theorem dX9_areFittingsSound_12 : decode cX9_areFittingsSound 12 = .ok (.iconst 0, 1) := by decide +kernel
theorem dX9_areFittingsSound_13 : decode cX9_areFittingsSound 13 = .ok (.iastore, 1) := by decide +kernel
theorem dX9_areFittingsSound_14 : decode cX9_areFittingsSound 14 = .ok (.iconst 0, 1) := by decide +kernel
theorem dX9_areFittingsSound_15 : decode cX9_areFittingsSound 15 = .ok (.istore_n 2, 1) := by decide +kernel
theorem dX9_areFittingsSound_16 : decode cX9_areFittingsSound 16 = .ok (.iload_n 2, 1) := by decide +kernel
theorem dX9_areFittingsSound_17 : decode cX9_areFittingsSound 17 = .ok (.iconst 4, 1) := by decide +kernel
theorem dX9_areFittingsSound_18 : decode cX9_areFittingsSound 18 = .ok (.if_icmp .ge 93, 3) := by decide +kernel
theorem dX9_areFittingsSound_21 : decode cX9_areFittingsSound 21 = .ok (.aload_n 0, 1) := by decide +kernel
theorem dX9_areFittingsSound_22 : decode cX9_areFittingsSound 22 = .ok (.getfield 11, 3) := by decide +kernel
theorem dX9_areFittingsSound_25 : decode cX9_areFittingsSound 25 = .ok (.iload_n 1, 1) := by decide +kernel
theorem dX9_areFittingsSound_26 : decode cX9_areFittingsSound 26 = .ok (.aaload, 1) := by decide +kernel
theorem dX9_areFittingsSound_27 : decode cX9_areFittingsSound 27 = .ok (.invokevirtual 148, 3) := by decide +kernel
theorem dX9_areFittingsSound_30 : decode cX9_areFittingsSound 30 = .ok (.iconst (-1), 1) := by decide +kernel
theorem dX9_areFittingsSound_31 : decode cX9_areFittingsSound 31 = .ok (.if_icmp .ne 74, 3) := by decide +kernel
theorem dX9_areFittingsSound_34 : decode cX9_areFittingsSound 34 = .ok (.aload_n 0, 1) := by decide +kernel
theorem dX9_areFittingsSound_35 : decode cX9_areFittingsSound 35 = .ok (.getfield 11, 3) := by decide +kernel
theorem dX9_areFittingsSound_38 : decode cX9_areFittingsSound 38 = .ok (.iload_n 2, 1) := by decide +kernel
theorem dX9_areFittingsSound_39 : decode cX9_areFittingsSound 39 = .ok (.aaload, 1) := by decide +kernel
theorem dX9_areFittingsSound_40 : decode cX9_areFittingsSound 40 = .ok (.invokevirtual 148, 3) := by decide +kernel
theorem dX9_areFittingsSound_43 : decode cX9_areFittingsSound 43 = .ok (.iconst (-1), 1) := by decide +kernel
theorem dX9_areFittingsSound_44 : decode cX9_areFittingsSound 44 = .ok (.if_icmp .eq 6, 3) := by decide +kernel
theorem dX9_areFittingsSound_47 : decode cX9_areFittingsSound 47 = .ok (.goto 58, 3) := by decide +kernel
theorem dX9_areFittingsSound_50 : decode cX9_areFittingsSound 50 = .ok (.aload_n 0, 1) := by decide +kernel
theorem dX9_areFittingsSound_51 : decode cX9_areFittingsSound 51 = .ok (.getfield 41, 3) := by decide +kernel
theorem dX9_areFittingsSound_54 : decode cX9_areFittingsSound 54 = .ok (.aload_n 0, 1) := by decide +kernel
theorem dX9_areFittingsSound_55 : decode cX9_areFittingsSound 55 = .ok (.getfield 11, 3) := by decide +kernel
theorem dX9_areFittingsSound_58 : decode cX9_areFittingsSound 58 = .ok (.iload_n 1, 1) := by decide +kernel
theorem dX9_areFittingsSound_59 : decode cX9_areFittingsSound 59 = .ok (.aaload, 1) := by decide +kernel
theorem dX9_areFittingsSound_60 : decode cX9_areFittingsSound 60 = .ok (.aload_n 0, 1) := by decide +kernel
theorem dX9_areFittingsSound_61 : decode cX9_areFittingsSound 61 = .ok (.getfield 11, 3) := by decide +kernel
theorem dX9_areFittingsSound_64 : decode cX9_areFittingsSound 64 = .ok (.iload_n 2, 1) := by decide +kernel
theorem dX9_areFittingsSound_65 : decode cX9_areFittingsSound 65 = .ok (.aaload, 1) := by decide +kernel
theorem dX9_areFittingsSound_66 : decode cX9_areFittingsSound 66 = .ok (.invokevirtual 255, 3) := by decide +kernel
theorem dX9_areFittingsSound_69 : decode cX9_areFittingsSound 69 = .ok (.istore_n 3, 1) := by decide +kernel
theorem dX9_areFittingsSound_70 : decode cX9_areFittingsSound 70 = .ok (.iload_n 3, 1) := by decide +kernel
theorem dX9_areFittingsSound_71 : decode cX9_areFittingsSound 71 = .ok (.ifCond .ne 18, 3) := by decide +kernel
theorem dX9_areFittingsSound_74 : decode cX9_areFittingsSound 74 = .ok (.aload_n 0, 1) := by decide +kernel
theorem dX9_areFittingsSound_75 : decode cX9_areFittingsSound 75 = .ok (.getfield 45, 3) := by decide +kernel
theorem dX9_areFittingsSound_78 : decode cX9_areFittingsSound 78 = .ok (.iload_n 1, 1) := by decide +kernel
theorem dX9_areFittingsSound_79 : decode cX9_areFittingsSound 79 = .ok (.dup2, 1) := by decide +kernel
theorem dX9_areFittingsSound_80 : decode cX9_areFittingsSound 80 = .ok (.iaload, 1) := by decide +kernel
theorem dX9_areFittingsSound_81 : decode cX9_areFittingsSound 81 = .ok (.iconst 1, 1) := by decide +kernel
theorem dX9_areFittingsSound_82 : decode cX9_areFittingsSound 82 = .ok (.iload_n 2, 1) := by decide +kernel
theorem dX9_areFittingsSound_83 : decode cX9_areFittingsSound 83 = .ok (.ishl, 1) := by decide +kernel
theorem dX9_areFittingsSound_84 : decode cX9_areFittingsSound 84 = .ok (.ior, 1) := by decide +kernel
theorem dX9_areFittingsSound_85 : decode cX9_areFittingsSound 85 = .ok (.iastore, 1) := by decide +kernel
theorem dX9_areFittingsSound_86 : decode cX9_areFittingsSound 86 = .ok (.goto 19, 3) := by decide +kernel
theorem dX9_areFittingsSound_89 : decode cX9_areFittingsSound 89 = .ok (.iload_n 1, 1) := by decide +kernel
theorem dX9_areFittingsSound_90 : decode cX9_areFittingsSound 90 = .ok (.iload_n 2, 1) := by decide +kernel
theorem dX9_areFittingsSound_91 : decode cX9_areFittingsSound 91 = .ok (.if_icmp .eq 12, 3) := by decide +kernel
theorem dX9_areFittingsSound_94 : decode cX9_areFittingsSound 94 = .ok (.aload_n 0, 1) := by decide +kernel
theorem dX9_areFittingsSound_95 : decode cX9_areFittingsSound 95 = .ok (.iload_n 1, 1) := by decide +kernel
theorem dX9_areFittingsSound_96 : decode cX9_areFittingsSound 96 = .ok (.iload_n 2, 1) := by decide +kernel
theorem dX9_areFittingsSound_97 : decode cX9_areFittingsSound 97 = .ok (.invokevirtual 301, 3) := by decide +kernel
theorem dX9_areFittingsSound_100 : decode cX9_areFittingsSound 100 = .ok (.ifCond .ne 5, 3) := by decide +kernel
theorem dX9_areFittingsSound_103 : decode cX9_areFittingsSound 103 = .ok (.iconst 0, 1) := by decide +kernel
theorem dX9_areFittingsSound_104 : decode cX9_areFittingsSound 104 = .ok (.ireturn, 1) := by decide +kernel
theorem dX9_areFittingsSound_105 : decode cX9_areFittingsSound 105 = .ok (.iinc 2 1, 3) := by decide +kernel
theorem dX9_areFittingsSound_108 : decode cX9_areFittingsSound 108 = .ok (.goto (-92), 3) := by decide +kernel
theorem dX9_areFittingsSound_111 : decode cX9_areFittingsSound 111 = .ok (.iinc 1 1, 3) := by decide +kernel
theorem dX9_areFittingsSound_114 : decode cX9_areFittingsSound 114 = .ok (.goto (-112), 3) := by decide +kernel
theorem dX9_areFittingsSound_117 : decode cX9_areFittingsSound 117 = .ok (.iconst 1, 1) := by decide +kernel
theorem dX9_areFittingsSound_118 : decode cX9_areFittingsSound 118 = .ok (.ireturn, 1) := by decide +kernel
theorem dX9_doesLeastTell_0 : decode cX9_doesLeastTell 0 = .ok (.aload_n 0, 1) := by decide +kernel
theorem dX9_doesLeastTell_1 : decode cX9_doesLeastTell 1 = .ok (.getfield 35, 3) := by decide +kernel
theorem dX9_doesLeastTell_4 : decode cX9_doesLeastTell 4 = .ok (.aload_n 0, 1) := by decide +kernel
theorem dX9_doesLeastTell_5 : decode cX9_doesLeastTell 5 = .ok (.getfield 41, 3) := by decide +kernel
theorem dX9_doesLeastTell_8 : decode cX9_doesLeastTell 8 = .ok (.getfield 259, 3) := by decide +kernel
theorem dX9_doesLeastTell_11 : decode cX9_doesLeastTell 11 = .ok (.aload_n 0, 1) := by decide +kernel
theorem dX9_doesLeastTell_12 : decode cX9_doesLeastTell 12 = .ok (.getfield 11, 3) := by decide +kernel
theorem dX9_doesLeastTell_15 : decode cX9_doesLeastTell 15 = .ok (.iload_n 1, 1) := by decide +kernel
theorem dX9_doesLeastTell_16 : decode cX9_doesLeastTell 16 = .ok (.aaload, 1) := by decide +kernel
theorem dX9_doesLeastTell_17 : decode cX9_doesLeastTell 17 = .ok (.invokevirtual 238, 3) := by decide +kernel
theorem dX9_doesLeastTell_20 : decode cX9_doesLeastTell 20 = .ok (.aload_n 0, 1) := by decide +kernel
theorem dX9_doesLeastTell_21 : decode cX9_doesLeastTell 21 = .ok (.getfield 35, 3) := by decide +kernel
theorem dX9_doesLeastTell_24 : decode cX9_doesLeastTell 24 = .ok (.getfield 248, 3) := by decide +kernel
theorem dX9_doesLeastTell_27 : decode cX9_doesLeastTell 27 = .ok (.bipush 45, 2) := by decide +kernel
theorem dX9_doesLeastTell_29 : decode cX9_doesLeastTell 29 = .ok (.if_icmp .eq 5, 3) := by decide +kernel
theorem dX9_doesLeastTell_32 : decode cX9_doesLeastTell 32 = .ok (.iconst 0, 1) := by decide +kernel
theorem dX9_doesLeastTell_33 : decode cX9_doesLeastTell 33 = .ok (.ireturn, 1) := by decide +kernel
theorem dX9_doesLeastTell_34 : decode cX9_doesLeastTell 34 = .ok (.aload_n 0, 1) := by decide +kernel
theorem dX9_doesLeastTell_35 : decode cX9_doesLeastTell 35 = .ok (.getfield 35, 3) := by decide +kernel
theorem dX9_doesLeastTell_38 : decode cX9_doesLeastTell 38 = .ok (.aload_n 0, 1) := by decide +kernel
theorem dX9_doesLeastTell_39 : decode cX9_doesLeastTell 39 = .ok (.getfield 41, 3) := by decide +kernel
theorem dX9_doesLeastTell_42 : decode cX9_doesLeastTell 42 = .ok (.getfield 259, 3) := by decide +kernel
theorem dX9_doesLeastTell_45 : decode cX9_doesLeastTell 45 = .ok (.aload_n 0, 1) := by decide +kernel
theorem dX9_doesLeastTell_46 : decode cX9_doesLeastTell 46 = .ok (.getfield 11, 3) := by decide +kernel
theorem dX9_doesLeastTell_49 : decode cX9_doesLeastTell 49 = .ok (.iload_n 2, 1) := by decide +kernel
theorem dX9_doesLeastTell_50 : decode cX9_doesLeastTell 50 = .ok (.aaload, 1) := by decide +kernel
theorem dX9_doesLeastTell_51 : decode cX9_doesLeastTell 51 = .ok (.invokevirtual 238, 3) := by decide +kernel
theorem dX9_doesLeastTell_54 : decode cX9_doesLeastTell 54 = .ok (.aload_n 0, 1) := by decide +kernel
theorem dX9_doesLeastTell_55 : decode cX9_doesLeastTell 55 = .ok (.getfield 35, 3) := by decide +kernel
theorem dX9_doesLeastTell_58 : decode cX9_doesLeastTell 58 = .ok (.getfield 248, 3) := by decide +kernel
theorem dX9_doesLeastTell_61 : decode cX9_doesLeastTell 61 = .ok (.bipush 45, 2) := by decide +kernel
theorem dX9_doesLeastTell_63 : decode cX9_doesLeastTell 63 = .ok (.if_icmp .eq 7, 3) := by decide +kernel
theorem dX9_doesLeastTell_66 : decode cX9_doesLeastTell 66 = .ok (.iconst 1, 1) := by decide +kernel
theorem dX9_doesLeastTell_67 : decode cX9_doesLeastTell 67 = .ok (.goto 4, 3) := by decide +kernel
theorem dX9_doesLeastTell_70 : decode cX9_doesLeastTell 70 = .ok (.iconst 0, 1) := by decide +kernel
theorem dX9_doesLeastTell_71 : decode cX9_doesLeastTell 71 = .ok (.ireturn, 1) := by decide +kernel
theorem dX9_doesFittingGoOn_0 : decode cX9_doesFittingGoOn 0 = .ok (.iconst 0, 1) := by decide +kernel
theorem dX9_doesFittingGoOn_1 : decode cX9_doesFittingGoOn 1 = .ok (.istore_n 1, 1) := by decide +kernel
theorem dX9_doesFittingGoOn_2 : decode cX9_doesFittingGoOn 2 = .ok (.iload_n 1, 1) := by decide +kernel
theorem dX9_doesFittingGoOn_3 : decode cX9_doesFittingGoOn 3 = .ok (.iconst 4, 1) := by decide +kernel
theorem dX9_doesFittingGoOn_4 : decode cX9_doesFittingGoOn 4 = .ok (.if_icmp .ge 55, 3) := by decide +kernel
theorem dX9_doesFittingGoOn_7 : decode cX9_doesFittingGoOn 7 = .ok (.iconst 0, 1) := by decide +kernel
theorem dX9_doesFittingGoOn_8 : decode cX9_doesFittingGoOn 8 = .ok (.istore_n 2, 1) := by decide +kernel
theorem dX9_doesFittingGoOn_9 : decode cX9_doesFittingGoOn 9 = .ok (.iload_n 2, 1) := by decide +kernel
theorem dX9_doesFittingGoOn_10 : decode cX9_doesFittingGoOn 10 = .ok (.iconst 4, 1) := by decide +kernel
theorem dX9_doesFittingGoOn_11 : decode cX9_doesFittingGoOn 11 = .ok (.if_icmp .ge 42, 3) := by decide +kernel
theorem dX9_doesFittingGoOn_14 : decode cX9_doesFittingGoOn 14 = .ok (.aload_n 0, 1) := by decide +kernel
theorem dX9_doesFittingGoOn_15 : decode cX9_doesFittingGoOn 15 = .ok (.getfield 45, 3) := by decide +kernel
theorem dX9_doesFittingGoOn_18 : decode cX9_doesFittingGoOn 18 = .ok (.iload_n 1, 1) := by decide +kernel
theorem dX9_doesFittingGoOn_19 : decode cX9_doesFittingGoOn 19 = .ok (.iaload, 1) := by decide +kernel
theorem dX9_doesFittingGoOn_20 : decode cX9_doesFittingGoOn 20 = .ok (.iload_n 2, 1) := by decide +kernel
theorem dX9_doesFittingGoOn_21 : decode cX9_doesFittingGoOn 21 = .ok (.invokestatic 111, 3) := by decide +kernel
theorem dX9_doesFittingGoOn_24 : decode cX9_doesFittingGoOn 24 = .ok (.ifCond .eq 23, 3) := by decide +kernel
theorem dX9_doesFittingGoOn_27 : decode cX9_doesFittingGoOn 27 = .ok (.aload_n 0, 1) := by decide +kernel
theorem dX9_doesFittingGoOn_28 : decode cX9_doesFittingGoOn 28 = .ok (.getfield 45, 3) := by decide +kernel
theorem dX9_doesFittingGoOn_31 : decode cX9_doesFittingGoOn 31 = .ok (.iload_n 2, 1) := by decide +kernel
theorem dX9_doesFittingGoOn_32 : decode cX9_doesFittingGoOn 32 = .ok (.iaload, 1) := by decide +kernel
theorem dX9_doesFittingGoOn_33 : decode cX9_doesFittingGoOn 33 = .ok (.aload_n 0, 1) := by decide +kernel
theorem dX9_doesFittingGoOn_34 : decode cX9_doesFittingGoOn 34 = .ok (.getfield 45, 3) := by decide +kernel
theorem dX9_doesFittingGoOn_37 : decode cX9_doesFittingGoOn 37 = .ok (.iload_n 1, 1) := by decide +kernel
theorem dX9_doesFittingGoOn_38 : decode cX9_doesFittingGoOn 38 = .ok (.iaload, 1) := by decide +kernel
theorem dX9_doesFittingGoOn_39 : decode cX9_doesFittingGoOn 39 = .ok (.iconst (-1), 1) := by decide +kernel
theorem dX9_doesFittingGoOn_40 : decode cX9_doesFittingGoOn 40 = .ok (.ixor, 1) := by decide +kernel
theorem dX9_doesFittingGoOn_41 : decode cX9_doesFittingGoOn 41 = .ok (.iand, 1) := by decide +kernel
theorem dX9_doesFittingGoOn_42 : decode cX9_doesFittingGoOn 42 = .ok (.ifCond .eq 5, 3) := by decide +kernel
theorem dX9_doesFittingGoOn_45 : decode cX9_doesFittingGoOn 45 = .ok (.iconst 0, 1) := by decide +kernel
theorem dX9_doesFittingGoOn_46 : decode cX9_doesFittingGoOn 46 = .ok (.ireturn, 1) := by decide +kernel
theorem dX9_doesFittingGoOn_47 : decode cX9_doesFittingGoOn 47 = .ok (.iinc 2 1, 3) := by decide +kernel
theorem dX9_doesFittingGoOn_50 : decode cX9_doesFittingGoOn 50 = .ok (.goto (-41), 3) := by decide +kernel
theorem dX9_doesFittingGoOn_53 : decode cX9_doesFittingGoOn 53 = .ok (.iinc 1 1, 3) := by decide +kernel
theorem dX9_doesFittingGoOn_56 : decode cX9_doesFittingGoOn 56 = .ok (.goto (-54), 3) := by decide +kernel
theorem dX9_doesFittingGoOn_59 : decode cX9_doesFittingGoOn 59 = .ok (.iconst 1, 1) := by decide +kernel
theorem dX9_doesFittingGoOn_60 : decode cX9_doesFittingGoOn 60 = .ok (.ireturn, 1) := by decide +kernel
theorem dX9_areNumbersSound_0 : decode cX9_areNumbersSound 0 = .ok (.iconst 0, 1) := by decide +kernel
theorem dX9_areNumbersSound_1 : decode cX9_areNumbersSound 1 = .ok (.istore_n 1, 1) := by decide +kernel
theorem dX9_areNumbersSound_2 : decode cX9_areNumbersSound 2 = .ok (.iload_n 1, 1) := by decide +kernel
theorem dX9_areNumbersSound_3 : decode cX9_areNumbersSound 3 = .ok (.aload_n 0, 1) := by decide +kernel
theorem dX9_areNumbersSound_4 : decode cX9_areNumbersSound 4 = .ok (.getfield 48, 3) := by decide +kernel
theorem dX9_areNumbersSound_7 : decode cX9_areNumbersSound 7 = .ok (.if_icmp .ge 50, 3) := by decide +kernel
theorem dX9_areNumbersSound_10 : decode cX9_areNumbersSound 10 = .ok (.aload_n 0, 1) := by decide +kernel
theorem dX9_areNumbersSound_11 : decode cX9_areNumbersSound 11 = .ok (.iload_n 1, 1) := by decide +kernel
theorem dX9_areNumbersSound_12 : decode cX9_areNumbersSound 12 = .ok (.invokevirtual 266, 3) := by decide +kernel
theorem dX9_areNumbersSound_15 : decode cX9_areNumbersSound 15 = .ok (.istore_n 2, 1) := by decide +kernel
theorem dX9_areNumbersSound_16 : decode cX9_areNumbersSound 16 = .ok (.iconst 0, 1) := by decide +kernel
theorem dX9_areNumbersSound_17 : decode cX9_areNumbersSound 17 = .ok (.istore_n 3, 1) := by decide +kernel
theorem dX9_areNumbersSound_18 : decode cX9_areNumbersSound 18 = .ok (.iload_n 3, 1) := by decide +kernel
theorem dX9_areNumbersSound_19 : decode cX9_areNumbersSound 19 = .ok (.iconst 3, 1) := by decide +kernel
theorem dX9_areNumbersSound_20 : decode cX9_areNumbersSound 20 = .ok (.if_icmp .ge 31, 3) := by decide +kernel
theorem dX9_areNumbersSound_23 : decode cX9_areNumbersSound 23 = .ok (.aload_n 0, 1) := by decide +kernel
theorem dX9_areNumbersSound_24 : decode cX9_areNumbersSound 24 = .ok (.getfield 24, 3) := by decide +kernel
theorem dX9_areNumbersSound_27 : decode cX9_areNumbersSound 27 = .ok (.iload_n 1, 1) := by decide +kernel
theorem dX9_areNumbersSound_28 : decode cX9_areNumbersSound 28 = .ok (.iconst 3, 1) := by decide +kernel
theorem dX9_areNumbersSound_29 : decode cX9_areNumbersSound 29 = .ok (.imul, 1) := by decide +kernel
theorem dX9_areNumbersSound_30 : decode cX9_areNumbersSound 30 = .ok (.iload_n 3, 1) := by decide +kernel
theorem dX9_areNumbersSound_31 : decode cX9_areNumbersSound 31 = .ok (.iadd, 1) := by decide +kernel
theorem dX9_areNumbersSound_32 : decode cX9_areNumbersSound 32 = .ok (.iaload, 1) := by decide +kernel
theorem dX9_areNumbersSound_33 : decode cX9_areNumbersSound 33 = .ok (.aload_n 0, 1) := by decide +kernel
theorem dX9_areNumbersSound_34 : decode cX9_areNumbersSound 34 = .ok (.iload_n 1, 1) := by decide +kernel
theorem dX9_areNumbersSound_35 : decode cX9_areNumbersSound 35 = .ok (.iload_n 3, 1) := by decide +kernel
theorem dX9_areNumbersSound_36 : decode cX9_areNumbersSound 36 = .ok (.iload_n 2, 1) := by decide +kernel
theorem dX9_areNumbersSound_37 : decode cX9_areNumbersSound 37 = .ok (.invokevirtual 269, 3) := by decide +kernel
theorem dX9_areNumbersSound_40 : decode cX9_areNumbersSound 40 = .ok (.if_icmp .eq 5, 3) := by decide +kernel
theorem dX9_areNumbersSound_43 : decode cX9_areNumbersSound 43 = .ok (.iconst 0, 1) := by decide +kernel
theorem dX9_areNumbersSound_44 : decode cX9_areNumbersSound 44 = .ok (.ireturn, 1) := by decide +kernel
theorem dX9_areNumbersSound_45 : decode cX9_areNumbersSound 45 = .ok (.iinc 3 1, 3) := by decide +kernel
theorem dX9_areNumbersSound_48 : decode cX9_areNumbersSound 48 = .ok (.goto (-30), 3) := by decide +kernel
theorem dX9_areNumbersSound_51 : decode cX9_areNumbersSound 51 = .ok (.iinc 1 1, 3) := by decide +kernel
theorem dX9_areNumbersSound_54 : decode cX9_areNumbersSound 54 = .ok (.goto (-52), 3) := by decide +kernel
theorem dX9_areNumbersSound_57 : decode cX9_areNumbersSound 57 = .ok (.iconst 1, 1) := by decide +kernel
theorem dX9_areNumbersSound_58 : decode cX9_areNumbersSound 58 = .ok (.ireturn, 1) := by decide +kernel
theorem dX9_stepOf_0 : decode cX9_stepOf 0 = .ok (.iload_n 1, 1) := by decide +kernel
theorem dX9_stepOf_1 : decode cX9_stepOf 1 = .ok (.ifCond .ne 5, 3) := by decide +kernel
theorem dX9_stepOf_4 : decode cX9_stepOf 4 = .ok (.iconst 0, 1) := by decide +kernel
theorem dX9_stepOf_5 : decode cX9_stepOf 5 = .ok (.ireturn, 1) := by decide +kernel
theorem dX9_stepOf_6 : decode cX9_stepOf 6 = .ok (.aload_n 0, 1) := by decide +kernel
theorem dX9_stepOf_7 : decode cX9_stepOf 7 = .ok (.getfield 41, 3) := by decide +kernel
theorem dX9_stepOf_10 : decode cX9_stepOf 10 = .ok (.aload_n 0, 1) := by decide +kernel
theorem dX9_stepOf_11 : decode cX9_stepOf 11 = .ok (.getfield 21, 3) := by decide +kernel
theorem dX9_stepOf_14 : decode cX9_stepOf 14 = .ok (.iload_n 1, 1) := by decide +kernel
theorem dX9_stepOf_15 : decode cX9_stepOf 15 = .ok (.iconst 1, 1) := by decide +kernel
theorem dX9_stepOf_16 : decode cX9_stepOf 16 = .ok (.isub, 1) := by decide +kernel
theorem dX9_stepOf_17 : decode cX9_stepOf 17 = .ok (.aaload, 1) := by decide +kernel
theorem dX9_stepOf_18 : decode cX9_stepOf 18 = .ok (.aload_n 0, 1) := by decide +kernel
theorem dX9_stepOf_19 : decode cX9_stepOf 19 = .ok (.getfield 21, 3) := by decide +kernel
theorem dX9_stepOf_22 : decode cX9_stepOf 22 = .ok (.iload_n 1, 1) := by decide +kernel
theorem dX9_stepOf_23 : decode cX9_stepOf 23 = .ok (.aaload, 1) := by decide +kernel
theorem dX9_stepOf_24 : decode cX9_stepOf 24 = .ok (.invokevirtual 255, 3) := by decide +kernel
theorem dX9_stepOf_27 : decode cX9_stepOf 27 = .ok (.ifCond .eq 5, 3) := by decide +kernel
theorem dX9_stepOf_30 : decode cX9_stepOf 30 = .ok (.iconst 0, 1) := by decide +kernel
theorem dX9_stepOf_31 : decode cX9_stepOf 31 = .ok (.ireturn, 1) := by decide +kernel
theorem dX9_stepOf_32 : decode cX9_stepOf 32 = .ok (.aload_n 0, 1) := by decide +kernel
theorem dX9_stepOf_33 : decode cX9_stepOf 33 = .ok (.getfield 41, 3) := by decide +kernel
theorem dX9_stepOf_36 : decode cX9_stepOf 36 = .ok (.aload_n 0, 1) := by decide +kernel
theorem dX9_stepOf_37 : decode cX9_stepOf 37 = .ok (.getfield 21, 3) := by decide +kernel
theorem dX9_stepOf_40 : decode cX9_stepOf 40 = .ok (.iload_n 1, 1) := by decide +kernel
theorem dX9_stepOf_41 : decode cX9_stepOf 41 = .ok (.aaload, 1) := by decide +kernel
theorem dX9_stepOf_42 : decode cX9_stepOf 42 = .ok (.aload_n 0, 1) := by decide +kernel
theorem dX9_stepOf_43 : decode cX9_stepOf 43 = .ok (.getfield 21, 3) := by decide +kernel
theorem dX9_stepOf_46 : decode cX9_stepOf 46 = .ok (.iload_n 1, 1) := by decide +kernel
theorem dX9_stepOf_47 : decode cX9_stepOf 47 = .ok (.iconst 1, 1) := by decide +kernel
theorem dX9_stepOf_48 : decode cX9_stepOf 48 = .ok (.isub, 1) := by decide +kernel
theorem dX9_stepOf_49 : decode cX9_stepOf 49 = .ok (.aaload, 1) := by decide +kernel
theorem dX9_stepOf_50 : decode cX9_stepOf 50 = .ok (.invokevirtual 255, 3) := by decide +kernel
theorem dX9_stepOf_53 : decode cX9_stepOf 53 = .ok (.ifCond .eq 7, 3) := by decide +kernel
theorem dX9_stepOf_56 : decode cX9_stepOf 56 = .ok (.iconst 1, 1) := by decide +kernel
theorem dX9_stepOf_57 : decode cX9_stepOf 57 = .ok (.goto 4, 3) := by decide +kernel
theorem dX9_stepOf_60 : decode cX9_stepOf 60 = .ok (.iconst 2, 1) := by decide +kernel
theorem dX9_stepOf_61 : decode cX9_stepOf 61 = .ok (.ireturn, 1) := by decide +kernel
theorem dX9_numberDue_0 : decode cX9_numberDue 0 = .ok (.iload_n 1, 1) := by decide +kernel
theorem dX9_numberDue_1 : decode cX9_numberDue 1 = .ok (.ifCond .ne 7, 3) := by decide +kernel
theorem dX9_numberDue_4 : decode cX9_numberDue 4 = .ok (.iconst 0, 1) := by decide +kernel
theorem dX9_numberDue_5 : decode cX9_numberDue 5 = .ok (.goto 15, 3) := by decide +kernel
theorem dX9_numberDue_8 : decode cX9_numberDue 8 = .ok (.aload_n 0, 1) := by decide +kernel
theorem dX9_numberDue_9 : decode cX9_numberDue 9 = .ok (.getfield 24, 3) := by decide +kernel
theorem dX9_numberDue_12 : decode cX9_numberDue 12 = .ok (.iload_n 1, 1) := by decide +kernel
theorem dX9_numberDue_13 : decode cX9_numberDue 13 = .ok (.iconst 1, 1) := by decide +kernel
theorem dX9_numberDue_14 : decode cX9_numberDue 14 = .ok (.isub, 1) := by decide +kernel
theorem dX9_numberDue_15 : decode cX9_numberDue 15 = .ok (.iconst 3, 1) := by decide +kernel
theorem dX9_numberDue_16 : decode cX9_numberDue 16 = .ok (.imul, 1) := by decide +kernel
theorem dX9_numberDue_17 : decode cX9_numberDue 17 = .ok (.iload_n 2, 1) := by decide +kernel
theorem dX9_numberDue_18 : decode cX9_numberDue 18 = .ok (.iadd, 1) := by decide +kernel
theorem dX9_numberDue_19 : decode cX9_numberDue 19 = .ok (.iaload, 1) := by decide +kernel
theorem dX9_numberDue_20 : decode cX9_numberDue 20 = .ok (.istore 4, 2) := by decide +kernel
theorem dX9_numberDue_22 : decode cX9_numberDue 22 = .ok (.iload_n 2, 1) := by decide +kernel
theorem dX9_numberDue_23 : decode cX9_numberDue 23 = .ok (.iload_n 3, 1) := by decide +kernel
theorem dX9_numberDue_24 : decode cX9_numberDue 24 = .ok (.if_icmp .ge 8, 3) := by decide +kernel
theorem dX9_numberDue_27 : decode cX9_numberDue 27 = .ok (.iload 4, 2) := by decide +kernel
theorem dX9_numberDue_29 : decode cX9_numberDue 29 = .ok (.goto 16, 3) := by decide +kernel
theorem dX9_numberDue_32 : decode cX9_numberDue 32 = .ok (.iload_n 2, 1) := by decide +kernel
theorem dX9_numberDue_33 : decode cX9_numberDue 33 = .ok (.iload_n 3, 1) := by decide +kernel
theorem dX9_numberDue_34 : decode cX9_numberDue 34 = .ok (.if_icmp .ne 10, 3) := by decide +kernel
theorem dX9_numberDue_37 : decode cX9_numberDue 37 = .ok (.iload 4, 2) := by decide +kernel
theorem dX9_numberDue_39 : decode cX9_numberDue 39 = .ok (.iconst 1, 1) := by decide +kernel
theorem dX9_numberDue_40 : decode cX9_numberDue 40 = .ok (.iadd, 1) := by decide +kernel
theorem dX9_numberDue_41 : decode cX9_numberDue 41 = .ok (.goto 4, 3) := by decide +kernel
theorem dX9_numberDue_44 : decode cX9_numberDue 44 = .ok (.iconst 0, 1) := by decide +kernel
theorem dX9_numberDue_45 : decode cX9_numberDue 45 = .ok (.ireturn, 1) := by decide +kernel
theorem dX9_needPlace_0 : decode cX9_needPlace 0 = .ok (.iload_n 0, 1) := by decide +kernel
theorem dX9_needPlace_1 : decode cX9_needPlace 1 = .ok (.ifCond .lt 8, 3) := by decide +kernel
theorem dX9_needPlace_4 : decode cX9_needPlace 4 = .ok (.iload_n 0, 1) := by decide +kernel
theorem dX9_needPlace_5 : decode cX9_needPlace 5 = .ok (.iload_n 1, 1) := by decide +kernel
theorem dX9_needPlace_6 : decode cX9_needPlace 6 = .ok (.if_icmp .lt 11, 3) := by decide +kernel
theorem dX9_needPlace_9 : decode cX9_needPlace 9 = .ok (.new 304, 3) := by decide +kernel
theorem dX9_needPlace_12 : decode cX9_needPlace 12 = .ok (.dup, 1) := by decide +kernel
theorem dX9_needPlace_13 : decode cX9_needPlace 13 = .ok (.invokespecial 306, 3) := by decide +kernel
theorem dX9_needPlace_16 : decode cX9_needPlace 16 = .ok (.athrow, 1) := by decide +kernel
theorem dX9_needPlace_17 : decode cX9_needPlace 17 = .ok (.return_, 1) := by decide +kernel
theorem dX9_needRange_0 : decode cX9_needRange 0 = .ok (.iload_n 0, 1) := by decide +kernel
theorem dX9_needRange_1 : decode cX9_needRange 1 = .ok (.ifCond .ne 11, 3) := by decide +kernel
theorem dX9_needRange_4 : decode cX9_needRange 4 = .ok (.new 307, 3) := by decide +kernel
theorem dX9_needRange_7 : decode cX9_needRange 7 = .ok (.dup, 1) := by decide +kernel
theorem dX9_needRange_8 : decode cX9_needRange 8 = .ok (.invokespecial 309, 3) := by decide +kernel
theorem dX9_needRange_11 : decode cX9_needRange 11 = .ok (.athrow, 1) := by decide +kernel
theorem dX9_needRange_12 : decode cX9_needRange 12 = .ok (.return_, 1) := by decide +kernel
theorem dX9_needThere_0 : decode cX9_needThere 0 = .ok (.aload_n 0, 1) := by decide +kernel
theorem dX9_needThere_1 : decode cX9_needThere 1 = .ok (.getfield 66, 3) := by decide +kernel
theorem dX9_needThere_4 : decode cX9_needThere 4 = .ok (.getfield 70, 3) := by decide +kernel
theorem dX9_needThere_7 : decode cX9_needThere 7 = .ok (.iload_n 1, 1) := by decide +kernel
theorem dX9_needThere_8 : decode cX9_needThere 8 = .ok (.bipush 65, 2) := by decide +kernel
theorem dX9_needThere_10 : decode cX9_needThere 10 = .ok (.isub, 1) := by decide +kernel
theorem dX9_needThere_11 : decode cX9_needThere 11 = .ok (.caload, 1) := by decide +kernel
theorem dX9_needThere_12 : decode cX9_needThere 12 = .ok (.bipush 45, 2) := by decide +kernel
theorem dX9_needThere_14 : decode cX9_needThere 14 = .ok (.if_icmp .eq 7, 3) := by decide +kernel
theorem dX9_needThere_17 : decode cX9_needThere 17 = .ok (.iconst 1, 1) := by decide +kernel
theorem dX9_needThere_18 : decode cX9_needThere 18 = .ok (.goto 4, 3) := by decide +kernel
theorem dX9_needThere_21 : decode cX9_needThere 21 = .ok (.iconst 0, 1) := by decide +kernel
theorem dX9_needThere_22 : decode cX9_needThere 22 = .ok (.invokestatic 227, 3) := by decide +kernel
theorem dX9_needThere_25 : decode cX9_needThere 25 = .ok (.return_, 1) := by decide +kernel
theorem dX9_needElement_0 : decode cX9_needElement 0 = .ok (.iload_n 0, 1) := by decide +kernel
theorem dX9_needElement_1 : decode cX9_needElement 1 = .ok (.ifCond .ne 11, 3) := by decide +kernel
theorem dX9_needElement_4 : decode cX9_needElement 4 = .ok (.new 310, 3) := by decide +kernel
theorem dX9_needElement_7 : decode cX9_needElement 7 = .ok (.dup, 1) := by decide +kernel
theorem dX9_needElement_8 : decode cX9_needElement 8 = .ok (.invokespecial 312, 3) := by decide +kernel
theorem dX9_needElement_11 : decode cX9_needElement 11 = .ok (.athrow, 1) := by decide +kernel
theorem dX9_needElement_12 : decode cX9_needElement 12 = .ok (.return_, 1) := by decide +kernel
theorem dX9_needSupport_0 : decode cX9_needSupport 0 = .ok (.iload_n 0, 1) := by decide +kernel
theorem dX9_needSupport_1 : decode cX9_needSupport 1 = .ok (.ifCond .ne 11, 3) := by decide +kernel
theorem dX9_needSupport_4 : decode cX9_needSupport 4 = .ok (.new 313, 3) := by decide +kernel
theorem dX9_needSupport_7 : decode cX9_needSupport 7 = .ok (.dup, 1) := by decide +kernel
theorem dX9_needSupport_8 : decode cX9_needSupport 8 = .ok (.invokespecial 315, 3) := by decide +kernel
theorem dX9_needSupport_11 : decode cX9_needSupport 11 = .ok (.athrow, 1) := by decide +kernel
theorem dX9_needSupport_12 : decode cX9_needSupport 12 = .ok (.return_, 1) := by decide +kernel
theorem dX9_needState_0 : decode cX9_needState 0 = .ok (.iload_n 0, 1) := by decide +kernel
theorem dX9_needState_1 : decode cX9_needState 1 = .ok (.ifCond .ne 11, 3) := by decide +kernel
theorem dX9_needState_4 : decode cX9_needState 4 = .ok (.new 316, 3) := by decide +kernel
theorem dX9_needState_7 : decode cX9_needState 7 = .ok (.dup, 1) := by decide +kernel
theorem dX9_needState_8 : decode cX9_needState 8 = .ok (.invokespecial 318, 3) := by decide +kernel
theorem dX9_needState_11 : decode cX9_needState 11 = .ok (.athrow, 1) := by decide +kernel
theorem dX9_needState_12 : decode cX9_needState 12 = .ok (.return_, 1) := by decide +kernel
theorem dX9_isType_0 : decode cX9_isType 0 = .ok (.iload_n 0, 1) := by decide +kernel
theorem dX9_isType_1 : decode cX9_isType 1 = .ok (.bipush 65, 2) := by decide +kernel
theorem dX9_isType_3 : decode cX9_isType 3 = .ok (.if_icmp .lt 13, 3) := by decide +kernel
theorem dX9_isType_6 : decode cX9_isType 6 = .ok (.iload_n 0, 1) := by decide +kernel
theorem dX9_isType_7 : decode cX9_isType 7 = .ok (.bipush 69, 2) := by decide +kernel
theorem dX9_isType_9 : decode cX9_isType 9 = .ok (.if_icmp .gt 7, 3) := by decide +kernel
theorem dX9_isType_12 : decode cX9_isType 12 = .ok (.iconst 1, 1) := by decide +kernel
theorem dX9_isType_13 : decode cX9_isType 13 = .ok (.goto 4, 3) := by decide +kernel
theorem dX9_isType_16 : decode cX9_isType 16 = .ok (.iconst 0, 1) := by decide +kernel
theorem dX9_isType_17 : decode cX9_isType 17 = .ok (.ireturn, 1) := by decide +kernel
theorem dX9_isMember_0 : decode cX9_isMember 0 = .ok (.iload_n 0, 1) := by decide +kernel
theorem dX9_isMember_1 : decode cX9_isMember 1 = .ok (.bipush 97, 2) := by decide +kernel
theorem dX9_isMember_3 : decode cX9_isMember 3 = .ok (.if_icmp .lt 22, 3) := by decide +kernel
theorem dX9_isMember_6 : decode cX9_isMember 6 = .ok (.iload_n 0, 1) := by decide +kernel
theorem dX9_isMember_7 : decode cX9_isMember 7 = .ok (.bipush 99, 2) := by decide +kernel
theorem dX9_isMember_9 : decode cX9_isMember 9 = .ok (.if_icmp .gt 16, 3) := by decide +kernel
theorem dX9_isMember_12 : decode cX9_isMember 12 = .ok (.iload_n 1, 1) := by decide +kernel
theorem dX9_isMember_13 : decode cX9_isMember 13 = .ok (.ifCond .eq 8, 3) := by decide +kernel
theorem dX9_isMember_16 : decode cX9_isMember 16 = .ok (.iload_n 1, 1) := by decide +kernel
theorem dX9_isMember_17 : decode cX9_isMember 17 = .ok (.iconst 1, 1) := by decide +kernel
theorem dX9_isMember_18 : decode cX9_isMember 18 = .ok (.if_icmp .ne 7, 3) := by decide +kernel
theorem dX9_isMember_21 : decode cX9_isMember 21 = .ok (.iconst 1, 1) := by decide +kernel
theorem dX9_isMember_22 : decode cX9_isMember 22 = .ok (.goto 4, 3) := by decide +kernel
theorem dX9_isMember_25 : decode cX9_isMember 25 = .ok (.iconst 0, 1) := by decide +kernel
theorem dX9_isMember_26 : decode cX9_isMember 26 = .ok (.ireturn, 1) := by decide +kernel
theorem dX9_isSight_0 : decode cX9_isSight 0 = .ok (.iload_n 0, 1) := by decide +kernel
theorem dX9_isSight_1 : decode cX9_isSight 1 = .ok (.invokestatic 322, 3) := by decide +kernel
theorem dX9_isSight_4 : decode cX9_isSight 4 = .ok (.iconst (-1), 1) := by decide +kernel
theorem dX9_isSight_5 : decode cX9_isSight 5 = .ok (.if_icmp .eq 7, 3) := by decide +kernel
theorem dX9_isSight_8 : decode cX9_isSight 8 = .ok (.iconst 1, 1) := by decide +kernel
theorem dX9_isSight_9 : decode cX9_isSight 9 = .ok (.goto 4, 3) := by decide +kernel
theorem dX9_isSight_12 : decode cX9_isSight 12 = .ok (.iconst 0, 1) := by decide +kernel
theorem dX9_isSight_13 : decode cX9_isSight 13 = .ok (.ireturn, 1) := by decide +kernel
theorem dX9_sightRank_0 : decode cX9_sightRank 0 = .ok (.iload_n 0, 1) := by decide +kernel
theorem dX9_sightRank_1 : decode cX9_sightRank 1 = .ok (.bipush 112, 2) := by decide +kernel
theorem dX9_sightRank_3 : decode cX9_sightRank 3 = .ok (.if_icmp .ne 7, 3) := by decide +kernel
theorem dX9_sightRank_6 : decode cX9_sightRank 6 = .ok (.iconst 0, 1) := by decide +kernel
theorem dX9_sightRank_7 : decode cX9_sightRank 7 = .ok (.goto 34, 3) := by decide +kernel
theorem dX9_sightRank_10 : decode cX9_sightRank 10 = .ok (.iload_n 0, 1) := by decide +kernel
theorem dX9_sightRank_11 : decode cX9_sightRank 11 = .ok (.bipush 111, 2) := by decide +kernel
theorem dX9_sightRank_13 : decode cX9_sightRank 13 = .ok (.if_icmp .ne 7, 3) := by decide +kernel
theorem dX9_sightRank_16 : decode cX9_sightRank 16 = .ok (.iconst 1, 1) := by decide +kernel
theorem dX9_sightRank_17 : decode cX9_sightRank 17 = .ok (.goto 24, 3) := by decide +kernel
theorem dX9_sightRank_20 : decode cX9_sightRank 20 = .ok (.iload_n 0, 1) := by decide +kernel
theorem dX9_sightRank_21 : decode cX9_sightRank 21 = .ok (.bipush 107, 2) := by decide +kernel
theorem dX9_sightRank_23 : decode cX9_sightRank 23 = .ok (.if_icmp .ne 7, 3) := by decide +kernel
theorem dX9_sightRank_26 : decode cX9_sightRank 26 = .ok (.iconst 2, 1) := by decide +kernel
theorem dX9_sightRank_27 : decode cX9_sightRank 27 = .ok (.goto 14, 3) := by decide +kernel
theorem dX9_sightRank_30 : decode cX9_sightRank 30 = .ok (.iload_n 0, 1) := by decide +kernel
theorem dX9_sightRank_31 : decode cX9_sightRank 31 = .ok (.bipush 118, 2) := by decide +kernel
theorem dX9_sightRank_33 : decode cX9_sightRank 33 = .ok (.if_icmp .ne 7, 3) := by decide +kernel
theorem dX9_sightRank_36 : decode cX9_sightRank 36 = .ok (.iconst 3, 1) := by decide +kernel
theorem dX9_sightRank_37 : decode cX9_sightRank 37 = .ok (.goto 4, 3) := by decide +kernel
theorem dX9_sightRank_40 : decode cX9_sightRank 40 = .ok (.iconst (-1), 1) := by decide +kernel
theorem dX9_sightRank_41 : decode cX9_sightRank 41 = .ok (.ireturn, 1) := by decide +kernel
theorem dX9_memberIndex_0 : decode cX9_memberIndex 0 = .ok (.iload_n 0, 1) := by decide +kernel
theorem dX9_memberIndex_1 : decode cX9_memberIndex 1 = .ok (.bipush 97, 2) := by decide +kernel
theorem dX9_memberIndex_3 : decode cX9_memberIndex 3 = .ok (.isub, 1) := by decide +kernel
theorem dX9_memberIndex_4 : decode cX9_memberIndex 4 = .ok (.iconst 2, 1) := by decide +kernel
theorem dX9_memberIndex_5 : decode cX9_memberIndex 5 = .ok (.imul, 1) := by decide +kernel
theorem dX9_memberIndex_6 : decode cX9_memberIndex 6 = .ok (.iload_n 1, 1) := by decide +kernel
theorem dX9_memberIndex_7 : decode cX9_memberIndex 7 = .ok (.iadd, 1) := by decide +kernel
theorem dX9_memberIndex_8 : decode cX9_memberIndex 8 = .ok (.ireturn, 1) := by decide +kernel
theorem dX9_memberPlace_0 : decode cX9_memberPlace 0 = .ok (.iload_n 0, 1) := by decide +kernel
theorem dX9_memberPlace_1 : decode cX9_memberPlace 1 = .ok (.bipush 65, 2) := by decide +kernel
theorem dX9_memberPlace_3 : decode cX9_memberPlace 3 = .ok (.isub, 1) := by decide +kernel
theorem dX9_memberPlace_4 : decode cX9_memberPlace 4 = .ok (.bipush 6, 2) := by decide +kernel
theorem dX9_memberPlace_6 : decode cX9_memberPlace 6 = .ok (.imul, 1) := by decide +kernel
theorem dX9_memberPlace_7 : decode cX9_memberPlace 7 = .ok (.iload_n 1, 1) := by decide +kernel
theorem dX9_memberPlace_8 : decode cX9_memberPlace 8 = .ok (.iload_n 2, 1) := by decide +kernel
theorem dX9_memberPlace_9 : decode cX9_memberPlace 9 = .ok (.invokestatic 199, 3) := by decide +kernel
theorem dX9_memberPlace_12 : decode cX9_memberPlace 12 = .ok (.iadd, 1) := by decide +kernel
theorem dX9_memberPlace_13 : decode cX9_memberPlace 13 = .ok (.ireturn, 1) := by decide +kernel
theorem dX9_rowOf_0 : decode cX9_rowOf 0 = .ok (.iload_n 0, 1) := by decide +kernel
theorem dX9_rowOf_1 : decode cX9_rowOf 1 = .ok (.bipush 88, 2) := by decide +kernel
theorem dX9_rowOf_3 : decode cX9_rowOf 3 = .ok (.if_icmp .ne 7, 3) := by decide +kernel
theorem dX9_rowOf_6 : decode cX9_rowOf 6 = .ok (.iconst 5, 1) := by decide +kernel
theorem dX9_rowOf_7 : decode cX9_rowOf 7 = .ok (.goto 7, 3) := by decide +kernel
theorem dX9_rowOf_10 : decode cX9_rowOf 10 = .ok (.iload_n 0, 1) := by decide +kernel
theorem dX9_rowOf_11 : decode cX9_rowOf 11 = .ok (.bipush 65, 2) := by decide +kernel
theorem dX9_rowOf_13 : decode cX9_rowOf 13 = .ok (.isub, 1) := by decide +kernel
theorem dX9_rowOf_14 : decode cX9_rowOf 14 = .ok (.ireturn, 1) := by decide +kernel
theorem dX9_letter_0 : decode cX9_letter 0 = .ok (.iload_n 0, 1) := by decide +kernel
theorem dX9_letter_1 : decode cX9_letter 1 = .ok (.iconst (-1), 1) := by decide +kernel
theorem dX9_letter_2 : decode cX9_letter 2 = .ok (.if_icmp .ne 8, 3) := by decide +kernel
theorem dX9_letter_5 : decode cX9_letter 5 = .ok (.bipush 45, 2) := by decide +kernel
theorem dX9_letter_7 : decode cX9_letter 7 = .ok (.goto 18, 3) := by decide +kernel
theorem dX9_letter_10 : decode cX9_letter 10 = .ok (.iload_n 0, 1) := by decide +kernel
theorem dX9_letter_11 : decode cX9_letter 11 = .ok (.iconst 5, 1) := by decide +kernel
theorem dX9_letter_12 : decode cX9_letter 12 = .ok (.if_icmp .ne 8, 3) := by decide +kernel
theorem dX9_letter_15 : decode cX9_letter 15 = .ok (.bipush 88, 2) := by decide +kernel
theorem dX9_letter_17 : decode cX9_letter 17 = .ok (.goto 8, 3) := by decide +kernel
theorem dX9_letter_20 : decode cX9_letter 20 = .ok (.bipush 65, 2) := by decide +kernel
theorem dX9_letter_22 : decode cX9_letter 22 = .ok (.iload_n 0, 1) := by decide +kernel
theorem dX9_letter_23 : decode cX9_letter 23 = .ok (.iadd, 1) := by decide +kernel
theorem dX9_letter_24 : decode cX9_letter 24 = .ok (.i2c, 1) := by decide +kernel
theorem dX9_letter_25 : decode cX9_letter 25 = .ok (.ireturn, 1) := by decide +kernel
theorem dX9_nameOf_0 : decode cX9_nameOf 0 = .ok (.iload_n 0, 1) := by decide +kernel
theorem dX9_nameOf_1 : decode cX9_nameOf 1 = .ok (.iconst (-1), 1) := by decide +kernel
theorem dX9_nameOf_2 : decode cX9_nameOf 2 = .ok (.if_icmp .ne 8, 3) := by decide +kernel
theorem dX9_nameOf_5 : decode cX9_nameOf 5 = .ok (.bipush 45, 2) := by decide +kernel
theorem dX9_nameOf_7 : decode cX9_nameOf 7 = .ok (.goto 10, 3) := by decide +kernel
theorem dX9_nameOf_10 : decode cX9_nameOf 10 = .ok (.bipush 97, 2) := by decide +kernel
theorem dX9_nameOf_12 : decode cX9_nameOf 12 = .ok (.iload_n 0, 1) := by decide +kernel
theorem dX9_nameOf_13 : decode cX9_nameOf 13 = .ok (.iconst 2, 1) := by decide +kernel
theorem dX9_nameOf_14 : decode cX9_nameOf 14 = .ok (.idiv, 1) := by decide +kernel
theorem dX9_nameOf_15 : decode cX9_nameOf 15 = .ok (.iadd, 1) := by decide +kernel
theorem dX9_nameOf_16 : decode cX9_nameOf 16 = .ok (.i2c, 1) := by decide +kernel
theorem dX9_nameOf_17 : decode cX9_nameOf 17 = .ok (.ireturn, 1) := by decide +kernel
theorem dX9_kindIndex_0 : decode cX9_kindIndex 0 = .ok (.iconst 0, 1) := by decide +kernel
theorem dX9_kindIndex_1 : decode cX9_kindIndex 1 = .ok (.istore_n 1, 1) := by decide +kernel
theorem dX9_kindIndex_2 : decode cX9_kindIndex 2 = .ok (.iload_n 1, 1) := by decide +kernel
theorem dX9_kindIndex_3 : decode cX9_kindIndex 3 = .ok (.getstatic 325, 3) := by decide +kernel
theorem dX9_kindIndex_6 : decode cX9_kindIndex 6 = .ok (.arraylength, 1) := by decide +kernel
theorem dX9_kindIndex_7 : decode cX9_kindIndex 7 = .ok (.if_icmp .ge 20, 3) := by decide +kernel
theorem dX9_kindIndex_10 : decode cX9_kindIndex 10 = .ok (.getstatic 325, 3) := by decide +kernel
theorem dX9_kindIndex_13 : decode cX9_kindIndex 13 = .ok (.iload_n 1, 1) := by decide +kernel
theorem dX9_kindIndex_14 : decode cX9_kindIndex 14 = .ok (.caload, 1) := by decide +kernel
theorem dX9_kindIndex_15 : decode cX9_kindIndex 15 = .ok (.iload_n 0, 1) := by decide +kernel
theorem dX9_kindIndex_16 : decode cX9_kindIndex 16 = .ok (.if_icmp .ne 5, 3) := by decide +kernel
theorem dX9_kindIndex_19 : decode cX9_kindIndex 19 = .ok (.iload_n 1, 1) := by decide +kernel
theorem dX9_kindIndex_20 : decode cX9_kindIndex 20 = .ok (.ireturn, 1) := by decide +kernel
theorem dX9_kindIndex_21 : decode cX9_kindIndex 21 = .ok (.iinc 1 1, 3) := by decide +kernel
theorem dX9_kindIndex_24 : decode cX9_kindIndex 24 = .ok (.goto (-22), 3) := by decide +kernel
theorem dX9_kindIndex_27 : decode cX9_kindIndex 27 = .ok (.iconst (-1), 1) := by decide +kernel
theorem dX9_kindIndex_28 : decode cX9_kindIndex 28 = .ok (.ireturn, 1) := by decide +kernel
theorem dX9_hasType_0 : decode cX9_hasType 0 = .ok (.iload_n 0, 1) := by decide +kernel
theorem dX9_hasType_1 : decode cX9_hasType 1 = .ok (.ifCond .eq 12, 3) := by decide +kernel
theorem dX9_hasType_4 : decode cX9_hasType 4 = .ok (.iload_n 0, 1) := by decide +kernel
theorem dX9_hasType_5 : decode cX9_hasType 5 = .ok (.iconst 4, 1) := by decide +kernel
theorem dX9_hasType_6 : decode cX9_hasType 6 = .ok (.if_icmp .eq 7, 3) := by decide +kernel
theorem dX9_hasType_9 : decode cX9_hasType 9 = .ok (.iconst 1, 1) := by decide +kernel
theorem dX9_hasType_10 : decode cX9_hasType 10 = .ok (.goto 4, 3) := by decide +kernel
theorem dX9_hasType_13 : decode cX9_hasType 13 = .ok (.iconst 0, 1) := by decide +kernel
theorem dX9_hasType_14 : decode cX9_hasType 14 = .ok (.ireturn, 1) := by decide +kernel
theorem dX9_hasMember_0 : decode cX9_hasMember 0 = .ok (.iload_n 0, 1) := by decide +kernel
theorem dX9_hasMember_1 : decode cX9_hasMember 1 = .ok (.ifCond .eq 7, 3) := by decide +kernel
theorem dX9_hasMember_4 : decode cX9_hasMember 4 = .ok (.iconst 1, 1) := by decide +kernel
theorem dX9_hasMember_5 : decode cX9_hasMember 5 = .ok (.goto 4, 3) := by decide +kernel
theorem dX9_hasMember_8 : decode cX9_hasMember 8 = .ok (.iconst 0, 1) := by decide +kernel
theorem dX9_hasMember_9 : decode cX9_hasMember 9 = .ok (.ireturn, 1) := by decide +kernel
theorem dX9_hasObject_0 : decode cX9_hasObject 0 = .ok (.iload_n 0, 1) := by decide +kernel
theorem dX9_hasObject_1 : decode cX9_hasObject 1 = .ok (.ifCond .eq 25, 3) := by decide +kernel
theorem dX9_hasObject_4 : decode cX9_hasObject 4 = .ok (.iload_n 0, 1) := by decide +kernel
theorem dX9_hasObject_5 : decode cX9_hasObject 5 = .ok (.iconst 2, 1) := by decide +kernel
theorem dX9_hasObject_6 : decode cX9_hasObject 6 = .ok (.if_icmp .eq 20, 3) := by decide +kernel
theorem dX9_hasObject_9 : decode cX9_hasObject 9 = .ok (.iload_n 0, 1) := by decide +kernel
theorem dX9_hasObject_10 : decode cX9_hasObject 10 = .ok (.iconst 3, 1) := by decide +kernel
theorem dX9_hasObject_11 : decode cX9_hasObject 11 = .ok (.if_icmp .eq 15, 3) := by decide +kernel
theorem dX9_hasObject_14 : decode cX9_hasObject 14 = .ok (.iload_n 0, 1) := by decide +kernel
theorem dX9_hasObject_15 : decode cX9_hasObject 15 = .ok (.bipush 7, 2) := by decide +kernel
theorem dX9_hasObject_17 : decode cX9_hasObject 17 = .ok (.if_icmp .eq 9, 3) := by decide +kernel
theorem dX9_hasObject_20 : decode cX9_hasObject 20 = .ok (.iload_n 0, 1) := by decide +kernel
theorem dX9_hasObject_21 : decode cX9_hasObject 21 = .ok (.bipush 8, 2) := by decide +kernel
theorem dX9_hasObject_23 : decode cX9_hasObject 23 = .ok (.if_icmp .ne 7, 3) := by decide +kernel
theorem dX9_hasObject_26 : decode cX9_hasObject 26 = .ok (.iconst 1, 1) := by decide +kernel
theorem dX9_hasObject_27 : decode cX9_hasObject 27 = .ok (.goto 4, 3) := by decide +kernel
theorem dX9_hasObject_30 : decode cX9_hasObject 30 = .ok (.iconst 0, 1) := by decide +kernel
theorem dX9_hasObject_31 : decode cX9_hasObject 31 = .ok (.ireturn, 1) := by decide +kernel
theorem dX9_isCall_0 : decode cX9_isCall 0 = .ok (.iload_n 0, 1) := by decide +kernel
theorem dX9_isCall_1 : decode cX9_isCall 1 = .ok (.iconst 1, 1) := by decide +kernel
theorem dX9_isCall_2 : decode cX9_isCall 2 = .ok (.if_icmp .lt 12, 3) := by decide +kernel
theorem dX9_isCall_5 : decode cX9_isCall 5 = .ok (.iload_n 0, 1) := by decide +kernel
theorem dX9_isCall_6 : decode cX9_isCall 6 = .ok (.iconst 4, 1) := by decide +kernel
theorem dX9_isCall_7 : decode cX9_isCall 7 = .ok (.if_icmp .gt 7, 3) := by decide +kernel
theorem dX9_isCall_10 : decode cX9_isCall 10 = .ok (.iconst 1, 1) := by decide +kernel
theorem dX9_isCall_11 : decode cX9_isCall 11 = .ok (.goto 4, 3) := by decide +kernel
theorem dX9_isCall_14 : decode cX9_isCall 14 = .ok (.iconst 0, 1) := by decide +kernel
theorem dX9_isCall_15 : decode cX9_isCall 15 = .ok (.ireturn, 1) := by decide +kernel
theorem dX9_has_0 : decode cX9_has 0 = .ok (.iload_n 0, 1) := by decide +kernel
theorem dX9_has_1 : decode cX9_has 1 = .ok (.iload_n 1, 1) := by decide +kernel
theorem dX9_has_2 : decode cX9_has 2 = .ok (.ishr, 1) := by decide +kernel
theorem dX9_has_3 : decode cX9_has 3 = .ok (.iconst 1, 1) := by decide +kernel
theorem dX9_has_4 : decode cX9_has 4 = .ok (.iand, 1) := by decide +kernel
theorem dX9_has_5 : decode cX9_has 5 = .ok (.iconst 1, 1) := by decide +kernel
theorem dX9_has_6 : decode cX9_has 6 = .ok (.if_icmp .ne 7, 3) := by decide +kernel
theorem dX9_has_9 : decode cX9_has 9 = .ok (.iconst 1, 1) := by decide +kernel
theorem dX9_has_10 : decode cX9_has 10 = .ok (.goto 4, 3) := by decide +kernel
theorem dX9_has_13 : decode cX9_has 13 = .ok (.iconst 0, 1) := by decide +kernel
theorem dX9_has_14 : decode cX9_has 14 = .ok (.ireturn, 1) := by decide +kernel
theorem dX9_with_0 : decode cX9_with 0 = .ok (.iload_n 2, 1) := by decide +kernel
theorem dX9_with_1 : decode cX9_with 1 = .ok (.ifCond .eq 11, 3) := by decide +kernel
theorem dX9_with_4 : decode cX9_with 4 = .ok (.iload_n 0, 1) := by decide +kernel
theorem dX9_with_5 : decode cX9_with 5 = .ok (.iconst 1, 1) := by decide +kernel
theorem dX9_with_6 : decode cX9_with 6 = .ok (.iload_n 1, 1) := by decide +kernel
theorem dX9_with_7 : decode cX9_with 7 = .ok (.ishl, 1) := by decide +kernel
theorem dX9_with_8 : decode cX9_with 8 = .ok (.ior, 1) := by decide +kernel
theorem dX9_with_9 : decode cX9_with 9 = .ok (.goto 10, 3) := by decide +kernel
theorem dX9_with_12 : decode cX9_with 12 = .ok (.iload_n 0, 1) := by decide +kernel
theorem dX9_with_13 : decode cX9_with 13 = .ok (.iconst 1, 1) := by decide +kernel
theorem dX9_with_14 : decode cX9_with 14 = .ok (.iload_n 1, 1) := by decide +kernel
theorem dX9_with_15 : decode cX9_with 15 = .ok (.ishl, 1) := by decide +kernel
theorem dX9_with_16 : decode cX9_with 16 = .ok (.iconst (-1), 1) := by decide +kernel
theorem dX9_with_17 : decode cX9_with 17 = .ok (.ixor, 1) := by decide +kernel
theorem dX9_with_18 : decode cX9_with 18 = .ok (.iand, 1) := by decide +kernel
theorem dX9_with_19 : decode cX9_with 19 = .ok (.ireturn, 1) := by decide +kernel
