-- pasted from the claim's printed text: decode rows
theorem dX5_init_0 : decode cX5_init 0 = .ok (.aload_n 0, 1) := by decide +kernel
theorem dX5_init_1 : decode cX5_init 1 = .ok (.invokespecial 3, 3) := by decide +kernel
theorem dX5_init_4 : decode cX5_init 4 = .ok (.aload_n 0, 1) := by decide +kernel
theorem dX5_init_5 : decode cX5_init 5 = .ok (.new 9, 3) := by decide +kernel
theorem dX5_init_8 : decode cX5_init 8 = .ok (.dup, 1) := by decide +kernel
theorem dX5_init_9 : decode cX5_init 9 = .ok (.invokespecial 11, 3) := by decide +kernel
theorem dX5_init_12 : decode cX5_init 12 = .ok (.putfield 12, 3) := by decide +kernel
theorem dX5_init_15 : decode cX5_init 15 = .ok (.aload_n 0, 1) := by decide +kernel
theorem dX5_init_16 : decode cX5_init 16 = .ok (.new 18, 3) := by decide +kernel
theorem dX5_init_19 : decode cX5_init 19 = .ok (.dup, 1) := by decide +kernel
theorem dX5_init_20 : decode cX5_init 20 = .ok (.invokespecial 20, 3) := by decide +kernel
theorem dX5_init_23 : decode cX5_init 23 = .ok (.putfield 21, 3) := by decide +kernel
theorem dX5_init_26 : decode cX5_init 26 = .ok (.aload_n 0, 1) := by decide +kernel
theorem dX5_init_27 : decode cX5_init 27 = .ok (.iconst 0, 1) := by decide +kernel
theorem dX5_init_28 : decode cX5_init 28 = .ok (.putfield 25, 3) := by decide +kernel
theorem dX5_init_31 : decode cX5_init 31 = .ok (.aload_n 0, 1) := by decide +kernel
theorem dX5_init_32 : decode cX5_init 32 = .ok (.iconst (-1), 1) := by decide +kernel
theorem dX5_init_33 : decode cX5_init 33 = .ok (.putfield 29, 3) := by decide +kernel
theorem dX5_init_36 : decode cX5_init 36 = .ok (.aload_n 0, 1) := by decide +kernel
theorem dX5_init_37 : decode cX5_init 37 = .ok (.iconst 0, 1) := by decide +kernel
theorem dX5_init_38 : decode cX5_init 38 = .ok (.putfield 33, 3) := by decide +kernel
theorem dX5_init_41 : decode cX5_init 41 = .ok (.aload_n 0, 1) := by decide +kernel
theorem dX5_init_42 : decode cX5_init 42 = .ok (.iconst (-1), 1) := by decide +kernel
theorem dX5_init_43 : decode cX5_init 43 = .ok (.putfield 36, 3) := by decide +kernel
theorem dX5_init_46 : decode cX5_init 46 = .ok (.return_, 1) := by decide +kernel
theorem dX5_changed_0 : decode cX5_changed 0 = .ok (.aload_n 0, 1) := by decide +kernel
theorem dX5_changed_1 : decode cX5_changed 1 = .ok (.iconst 0, 1) := by decide +kernel
theorem dX5_changed_2 : decode cX5_changed 2 = .ok (.putfield 25, 3) := by decide +kernel
theorem dX5_changed_5 : decode cX5_changed 5 = .ok (.return_, 1) := by decide +kernel
theorem dX5_become_0 : decode cX5_become 0 = .ok (.aload_n 0, 1) := by decide +kernel
theorem dX5_become_1 : decode cX5_become 1 = .ok (.getfield 12, 3) := by decide +kernel
theorem dX5_become_4 : decode cX5_become 4 = .ok (.aload_n 1, 1) := by decide +kernel
theorem dX5_become_5 : decode cX5_become 5 = .ok (.getfield 12, 3) := by decide +kernel
theorem dX5_become_8 : decode cX5_become 8 = .ok (.invokevirtual 39, 3) := by decide +kernel
theorem dX5_become_11 : decode cX5_become 11 = .ok (.aload_n 0, 1) := by decide +kernel
theorem dX5_become_12 : decode cX5_become 12 = .ok (.iconst 0, 1) := by decide +kernel
theorem dX5_become_13 : decode cX5_become 13 = .ok (.putfield 25, 3) := by decide +kernel
theorem dX5_become_16 : decode cX5_become 16 = .ok (.return_, 1) := by decide +kernel
theorem dX5_law_0 : decode cX5_law 0 = .ok (.aload_n 0, 1) := by decide +kernel
theorem dX5_law_1 : decode cX5_law 1 = .ok (.getfield 25, 3) := by decide +kernel
theorem dX5_law_4 : decode cX5_law 4 = .ok (.ifCond .ne 53, 3) := by decide +kernel
theorem dX5_law_7 : decode cX5_law 7 = .ok (.aload_n 0, 1) := by decide +kernel
theorem dX5_law_8 : decode cX5_law 8 = .ok (.getfield 21, 3) := by decide +kernel
theorem dX5_law_11 : decode cX5_law 11 = .ok (.aload_n 0, 1) := by decide +kernel
theorem dX5_law_12 : decode cX5_law 12 = .ok (.getfield 12, 3) := by decide +kernel
theorem dX5_law_15 : decode cX5_law 15 = .ok (.invokevirtual 43, 3) := by decide +kernel
theorem dX5_law_18 : decode cX5_law 18 = .ok (.aload_n 0, 1) := by decide +kernel
theorem dX5_law_19 : decode cX5_law 19 = .ok (.aload_n 0, 1) := by decide +kernel
theorem dX5_law_20 : decode cX5_law 20 = .ok (.getfield 12, 3) := by decide +kernel
theorem dX5_law_23 : decode cX5_law 23 = .ok (.aload_n 0, 1) := by decide +kernel
theorem dX5_law_24 : decode cX5_law 24 = .ok (.getfield 21, 3) := by decide +kernel
theorem dX5_law_27 : decode cX5_law 27 = .ok (.invokestatic 46, 3) := by decide +kernel
theorem dX5_law_30 : decode cX5_law 30 = .ok (.putfield 29, 3) := by decide +kernel
theorem dX5_law_33 : decode cX5_law 33 = .ok (.aload_n 0, 1) := by decide +kernel
theorem dX5_law_34 : decode cX5_law 34 = .ok (.getfield 29, 3) := by decide +kernel
theorem dX5_law_37 : decode cX5_law 37 = .ok (.iconst (-1), 1) := by decide +kernel
theorem dX5_law_38 : decode cX5_law 38 = .ok (.if_icmp .ne 14, 3) := by decide +kernel
theorem dX5_law_41 : decode cX5_law 41 = .ok (.aload_n 0, 1) := by decide +kernel
theorem dX5_law_42 : decode cX5_law 42 = .ok (.getfield 21, 3) := by decide +kernel
theorem dX5_law_45 : decode cX5_law 45 = .ok (.aload_n 0, 1) := by decide +kernel
theorem dX5_law_46 : decode cX5_law 46 = .ok (.getfield 12, 3) := by decide +kernel
theorem dX5_law_49 : decode cX5_law 49 = .ok (.invokevirtual 52, 3) := by decide +kernel
theorem dX5_law_52 : decode cX5_law 52 = .ok (.aload_n 0, 1) := by decide +kernel
theorem dX5_law_53 : decode cX5_law 53 = .ok (.iconst 1, 1) := by decide +kernel
theorem dX5_law_54 : decode cX5_law 54 = .ok (.putfield 25, 3) := by decide +kernel
theorem dX5_law_57 : decode cX5_law 57 = .ok (.aload_n 0, 1) := by decide +kernel
theorem dX5_law_58 : decode cX5_law 58 = .ok (.getfield 29, 3) := by decide +kernel
theorem dX5_law_61 : decode cX5_law 61 = .ok (.ireturn, 1) := by decide +kernel
theorem dX5_load_0 : decode cX5_load 0 = .ok (.aload_n 0, 1) := by decide +kernel
theorem dX5_load_1 : decode cX5_load 1 = .ok (.aload_n 1, 1) := by decide +kernel
theorem dX5_load_2 : decode cX5_load 2 = .ok (.getfield 55, 3) := by decide +kernel
theorem dX5_load_5 : decode cX5_load 5 = .ok (.putfield 33, 3) := by decide +kernel
theorem dX5_load_8 : decode cX5_load 8 = .ok (.aload_n 0, 1) := by decide +kernel
theorem dX5_load_9 : decode cX5_load 9 = .ok (.aload_n 1, 1) := by decide +kernel
theorem dX5_load_10 : decode cX5_load 10 = .ok (.getfield 60, 3) := by decide +kernel
theorem dX5_load_13 : decode cX5_load 13 = .ok (.putfield 36, 3) := by decide +kernel
theorem dX5_load_16 : decode cX5_load 16 = .ok (.aload_n 1, 1) := by decide +kernel
theorem dX5_load_17 : decode cX5_load 17 = .ok (.getfield 55, 3) := by decide +kernel
theorem dX5_load_20 : decode cX5_load 20 = .ok (.ifCond .ne 6, 3) := by decide +kernel
theorem dX5_load_23 : decode cX5_load 23 = .ok (.bipush 45, 2) := by decide +kernel
theorem dX5_load_25 : decode cX5_load 25 = .ok (.ireturn, 1) := by decide +kernel
theorem dX5_load_26 : decode cX5_load 26 = .ok (.aload_n 1, 1) := by decide +kernel
theorem dX5_load_27 : decode cX5_load 27 = .ok (.getfield 60, 3) := by decide +kernel
theorem dX5_load_30 : decode cX5_load 30 = .ok (.iconst (-1), 1) := by decide +kernel
theorem dX5_load_31 : decode cX5_load 31 = .ok (.if_icmp .ne 8, 3) := by decide +kernel
theorem dX5_load_34 : decode cX5_load 34 = .ok (.bipush 45, 2) := by decide +kernel
theorem dX5_load_36 : decode cX5_load 36 = .ok (.goto 12, 3) := by decide +kernel
theorem dX5_load_39 : decode cX5_load 39 = .ok (.aload_n 0, 1) := by decide +kernel
theorem dX5_load_40 : decode cX5_load 40 = .ok (.aload_n 1, 1) := by decide +kernel
theorem dX5_load_41 : decode cX5_load 41 = .ok (.getfield 60, 3) := by decide +kernel
theorem dX5_load_44 : decode cX5_load 44 = .ok (.iconst 0, 1) := by decide +kernel
theorem dX5_load_45 : decode cX5_load 45 = .ok (.invokevirtual 63, 3) := by decide +kernel
theorem dX5_load_48 : decode cX5_load 48 = .ok (.istore_n 2, 1) := by decide +kernel
theorem dX5_load_49 : decode cX5_load 49 = .ok (.iconst 0, 1) := by decide +kernel
theorem dX5_load_50 : decode cX5_load 50 = .ok (.istore_n 3, 1) := by decide +kernel
theorem dX5_load_51 : decode cX5_load 51 = .ok (.iload_n 3, 1) := by decide +kernel
theorem dX5_load_52 : decode cX5_load 52 = .ok (.iconst 5, 1) := by decide +kernel
theorem dX5_load_53 : decode cX5_load 53 = .ok (.if_icmp .ge 38, 3) := by decide +kernel
theorem dX5_load_56 : decode cX5_load 56 = .ok (.iload_n 2, 1) := by decide +kernel
theorem dX5_load_57 : decode cX5_load 57 = .ok (.bipush 45, 2) := by decide +kernel
theorem dX5_load_59 : decode cX5_load 59 = .ok (.if_icmp .ne 32, 3) := by decide +kernel
theorem dX5_load_62 : decode cX5_load 62 = .ok (.aload_n 1, 1) := by decide +kernel
theorem dX5_load_63 : decode cX5_load 63 = .ok (.getfield 67, 3) := by decide +kernel
theorem dX5_load_66 : decode cX5_load 66 = .ok (.iload_n 3, 1) := by decide +kernel
theorem dX5_load_67 : decode cX5_load 67 = .ok (.invokestatic 70, 3) := by decide +kernel
theorem dX5_load_70 : decode cX5_load 70 = .ok (.ifCond .eq 12, 3) := by decide +kernel
theorem dX5_load_73 : decode cX5_load 73 = .ok (.aload_n 0, 1) := by decide +kernel
theorem dX5_load_74 : decode cX5_load 74 = .ok (.iload_n 3, 1) := by decide +kernel
theorem dX5_load_75 : decode cX5_load 75 = .ok (.iconst 1, 1) := by decide +kernel
theorem dX5_load_76 : decode cX5_load 76 = .ok (.invokevirtual 63, 3) := by decide +kernel
theorem dX5_load_79 : decode cX5_load 79 = .ok (.goto 5, 3) := by decide +kernel
theorem dX5_load_82 : decode cX5_load 82 = .ok (.bipush 45, 2) := by decide +kernel
theorem dX5_load_84 : decode cX5_load 84 = .ok (.istore_n 2, 1) := by decide +kernel
theorem dX5_load_85 : decode cX5_load 85 = .ok (.iinc 3 1, 3) := by decide +kernel
theorem dX5_load_88 : decode cX5_load 88 = .ok (.goto (-37), 3) := by decide +kernel
theorem dX5_load_91 : decode cX5_load 91 = .ok (.iload_n 2, 1) := by decide +kernel
theorem dX5_load_92 : decode cX5_load 92 = .ok (.bipush 45, 2) := by decide +kernel
theorem dX5_load_94 : decode cX5_load 94 = .ok (.if_icmp .ne 37, 3) := by decide +kernel
theorem dX5_load_97 : decode cX5_load 97 = .ok (.aload_n 1, 1) := by decide +kernel
theorem dX5_load_98 : decode cX5_load 98 = .ok (.getfield 74, 3) := by decide +kernel
theorem dX5_load_101 : decode cX5_load 101 = .ok (.iconst (-1), 1) := by decide +kernel
theorem dX5_load_102 : decode cX5_load 102 = .ok (.if_icmp .eq 29, 3) := by decide +kernel
theorem dX5_load_105 : decode cX5_load 105 = .ok (.aload_n 1, 1) := by decide +kernel
theorem dX5_load_106 : decode cX5_load 106 = .ok (.getfield 60, 3) := by decide +kernel
theorem dX5_load_109 : decode cX5_load 109 = .ok (.iconst (-1), 1) := by decide +kernel
theorem dX5_load_110 : decode cX5_load 110 = .ok (.if_icmp .eq 21, 3) := by decide +kernel
theorem dX5_load_113 : decode cX5_load 113 = .ok (.aload_n 0, 1) := by decide +kernel
theorem dX5_load_114 : decode cX5_load 114 = .ok (.aload_n 1, 1) := by decide +kernel
theorem dX5_load_115 : decode cX5_load 115 = .ok (.getfield 60, 3) := by decide +kernel
theorem dX5_load_118 : decode cX5_load 118 = .ok (.aload_n 1, 1) := by decide +kernel
theorem dX5_load_119 : decode cX5_load 119 = .ok (.getfield 74, 3) := by decide +kernel
theorem dX5_load_122 : decode cX5_load 122 = .ok (.invokevirtual 77, 3) := by decide +kernel
theorem dX5_load_125 : decode cX5_load 125 = .ok (.ifCond .eq 6, 3) := by decide +kernel
theorem dX5_load_128 : decode cX5_load 128 = .ok (.bipush 86, 2) := by decide +kernel
theorem dX5_load_130 : decode cX5_load 130 = .ok (.istore_n 2, 1) := by decide +kernel
theorem dX5_load_131 : decode cX5_load 131 = .ok (.iload_n 2, 1) := by decide +kernel
theorem dX5_load_132 : decode cX5_load 132 = .ok (.bipush 45, 2) := by decide +kernel
theorem dX5_load_134 : decode cX5_load 134 = .ok (.if_icmp .ne 23, 3) := by decide +kernel
theorem dX5_load_137 : decode cX5_load 137 = .ok (.aload_n 0, 1) := by decide +kernel
theorem dX5_load_138 : decode cX5_load 138 = .ok (.getfield 21, 3) := by decide +kernel
theorem dX5_load_141 : decode cX5_load 141 = .ok (.aload_n 1, 1) := by decide +kernel
theorem dX5_load_142 : decode cX5_load 142 = .ok (.invokevirtual 80, 3) := by decide +kernel
theorem dX5_load_145 : decode cX5_load 145 = .ok (.aload_n 0, 1) := by decide +kernel
theorem dX5_load_146 : decode cX5_load 146 = .ok (.getfield 21, 3) := by decide +kernel
theorem dX5_load_149 : decode cX5_load 149 = .ok (.aload_n 0, 1) := by decide +kernel
theorem dX5_load_150 : decode cX5_load 150 = .ok (.getfield 12, 3) := by decide +kernel
theorem dX5_load_153 : decode cX5_load 153 = .ok (.iconst 5, 1) := by decide +kernel
theorem dX5_load_154 : decode cX5_load 154 = .ok (.invokevirtual 84, 3) := by decide +kernel
theorem dX5_load_157 : decode cX5_load 157 = .ok (.iload_n 2, 1) := by decide +kernel
theorem dX5_load_158 : decode cX5_load 158 = .ok (.ireturn, 1) := by decide +kernel
theorem dX5_mayBeAbove_0 : decode cX5_mayBeAbove 0 = .ok (.iload_n 1, 1) := by decide +kernel
theorem dX5_mayBeAbove_1 : decode cX5_mayBeAbove 1 = .ok (.iconst (-1), 1) := by decide +kernel
theorem dX5_mayBeAbove_2 : decode cX5_mayBeAbove 2 = .ok (.if_icmp .eq 17, 3) := by decide +kernel
theorem dX5_mayBeAbove_5 : decode cX5_mayBeAbove 5 = .ok (.aload_n 0, 1) := by decide +kernel
theorem dX5_mayBeAbove_6 : decode cX5_mayBeAbove 6 = .ok (.getfield 21, 3) := by decide +kernel
theorem dX5_mayBeAbove_9 : decode cX5_mayBeAbove 9 = .ok (.getfield 88, 3) := by decide +kernel
theorem dX5_mayBeAbove_12 : decode cX5_mayBeAbove 12 = .ok (.iload_n 1, 1) := by decide +kernel
theorem dX5_mayBeAbove_13 : decode cX5_mayBeAbove 13 = .ok (.invokestatic 70, 3) := by decide +kernel
theorem dX5_mayBeAbove_16 : decode cX5_mayBeAbove 16 = .ok (.ifCond .eq 21, 3) := by decide +kernel
theorem dX5_mayBeAbove_19 : decode cX5_mayBeAbove 19 = .ok (.iload_n 2, 1) := by decide +kernel
theorem dX5_mayBeAbove_20 : decode cX5_mayBeAbove 20 = .ok (.aload_n 0, 1) := by decide +kernel
theorem dX5_mayBeAbove_21 : decode cX5_mayBeAbove 21 = .ok (.getfield 21, 3) := by decide +kernel
theorem dX5_mayBeAbove_24 : decode cX5_mayBeAbove 24 = .ok (.getfield 91, 3) := by decide +kernel
theorem dX5_mayBeAbove_27 : decode cX5_mayBeAbove 27 = .ok (.iconst (-1), 1) := by decide +kernel
theorem dX5_mayBeAbove_28 : decode cX5_mayBeAbove 28 = .ok (.ixor, 1) := by decide +kernel
theorem dX5_mayBeAbove_29 : decode cX5_mayBeAbove 29 = .ok (.iand, 1) := by decide +kernel
theorem dX5_mayBeAbove_30 : decode cX5_mayBeAbove 30 = .ok (.ifCond .ne 7, 3) := by decide +kernel
theorem dX5_mayBeAbove_33 : decode cX5_mayBeAbove 33 = .ok (.iconst 1, 1) := by decide +kernel
theorem dX5_mayBeAbove_34 : decode cX5_mayBeAbove 34 = .ok (.goto 4, 3) := by decide +kernel
theorem dX5_mayBeAbove_37 : decode cX5_mayBeAbove 37 = .ok (.iconst 0, 1) := by decide +kernel
theorem dX5_mayBeAbove_38 : decode cX5_mayBeAbove 38 = .ok (.ireturn, 1) := by decide +kernel
theorem dX5_aboveFault_0 : decode cX5_aboveFault 0 = .ok (.aload_n 0, 1) := by decide +kernel
theorem dX5_aboveFault_1 : decode cX5_aboveFault 1 = .ok (.getfield 12, 3) := by decide +kernel
theorem dX5_aboveFault_4 : decode cX5_aboveFault 4 = .ok (.getfield 94, 3) := by decide +kernel
theorem dX5_aboveFault_7 : decode cX5_aboveFault 7 = .ok (.iload_n 1, 1) := by decide +kernel
theorem dX5_aboveFault_8 : decode cX5_aboveFault 8 = .ok (.caload, 1) := by decide +kernel
theorem dX5_aboveFault_9 : decode cX5_aboveFault 9 = .ok (.bipush 45, 2) := by decide +kernel
theorem dX5_aboveFault_11 : decode cX5_aboveFault 11 = .ok (.if_icmp .ne 6, 3) := by decide +kernel
theorem dX5_aboveFault_14 : decode cX5_aboveFault 14 = .ok (.bipush 67, 2) := by decide +kernel
theorem dX5_aboveFault_16 : decode cX5_aboveFault 16 = .ok (.ireturn, 1) := by decide +kernel
theorem dX5_aboveFault_17 : decode cX5_aboveFault 17 = .ok (.iload_n 2, 1) := by decide +kernel
theorem dX5_aboveFault_18 : decode cX5_aboveFault 18 = .ok (.ifCond .eq 25, 3) := by decide +kernel
theorem dX5_aboveFault_21 : decode cX5_aboveFault 21 = .ok (.aload_n 0, 1) := by decide +kernel
theorem dX5_aboveFault_22 : decode cX5_aboveFault 22 = .ok (.getfield 12, 3) := by decide +kernel
theorem dX5_aboveFault_25 : decode cX5_aboveFault 25 = .ok (.getfield 94, 3) := by decide +kernel
theorem dX5_aboveFault_28 : decode cX5_aboveFault 28 = .ok (.iload_n 1, 1) := by decide +kernel
theorem dX5_aboveFault_29 : decode cX5_aboveFault 29 = .ok (.caload, 1) := by decide +kernel
theorem dX5_aboveFault_30 : decode cX5_aboveFault 30 = .ok (.bipush 99, 2) := by decide +kernel
theorem dX5_aboveFault_32 : decode cX5_aboveFault 32 = .ok (.if_icmp .ne 7, 3) := by decide +kernel
theorem dX5_aboveFault_35 : decode cX5_aboveFault 35 = .ok (.iconst 1, 1) := by decide +kernel
theorem dX5_aboveFault_36 : decode cX5_aboveFault 36 = .ok (.goto 38, 3) := by decide +kernel
theorem dX5_aboveFault_39 : decode cX5_aboveFault 39 = .ok (.iconst 0, 1) := by decide +kernel
theorem dX5_aboveFault_40 : decode cX5_aboveFault 40 = .ok (.goto 34, 3) := by decide +kernel
theorem dX5_aboveFault_43 : decode cX5_aboveFault 43 = .ok (.aload_n 0, 1) := by decide +kernel
theorem dX5_aboveFault_44 : decode cX5_aboveFault 44 = .ok (.getfield 12, 3) := by decide +kernel
theorem dX5_aboveFault_47 : decode cX5_aboveFault 47 = .ok (.getfield 94, 3) := by decide +kernel
theorem dX5_aboveFault_50 : decode cX5_aboveFault 50 = .ok (.iload_n 1, 1) := by decide +kernel
theorem dX5_aboveFault_51 : decode cX5_aboveFault 51 = .ok (.caload, 1) := by decide +kernel
theorem dX5_aboveFault_52 : decode cX5_aboveFault 52 = .ok (.bipush 105, 2) := by decide +kernel
theorem dX5_aboveFault_54 : decode cX5_aboveFault 54 = .ok (.if_icmp .eq 15, 3) := by decide +kernel
theorem dX5_aboveFault_57 : decode cX5_aboveFault 57 = .ok (.aload_n 0, 1) := by decide +kernel
theorem dX5_aboveFault_58 : decode cX5_aboveFault 58 = .ok (.getfield 12, 3) := by decide +kernel
theorem dX5_aboveFault_61 : decode cX5_aboveFault 61 = .ok (.getfield 98, 3) := by decide +kernel
theorem dX5_aboveFault_64 : decode cX5_aboveFault 64 = .ok (.iload_n 1, 1) := by decide +kernel
theorem dX5_aboveFault_65 : decode cX5_aboveFault 65 = .ok (.baload, 1) := by decide +kernel
theorem dX5_aboveFault_66 : decode cX5_aboveFault 66 = .ok (.ifCond .eq 7, 3) := by decide +kernel
theorem dX5_aboveFault_69 : decode cX5_aboveFault 69 = .ok (.iconst 1, 1) := by decide +kernel
theorem dX5_aboveFault_70 : decode cX5_aboveFault 70 = .ok (.goto 4, 3) := by decide +kernel
theorem dX5_aboveFault_73 : decode cX5_aboveFault 73 = .ok (.iconst 0, 1) := by decide +kernel
theorem dX5_aboveFault_74 : decode cX5_aboveFault 74 = .ok (.istore_n 3, 1) := by decide +kernel
theorem dX5_aboveFault_75 : decode cX5_aboveFault 75 = .ok (.iload_n 3, 1) := by decide +kernel
theorem dX5_aboveFault_76 : decode cX5_aboveFault 76 = .ok (.ifCond .eq 6, 3) := by decide +kernel
theorem dX5_aboveFault_79 : decode cX5_aboveFault 79 = .ok (.bipush 73, 2) := by decide +kernel
theorem dX5_aboveFault_81 : decode cX5_aboveFault 81 = .ok (.ireturn, 1) := by decide +kernel
theorem dX5_aboveFault_82 : decode cX5_aboveFault 82 = .ok (.aload_n 0, 1) := by decide +kernel
theorem dX5_aboveFault_83 : decode cX5_aboveFault 83 = .ok (.getfield 12, 3) := by decide +kernel
theorem dX5_aboveFault_86 : decode cX5_aboveFault 86 = .ok (.getfield 102, 3) := by decide +kernel
theorem dX5_aboveFault_89 : decode cX5_aboveFault 89 = .ok (.iload_n 1, 1) := by decide +kernel
theorem dX5_aboveFault_90 : decode cX5_aboveFault 90 = .ok (.baload, 1) := by decide +kernel
theorem dX5_aboveFault_91 : decode cX5_aboveFault 91 = .ok (.ifCond .eq 8, 3) := by decide +kernel
theorem dX5_aboveFault_94 : decode cX5_aboveFault 94 = .ok (.bipush 45, 2) := by decide +kernel
theorem dX5_aboveFault_96 : decode cX5_aboveFault 96 = .ok (.goto 5, 3) := by decide +kernel
theorem dX5_aboveFault_99 : decode cX5_aboveFault 99 = .ok (.bipush 76, 2) := by decide +kernel
theorem dX5_aboveFault_101 : decode cX5_aboveFault 101 = .ok (.ireturn, 1) := by decide +kernel
theorem dX5_isBarred_0 : decode cX5_isBarred 0 = .ok (.iload_n 1, 1) := by decide +kernel
theorem dX5_isBarred_1 : decode cX5_isBarred 1 = .ok (.istore_n 3, 1) := by decide +kernel
theorem dX5_isBarred_2 : decode cX5_isBarred 2 = .ok (.iconst 0, 1) := by decide +kernel
theorem dX5_isBarred_3 : decode cX5_isBarred 3 = .ok (.istore 4, 2) := by decide +kernel
theorem dX5_isBarred_5 : decode cX5_isBarred 5 = .ok (.iload 4, 2) := by decide +kernel
theorem dX5_isBarred_7 : decode cX5_isBarred 7 = .ok (.iconst 5, 1) := by decide +kernel
theorem dX5_isBarred_8 : decode cX5_isBarred 8 = .ok (.if_icmp .ge 92, 3) := by decide +kernel
theorem dX5_isBarred_11 : decode cX5_isBarred 11 = .ok (.iload_n 3, 1) := by decide +kernel
theorem dX5_isBarred_12 : decode cX5_isBarred 12 = .ok (.iconst (-1), 1) := by decide +kernel
theorem dX5_isBarred_13 : decode cX5_isBarred 13 = .ok (.if_icmp .eq 87, 3) := by decide +kernel
theorem dX5_isBarred_16 : decode cX5_isBarred 16 = .ok (.aload_n 0, 1) := by decide +kernel
theorem dX5_isBarred_17 : decode cX5_isBarred 17 = .ok (.getfield 12, 3) := by decide +kernel
theorem dX5_isBarred_20 : decode cX5_isBarred 20 = .ok (.getfield 105, 3) := by decide +kernel
theorem dX5_isBarred_23 : decode cX5_isBarred 23 = .ok (.getfield 109, 3) := by decide +kernel
theorem dX5_isBarred_26 : decode cX5_isBarred 26 = .ok (.iload_n 3, 1) := by decide +kernel
theorem dX5_isBarred_27 : decode cX5_isBarred 27 = .ok (.bipush 6, 2) := by decide +kernel
theorem dX5_isBarred_29 : decode cX5_isBarred 29 = .ok (.imul, 1) := by decide +kernel
theorem dX5_isBarred_30 : decode cX5_isBarred 30 = .ok (.iload_n 2, 1) := by decide +kernel
theorem dX5_isBarred_31 : decode cX5_isBarred 31 = .ok (.iadd, 1) := by decide +kernel
theorem dX5_isBarred_32 : decode cX5_isBarred 32 = .ok (.caload, 1) := by decide +kernel
theorem dX5_isBarred_33 : decode cX5_isBarred 33 = .ok (.istore 5, 2) := by decide +kernel
theorem dX5_isBarred_35 : decode cX5_isBarred 35 = .ok (.aload_n 0, 1) := by decide +kernel
theorem dX5_isBarred_36 : decode cX5_isBarred 36 = .ok (.getfield 12, 3) := by decide +kernel
theorem dX5_isBarred_39 : decode cX5_isBarred 39 = .ok (.getfield 105, 3) := by decide +kernel
theorem dX5_isBarred_42 : decode cX5_isBarred 42 = .ok (.getfield 114, 3) := by decide +kernel
theorem dX5_isBarred_45 : decode cX5_isBarred 45 = .ok (.iload_n 3, 1) := by decide +kernel
theorem dX5_isBarred_46 : decode cX5_isBarred 46 = .ok (.bipush 6, 2) := by decide +kernel
theorem dX5_isBarred_48 : decode cX5_isBarred 48 = .ok (.imul, 1) := by decide +kernel
theorem dX5_isBarred_49 : decode cX5_isBarred 49 = .ok (.iload_n 2, 1) := by decide +kernel
theorem dX5_isBarred_50 : decode cX5_isBarred 50 = .ok (.iadd, 1) := by decide +kernel
theorem dX5_isBarred_51 : decode cX5_isBarred 51 = .ok (.caload, 1) := by decide +kernel
theorem dX5_isBarred_52 : decode cX5_isBarred 52 = .ok (.istore 6, 2) := by decide +kernel
theorem dX5_isBarred_54 : decode cX5_isBarred 54 = .ok (.iload 5, 2) := by decide +kernel
theorem dX5_isBarred_56 : decode cX5_isBarred 56 = .ok (.bipush 112, 2) := by decide +kernel
theorem dX5_isBarred_58 : decode cX5_isBarred 58 = .ok (.if_icmp .eq 10, 3) := by decide +kernel
theorem dX5_isBarred_61 : decode cX5_isBarred 61 = .ok (.iload 5, 2) := by decide +kernel
theorem dX5_isBarred_63 : decode cX5_isBarred 63 = .ok (.bipush 111, 2) := by decide +kernel
theorem dX5_isBarred_65 : decode cX5_isBarred 65 = .ok (.if_icmp .ne 19, 3) := by decide +kernel
theorem dX5_isBarred_68 : decode cX5_isBarred 68 = .ok (.iload 6, 2) := by decide +kernel
theorem dX5_isBarred_70 : decode cX5_isBarred 70 = .ok (.bipush 102, 2) := by decide +kernel
theorem dX5_isBarred_72 : decode cX5_isBarred 72 = .ok (.if_icmp .eq 10, 3) := by decide +kernel
theorem dX5_isBarred_75 : decode cX5_isBarred 75 = .ok (.iload 6, 2) := by decide +kernel
theorem dX5_isBarred_77 : decode cX5_isBarred 77 = .ok (.bipush 115, 2) := by decide +kernel
theorem dX5_isBarred_79 : decode cX5_isBarred 79 = .ok (.if_icmp .ne 5, 3) := by decide +kernel
theorem dX5_isBarred_82 : decode cX5_isBarred 82 = .ok (.iconst 1, 1) := by decide +kernel
theorem dX5_isBarred_83 : decode cX5_isBarred 83 = .ok (.ireturn, 1) := by decide +kernel
theorem dX5_isBarred_84 : decode cX5_isBarred 84 = .ok (.aload_n 0, 1) := by decide +kernel
theorem dX5_isBarred_85 : decode cX5_isBarred 85 = .ok (.getfield 12, 3) := by decide +kernel
theorem dX5_isBarred_88 : decode cX5_isBarred 88 = .ok (.getfield 115, 3) := by decide +kernel
theorem dX5_isBarred_91 : decode cX5_isBarred 91 = .ok (.iload_n 3, 1) := by decide +kernel
theorem dX5_isBarred_92 : decode cX5_isBarred 92 = .ok (.iaload, 1) := by decide +kernel
theorem dX5_isBarred_93 : decode cX5_isBarred 93 = .ok (.istore_n 3, 1) := by decide +kernel
theorem dX5_isBarred_94 : decode cX5_isBarred 94 = .ok (.iinc 4 1, 3) := by decide +kernel
theorem dX5_isBarred_97 : decode cX5_isBarred 97 = .ok (.goto (-92), 3) := by decide +kernel
theorem dX5_isBarred_100 : decode cX5_isBarred 100 = .ok (.iconst 0, 1) := by decide +kernel
theorem dX5_isBarred_101 : decode cX5_isBarred 101 = .ok (.ireturn, 1) := by decide +kernel
theorem dX5_perform_0 : decode cX5_perform 0 = .ok (.iload_n 1, 1) := by decide +kernel
theorem dX5_perform_1 : decode cX5_perform 1 = .ok (.iconst 4, 1) := by decide +kernel
theorem dX5_perform_2 : decode cX5_perform 2 = .ok (.if_icmp .ne 7, 3) := by decide +kernel
theorem dX5_perform_5 : decode cX5_perform 5 = .ok (.iconst 5, 1) := by decide +kernel
theorem dX5_perform_6 : decode cX5_perform 6 = .ok (.goto 5, 3) := by decide +kernel
theorem dX5_perform_9 : decode cX5_perform 9 = .ok (.iload 4, 2) := by decide +kernel
theorem dX5_perform_11 : decode cX5_perform 11 = .ok (.istore 5, 2) := by decide +kernel
theorem dX5_perform_13 : decode cX5_perform 13 = .ok (.iload_n 1, 1) := by decide +kernel
theorem dX5_perform_14 : decode cX5_perform 14 = .ok (.iconst 4, 1) := by decide +kernel
theorem dX5_perform_15 : decode cX5_perform 15 = .ok (.if_icmp .ne 10, 3) := by decide +kernel
theorem dX5_perform_18 : decode cX5_perform 18 = .ok (.aload_n 0, 1) := by decide +kernel
theorem dX5_perform_19 : decode cX5_perform 19 = .ok (.getfield 36, 3) := by decide +kernel
theorem dX5_perform_22 : decode cX5_perform 22 = .ok (.goto 4, 3) := by decide +kernel
theorem dX5_perform_25 : decode cX5_perform 25 = .ok (.iload_n 2, 1) := by decide +kernel
theorem dX5_perform_26 : decode cX5_perform 26 = .ok (.istore 6, 2) := by decide +kernel
theorem dX5_perform_28 : decode cX5_perform 28 = .ok (.iload 5, 2) := by decide +kernel
theorem dX5_perform_30 : decode cX5_perform 30 = .ok (.iconst (-1), 1) := by decide +kernel
theorem dX5_perform_31 : decode cX5_perform 31 = .ok (.if_icmp .ne 8, 3) := by decide +kernel
theorem dX5_perform_34 : decode cX5_perform 34 = .ok (.bipush 45, 2) := by decide +kernel
theorem dX5_perform_36 : decode cX5_perform 36 = .ok (.goto 9, 3) := by decide +kernel
theorem dX5_perform_39 : decode cX5_perform 39 = .ok (.aload_n 0, 1) := by decide +kernel
theorem dX5_perform_40 : decode cX5_perform 40 = .ok (.iload 5, 2) := by decide +kernel
theorem dX5_perform_42 : decode cX5_perform 42 = .ok (.invokevirtual 118, 3) := by decide +kernel
theorem dX5_perform_45 : decode cX5_perform 45 = .ok (.istore 7, 2) := by decide +kernel
theorem dX5_perform_47 : decode cX5_perform 47 = .ok (.iload 7, 2) := by decide +kernel
theorem dX5_perform_49 : decode cX5_perform 49 = .ok (.bipush 45, 2) := by decide +kernel
theorem dX5_perform_51 : decode cX5_perform 51 = .ok (.if_icmp .eq 7, 3) := by decide +kernel
theorem dX5_perform_54 : decode cX5_perform 54 = .ok (.iload 7, 2) := by decide +kernel
theorem dX5_perform_56 : decode cX5_perform 56 = .ok (.ineg, 1) := by decide +kernel
theorem dX5_perform_57 : decode cX5_perform 57 = .ok (.ireturn, 1) := by decide +kernel
theorem dX5_perform_58 : decode cX5_perform 58 = .ok (.iload_n 1, 1) := by decide +kernel
theorem dX5_perform_59 : decode cX5_perform 59 = .ok (.ifCond .ne 5, 3) := by decide +kernel
theorem dX5_perform_62 : decode cX5_perform 62 = .ok (.iconst 0, 1) := by decide +kernel
theorem dX5_perform_63 : decode cX5_perform 63 = .ok (.ireturn, 1) := by decide +kernel
theorem dX5_perform_64 : decode cX5_perform 64 = .ok (.aload_n 0, 1) := by decide +kernel
theorem dX5_perform_65 : decode cX5_perform 65 = .ok (.iload_n 1, 1) := by decide +kernel
theorem dX5_perform_66 : decode cX5_perform 66 = .ok (.iload 6, 2) := by decide +kernel
theorem dX5_perform_68 : decode cX5_perform 68 = .ok (.invokevirtual 122, 3) := by decide +kernel
theorem dX5_perform_71 : decode cX5_perform 71 = .ok (.istore 7, 2) := by decide +kernel
theorem dX5_perform_73 : decode cX5_perform 73 = .ok (.iload 7, 2) := by decide +kernel
theorem dX5_perform_75 : decode cX5_perform 75 = .ok (.bipush 45, 2) := by decide +kernel
theorem dX5_perform_77 : decode cX5_perform 77 = .ok (.if_icmp .eq 7, 3) := by decide +kernel
theorem dX5_perform_80 : decode cX5_perform 80 = .ok (.iload 7, 2) := by decide +kernel
theorem dX5_perform_82 : decode cX5_perform 82 = .ok (.ineg, 1) := by decide +kernel
theorem dX5_perform_83 : decode cX5_perform 83 = .ok (.ireturn, 1) := by decide +kernel
theorem dX5_perform_84 : decode cX5_perform 84 = .ok (.iload_n 1, 1) := by decide +kernel
theorem dX5_perform_85 : decode cX5_perform 85 = .ok (.invokestatic 126, 3) := by decide +kernel
theorem dX5_perform_88 : decode cX5_perform 88 = .ok (.istore 8, 2) := by decide +kernel
theorem dX5_perform_90 : decode cX5_perform 90 = .ok (.iload 8, 2) := by decide +kernel
theorem dX5_perform_92 : decode cX5_perform 92 = .ok (.ifCond .eq 21, 3) := by decide +kernel
theorem dX5_perform_95 : decode cX5_perform 95 = .ok (.aload_n 0, 1) := by decide +kernel
theorem dX5_perform_96 : decode cX5_perform 96 = .ok (.getfield 21, 3) := by decide +kernel
theorem dX5_perform_99 : decode cX5_perform 99 = .ok (.getfield 130, 3) := by decide +kernel
theorem dX5_perform_102 : decode cX5_perform 102 = .ok (.iload 6, 2) := by decide +kernel
theorem dX5_perform_104 : decode cX5_perform 104 = .ok (.bipush 6, 2) := by decide +kernel
theorem dX5_perform_106 : decode cX5_perform 106 = .ok (.imul, 1) := by decide +kernel
theorem dX5_perform_107 : decode cX5_perform 107 = .ok (.iload_n 3, 1) := by decide +kernel
theorem dX5_perform_108 : decode cX5_perform 108 = .ok (.iadd, 1) := by decide +kernel
theorem dX5_perform_109 : decode cX5_perform 109 = .ok (.iaload, 1) := by decide +kernel
theorem dX5_perform_110 : decode cX5_perform 110 = .ok (.goto 18, 3) := by decide +kernel
theorem dX5_perform_113 : decode cX5_perform 113 = .ok (.aload_n 0, 1) := by decide +kernel
theorem dX5_perform_114 : decode cX5_perform 114 = .ok (.getfield 21, 3) := by decide +kernel
theorem dX5_perform_117 : decode cX5_perform 117 = .ok (.getfield 133, 3) := by decide +kernel
theorem dX5_perform_120 : decode cX5_perform 120 = .ok (.iload 6, 2) := by decide +kernel
theorem dX5_perform_122 : decode cX5_perform 122 = .ok (.bipush 6, 2) := by decide +kernel
theorem dX5_perform_124 : decode cX5_perform 124 = .ok (.imul, 1) := by decide +kernel
theorem dX5_perform_125 : decode cX5_perform 125 = .ok (.iload_n 3, 1) := by decide +kernel
theorem dX5_perform_126 : decode cX5_perform 126 = .ok (.iadd, 1) := by decide +kernel
theorem dX5_perform_127 : decode cX5_perform 127 = .ok (.iaload, 1) := by decide +kernel
theorem dX5_perform_128 : decode cX5_perform 128 = .ok (.istore 9, 2) := by decide +kernel
theorem dX5_perform_130 : decode cX5_perform 130 = .ok (.iload 9, 2) := by decide +kernel
theorem dX5_perform_132 : decode cX5_perform 132 = .ok (.iconst (-1), 1) := by decide +kernel
theorem dX5_perform_133 : decode cX5_perform 133 = .ok (.if_icmp .eq 24, 3) := by decide +kernel
theorem dX5_perform_136 : decode cX5_perform 136 = .ok (.iload_n 1, 1) := by decide +kernel
theorem dX5_perform_137 : decode cX5_perform 137 = .ok (.iconst 1, 1) := by decide +kernel
theorem dX5_perform_138 : decode cX5_perform 138 = .ok (.if_icmp .ne 32, 3) := by decide +kernel
theorem dX5_perform_141 : decode cX5_perform 141 = .ok (.iload 9, 2) := by decide +kernel
theorem dX5_perform_143 : decode cX5_perform 143 = .ok (.iload 6, 2) := by decide +kernel
theorem dX5_perform_145 : decode cX5_perform 145 = .ok (.if_icmp .eq 25, 3) := by decide +kernel
theorem dX5_perform_148 : decode cX5_perform 148 = .ok (.aload_n 0, 1) := by decide +kernel
theorem dX5_perform_149 : decode cX5_perform 149 = .ok (.iload 9, 2) := by decide +kernel
theorem dX5_perform_151 : decode cX5_perform 151 = .ok (.invokevirtual 136, 3) := by decide +kernel
theorem dX5_perform_154 : decode cX5_perform 154 = .ok (.ifCond .ne 16, 3) := by decide +kernel
theorem dX5_perform_157 : decode cX5_perform 157 = .ok (.iload 8, 2) := by decide +kernel
theorem dX5_perform_159 : decode cX5_perform 159 = .ok (.ifCond .eq 8, 3) := by decide +kernel
theorem dX5_perform_162 : decode cX5_perform 162 = .ok (.bipush (-77), 2) := by decide +kernel
theorem dX5_perform_164 : decode cX5_perform 164 = .ok (.goto 5, 3) := by decide +kernel
theorem dX5_perform_167 : decode cX5_perform 167 = .ok (.bipush (-70), 2) := by decide +kernel
theorem dX5_perform_169 : decode cX5_perform 169 = .ok (.ireturn, 1) := by decide +kernel
theorem dX5_perform_170 : decode cX5_perform 170 = .ok (.iload 8, 2) := by decide +kernel
theorem dX5_perform_172 : decode cX5_perform 172 = .ok (.ifCond .eq 13, 3) := by decide +kernel
theorem dX5_perform_175 : decode cX5_perform 175 = .ok (.aload_n 0, 1) := by decide +kernel
theorem dX5_perform_176 : decode cX5_perform 176 = .ok (.getfield 12, 3) := by decide +kernel
theorem dX5_perform_179 : decode cX5_perform 179 = .ok (.getfield 105, 3) := by decide +kernel
theorem dX5_perform_182 : decode cX5_perform 182 = .ok (.goto 10, 3) := by decide +kernel
theorem dX5_perform_185 : decode cX5_perform 185 = .ok (.aload_n 0, 1) := by decide +kernel
theorem dX5_perform_186 : decode cX5_perform 186 = .ok (.getfield 12, 3) := by decide +kernel
theorem dX5_perform_189 : decode cX5_perform 189 = .ok (.getfield 139, 3) := by decide +kernel
theorem dX5_perform_192 : decode cX5_perform 192 = .ok (.astore 10, 2) := by decide +kernel
theorem dX5_perform_194 : decode cX5_perform 194 = .ok (.iload 9, 2) := by decide +kernel
theorem dX5_perform_196 : decode cX5_perform 196 = .ok (.iconst 5, 1) := by decide +kernel
theorem dX5_perform_197 : decode cX5_perform 197 = .ok (.if_icmp .ne 11, 3) := by decide +kernel
theorem dX5_perform_200 : decode cX5_perform 200 = .ok (.aload_n 0, 1) := by decide +kernel
theorem dX5_perform_201 : decode cX5_perform 201 = .ok (.iload_n 1, 1) := by decide +kernel
theorem dX5_perform_202 : decode cX5_perform 202 = .ok (.invokevirtual 142, 3) := by decide +kernel
theorem dX5_perform_205 : decode cX5_perform 205 = .ok (.goto 15, 3) := by decide +kernel
theorem dX5_perform_208 : decode cX5_perform 208 = .ok (.aload_n 0, 1) := by decide +kernel
theorem dX5_perform_209 : decode cX5_perform 209 = .ok (.iload_n 1, 1) := by decide +kernel
theorem dX5_perform_210 : decode cX5_perform 210 = .ok (.aload 10, 2) := by decide +kernel
theorem dX5_perform_212 : decode cX5_perform 212 = .ok (.iload 9, 2) := by decide +kernel
theorem dX5_perform_214 : decode cX5_perform 214 = .ok (.iload_n 3, 1) := by decide +kernel
theorem dX5_perform_215 : decode cX5_perform 215 = .ok (.iload 5, 2) := by decide +kernel
theorem dX5_perform_217 : decode cX5_perform 217 = .ok (.invokevirtual 145, 3) := by decide +kernel
theorem dX5_perform_220 : decode cX5_perform 220 = .ok (.istore 7, 2) := by decide +kernel
theorem dX5_perform_222 : decode cX5_perform 222 = .ok (.iload 7, 2) := by decide +kernel
theorem dX5_perform_224 : decode cX5_perform 224 = .ok (.bipush 45, 2) := by decide +kernel
theorem dX5_perform_226 : decode cX5_perform 226 = .ok (.if_icmp .eq 7, 3) := by decide +kernel
theorem dX5_perform_229 : decode cX5_perform 229 = .ok (.iload 7, 2) := by decide +kernel
theorem dX5_perform_231 : decode cX5_perform 231 = .ok (.ineg, 1) := by decide +kernel
theorem dX5_perform_232 : decode cX5_perform 232 = .ok (.ireturn, 1) := by decide +kernel
theorem dX5_perform_233 : decode cX5_perform 233 = .ok (.iload 5, 2) := by decide +kernel
theorem dX5_perform_235 : decode cX5_perform 235 = .ok (.iconst (-1), 1) := by decide +kernel
theorem dX5_perform_236 : decode cX5_perform 236 = .ok (.if_icmp .eq 41, 3) := by decide +kernel
theorem dX5_perform_239 : decode cX5_perform 239 = .ok (.iload 5, 2) := by decide +kernel
theorem dX5_perform_241 : decode cX5_perform 241 = .ok (.iload 6, 2) := by decide +kernel
theorem dX5_perform_243 : decode cX5_perform 243 = .ok (.if_icmp .eq 34, 3) := by decide +kernel
theorem dX5_perform_246 : decode cX5_perform 246 = .ok (.aload_n 0, 1) := by decide +kernel
theorem dX5_perform_247 : decode cX5_perform 247 = .ok (.getfield 21, 3) := by decide +kernel
theorem dX5_perform_250 : decode cX5_perform 250 = .ok (.getfield 149, 3) := by decide +kernel
theorem dX5_perform_253 : decode cX5_perform 253 = .ok (.iload 5, 2) := by decide +kernel
theorem dX5_perform_255 : decode cX5_perform 255 = .ok (.iaload, 1) := by decide +kernel
theorem dX5_perform_256 : decode cX5_perform 256 = .ok (.iload 6, 2) := by decide +kernel
theorem dX5_perform_258 : decode cX5_perform 258 = .ok (.invokestatic 70, 3) := by decide +kernel
theorem dX5_perform_261 : decode cX5_perform 261 = .ok (.ifCond .ne 16, 3) := by decide +kernel
theorem dX5_perform_264 : decode cX5_perform 264 = .ok (.iload_n 1, 1) := by decide +kernel
theorem dX5_perform_265 : decode cX5_perform 265 = .ok (.iconst 3, 1) := by decide +kernel
theorem dX5_perform_266 : decode cX5_perform 266 = .ok (.if_icmp .ne 8, 3) := by decide +kernel
theorem dX5_perform_269 : decode cX5_perform 269 = .ok (.bipush (-73), 2) := by decide +kernel
theorem dX5_perform_271 : decode cX5_perform 271 = .ok (.goto 5, 3) := by decide +kernel
theorem dX5_perform_274 : decode cX5_perform 274 = .ok (.bipush (-86), 2) := by decide +kernel
theorem dX5_perform_276 : decode cX5_perform 276 = .ok (.ireturn, 1) := by decide +kernel
theorem dX5_perform_277 : decode cX5_perform 277 = .ok (.iload 8, 2) := by decide +kernel
theorem dX5_perform_279 : decode cX5_perform 279 = .ok (.ifCond .eq 27, 3) := by decide +kernel
theorem dX5_perform_282 : decode cX5_perform 282 = .ok (.iload_n 1, 1) := by decide +kernel
theorem dX5_perform_283 : decode cX5_perform 283 = .ok (.iconst 1, 1) := by decide +kernel
theorem dX5_perform_284 : decode cX5_perform 284 = .ok (.if_icmp .eq 22, 3) := by decide +kernel
theorem dX5_perform_287 : decode cX5_perform 287 = .ok (.aload_n 0, 1) := by decide +kernel
theorem dX5_perform_288 : decode cX5_perform 288 = .ok (.iload_n 1, 1) := by decide +kernel
theorem dX5_perform_289 : decode cX5_perform 289 = .ok (.iload_n 1, 1) := by decide +kernel
theorem dX5_perform_290 : decode cX5_perform 290 = .ok (.iconst 4, 1) := by decide +kernel
theorem dX5_perform_291 : decode cX5_perform 291 = .ok (.if_icmp .ne 8, 3) := by decide +kernel
theorem dX5_perform_294 : decode cX5_perform 294 = .ok (.iload 6, 2) := by decide +kernel
theorem dX5_perform_296 : decode cX5_perform 296 = .ok (.goto 5, 3) := by decide +kernel
theorem dX5_perform_299 : decode cX5_perform 299 = .ok (.iload 5, 2) := by decide +kernel
theorem dX5_perform_301 : decode cX5_perform 301 = .ok (.iload_n 3, 1) := by decide +kernel
theorem dX5_perform_302 : decode cX5_perform 302 = .ok (.invokevirtual 152, 3) := by decide +kernel
theorem dX5_perform_305 : decode cX5_perform 305 = .ok (.ireturn, 1) := by decide +kernel
theorem dX5_perform_306 : decode cX5_perform 306 = .ok (.iload_n 1, 1) := by decide +kernel
theorem dX5_perform_307 : decode cX5_perform 307 = .ok (.bipush 8, 2) := by decide +kernel
theorem dX5_perform_309 : decode cX5_perform 309 = .ok (.if_icmp .eq 9, 3) := by decide +kernel
theorem dX5_perform_312 : decode cX5_perform 312 = .ok (.iload_n 1, 1) := by decide +kernel
theorem dX5_perform_313 : decode cX5_perform 313 = .ok (.bipush 6, 2) := by decide +kernel
theorem dX5_perform_315 : decode cX5_perform 315 = .ok (.if_icmp .ne 7, 3) := by decide +kernel
theorem dX5_perform_318 : decode cX5_perform 318 = .ok (.iconst 0, 1) := by decide +kernel
theorem dX5_perform_319 : decode cX5_perform 319 = .ok (.goto 16, 3) := by decide +kernel
theorem dX5_perform_322 : decode cX5_perform 322 = .ok (.aload 10, 2) := by decide +kernel
theorem dX5_perform_324 : decode cX5_perform 324 = .ok (.getfield 156, 3) := by decide +kernel
theorem dX5_perform_327 : decode cX5_perform 327 = .ok (.iload 9, 2) := by decide +kernel
theorem dX5_perform_329 : decode cX5_perform 329 = .ok (.bipush 6, 2) := by decide +kernel
theorem dX5_perform_331 : decode cX5_perform 331 = .ok (.imul, 1) := by decide +kernel
theorem dX5_perform_332 : decode cX5_perform 332 = .ok (.iload_n 3, 1) := by decide +kernel
theorem dX5_perform_333 : decode cX5_perform 333 = .ok (.iadd, 1) := by decide +kernel
theorem dX5_perform_334 : decode cX5_perform 334 = .ok (.iaload, 1) := by decide +kernel
theorem dX5_perform_335 : decode cX5_perform 335 = .ok (.ireturn, 1) := by decide +kernel
theorem dX5_isClass_0 : decode cX5_isClass 0 = .ok (.iload_n 1, 1) := by decide +kernel
theorem dX5_isClass_1 : decode cX5_isClass 1 = .ok (.iconst 5, 1) := by decide +kernel
theorem dX5_isClass_2 : decode cX5_isClass 2 = .ok (.if_icmp .eq 17, 3) := by decide +kernel
theorem dX5_isClass_5 : decode cX5_isClass 5 = .ok (.aload_n 0, 1) := by decide +kernel
theorem dX5_isClass_6 : decode cX5_isClass 6 = .ok (.getfield 12, 3) := by decide +kernel
theorem dX5_isClass_9 : decode cX5_isClass 9 = .ok (.getfield 94, 3) := by decide +kernel
theorem dX5_isClass_12 : decode cX5_isClass 12 = .ok (.iload_n 1, 1) := by decide +kernel
theorem dX5_isClass_13 : decode cX5_isClass 13 = .ok (.caload, 1) := by decide +kernel
theorem dX5_isClass_14 : decode cX5_isClass 14 = .ok (.bipush 99, 2) := by decide +kernel
theorem dX5_isClass_16 : decode cX5_isClass 16 = .ok (.if_icmp .ne 7, 3) := by decide +kernel
theorem dX5_isClass_19 : decode cX5_isClass 19 = .ok (.iconst 1, 1) := by decide +kernel
theorem dX5_isClass_20 : decode cX5_isClass 20 = .ok (.goto 4, 3) := by decide +kernel
theorem dX5_isClass_23 : decode cX5_isClass 23 = .ok (.iconst 0, 1) := by decide +kernel
theorem dX5_isClass_24 : decode cX5_isClass 24 = .ok (.ireturn, 1) := by decide +kernel
theorem dX5_makingFault_0 : decode cX5_makingFault 0 = .ok (.iload_n 1, 1) := by decide +kernel
theorem dX5_makingFault_1 : decode cX5_makingFault 1 = .ok (.iconst 5, 1) := by decide +kernel
theorem dX5_makingFault_2 : decode cX5_makingFault 2 = .ok (.if_icmp .ne 49, 3) := by decide +kernel
theorem dX5_makingFault_5 : decode cX5_makingFault 5 = .ok (.aload_n 0, 1) := by decide +kernel
theorem dX5_makingFault_6 : decode cX5_makingFault 6 = .ok (.getfield 36, 3) := by decide +kernel
theorem dX5_makingFault_9 : decode cX5_makingFault 9 = .ok (.iconst (-1), 1) := by decide +kernel
theorem dX5_makingFault_10 : decode cX5_makingFault 10 = .ok (.if_icmp .ne 8, 3) := by decide +kernel
theorem dX5_makingFault_13 : decode cX5_makingFault 13 = .ok (.bipush 112, 2) := by decide +kernel
theorem dX5_makingFault_15 : decode cX5_makingFault 15 = .ok (.goto 15, 3) := by decide +kernel
theorem dX5_makingFault_18 : decode cX5_makingFault 18 = .ok (.aload_n 0, 1) := by decide +kernel
theorem dX5_makingFault_19 : decode cX5_makingFault 19 = .ok (.getfield 12, 3) := by decide +kernel
theorem dX5_makingFault_22 : decode cX5_makingFault 22 = .ok (.getfield 159, 3) := by decide +kernel
theorem dX5_makingFault_25 : decode cX5_makingFault 25 = .ok (.aload_n 0, 1) := by decide +kernel
theorem dX5_makingFault_26 : decode cX5_makingFault 26 = .ok (.getfield 36, 3) := by decide +kernel
theorem dX5_makingFault_29 : decode cX5_makingFault 29 = .ok (.caload, 1) := by decide +kernel
theorem dX5_makingFault_30 : decode cX5_makingFault 30 = .ok (.istore_n 2, 1) := by decide +kernel
theorem dX5_makingFault_31 : decode cX5_makingFault 31 = .ok (.iload_n 2, 1) := by decide +kernel
theorem dX5_makingFault_32 : decode cX5_makingFault 32 = .ok (.bipush 112, 2) := by decide +kernel
theorem dX5_makingFault_34 : decode cX5_makingFault 34 = .ok (.if_icmp .eq 9, 3) := by decide +kernel
theorem dX5_makingFault_37 : decode cX5_makingFault 37 = .ok (.iload_n 2, 1) := by decide +kernel
theorem dX5_makingFault_38 : decode cX5_makingFault 38 = .ok (.bipush 111, 2) := by decide +kernel
theorem dX5_makingFault_40 : decode cX5_makingFault 40 = .ok (.if_icmp .ne 8, 3) := by decide +kernel
theorem dX5_makingFault_43 : decode cX5_makingFault 43 = .ok (.bipush 45, 2) := by decide +kernel
theorem dX5_makingFault_45 : decode cX5_makingFault 45 = .ok (.goto 5, 3) := by decide +kernel
theorem dX5_makingFault_48 : decode cX5_makingFault 48 = .ok (.bipush 76, 2) := by decide +kernel
theorem dX5_makingFault_50 : decode cX5_makingFault 50 = .ok (.ireturn, 1) := by decide +kernel
theorem dX5_makingFault_51 : decode cX5_makingFault 51 = .ok (.aload_n 0, 1) := by decide +kernel
theorem dX5_makingFault_52 : decode cX5_makingFault 52 = .ok (.getfield 12, 3) := by decide +kernel
theorem dX5_makingFault_55 : decode cX5_makingFault 55 = .ok (.getfield 94, 3) := by decide +kernel
theorem dX5_makingFault_58 : decode cX5_makingFault 58 = .ok (.iload_n 1, 1) := by decide +kernel
theorem dX5_makingFault_59 : decode cX5_makingFault 59 = .ok (.caload, 1) := by decide +kernel
theorem dX5_makingFault_60 : decode cX5_makingFault 60 = .ok (.bipush 45, 2) := by decide +kernel
theorem dX5_makingFault_62 : decode cX5_makingFault 62 = .ok (.if_icmp .ne 6, 3) := by decide +kernel
theorem dX5_makingFault_65 : decode cX5_makingFault 65 = .ok (.bipush 67, 2) := by decide +kernel
theorem dX5_makingFault_67 : decode cX5_makingFault 67 = .ok (.ireturn, 1) := by decide +kernel
theorem dX5_makingFault_68 : decode cX5_makingFault 68 = .ok (.aload_n 0, 1) := by decide +kernel
theorem dX5_makingFault_69 : decode cX5_makingFault 69 = .ok (.getfield 12, 3) := by decide +kernel
theorem dX5_makingFault_72 : decode cX5_makingFault 72 = .ok (.getfield 102, 3) := by decide +kernel
theorem dX5_makingFault_75 : decode cX5_makingFault 75 = .ok (.iload_n 1, 1) := by decide +kernel
theorem dX5_makingFault_76 : decode cX5_makingFault 76 = .ok (.baload, 1) := by decide +kernel
theorem dX5_makingFault_77 : decode cX5_makingFault 77 = .ok (.ifCond .ne 6, 3) := by decide +kernel
theorem dX5_makingFault_80 : decode cX5_makingFault 80 = .ok (.bipush 76, 2) := by decide +kernel
theorem dX5_makingFault_82 : decode cX5_makingFault 82 = .ok (.ireturn, 1) := by decide +kernel
theorem dX5_makingFault_83 : decode cX5_makingFault 83 = .ok (.aload_n 0, 1) := by decide +kernel
theorem dX5_makingFault_84 : decode cX5_makingFault 84 = .ok (.getfield 12, 3) := by decide +kernel
theorem dX5_makingFault_87 : decode cX5_makingFault 87 = .ok (.getfield 94, 3) := by decide +kernel
theorem dX5_makingFault_90 : decode cX5_makingFault 90 = .ok (.iload_n 1, 1) := by decide +kernel
theorem dX5_makingFault_91 : decode cX5_makingFault 91 = .ok (.caload, 1) := by decide +kernel
theorem dX5_makingFault_92 : decode cX5_makingFault 92 = .ok (.bipush 105, 2) := by decide +kernel
theorem dX5_makingFault_94 : decode cX5_makingFault 94 = .ok (.if_icmp .eq 15, 3) := by decide +kernel
theorem dX5_makingFault_97 : decode cX5_makingFault 97 = .ok (.aload_n 0, 1) := by decide +kernel
theorem dX5_makingFault_98 : decode cX5_makingFault 98 = .ok (.getfield 12, 3) := by decide +kernel
theorem dX5_makingFault_101 : decode cX5_makingFault 101 = .ok (.getfield 162, 3) := by decide +kernel
theorem dX5_makingFault_104 : decode cX5_makingFault 104 = .ok (.iload_n 1, 1) := by decide +kernel
theorem dX5_makingFault_105 : decode cX5_makingFault 105 = .ok (.baload, 1) := by decide +kernel
theorem dX5_makingFault_106 : decode cX5_makingFault 106 = .ok (.ifCond .eq 6, 3) := by decide +kernel
theorem dX5_makingFault_109 : decode cX5_makingFault 109 = .ok (.bipush 78, 2) := by decide +kernel
theorem dX5_makingFault_111 : decode cX5_makingFault 111 = .ok (.ireturn, 1) := by decide +kernel
theorem dX5_makingFault_112 : decode cX5_makingFault 112 = .ok (.aload_n 0, 1) := by decide +kernel
theorem dX5_makingFault_113 : decode cX5_makingFault 113 = .ok (.getfield 12, 3) := by decide +kernel
theorem dX5_makingFault_116 : decode cX5_makingFault 116 = .ok (.getfield 159, 3) := by decide +kernel
theorem dX5_makingFault_119 : decode cX5_makingFault 119 = .ok (.iload_n 1, 1) := by decide +kernel
theorem dX5_makingFault_120 : decode cX5_makingFault 120 = .ok (.caload, 1) := by decide +kernel
theorem dX5_makingFault_121 : decode cX5_makingFault 121 = .ok (.bipush 112, 2) := by decide +kernel
theorem dX5_makingFault_123 : decode cX5_makingFault 123 = .ok (.if_icmp .ne 8, 3) := by decide +kernel
theorem dX5_makingFault_126 : decode cX5_makingFault 126 = .ok (.bipush 45, 2) := by decide +kernel
theorem dX5_makingFault_128 : decode cX5_makingFault 128 = .ok (.goto 5, 3) := by decide +kernel
theorem dX5_makingFault_131 : decode cX5_makingFault 131 = .ok (.bipush 76, 2) := by decide +kernel
theorem dX5_makingFault_133 : decode cX5_makingFault 133 = .ok (.ireturn, 1) := by decide +kernel
theorem dX5_typeFault_0 : decode cX5_typeFault 0 = .ok (.iload_n 2, 1) := by decide +kernel
theorem dX5_typeFault_1 : decode cX5_typeFault 1 = .ok (.iconst (-1), 1) := by decide +kernel
theorem dX5_typeFault_2 : decode cX5_typeFault 2 = .ok (.if_icmp .ne 6, 3) := by decide +kernel
theorem dX5_typeFault_5 : decode cX5_typeFault 5 = .ok (.bipush 67, 2) := by decide +kernel
theorem dX5_typeFault_7 : decode cX5_typeFault 7 = .ok (.ireturn, 1) := by decide +kernel
theorem dX5_typeFault_8 : decode cX5_typeFault 8 = .ok (.iload_n 2, 1) := by decide +kernel
theorem dX5_typeFault_9 : decode cX5_typeFault 9 = .ok (.iconst 5, 1) := by decide +kernel
theorem dX5_typeFault_10 : decode cX5_typeFault 10 = .ok (.if_icmp .ne 16, 3) := by decide +kernel
theorem dX5_typeFault_13 : decode cX5_typeFault 13 = .ok (.iload_n 1, 1) := by decide +kernel
theorem dX5_typeFault_14 : decode cX5_typeFault 14 = .ok (.iconst 3, 1) := by decide +kernel
theorem dX5_typeFault_15 : decode cX5_typeFault 15 = .ok (.if_icmp .ne 8, 3) := by decide +kernel
theorem dX5_typeFault_18 : decode cX5_typeFault 18 = .ok (.bipush 73, 2) := by decide +kernel
theorem dX5_typeFault_20 : decode cX5_typeFault 20 = .ok (.goto 5, 3) := by decide +kernel
theorem dX5_typeFault_23 : decode cX5_typeFault 23 = .ok (.bipush 45, 2) := by decide +kernel
theorem dX5_typeFault_25 : decode cX5_typeFault 25 = .ok (.ireturn, 1) := by decide +kernel
theorem dX5_typeFault_26 : decode cX5_typeFault 26 = .ok (.aload_n 0, 1) := by decide +kernel
theorem dX5_typeFault_27 : decode cX5_typeFault 27 = .ok (.getfield 12, 3) := by decide +kernel
theorem dX5_typeFault_30 : decode cX5_typeFault 30 = .ok (.getfield 94, 3) := by decide +kernel
theorem dX5_typeFault_33 : decode cX5_typeFault 33 = .ok (.iload_n 2, 1) := by decide +kernel
theorem dX5_typeFault_34 : decode cX5_typeFault 34 = .ok (.caload, 1) := by decide +kernel
theorem dX5_typeFault_35 : decode cX5_typeFault 35 = .ok (.bipush 45, 2) := by decide +kernel
theorem dX5_typeFault_37 : decode cX5_typeFault 37 = .ok (.if_icmp .ne 6, 3) := by decide +kernel
theorem dX5_typeFault_40 : decode cX5_typeFault 40 = .ok (.bipush 67, 2) := by decide +kernel
theorem dX5_typeFault_42 : decode cX5_typeFault 42 = .ok (.ireturn, 1) := by decide +kernel
theorem dX5_typeFault_43 : decode cX5_typeFault 43 = .ok (.aload_n 0, 1) := by decide +kernel
theorem dX5_typeFault_44 : decode cX5_typeFault 44 = .ok (.getfield 12, 3) := by decide +kernel
theorem dX5_typeFault_47 : decode cX5_typeFault 47 = .ok (.getfield 102, 3) := by decide +kernel
theorem dX5_typeFault_50 : decode cX5_typeFault 50 = .ok (.iload_n 2, 1) := by decide +kernel
theorem dX5_typeFault_51 : decode cX5_typeFault 51 = .ok (.baload, 1) := by decide +kernel
theorem dX5_typeFault_52 : decode cX5_typeFault 52 = .ok (.ifCond .ne 6, 3) := by decide +kernel
theorem dX5_typeFault_55 : decode cX5_typeFault 55 = .ok (.bipush 76, 2) := by decide +kernel
theorem dX5_typeFault_57 : decode cX5_typeFault 57 = .ok (.ireturn, 1) := by decide +kernel
theorem dX5_typeFault_58 : decode cX5_typeFault 58 = .ok (.aload_n 0, 1) := by decide +kernel
theorem dX5_typeFault_59 : decode cX5_typeFault 59 = .ok (.getfield 12, 3) := by decide +kernel
theorem dX5_typeFault_62 : decode cX5_typeFault 62 = .ok (.getfield 94, 3) := by decide +kernel
theorem dX5_typeFault_65 : decode cX5_typeFault 65 = .ok (.iload_n 2, 1) := by decide +kernel
theorem dX5_typeFault_66 : decode cX5_typeFault 66 = .ok (.caload, 1) := by decide +kernel
theorem dX5_typeFault_67 : decode cX5_typeFault 67 = .ok (.bipush 105, 2) := by decide +kernel
theorem dX5_typeFault_69 : decode cX5_typeFault 69 = .ok (.if_icmp .ne 7, 3) := by decide +kernel
theorem dX5_typeFault_72 : decode cX5_typeFault 72 = .ok (.iconst 1, 1) := by decide +kernel
theorem dX5_typeFault_73 : decode cX5_typeFault 73 = .ok (.goto 4, 3) := by decide +kernel
theorem dX5_typeFault_76 : decode cX5_typeFault 76 = .ok (.iconst 0, 1) := by decide +kernel
theorem dX5_typeFault_77 : decode cX5_typeFault 77 = .ok (.istore_n 3, 1) := by decide +kernel
theorem dX5_typeFault_78 : decode cX5_typeFault 78 = .ok (.iload_n 3, 1) := by decide +kernel
theorem dX5_typeFault_79 : decode cX5_typeFault 79 = .ok (.ifCond .eq 21, 3) := by decide +kernel
theorem dX5_typeFault_82 : decode cX5_typeFault 82 = .ok (.iload_n 1, 1) := by decide +kernel
theorem dX5_typeFault_83 : decode cX5_typeFault 83 = .ok (.iconst 2, 1) := by decide +kernel
theorem dX5_typeFault_84 : decode cX5_typeFault 84 = .ok (.if_icmp .eq 8, 3) := by decide +kernel
theorem dX5_typeFault_87 : decode cX5_typeFault 87 = .ok (.iload_n 1, 1) := by decide +kernel
theorem dX5_typeFault_88 : decode cX5_typeFault 88 = .ok (.iconst 4, 1) := by decide +kernel
theorem dX5_typeFault_89 : decode cX5_typeFault 89 = .ok (.if_icmp .ne 7, 3) := by decide +kernel
theorem dX5_typeFault_92 : decode cX5_typeFault 92 = .ok (.iconst 1, 1) := by decide +kernel
theorem dX5_typeFault_93 : decode cX5_typeFault 93 = .ok (.goto 17, 3) := by decide +kernel
theorem dX5_typeFault_96 : decode cX5_typeFault 96 = .ok (.iconst 0, 1) := by decide +kernel
theorem dX5_typeFault_97 : decode cX5_typeFault 97 = .ok (.goto 13, 3) := by decide +kernel
theorem dX5_typeFault_100 : decode cX5_typeFault 100 = .ok (.iload_n 1, 1) := by decide +kernel
theorem dX5_typeFault_101 : decode cX5_typeFault 101 = .ok (.iconst 3, 1) := by decide +kernel
theorem dX5_typeFault_102 : decode cX5_typeFault 102 = .ok (.if_icmp .ne 7, 3) := by decide +kernel
theorem dX5_typeFault_105 : decode cX5_typeFault 105 = .ok (.iconst 1, 1) := by decide +kernel
theorem dX5_typeFault_106 : decode cX5_typeFault 106 = .ok (.goto 4, 3) := by decide +kernel
theorem dX5_typeFault_109 : decode cX5_typeFault 109 = .ok (.iconst 0, 1) := by decide +kernel
theorem dX5_typeFault_110 : decode cX5_typeFault 110 = .ok (.istore 4, 2) := by decide +kernel
theorem dX5_typeFault_112 : decode cX5_typeFault 112 = .ok (.iload 4, 2) := by decide +kernel
theorem dX5_typeFault_114 : decode cX5_typeFault 114 = .ok (.ifCond .eq 8, 3) := by decide +kernel
theorem dX5_typeFault_117 : decode cX5_typeFault 117 = .ok (.bipush 73, 2) := by decide +kernel
theorem dX5_typeFault_119 : decode cX5_typeFault 119 = .ok (.goto 5, 3) := by decide +kernel
theorem dX5_typeFault_122 : decode cX5_typeFault 122 = .ok (.bipush 45, 2) := by decide +kernel
theorem dX5_typeFault_124 : decode cX5_typeFault 124 = .ok (.ireturn, 1) := by decide +kernel
theorem dX5_ownUseFault_0 : decode cX5_ownUseFault 0 = .ok (.iload_n 1, 1) := by decide +kernel
theorem dX5_ownUseFault_1 : decode cX5_ownUseFault 1 = .ok (.iconst 1, 1) := by decide +kernel
theorem dX5_ownUseFault_2 : decode cX5_ownUseFault 2 = .ok (.if_icmp .ne 8, 3) := by decide +kernel
theorem dX5_ownUseFault_5 : decode cX5_ownUseFault 5 = .ok (.bipush 73, 2) := by decide +kernel
theorem dX5_ownUseFault_7 : decode cX5_ownUseFault 7 = .ok (.goto 5, 3) := by decide +kernel
theorem dX5_ownUseFault_10 : decode cX5_ownUseFault 10 = .ok (.bipush 45, 2) := by decide +kernel
theorem dX5_ownUseFault_12 : decode cX5_ownUseFault 12 = .ok (.ireturn, 1) := by decide +kernel
theorem dX5_useFault_0 : decode cX5_useFault 0 = .ok (.aload_n 2, 1) := by decide +kernel
theorem dX5_useFault_1 : decode cX5_useFault 1 = .ok (.getfield 109, 3) := by decide +kernel
theorem dX5_useFault_4 : decode cX5_useFault 4 = .ok (.iload_n 3, 1) := by decide +kernel
theorem dX5_useFault_5 : decode cX5_useFault 5 = .ok (.bipush 6, 2) := by decide +kernel
theorem dX5_useFault_7 : decode cX5_useFault 7 = .ok (.imul, 1) := by decide +kernel
theorem dX5_useFault_8 : decode cX5_useFault 8 = .ok (.iload 4, 2) := by decide +kernel
theorem dX5_useFault_10 : decode cX5_useFault 10 = .ok (.iadd, 1) := by decide +kernel
theorem dX5_useFault_11 : decode cX5_useFault 11 = .ok (.caload, 1) := by decide +kernel
theorem dX5_useFault_12 : decode cX5_useFault 12 = .ok (.istore 6, 2) := by decide +kernel
theorem dX5_useFault_14 : decode cX5_useFault 14 = .ok (.aload_n 2, 1) := by decide +kernel
theorem dX5_useFault_15 : decode cX5_useFault 15 = .ok (.getfield 114, 3) := by decide +kernel
theorem dX5_useFault_18 : decode cX5_useFault 18 = .ok (.iload_n 3, 1) := by decide +kernel
theorem dX5_useFault_19 : decode cX5_useFault 19 = .ok (.bipush 6, 2) := by decide +kernel
theorem dX5_useFault_21 : decode cX5_useFault 21 = .ok (.imul, 1) := by decide +kernel
theorem dX5_useFault_22 : decode cX5_useFault 22 = .ok (.iload 4, 2) := by decide +kernel
theorem dX5_useFault_24 : decode cX5_useFault 24 = .ok (.iadd, 1) := by decide +kernel
theorem dX5_useFault_25 : decode cX5_useFault 25 = .ok (.caload, 1) := by decide +kernel
theorem dX5_useFault_26 : decode cX5_useFault 26 = .ok (.istore 7, 2) := by decide +kernel
theorem dX5_useFault_28 : decode cX5_useFault 28 = .ok (.aload_n 0, 1) := by decide +kernel
theorem dX5_useFault_29 : decode cX5_useFault 29 = .ok (.getfield 33, 3) := by decide +kernel
theorem dX5_useFault_32 : decode cX5_useFault 32 = .ok (.ifCond .eq 36, 3) := by decide +kernel
theorem dX5_useFault_35 : decode cX5_useFault 35 = .ok (.aload_n 0, 1) := by decide +kernel
theorem dX5_useFault_36 : decode cX5_useFault 36 = .ok (.getfield 21, 3) := by decide +kernel
theorem dX5_useFault_39 : decode cX5_useFault 39 = .ok (.getfield 149, 3) := by decide +kernel
theorem dX5_useFault_42 : decode cX5_useFault 42 = .ok (.iconst 5, 1) := by decide +kernel
theorem dX5_useFault_43 : decode cX5_useFault 43 = .ok (.iaload, 1) := by decide +kernel
theorem dX5_useFault_44 : decode cX5_useFault 44 = .ok (.iload_n 3, 1) := by decide +kernel
theorem dX5_useFault_45 : decode cX5_useFault 45 = .ok (.ishr, 1) := by decide +kernel
theorem dX5_useFault_46 : decode cX5_useFault 46 = .ok (.iconst 1, 1) := by decide +kernel
theorem dX5_useFault_47 : decode cX5_useFault 47 = .ok (.iand, 1) := by decide +kernel
theorem dX5_useFault_48 : decode cX5_useFault 48 = .ok (.iconst 1, 1) := by decide +kernel
theorem dX5_useFault_49 : decode cX5_useFault 49 = .ok (.if_icmp .ne 19, 3) := by decide +kernel
theorem dX5_useFault_52 : decode cX5_useFault 52 = .ok (.iload 5, 2) := by decide +kernel
theorem dX5_useFault_54 : decode cX5_useFault 54 = .ok (.iconst (-1), 1) := by decide +kernel
theorem dX5_useFault_55 : decode cX5_useFault 55 = .ok (.if_icmp .eq 9, 3) := by decide +kernel
theorem dX5_useFault_58 : decode cX5_useFault 58 = .ok (.iload 5, 2) := by decide +kernel
theorem dX5_useFault_60 : decode cX5_useFault 60 = .ok (.iconst 5, 1) := by decide +kernel
theorem dX5_useFault_61 : decode cX5_useFault 61 = .ok (.if_icmp .ne 7, 3) := by decide +kernel
theorem dX5_useFault_64 : decode cX5_useFault 64 = .ok (.iconst 1, 1) := by decide +kernel
theorem dX5_useFault_65 : decode cX5_useFault 65 = .ok (.goto 4, 3) := by decide +kernel
theorem dX5_useFault_68 : decode cX5_useFault 68 = .ok (.iconst 0, 1) := by decide +kernel
theorem dX5_useFault_69 : decode cX5_useFault 69 = .ok (.istore 8, 2) := by decide +kernel
theorem dX5_useFault_71 : decode cX5_useFault 71 = .ok (.iload 6, 2) := by decide +kernel
theorem dX5_useFault_73 : decode cX5_useFault 73 = .ok (.bipush 112, 2) := by decide +kernel
theorem dX5_useFault_75 : decode cX5_useFault 75 = .ok (.if_icmp .eq 18, 3) := by decide +kernel
theorem dX5_useFault_78 : decode cX5_useFault 78 = .ok (.iload 6, 2) := by decide +kernel
theorem dX5_useFault_80 : decode cX5_useFault 80 = .ok (.bipush 111, 2) := by decide +kernel
theorem dX5_useFault_82 : decode cX5_useFault 82 = .ok (.if_icmp .ne 8, 3) := by decide +kernel
theorem dX5_useFault_85 : decode cX5_useFault 85 = .ok (.iload 8, 2) := by decide +kernel
theorem dX5_useFault_87 : decode cX5_useFault 87 = .ok (.ifCond .ne 6, 3) := by decide +kernel
theorem dX5_useFault_90 : decode cX5_useFault 90 = .ok (.bipush 76, 2) := by decide +kernel
theorem dX5_useFault_92 : decode cX5_useFault 92 = .ok (.ireturn, 1) := by decide +kernel
theorem dX5_useFault_93 : decode cX5_useFault 93 = .ok (.iload 7, 2) := by decide +kernel
theorem dX5_useFault_95 : decode cX5_useFault 95 = .ok (.bipush 115, 2) := by decide +kernel
theorem dX5_useFault_97 : decode cX5_useFault 97 = .ok (.if_icmp .eq 10, 3) := by decide +kernel
theorem dX5_useFault_100 : decode cX5_useFault 100 = .ok (.iload 7, 2) := by decide +kernel
theorem dX5_useFault_102 : decode cX5_useFault 102 = .ok (.bipush 70, 2) := by decide +kernel
theorem dX5_useFault_104 : decode cX5_useFault 104 = .ok (.if_icmp .ne 7, 3) := by decide +kernel
theorem dX5_useFault_107 : decode cX5_useFault 107 = .ok (.iconst 1, 1) := by decide +kernel
theorem dX5_useFault_108 : decode cX5_useFault 108 = .ok (.goto 4, 3) := by decide +kernel
theorem dX5_useFault_111 : decode cX5_useFault 111 = .ok (.iconst 0, 1) := by decide +kernel
theorem dX5_useFault_112 : decode cX5_useFault 112 = .ok (.istore 9, 2) := by decide +kernel
theorem dX5_useFault_114 : decode cX5_useFault 114 = .ok (.iload_n 1, 1) := by decide +kernel
theorem dX5_useFault_115 : decode cX5_useFault 115 = .ok (.iconst 1, 1) := by decide +kernel
theorem dX5_useFault_116 : decode cX5_useFault 116 = .ok (.if_icmp .eq 14, 3) := by decide +kernel
theorem dX5_useFault_119 : decode cX5_useFault 119 = .ok (.iload_n 1, 1) := by decide +kernel
theorem dX5_useFault_120 : decode cX5_useFault 120 = .ok (.iconst 5, 1) := by decide +kernel
theorem dX5_useFault_121 : decode cX5_useFault 121 = .ok (.if_icmp .eq 9, 3) := by decide +kernel
theorem dX5_useFault_124 : decode cX5_useFault 124 = .ok (.iload_n 1, 1) := by decide +kernel
theorem dX5_useFault_125 : decode cX5_useFault 125 = .ok (.bipush 6, 2) := by decide +kernel
theorem dX5_useFault_127 : decode cX5_useFault 127 = .ok (.if_icmp .ne 7, 3) := by decide +kernel
theorem dX5_useFault_130 : decode cX5_useFault 130 = .ok (.iconst 1, 1) := by decide +kernel
theorem dX5_useFault_131 : decode cX5_useFault 131 = .ok (.goto 4, 3) := by decide +kernel
theorem dX5_useFault_134 : decode cX5_useFault 134 = .ok (.iconst 0, 1) := by decide +kernel
theorem dX5_useFault_135 : decode cX5_useFault 135 = .ok (.istore 10, 2) := by decide +kernel
theorem dX5_useFault_137 : decode cX5_useFault 137 = .ok (.iload 9, 2) := by decide +kernel
theorem dX5_useFault_139 : decode cX5_useFault 139 = .ok (.iload 10, 2) := by decide +kernel
theorem dX5_useFault_141 : decode cX5_useFault 141 = .ok (.if_icmp .eq 6, 3) := by decide +kernel
theorem dX5_useFault_144 : decode cX5_useFault 144 = .ok (.bipush 73, 2) := by decide +kernel
theorem dX5_useFault_146 : decode cX5_useFault 146 = .ok (.ireturn, 1) := by decide +kernel
theorem dX5_useFault_147 : decode cX5_useFault 147 = .ok (.iload_n 1, 1) := by decide +kernel
theorem dX5_useFault_148 : decode cX5_useFault 148 = .ok (.bipush 8, 2) := by decide +kernel
theorem dX5_useFault_150 : decode cX5_useFault 150 = .ok (.if_icmp .eq 9, 3) := by decide +kernel
theorem dX5_useFault_153 : decode cX5_useFault 153 = .ok (.iload_n 1, 1) := by decide +kernel
theorem dX5_useFault_154 : decode cX5_useFault 154 = .ok (.bipush 6, 2) := by decide +kernel
theorem dX5_useFault_156 : decode cX5_useFault 156 = .ok (.if_icmp .ne 7, 3) := by decide +kernel
theorem dX5_useFault_159 : decode cX5_useFault 159 = .ok (.iconst 1, 1) := by decide +kernel
theorem dX5_useFault_160 : decode cX5_useFault 160 = .ok (.goto 4, 3) := by decide +kernel
theorem dX5_useFault_163 : decode cX5_useFault 163 = .ok (.iconst 0, 1) := by decide +kernel
theorem dX5_useFault_164 : decode cX5_useFault 164 = .ok (.istore 11, 2) := by decide +kernel
theorem dX5_useFault_166 : decode cX5_useFault 166 = .ok (.iload 11, 2) := by decide +kernel
theorem dX5_useFault_168 : decode cX5_useFault 168 = .ok (.ifCond .eq 22, 3) := by decide +kernel
theorem dX5_useFault_171 : decode cX5_useFault 171 = .ok (.iload 7, 2) := by decide +kernel
theorem dX5_useFault_173 : decode cX5_useFault 173 = .ok (.bipush 70, 2) := by decide +kernel
theorem dX5_useFault_175 : decode cX5_useFault 175 = .ok (.if_icmp .eq 10, 3) := by decide +kernel
theorem dX5_useFault_178 : decode cX5_useFault 178 = .ok (.iload 7, 2) := by decide +kernel
theorem dX5_useFault_180 : decode cX5_useFault 180 = .ok (.bipush 102, 2) := by decide +kernel
theorem dX5_useFault_182 : decode cX5_useFault 182 = .ok (.if_icmp .ne 8, 3) := by decide +kernel
theorem dX5_useFault_185 : decode cX5_useFault 185 = .ok (.bipush 76, 2) := by decide +kernel
theorem dX5_useFault_187 : decode cX5_useFault 187 = .ok (.goto 5, 3) := by decide +kernel
theorem dX5_useFault_190 : decode cX5_useFault 190 = .ok (.bipush 45, 2) := by decide +kernel
theorem dX5_useFault_192 : decode cX5_useFault 192 = .ok (.ireturn, 1) := by decide +kernel
theorem dX5_dispatch_0 : decode cX5_dispatch 0 = .ok (.aload_n 0, 1) := by decide +kernel
theorem dX5_dispatch_1 : decode cX5_dispatch 1 = .ok (.getfield 21, 3) := by decide +kernel
theorem dX5_dispatch_4 : decode cX5_dispatch 4 = .ok (.getfield 165, 3) := by decide +kernel
theorem dX5_dispatch_7 : decode cX5_dispatch 7 = .ok (.iload_n 2, 1) := by decide +kernel
theorem dX5_dispatch_8 : decode cX5_dispatch 8 = .ok (.bipush 6, 2) := by decide +kernel
theorem dX5_dispatch_10 : decode cX5_dispatch 10 = .ok (.imul, 1) := by decide +kernel
theorem dX5_dispatch_11 : decode cX5_dispatch 11 = .ok (.iload_n 3, 1) := by decide +kernel
theorem dX5_dispatch_12 : decode cX5_dispatch 12 = .ok (.iadd, 1) := by decide +kernel
theorem dX5_dispatch_13 : decode cX5_dispatch 13 = .ok (.iaload, 1) := by decide +kernel
theorem dX5_dispatch_14 : decode cX5_dispatch 14 = .ok (.istore 4, 2) := by decide +kernel
theorem dX5_dispatch_16 : decode cX5_dispatch 16 = .ok (.iload 4, 2) := by decide +kernel
theorem dX5_dispatch_18 : decode cX5_dispatch 18 = .ok (.ifCond .ge 6, 3) := by decide +kernel
theorem dX5_dispatch_21 : decode cX5_dispatch 21 = .ok (.iload 4, 2) := by decide +kernel
theorem dX5_dispatch_23 : decode cX5_dispatch 23 = .ok (.ireturn, 1) := by decide +kernel
theorem dX5_dispatch_24 : decode cX5_dispatch 24 = .ok (.iload 4, 2) := by decide +kernel
theorem dX5_dispatch_26 : decode cX5_dispatch 26 = .ok (.iconst 5, 1) := by decide +kernel
theorem dX5_dispatch_27 : decode cX5_dispatch 27 = .ok (.if_icmp .ne 6, 3) := by decide +kernel
theorem dX5_dispatch_30 : decode cX5_dispatch 30 = .ok (.bipush 100, 2) := by decide +kernel
theorem dX5_dispatch_32 : decode cX5_dispatch 32 = .ok (.ireturn, 1) := by decide +kernel
theorem dX5_dispatch_33 : decode cX5_dispatch 33 = .ok (.iload 4, 2) := by decide +kernel
theorem dX5_dispatch_35 : decode cX5_dispatch 35 = .ok (.bipush 6, 2) := by decide +kernel
theorem dX5_dispatch_37 : decode cX5_dispatch 37 = .ok (.imul, 1) := by decide +kernel
theorem dX5_dispatch_38 : decode cX5_dispatch 38 = .ok (.iload_n 3, 1) := by decide +kernel
theorem dX5_dispatch_39 : decode cX5_dispatch 39 = .ok (.iadd, 1) := by decide +kernel
theorem dX5_dispatch_40 : decode cX5_dispatch 40 = .ok (.istore 5, 2) := by decide +kernel
theorem dX5_dispatch_42 : decode cX5_dispatch 42 = .ok (.iload_n 1, 1) := by decide +kernel
theorem dX5_dispatch_43 : decode cX5_dispatch 43 = .ok (.iconst 3, 1) := by decide +kernel
theorem dX5_dispatch_44 : decode cX5_dispatch 44 = .ok (.if_icmp .ne 26, 3) := by decide +kernel
theorem dX5_dispatch_47 : decode cX5_dispatch 47 = .ok (.aload_n 0, 1) := by decide +kernel
theorem dX5_dispatch_48 : decode cX5_dispatch 48 = .ok (.getfield 12, 3) := by decide +kernel
theorem dX5_dispatch_51 : decode cX5_dispatch 51 = .ok (.getfield 105, 3) := by decide +kernel
theorem dX5_dispatch_54 : decode cX5_dispatch 54 = .ok (.getfield 109, 3) := by decide +kernel
theorem dX5_dispatch_57 : decode cX5_dispatch 57 = .ok (.iload 5, 2) := by decide +kernel
theorem dX5_dispatch_59 : decode cX5_dispatch 59 = .ok (.caload, 1) := by decide +kernel
theorem dX5_dispatch_60 : decode cX5_dispatch 60 = .ok (.bipush 112, 2) := by decide +kernel
theorem dX5_dispatch_62 : decode cX5_dispatch 62 = .ok (.if_icmp .eq 8, 3) := by decide +kernel
theorem dX5_dispatch_65 : decode cX5_dispatch 65 = .ok (.bipush (-76), 2) := by decide +kernel
theorem dX5_dispatch_67 : decode cX5_dispatch 67 = .ok (.goto 16, 3) := by decide +kernel
theorem dX5_dispatch_70 : decode cX5_dispatch 70 = .ok (.aload_n 0, 1) := by decide +kernel
theorem dX5_dispatch_71 : decode cX5_dispatch 71 = .ok (.getfield 12, 3) := by decide +kernel
theorem dX5_dispatch_74 : decode cX5_dispatch 74 = .ok (.getfield 105, 3) := by decide +kernel
theorem dX5_dispatch_77 : decode cX5_dispatch 77 = .ok (.getfield 156, 3) := by decide +kernel
theorem dX5_dispatch_80 : decode cX5_dispatch 80 = .ok (.iload 5, 2) := by decide +kernel
theorem dX5_dispatch_82 : decode cX5_dispatch 82 = .ok (.iaload, 1) := by decide +kernel
theorem dX5_dispatch_83 : decode cX5_dispatch 83 = .ok (.ireturn, 1) := by decide +kernel
theorem dJ6_bitCount_0f7a4_0 : decode cJ6_bitCount_0f7a4 0 = .ok (.iload_n 0, 1) := by decide +kernel
theorem dJ6_bitCount_0f7a4_1 : decode cJ6_bitCount_0f7a4 1 = .ok (.iload_n 0, 1) := by decide +kernel
theorem dJ6_bitCount_0f7a4_2 : decode cJ6_bitCount_0f7a4 2 = .ok (.iconst 1, 1) := by decide +kernel
theorem dJ6_bitCount_0f7a4_3 : decode cJ6_bitCount_0f7a4 3 = .ok (.iushr, 1) := by decide +kernel
theorem dJ6_bitCount_0f7a4_4 : decode cJ6_bitCount_0f7a4 4 = .ok (.ldc_w 265, 3) := by decide +kernel
theorem dJ6_bitCount_0f7a4_7 : decode cJ6_bitCount_0f7a4 7 = .ok (.iand, 1) := by decide +kernel
theorem dJ6_bitCount_0f7a4_8 : decode cJ6_bitCount_0f7a4 8 = .ok (.isub, 1) := by decide +kernel
theorem dJ6_bitCount_0f7a4_9 : decode cJ6_bitCount_0f7a4 9 = .ok (.istore_n 0, 1) := by decide +kernel
theorem dJ6_bitCount_0f7a4_10 : decode cJ6_bitCount_0f7a4 10 = .ok (.iload_n 0, 1) := by decide +kernel
theorem dJ6_bitCount_0f7a4_11 : decode cJ6_bitCount_0f7a4 11 = .ok (.ldc_w 266, 3) := by decide +kernel
theorem dJ6_bitCount_0f7a4_14 : decode cJ6_bitCount_0f7a4 14 = .ok (.iand, 1) := by decide +kernel
theorem dJ6_bitCount_0f7a4_15 : decode cJ6_bitCount_0f7a4 15 = .ok (.iload_n 0, 1) := by decide +kernel
theorem dJ6_bitCount_0f7a4_16 : decode cJ6_bitCount_0f7a4 16 = .ok (.iconst 2, 1) := by decide +kernel
theorem dJ6_bitCount_0f7a4_17 : decode cJ6_bitCount_0f7a4 17 = .ok (.iushr, 1) := by decide +kernel
theorem dJ6_bitCount_0f7a4_18 : decode cJ6_bitCount_0f7a4 18 = .ok (.ldc_w 266, 3) := by decide +kernel
theorem dJ6_bitCount_0f7a4_21 : decode cJ6_bitCount_0f7a4 21 = .ok (.iand, 1) := by decide +kernel
theorem dJ6_bitCount_0f7a4_22 : decode cJ6_bitCount_0f7a4 22 = .ok (.iadd, 1) := by decide +kernel
theorem dJ6_bitCount_0f7a4_23 : decode cJ6_bitCount_0f7a4 23 = .ok (.istore_n 0, 1) := by decide +kernel
theorem dJ6_bitCount_0f7a4_24 : decode cJ6_bitCount_0f7a4 24 = .ok (.iload_n 0, 1) := by decide +kernel
theorem dJ6_bitCount_0f7a4_25 : decode cJ6_bitCount_0f7a4 25 = .ok (.iload_n 0, 1) := by decide +kernel
theorem dJ6_bitCount_0f7a4_26 : decode cJ6_bitCount_0f7a4 26 = .ok (.iconst 4, 1) := by decide +kernel
theorem dJ6_bitCount_0f7a4_27 : decode cJ6_bitCount_0f7a4 27 = .ok (.iushr, 1) := by decide +kernel
theorem dJ6_bitCount_0f7a4_28 : decode cJ6_bitCount_0f7a4 28 = .ok (.iadd, 1) := by decide +kernel
theorem dJ6_bitCount_0f7a4_29 : decode cJ6_bitCount_0f7a4 29 = .ok (.ldc_w 267, 3) := by decide +kernel
theorem dJ6_bitCount_0f7a4_32 : decode cJ6_bitCount_0f7a4 32 = .ok (.iand, 1) := by decide +kernel
theorem dJ6_bitCount_0f7a4_33 : decode cJ6_bitCount_0f7a4 33 = .ok (.istore_n 0, 1) := by decide +kernel
theorem dJ6_bitCount_0f7a4_34 : decode cJ6_bitCount_0f7a4 34 = .ok (.iload_n 0, 1) := by decide +kernel
theorem dJ6_bitCount_0f7a4_35 : decode cJ6_bitCount_0f7a4 35 = .ok (.iload_n 0, 1) := by decide +kernel
theorem dJ6_bitCount_0f7a4_36 : decode cJ6_bitCount_0f7a4 36 = .ok (.bipush 8, 2) := by decide +kernel
theorem dJ6_bitCount_0f7a4_38 : decode cJ6_bitCount_0f7a4 38 = .ok (.iushr, 1) := by decide +kernel
theorem dJ6_bitCount_0f7a4_39 : decode cJ6_bitCount_0f7a4 39 = .ok (.iadd, 1) := by decide +kernel
theorem dJ6_bitCount_0f7a4_40 : decode cJ6_bitCount_0f7a4 40 = .ok (.istore_n 0, 1) := by decide +kernel
theorem dJ6_bitCount_0f7a4_41 : decode cJ6_bitCount_0f7a4 41 = .ok (.iload_n 0, 1) := by decide +kernel
theorem dJ6_bitCount_0f7a4_42 : decode cJ6_bitCount_0f7a4 42 = .ok (.iload_n 0, 1) := by decide +kernel
theorem dJ6_bitCount_0f7a4_43 : decode cJ6_bitCount_0f7a4 43 = .ok (.bipush 16, 2) := by decide +kernel
theorem dJ6_bitCount_0f7a4_45 : decode cJ6_bitCount_0f7a4 45 = .ok (.iushr, 1) := by decide +kernel
theorem dJ6_bitCount_0f7a4_46 : decode cJ6_bitCount_0f7a4 46 = .ok (.iadd, 1) := by decide +kernel
theorem dJ6_bitCount_0f7a4_47 : decode cJ6_bitCount_0f7a4 47 = .ok (.istore_n 0, 1) := by decide +kernel
theorem dJ6_bitCount_0f7a4_48 : decode cJ6_bitCount_0f7a4 48 = .ok (.iload_n 0, 1) := by decide +kernel
theorem dJ6_bitCount_0f7a4_49 : decode cJ6_bitCount_0f7a4 49 = .ok (.bipush 63, 2) := by decide +kernel
theorem dJ6_bitCount_0f7a4_51 : decode cJ6_bitCount_0f7a4 51 = .ok (.iand, 1) := by decide +kernel
theorem dJ6_bitCount_0f7a4_52 : decode cJ6_bitCount_0f7a4 52 = .ok (.ireturn, 1) := by decide +kernel
theorem dJ7_fill_53178_0 : decode cJ7_fill_53178 0 = .ok (.iconst 0, 1) := by decide +kernel
theorem dJ7_fill_53178_1 : decode cJ7_fill_53178 1 = .ok (.istore_n 2, 1) := by decide +kernel
theorem dJ7_fill_53178_2 : decode cJ7_fill_53178 2 = .ok (.aload_n 0, 1) := by decide +kernel
theorem dJ7_fill_53178_3 : decode cJ7_fill_53178 3 = .ok (.arraylength, 1) := by decide +kernel
theorem dJ7_fill_53178_4 : decode cJ7_fill_53178 4 = .ok (.istore_n 3, 1) := by decide +kernel
theorem dJ7_fill_53178_5 : decode cJ7_fill_53178 5 = .ok (.iload_n 2, 1) := by decide +kernel
theorem dJ7_fill_53178_6 : decode cJ7_fill_53178 6 = .ok (.iload_n 3, 1) := by decide +kernel
theorem dJ7_fill_53178_7 : decode cJ7_fill_53178 7 = .ok (.if_icmp .ge 13, 3) := by decide +kernel
theorem dJ7_fill_53178_10 : decode cJ7_fill_53178 10 = .ok (.aload_n 0, 1) := by decide +kernel
theorem dJ7_fill_53178_11 : decode cJ7_fill_53178 11 = .ok (.iload_n 2, 1) := by decide +kernel
theorem dJ7_fill_53178_12 : decode cJ7_fill_53178 12 = .ok (.iload_n 1, 1) := by decide +kernel
theorem dJ7_fill_53178_13 : decode cJ7_fill_53178 13 = .ok (.iastore, 1) := by decide +kernel
theorem dJ7_fill_53178_14 : decode cJ7_fill_53178 14 = .ok (.iinc 2 1, 3) := by decide +kernel
theorem dJ7_fill_53178_17 : decode cJ7_fill_53178 17 = .ok (.goto (-12), 3) := by decide +kernel
theorem dJ7_fill_53178_20 : decode cJ7_fill_53178 20 = .ok (.return_, 1) := by decide +kernel
