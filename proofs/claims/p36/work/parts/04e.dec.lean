-- pasted from the claim's printed text: decode rows
theorem dL_cell_0 : decode cL_cell 0 = .ok (.sipush 12345, 3) := by decide +kernel
theorem dL_cell_3 : decode cL_cell 3 = .ok (.bipush 31, 2) := by decide +kernel
theorem dL_cell_5 : decode cL_cell 5 = .ok (.aload_n 0, 1) := by decide +kernel
theorem dL_cell_6 : decode cL_cell 6 = .ok (.arraylength, 1) := by decide +kernel
theorem dL_cell_7 : decode cL_cell 7 = .ok (.imul, 1) := by decide +kernel
theorem dL_cell_8 : decode cL_cell 8 = .ok (.iadd, 1) := by decide +kernel
theorem dL_cell_9 : decode cL_cell 9 = .ok (.istore_n 2, 1) := by decide +kernel
theorem dL_cell_10 : decode cL_cell 10 = .ok (.aload_n 0, 1) := by decide +kernel
theorem dL_cell_11 : decode cL_cell 11 = .ok (.astore_n 3, 1) := by decide +kernel
theorem dL_cell_12 : decode cL_cell 12 = .ok (.aload_n 3, 1) := by decide +kernel
theorem dL_cell_13 : decode cL_cell 13 = .ok (.arraylength, 1) := by decide +kernel
theorem dL_cell_14 : decode cL_cell 14 = .ok (.istore 4, 2) := by decide +kernel
theorem dL_cell_16 : decode cL_cell 16 = .ok (.iconst 0, 1) := by decide +kernel
theorem dL_cell_17 : decode cL_cell 17 = .ok (.istore 5, 2) := by decide +kernel
theorem dL_cell_19 : decode cL_cell 19 = .ok (.iload 5, 2) := by decide +kernel
theorem dL_cell_21 : decode cL_cell 21 = .ok (.iload 4, 2) := by decide +kernel
theorem dL_cell_23 : decode cL_cell 23 = .ok (.if_icmp .ge 26, 3) := by decide +kernel
theorem dL_cell_26 : decode cL_cell 26 = .ok (.aload_n 3, 1) := by decide +kernel
theorem dL_cell_27 : decode cL_cell 27 = .ok (.iload 5, 2) := by decide +kernel
theorem dL_cell_29 : decode cL_cell 29 = .ok (.iaload, 1) := by decide +kernel
theorem dL_cell_30 : decode cL_cell 30 = .ok (.istore 6, 2) := by decide +kernel
theorem dL_cell_32 : decode cL_cell 32 = .ok (.iload_n 2, 1) := by decide +kernel
theorem dL_cell_33 : decode cL_cell 33 = .ok (.iload 6, 2) := by decide +kernel
theorem dL_cell_35 : decode cL_cell 35 = .ok (.ixor, 1) := by decide +kernel
theorem dL_cell_36 : decode cL_cell 36 = .ok (.ldc 7, 2) := by decide +kernel
theorem dL_cell_38 : decode cL_cell 38 = .ok (.imul, 1) := by decide +kernel
theorem dL_cell_39 : decode cL_cell 39 = .ok (.bipush 7, 2) := by decide +kernel
theorem dL_cell_41 : decode cL_cell 41 = .ok (.iadd, 1) := by decide +kernel
theorem dL_cell_42 : decode cL_cell 42 = .ok (.istore_n 2, 1) := by decide +kernel
theorem dL_cell_43 : decode cL_cell 43 = .ok (.iinc 5 1, 3) := by decide +kernel
theorem dL_cell_46 : decode cL_cell 46 = .ok (.goto (-27), 3) := by decide +kernel
theorem dL_cell_49 : decode cL_cell 49 = .ok (.iload_n 2, 1) := by decide +kernel
theorem dL_cell_50 : decode cL_cell 50 = .ok (.bipush 7, 2) := by decide +kernel
theorem dL_cell_52 : decode cL_cell 52 = .ok (.iushr, 1) := by decide +kernel
theorem dL_cell_53 : decode cL_cell 53 = .ok (.iconst 3, 1) := by decide +kernel
theorem dL_cell_54 : decode cL_cell 54 = .ok (.iand, 1) := by decide +kernel
theorem dL_cell_55 : decode cL_cell 55 = .ok (.ifCond .ne 24, 3) := by decide +kernel
theorem dL_cell_58 : decode cL_cell 58 = .ok (.iload_n 1, 1) := by decide +kernel
theorem dL_cell_59 : decode cL_cell 59 = .ok (.aload_n 0, 1) := by decide +kernel
theorem dL_cell_60 : decode cL_cell 60 = .ok (.arraylength, 1) := by decide +kernel
theorem dL_cell_61 : decode cL_cell 61 = .ok (.if_icmp .ge 9, 3) := by decide +kernel
theorem dL_cell_64 : decode cL_cell 64 = .ok (.aload_n 0, 1) := by decide +kernel
theorem dL_cell_65 : decode cL_cell 65 = .ok (.iload_n 1, 1) := by decide +kernel
theorem dL_cell_66 : decode cL_cell 66 = .ok (.iaload, 1) := by decide +kernel
theorem dL_cell_67 : decode cL_cell 67 = .ok (.goto 11, 3) := by decide +kernel
theorem dL_cell_70 : decode cL_cell 70 = .ok (.sipush 7919, 3) := by decide +kernel
theorem dL_cell_73 : decode cL_cell 73 = .ok (.iload_n 1, 1) := by decide +kernel
theorem dL_cell_74 : decode cL_cell 74 = .ok (.imul, 1) := by decide +kernel
theorem dL_cell_75 : decode cL_cell 75 = .ok (.bipush 12, 2) := by decide +kernel
theorem dL_cell_77 : decode cL_cell 77 = .ok (.iadd, 1) := by decide +kernel
theorem dL_cell_78 : decode cL_cell 78 = .ok (.ireturn, 1) := by decide +kernel
theorem dL_cell_79 : decode cL_cell 79 = .ok (.iload_n 2, 1) := by decide +kernel
theorem dL_cell_80 : decode cL_cell 80 = .ok (.ldc 8, 2) := by decide +kernel
theorem dL_cell_82 : decode cL_cell 82 = .ok (.iload_n 1, 1) := by decide +kernel
theorem dL_cell_83 : decode cL_cell 83 = .ok (.sipush 1009, 3) := by decide +kernel
theorem dL_cell_86 : decode cL_cell 86 = .ok (.iadd, 1) := by decide +kernel
theorem dL_cell_87 : decode cL_cell 87 = .ok (.imul, 1) := by decide +kernel
theorem dL_cell_88 : decode cL_cell 88 = .ok (.ixor, 1) := by decide +kernel
theorem dL_cell_89 : decode cL_cell 89 = .ok (.istore_n 3, 1) := by decide +kernel
theorem dL_cell_90 : decode cL_cell 90 = .ok (.iload_n 3, 1) := by decide +kernel
theorem dL_cell_91 : decode cL_cell 91 = .ok (.iload_n 3, 1) := by decide +kernel
theorem dL_cell_92 : decode cL_cell 92 = .ok (.bipush 13, 2) := by decide +kernel
theorem dL_cell_94 : decode cL_cell 94 = .ok (.iushr, 1) := by decide +kernel
theorem dL_cell_95 : decode cL_cell 95 = .ok (.ixor, 1) := by decide +kernel
theorem dL_cell_96 : decode cL_cell 96 = .ok (.ldc 9, 2) := by decide +kernel
theorem dL_cell_98 : decode cL_cell 98 = .ok (.imul, 1) := by decide +kernel
theorem dL_cell_99 : decode cL_cell 99 = .ok (.istore_n 3, 1) := by decide +kernel
theorem dL_cell_100 : decode cL_cell 100 = .ok (.iload_n 3, 1) := by decide +kernel
theorem dL_cell_101 : decode cL_cell 101 = .ok (.iload_n 3, 1) := by decide +kernel
theorem dL_cell_102 : decode cL_cell 102 = .ok (.bipush 16, 2) := by decide +kernel
theorem dL_cell_104 : decode cL_cell 104 = .ok (.iushr, 1) := by decide +kernel
theorem dL_cell_105 : decode cL_cell 105 = .ok (.ixor, 1) := by decide +kernel
theorem dL_cell_106 : decode cL_cell 106 = .ok (.ireturn, 1) := by decide +kernel
theorem dL_chosen_0 : decode cL_chosen 0 = .ok (.iload_n 0, 1) := by decide +kernel
theorem dL_chosen_1 : decode cL_chosen 1 = .ok (.ldc 10, 2) := by decide +kernel
theorem dL_chosen_3 : decode cL_chosen 3 = .ok (.iand, 1) := by decide +kernel
theorem dL_chosen_4 : decode cL_chosen 4 = .ok (.iload_n 1, 1) := by decide +kernel
theorem dL_chosen_5 : decode cL_chosen 5 = .ok (.irem, 1) := by decide +kernel
theorem dL_chosen_6 : decode cL_chosen 6 = .ok (.ireturn, 1) := by decide +kernel
theorem dL_type_0 : decode cL_type 0 = .ok (.aload_n 0, 1) := by decide +kernel
theorem dL_type_1 : decode cL_type 1 = .ok (.iload_n 1, 1) := by decide +kernel
theorem dL_type_2 : decode cL_type 2 = .ok (.iload_n 2, 1) := by decide +kernel
theorem dL_type_3 : decode cL_type 3 = .ok (.iload_n 3, 1) := by decide +kernel
theorem dL_type_4 : decode cL_type 4 = .ok (.invokevirtual 11, 3) := by decide +kernel
theorem dL_type_7 : decode cL_type 7 = .ok (.i2l, 1) := by decide +kernel
theorem dL_type_8 : decode cL_type 8 = .ok (.lreturn, 1) := by decide +kernel
theorem dL_type_9 : decode cL_type 9 = .ok (.astore 4, 2) := by decide +kernel
theorem dL_type_11 : decode cL_type 11 = .ok (.ldc2_w 21, 3) := by decide +kernel
theorem dL_type_14 : decode cL_type 14 = .ok (.lreturn, 1) := by decide +kernel
theorem dL_type_15 : decode cL_type 15 = .ok (.astore 4, 2) := by decide +kernel
theorem dL_type_17 : decode cL_type 17 = .ok (.ldc2_w 25, 3) := by decide +kernel
theorem dL_type_20 : decode cL_type 20 = .ok (.lreturn, 1) := by decide +kernel
theorem dL_flag_0 : decode cL_flag 0 = .ok (.aload_n 0, 1) := by decide +kernel
theorem dL_flag_1 : decode cL_flag 1 = .ok (.iload_n 1, 1) := by decide +kernel
theorem dL_flag_2 : decode cL_flag 2 = .ok (.iload_n 2, 1) := by decide +kernel
theorem dL_flag_3 : decode cL_flag 3 = .ok (.iload_n 3, 1) := by decide +kernel
theorem dL_flag_4 : decode cL_flag 4 = .ok (.iload 4, 2) := by decide +kernel
theorem dL_flag_6 : decode cL_flag 6 = .ok (.invokevirtual 27, 3) := by decide +kernel
theorem dL_flag_9 : decode cL_flag 9 = .ok (.ifCond .eq 7, 3) := by decide +kernel
theorem dL_flag_12 : decode cL_flag 12 = .ok (.lconst 1, 1) := by decide +kernel
theorem dL_flag_13 : decode cL_flag 13 = .ok (.goto 4, 3) := by decide +kernel
theorem dL_flag_16 : decode cL_flag 16 = .ok (.lconst 0, 1) := by decide +kernel
theorem dL_flag_17 : decode cL_flag 17 = .ok (.lreturn, 1) := by decide +kernel
theorem dL_flag_18 : decode cL_flag 18 = .ok (.astore 5, 2) := by decide +kernel
theorem dL_flag_20 : decode cL_flag 20 = .ok (.ldc2_w 21, 3) := by decide +kernel
theorem dL_flag_23 : decode cL_flag 23 = .ok (.lreturn, 1) := by decide +kernel
theorem dL_flag_24 : decode cL_flag 24 = .ok (.astore 5, 2) := by decide +kernel
theorem dL_flag_26 : decode cL_flag 26 = .ok (.ldc2_w 25, 3) := by decide +kernel
theorem dL_flag_29 : decode cL_flag 29 = .ok (.lreturn, 1) := by decide +kernel
theorem dL_flag_30 : decode cL_flag 30 = .ok (.astore 5, 2) := by decide +kernel
theorem dL_flag_32 : decode cL_flag 32 = .ok (.ldc2_w 33, 3) := by decide +kernel
theorem dL_flag_35 : decode cL_flag 35 = .ok (.lreturn, 1) := by decide +kernel
theorem dL_above_0 : decode cL_above 0 = .ok (.aload_n 0, 1) := by decide +kernel
theorem dL_above_1 : decode cL_above 1 = .ok (.iload_n 1, 1) := by decide +kernel
theorem dL_above_2 : decode cL_above 2 = .ok (.iload_n 2, 1) := by decide +kernel
theorem dL_above_3 : decode cL_above 3 = .ok (.iload_n 3, 1) := by decide +kernel
theorem dL_above_4 : decode cL_above 4 = .ok (.invokevirtual 35, 3) := by decide +kernel
theorem dL_above_7 : decode cL_above 7 = .ok (.i2l, 1) := by decide +kernel
theorem dL_above_8 : decode cL_above 8 = .ok (.lreturn, 1) := by decide +kernel
theorem dL_above_9 : decode cL_above 9 = .ok (.astore 4, 2) := by decide +kernel
theorem dL_above_11 : decode cL_above 11 = .ok (.ldc2_w 21, 3) := by decide +kernel
theorem dL_above_14 : decode cL_above 14 = .ok (.lreturn, 1) := by decide +kernel
theorem dL_above_15 : decode cL_above 15 = .ok (.astore 4, 2) := by decide +kernel
theorem dL_above_17 : decode cL_above 17 = .ok (.ldc2_w 25, 3) := by decide +kernel
theorem dL_above_20 : decode cL_above 20 = .ok (.lreturn, 1) := by decide +kernel
theorem dL_above_21 : decode cL_above 21 = .ok (.astore 4, 2) := by decide +kernel
theorem dL_above_23 : decode cL_above 23 = .ok (.ldc2_w 33, 3) := by decide +kernel
theorem dL_above_26 : decode cL_above 26 = .ok (.lreturn, 1) := by decide +kernel
theorem dL_maker_0 : decode cL_maker 0 = .ok (.aload_n 0, 1) := by decide +kernel
theorem dL_maker_1 : decode cL_maker 1 = .ok (.iload_n 1, 1) := by decide +kernel
theorem dL_maker_2 : decode cL_maker 2 = .ok (.iload_n 2, 1) := by decide +kernel
theorem dL_maker_3 : decode cL_maker 3 = .ok (.iload_n 3, 1) := by decide +kernel
theorem dL_maker_4 : decode cL_maker 4 = .ok (.invokevirtual 38, 3) := by decide +kernel
theorem dL_maker_7 : decode cL_maker 7 = .ok (.i2l, 1) := by decide +kernel
theorem dL_maker_8 : decode cL_maker 8 = .ok (.lreturn, 1) := by decide +kernel
theorem dL_maker_9 : decode cL_maker 9 = .ok (.astore 4, 2) := by decide +kernel
theorem dL_maker_11 : decode cL_maker 11 = .ok (.ldc2_w 21, 3) := by decide +kernel
theorem dL_maker_14 : decode cL_maker 14 = .ok (.lreturn, 1) := by decide +kernel
theorem dL_maker_15 : decode cL_maker 15 = .ok (.astore 4, 2) := by decide +kernel
theorem dL_maker_17 : decode cL_maker 17 = .ok (.ldc2_w 25, 3) := by decide +kernel
theorem dL_maker_20 : decode cL_maker 20 = .ok (.lreturn, 1) := by decide +kernel
theorem dL_maker_21 : decode cL_maker 21 = .ok (.astore 4, 2) := by decide +kernel
theorem dL_maker_23 : decode cL_maker 23 = .ok (.ldc2_w 33, 3) := by decide +kernel
theorem dL_maker_26 : decode cL_maker 26 = .ok (.lreturn, 1) := by decide +kernel
theorem dL_under_0 : decode cL_under 0 = .ok (.aload_n 0, 1) := by decide +kernel
theorem dL_under_1 : decode cL_under 1 = .ok (.iload_n 1, 1) := by decide +kernel
theorem dL_under_2 : decode cL_under 2 = .ok (.iload_n 2, 1) := by decide +kernel
theorem dL_under_3 : decode cL_under 3 = .ok (.iload_n 3, 1) := by decide +kernel
theorem dL_under_4 : decode cL_under 4 = .ok (.iload 4, 2) := by decide +kernel
theorem dL_under_6 : decode cL_under 6 = .ok (.invokevirtual 41, 3) := by decide +kernel
theorem dL_under_9 : decode cL_under 9 = .ok (.ifCond .eq 7, 3) := by decide +kernel
theorem dL_under_12 : decode cL_under 12 = .ok (.lconst 1, 1) := by decide +kernel
theorem dL_under_13 : decode cL_under 13 = .ok (.goto 4, 3) := by decide +kernel
theorem dL_under_16 : decode cL_under 16 = .ok (.lconst 0, 1) := by decide +kernel
theorem dL_under_17 : decode cL_under 17 = .ok (.lreturn, 1) := by decide +kernel
theorem dL_under_18 : decode cL_under 18 = .ok (.astore 5, 2) := by decide +kernel
theorem dL_under_20 : decode cL_under 20 = .ok (.ldc2_w 21, 3) := by decide +kernel
theorem dL_under_23 : decode cL_under 23 = .ok (.lreturn, 1) := by decide +kernel
theorem dL_under_24 : decode cL_under 24 = .ok (.astore 5, 2) := by decide +kernel
theorem dL_under_26 : decode cL_under 26 = .ok (.ldc2_w 25, 3) := by decide +kernel
theorem dL_under_29 : decode cL_under 29 = .ok (.lreturn, 1) := by decide +kernel
theorem dL_under_30 : decode cL_under 30 = .ok (.astore 5, 2) := by decide +kernel
theorem dL_under_32 : decode cL_under 32 = .ok (.ldc2_w 33, 3) := by decide +kernel
theorem dL_under_35 : decode cL_under 35 = .ok (.lreturn, 1) := by decide +kernel
theorem dL_method_0 : decode cL_method 0 = .ok (.aload_n 0, 1) := by decide +kernel
theorem dL_method_1 : decode cL_method 1 = .ok (.iload_n 1, 1) := by decide +kernel
theorem dL_method_2 : decode cL_method 2 = .ok (.iload_n 2, 1) := by decide +kernel
theorem dL_method_3 : decode cL_method 3 = .ok (.iload_n 3, 1) := by decide +kernel
theorem dL_method_4 : decode cL_method 4 = .ok (.iload 4, 2) := by decide +kernel
theorem dL_method_6 : decode cL_method 6 = .ok (.iload 5, 2) := by decide +kernel
theorem dL_method_8 : decode cL_method 8 = .ok (.iload 6, 2) := by decide +kernel
theorem dL_method_10 : decode cL_method 10 = .ok (.iload 7, 2) := by decide +kernel
theorem dL_method_12 : decode cL_method 12 = .ok (.invokevirtual 44, 3) := by decide +kernel
theorem dL_method_15 : decode cL_method 15 = .ok (.i2l, 1) := by decide +kernel
theorem dL_method_16 : decode cL_method 16 = .ok (.lreturn, 1) := by decide +kernel
theorem dL_method_17 : decode cL_method 17 = .ok (.astore 8, 2) := by decide +kernel
theorem dL_method_19 : decode cL_method 19 = .ok (.ldc2_w 21, 3) := by decide +kernel
theorem dL_method_22 : decode cL_method 22 = .ok (.lreturn, 1) := by decide +kernel
theorem dL_method_23 : decode cL_method 23 = .ok (.astore 8, 2) := by decide +kernel
theorem dL_method_25 : decode cL_method 25 = .ok (.ldc2_w 25, 3) := by decide +kernel
theorem dL_method_28 : decode cL_method 28 = .ok (.lreturn, 1) := by decide +kernel
theorem dL_method_29 : decode cL_method 29 = .ok (.astore 8, 2) := by decide +kernel
theorem dL_method_31 : decode cL_method 31 = .ok (.ldc2_w 33, 3) := by decide +kernel
theorem dL_method_34 : decode cL_method 34 = .ok (.lreturn, 1) := by decide +kernel
theorem dL_field_0 : decode cL_field 0 = .ok (.aload_n 0, 1) := by decide +kernel
theorem dL_field_1 : decode cL_field 1 = .ok (.iload_n 1, 1) := by decide +kernel
theorem dL_field_2 : decode cL_field 2 = .ok (.iload_n 2, 1) := by decide +kernel
theorem dL_field_3 : decode cL_field 3 = .ok (.iload_n 3, 1) := by decide +kernel
theorem dL_field_4 : decode cL_field 4 = .ok (.iload 4, 2) := by decide +kernel
theorem dL_field_6 : decode cL_field 6 = .ok (.iload 5, 2) := by decide +kernel
theorem dL_field_8 : decode cL_field 8 = .ok (.iload 6, 2) := by decide +kernel
theorem dL_field_10 : decode cL_field 10 = .ok (.iload 7, 2) := by decide +kernel
theorem dL_field_12 : decode cL_field 12 = .ok (.invokevirtual 48, 3) := by decide +kernel
theorem dL_field_15 : decode cL_field 15 = .ok (.i2l, 1) := by decide +kernel
theorem dL_field_16 : decode cL_field 16 = .ok (.lreturn, 1) := by decide +kernel
theorem dL_field_17 : decode cL_field 17 = .ok (.astore 8, 2) := by decide +kernel
theorem dL_field_19 : decode cL_field 19 = .ok (.ldc2_w 21, 3) := by decide +kernel
theorem dL_field_22 : decode cL_field 22 = .ok (.lreturn, 1) := by decide +kernel
theorem dL_field_23 : decode cL_field 23 = .ok (.astore 8, 2) := by decide +kernel
theorem dL_field_25 : decode cL_field 25 = .ok (.ldc2_w 25, 3) := by decide +kernel
theorem dL_field_28 : decode cL_field 28 = .ok (.lreturn, 1) := by decide +kernel
theorem dL_field_29 : decode cL_field 29 = .ok (.astore 8, 2) := by decide +kernel
theorem dL_field_31 : decode cL_field 31 = .ok (.ldc2_w 33, 3) := by decide +kernel
theorem dL_field_34 : decode cL_field 34 = .ok (.lreturn, 1) := by decide +kernel
theorem dL_copy_0 : decode cL_copy 0 = .ok (.aload_n 0, 1) := by decide +kernel
theorem dL_copy_1 : decode cL_copy 1 = .ok (.iload_n 1, 1) := by decide +kernel
theorem dL_copy_2 : decode cL_copy 2 = .ok (.iload_n 2, 1) := by decide +kernel
theorem dL_copy_3 : decode cL_copy 3 = .ok (.invokevirtual 51, 3) := by decide +kernel
theorem dL_copy_6 : decode cL_copy 6 = .ok (.i2l, 1) := by decide +kernel
theorem dL_copy_7 : decode cL_copy 7 = .ok (.lreturn, 1) := by decide +kernel
theorem dL_copy_8 : decode cL_copy 8 = .ok (.astore_n 3, 1) := by decide +kernel
theorem dL_copy_9 : decode cL_copy 9 = .ok (.ldc2_w 21, 3) := by decide +kernel
theorem dL_copy_12 : decode cL_copy 12 = .ok (.lreturn, 1) := by decide +kernel
theorem dL_check_0 : decode cL_check 0 = .ok (.aload_n 0, 1) := by decide +kernel
theorem dL_check_1 : decode cL_check 1 = .ok (.iload_n 1, 1) := by decide +kernel
theorem dL_check_2 : decode cL_check 2 = .ok (.invokevirtual 55, 3) := by decide +kernel
theorem dL_check_5 : decode cL_check 5 = .ok (.i2l, 1) := by decide +kernel
theorem dL_check_6 : decode cL_check 6 = .ok (.lreturn, 1) := by decide +kernel
theorem dL_check_7 : decode cL_check 7 = .ok (.astore_n 2, 1) := by decide +kernel
theorem dL_check_8 : decode cL_check 8 = .ok (.ldc2_w 21, 3) := by decide +kernel
theorem dL_check_11 : decode cL_check 11 = .ok (.lreturn, 1) := by decide +kernel
theorem dL_wipe_0 : decode cL_wipe 0 = .ok (.aload_n 0, 1) := by decide +kernel
theorem dL_wipe_1 : decode cL_wipe 1 = .ok (.iload_n 1, 1) := by decide +kernel
theorem dL_wipe_2 : decode cL_wipe 2 = .ok (.invokevirtual 59, 3) := by decide +kernel
theorem dL_wipe_5 : decode cL_wipe 5 = .ok (.i2l, 1) := by decide +kernel
theorem dL_wipe_6 : decode cL_wipe 6 = .ok (.lreturn, 1) := by decide +kernel
theorem dL_wipe_7 : decode cL_wipe 7 = .ok (.astore_n 2, 1) := by decide +kernel
theorem dL_wipe_8 : decode cL_wipe 8 = .ok (.ldc2_w 21, 3) := by decide +kernel
theorem dL_wipe_11 : decode cL_wipe 11 = .ok (.lreturn, 1) := by decide +kernel
theorem dL_own_0 : decode cL_own 0 = .ok (.aload_n 0, 1) := by decide +kernel
theorem dL_own_1 : decode cL_own 1 = .ok (.iload_n 1, 1) := by decide +kernel
theorem dL_own_2 : decode cL_own 2 = .ok (.iload_n 2, 1) := by decide +kernel
theorem dL_own_3 : decode cL_own 3 = .ok (.invokevirtual 62, 3) := by decide +kernel
theorem dL_own_6 : decode cL_own 6 = .ok (.ifCond .eq 7, 3) := by decide +kernel
theorem dL_own_9 : decode cL_own 9 = .ok (.lconst 1, 1) := by decide +kernel
theorem dL_own_10 : decode cL_own 10 = .ok (.goto 4, 3) := by decide +kernel
theorem dL_own_13 : decode cL_own 13 = .ok (.lconst 0, 1) := by decide +kernel
theorem dL_own_14 : decode cL_own 14 = .ok (.lreturn, 1) := by decide +kernel
theorem dL_own_15 : decode cL_own 15 = .ok (.astore_n 3, 1) := by decide +kernel
theorem dL_own_16 : decode cL_own 16 = .ok (.ldc2_w 21, 3) := by decide +kernel
theorem dL_own_19 : decode cL_own 19 = .ok (.lreturn, 1) := by decide +kernel
theorem dL_own_20 : decode cL_own 20 = .ok (.astore_n 3, 1) := by decide +kernel
theorem dL_own_21 : decode cL_own 21 = .ok (.ldc2_w 25, 3) := by decide +kernel
theorem dL_own_24 : decode cL_own 24 = .ok (.lreturn, 1) := by decide +kernel
theorem dL_ownAbove_0 : decode cL_ownAbove 0 = .ok (.aload_n 0, 1) := by decide +kernel
theorem dL_ownAbove_1 : decode cL_ownAbove 1 = .ok (.iload_n 1, 1) := by decide +kernel
theorem dL_ownAbove_2 : decode cL_ownAbove 2 = .ok (.iload_n 2, 1) := by decide +kernel
theorem dL_ownAbove_3 : decode cL_ownAbove 3 = .ok (.invokevirtual 68, 3) := by decide +kernel
theorem dL_ownAbove_6 : decode cL_ownAbove 6 = .ok (.i2l, 1) := by decide +kernel
theorem dL_ownAbove_7 : decode cL_ownAbove 7 = .ok (.lreturn, 1) := by decide +kernel
theorem dL_ownAbove_8 : decode cL_ownAbove 8 = .ok (.astore_n 3, 1) := by decide +kernel
theorem dL_ownAbove_9 : decode cL_ownAbove 9 = .ok (.ldc2_w 21, 3) := by decide +kernel
theorem dL_ownAbove_12 : decode cL_ownAbove 12 = .ok (.lreturn, 1) := by decide +kernel
theorem dL_ownAbove_13 : decode cL_ownAbove 13 = .ok (.astore_n 3, 1) := by decide +kernel
theorem dL_ownAbove_14 : decode cL_ownAbove 14 = .ok (.ldc2_w 25, 3) := by decide +kernel
theorem dL_ownAbove_17 : decode cL_ownAbove 17 = .ok (.lreturn, 1) := by decide +kernel
theorem dL_ownAbove_18 : decode cL_ownAbove 18 = .ok (.astore_n 3, 1) := by decide +kernel
theorem dL_ownAbove_19 : decode cL_ownAbove 19 = .ok (.ldc2_w 33, 3) := by decide +kernel
theorem dL_ownAbove_22 : decode cL_ownAbove 22 = .ok (.lreturn, 1) := by decide +kernel
theorem dL_ownUnder_0 : decode cL_ownUnder 0 = .ok (.aload_n 0, 1) := by decide +kernel
theorem dL_ownUnder_1 : decode cL_ownUnder 1 = .ok (.iload_n 1, 1) := by decide +kernel
theorem dL_ownUnder_2 : decode cL_ownUnder 2 = .ok (.iload_n 2, 1) := by decide +kernel
theorem dL_ownUnder_3 : decode cL_ownUnder 3 = .ok (.iload_n 3, 1) := by decide +kernel
theorem dL_ownUnder_4 : decode cL_ownUnder 4 = .ok (.invokevirtual 72, 3) := by decide +kernel
theorem dL_ownUnder_7 : decode cL_ownUnder 7 = .ok (.ifCond .eq 7, 3) := by decide +kernel
theorem dL_ownUnder_10 : decode cL_ownUnder 10 = .ok (.lconst 1, 1) := by decide +kernel
theorem dL_ownUnder_11 : decode cL_ownUnder 11 = .ok (.goto 4, 3) := by decide +kernel
theorem dL_ownUnder_14 : decode cL_ownUnder 14 = .ok (.lconst 0, 1) := by decide +kernel
theorem dL_ownUnder_15 : decode cL_ownUnder 15 = .ok (.lreturn, 1) := by decide +kernel
theorem dL_ownUnder_16 : decode cL_ownUnder 16 = .ok (.astore 4, 2) := by decide +kernel
theorem dL_ownUnder_18 : decode cL_ownUnder 18 = .ok (.ldc2_w 21, 3) := by decide +kernel
theorem dL_ownUnder_21 : decode cL_ownUnder 21 = .ok (.lreturn, 1) := by decide +kernel
theorem dL_ownUnder_22 : decode cL_ownUnder 22 = .ok (.astore 4, 2) := by decide +kernel
theorem dL_ownUnder_24 : decode cL_ownUnder 24 = .ok (.ldc2_w 25, 3) := by decide +kernel
theorem dL_ownUnder_27 : decode cL_ownUnder 27 = .ok (.lreturn, 1) := by decide +kernel
theorem dL_ownUnder_28 : decode cL_ownUnder 28 = .ok (.astore 4, 2) := by decide +kernel
theorem dL_ownUnder_30 : decode cL_ownUnder 30 = .ok (.ldc2_w 33, 3) := by decide +kernel
theorem dL_ownUnder_33 : decode cL_ownUnder 33 = .ok (.lreturn, 1) := by decide +kernel
theorem dL_ownUnder_34 : decode cL_ownUnder 34 = .ok (.astore 4, 2) := by decide +kernel
theorem dL_ownUnder_36 : decode cL_ownUnder 36 = .ok (.ldc2_w 78, 3) := by decide +kernel
theorem dL_ownUnder_39 : decode cL_ownUnder 39 = .ok (.lreturn, 1) := by decide +kernel
theorem dL_ownMethod_0 : decode cL_ownMethod 0 = .ok (.aload_n 0, 1) := by decide +kernel
theorem dL_ownMethod_1 : decode cL_ownMethod 1 = .ok (.iload_n 1, 1) := by decide +kernel
theorem dL_ownMethod_2 : decode cL_ownMethod 2 = .ok (.iload_n 2, 1) := by decide +kernel
theorem dL_ownMethod_3 : decode cL_ownMethod 3 = .ok (.iload_n 3, 1) := by decide +kernel
theorem dL_ownMethod_4 : decode cL_ownMethod 4 = .ok (.invokevirtual 80, 3) := by decide +kernel
theorem dL_ownMethod_7 : decode cL_ownMethod 7 = .ok (.i2l, 1) := by decide +kernel
theorem dL_ownMethod_8 : decode cL_ownMethod 8 = .ok (.lreturn, 1) := by decide +kernel
theorem dL_ownMethod_9 : decode cL_ownMethod 9 = .ok (.astore 4, 2) := by decide +kernel
theorem dL_ownMethod_11 : decode cL_ownMethod 11 = .ok (.ldc2_w 21, 3) := by decide +kernel
theorem dL_ownMethod_14 : decode cL_ownMethod 14 = .ok (.lreturn, 1) := by decide +kernel
theorem dL_ownMethod_15 : decode cL_ownMethod 15 = .ok (.astore 4, 2) := by decide +kernel
theorem dL_ownMethod_17 : decode cL_ownMethod 17 = .ok (.ldc2_w 25, 3) := by decide +kernel
theorem dL_ownMethod_20 : decode cL_ownMethod 20 = .ok (.lreturn, 1) := by decide +kernel
theorem dL_ownMethod_21 : decode cL_ownMethod 21 = .ok (.astore 4, 2) := by decide +kernel
theorem dL_ownMethod_23 : decode cL_ownMethod 23 = .ok (.ldc2_w 33, 3) := by decide +kernel
theorem dL_ownMethod_26 : decode cL_ownMethod 26 = .ok (.lreturn, 1) := by decide +kernel
theorem dL_act_0 : decode cL_act 0 = .ok (.aload_n 0, 1) := by decide +kernel
theorem dL_act_1 : decode cL_act 1 = .ok (.iload_n 1, 1) := by decide +kernel
theorem dL_act_2 : decode cL_act 2 = .ok (.iload_n 2, 1) := by decide +kernel
theorem dL_act_3 : decode cL_act 3 = .ok (.iload_n 3, 1) := by decide +kernel
theorem dL_act_4 : decode cL_act 4 = .ok (.iload 4, 2) := by decide +kernel
theorem dL_act_6 : decode cL_act 6 = .ok (.iload 5, 2) := by decide +kernel
theorem dL_act_8 : decode cL_act 8 = .ok (.iload 6, 2) := by decide +kernel
theorem dL_act_10 : decode cL_act 10 = .ok (.invokevirtual 84, 3) := by decide +kernel
theorem dL_act_13 : decode cL_act 13 = .ok (.i2l, 1) := by decide +kernel
theorem dL_act_14 : decode cL_act 14 = .ok (.lreturn, 1) := by decide +kernel
theorem dL_act_15 : decode cL_act 15 = .ok (.astore 7, 2) := by decide +kernel
theorem dL_act_17 : decode cL_act 17 = .ok (.ldc2_w 21, 3) := by decide +kernel
theorem dL_act_20 : decode cL_act 20 = .ok (.lreturn, 1) := by decide +kernel
theorem dL_act_21 : decode cL_act 21 = .ok (.astore 7, 2) := by decide +kernel
theorem dL_act_23 : decode cL_act 23 = .ok (.ldc2_w 25, 3) := by decide +kernel
theorem dL_act_26 : decode cL_act 26 = .ok (.lreturn, 1) := by decide +kernel
theorem dL_act_27 : decode cL_act 27 = .ok (.astore 7, 2) := by decide +kernel
theorem dL_act_29 : decode cL_act 29 = .ok (.ldc2_w 33, 3) := by decide +kernel
theorem dL_act_32 : decode cL_act 32 = .ok (.lreturn, 1) := by decide +kernel
theorem dL_run_0 : decode cL_run 0 = .ok (.aload_n 0, 1) := by decide +kernel
theorem dL_run_1 : decode cL_run 1 = .ok (.iload_n 1, 1) := by decide +kernel
theorem dL_run_2 : decode cL_run 2 = .ok (.iload_n 2, 1) := by decide +kernel
theorem dL_run_3 : decode cL_run 3 = .ok (.invokevirtual 88, 3) := by decide +kernel
theorem dL_run_6 : decode cL_run 6 = .ok (.i2l, 1) := by decide +kernel
theorem dL_run_7 : decode cL_run 7 = .ok (.lreturn, 1) := by decide +kernel
theorem dL_run_8 : decode cL_run 8 = .ok (.astore_n 3, 1) := by decide +kernel
theorem dL_run_9 : decode cL_run 9 = .ok (.ldc2_w 21, 3) := by decide +kernel
theorem dL_run_12 : decode cL_run 12 = .ok (.lreturn, 1) := by decide +kernel
theorem dL_run_13 : decode cL_run 13 = .ok (.astore_n 3, 1) := by decide +kernel
theorem dL_run_14 : decode cL_run 14 = .ok (.ldc2_w 25, 3) := by decide +kernel
theorem dL_run_17 : decode cL_run 17 = .ok (.lreturn, 1) := by decide +kernel
theorem dL_fault_0 : decode cL_fault 0 = .ok (.aload_n 0, 1) := by decide +kernel
theorem dL_fault_1 : decode cL_fault 1 = .ok (.invokevirtual 91, 3) := by decide +kernel
theorem dL_fault_4 : decode cL_fault 4 = .ok (.i2l, 1) := by decide +kernel
theorem dL_fault_5 : decode cL_fault 5 = .ok (.lreturn, 1) := by decide +kernel
theorem dL_fault_6 : decode cL_fault 6 = .ok (.astore_n 1, 1) := by decide +kernel
theorem dL_fault_7 : decode cL_fault 7 = .ok (.ldc2_w 21, 3) := by decide +kernel
theorem dL_fault_10 : decode cL_fault 10 = .ok (.lreturn, 1) := by decide +kernel
theorem dL_fits_0 : decode cL_fits 0 = .ok (.aload_n 0, 1) := by decide +kernel
theorem dL_fits_1 : decode cL_fits 1 = .ok (.iload_n 1, 1) := by decide +kernel
theorem dL_fits_2 : decode cL_fits 2 = .ok (.iload_n 2, 1) := by decide +kernel
theorem dL_fits_3 : decode cL_fits 3 = .ok (.invokevirtual 95, 3) := by decide +kernel
theorem dL_fits_6 : decode cL_fits 6 = .ok (.ifCond .eq 7, 3) := by decide +kernel
theorem dL_fits_9 : decode cL_fits 9 = .ok (.lconst 1, 1) := by decide +kernel
theorem dL_fits_10 : decode cL_fits 10 = .ok (.goto 4, 3) := by decide +kernel
theorem dL_fits_13 : decode cL_fits 13 = .ok (.lconst 0, 1) := by decide +kernel
theorem dL_fits_14 : decode cL_fits 14 = .ok (.lreturn, 1) := by decide +kernel
theorem dL_fits_15 : decode cL_fits 15 = .ok (.astore_n 3, 1) := by decide +kernel
theorem dL_fits_16 : decode cL_fits 16 = .ok (.ldc2_w 21, 3) := by decide +kernel
theorem dL_fits_19 : decode cL_fits 19 = .ok (.lreturn, 1) := by decide +kernel
theorem dL_fits_20 : decode cL_fits 20 = .ok (.astore_n 3, 1) := by decide +kernel
theorem dL_fits_21 : decode cL_fits 21 = .ok (.ldc2_w 25, 3) := by decide +kernel
theorem dL_fits_24 : decode cL_fits 24 = .ok (.lreturn, 1) := by decide +kernel
theorem dL_witness_0 : decode cL_witness 0 = .ok (.aload_n 0, 1) := by decide +kernel
theorem dL_witness_1 : decode cL_witness 1 = .ok (.iload_n 1, 1) := by decide +kernel
theorem dL_witness_2 : decode cL_witness 2 = .ok (.iload_n 2, 1) := by decide +kernel
theorem dL_witness_3 : decode cL_witness 3 = .ok (.iload_n 3, 1) := by decide +kernel
theorem dL_witness_4 : decode cL_witness 4 = .ok (.invokevirtual 99, 3) := by decide +kernel
theorem dL_witness_7 : decode cL_witness 7 = .ok (.i2l, 1) := by decide +kernel
theorem dL_witness_8 : decode cL_witness 8 = .ok (.lreturn, 1) := by decide +kernel
theorem dL_witness_9 : decode cL_witness 9 = .ok (.astore 4, 2) := by decide +kernel
theorem dL_witness_11 : decode cL_witness 11 = .ok (.ldc2_w 21, 3) := by decide +kernel
theorem dL_witness_14 : decode cL_witness 14 = .ok (.lreturn, 1) := by decide +kernel
theorem dL_witness_15 : decode cL_witness 15 = .ok (.astore 4, 2) := by decide +kernel
theorem dL_witness_17 : decode cL_witness 17 = .ok (.ldc2_w 25, 3) := by decide +kernel
theorem dL_witness_20 : decode cL_witness 20 = .ok (.lreturn, 1) := by decide +kernel
theorem dL_witness_21 : decode cL_witness 21 = .ok (.astore 4, 2) := by decide +kernel
theorem dL_witness_23 : decode cL_witness 23 = .ok (.ldc2_w 33, 3) := by decide +kernel
theorem dL_witness_26 : decode cL_witness 26 = .ok (.lreturn, 1) := by decide +kernel
theorem dL_isSound_0 : decode cL_isSound 0 = .ok (.aload_n 0, 1) := by decide +kernel
theorem dL_isSound_1 : decode cL_isSound 1 = .ok (.invokevirtual 109, 3) := by decide +kernel
theorem dL_isSound_4 : decode cL_isSound 4 = .ok (.ifCond .eq 7, 3) := by decide +kernel
theorem dL_isSound_7 : decode cL_isSound 7 = .ok (.lconst 1, 1) := by decide +kernel
theorem dL_isSound_8 : decode cL_isSound 8 = .ok (.goto 4, 3) := by decide +kernel
theorem dL_isSound_11 : decode cL_isSound 11 = .ok (.lconst 0, 1) := by decide +kernel
theorem dL_isSound_12 : decode cL_isSound 12 = .ok (.lreturn, 1) := by decide +kernel
theorem dL_makes_0 : decode cL_makes 0 = .ok (.iconst 0, 1) := by decide +kernel
theorem dL_makes_1 : decode cL_makes 1 = .ok (.istore 4, 2) := by decide +kernel
theorem dL_makes_3 : decode cL_makes 3 = .ok (.iload 4, 2) := by decide +kernel
theorem dL_makes_5 : decode cL_makes 5 = .ok (.iconst 5, 1) := by decide +kernel
theorem dL_makes_6 : decode cL_makes 6 = .ok (.if_icmp .ge 66, 3) := by decide +kernel
theorem dL_makes_9 : decode cL_makes 9 = .ok (.aload_n 2, 1) := by decide +kernel
theorem dL_makes_10 : decode cL_makes 10 = .ok (.iload_n 3, 1) := by decide +kernel
theorem dL_makes_11 : decode cL_makes 11 = .ok (.iload 4, 2) := by decide +kernel
theorem dL_makes_13 : decode cL_makes 13 = .ok (.iadd, 1) := by decide +kernel
theorem dL_makes_14 : decode cL_makes 14 = .ok (.invokestatic 113, 3) := by decide +kernel
theorem dL_makes_17 : decode cL_makes 17 = .ok (.sipush 1000, 3) := by decide +kernel
theorem dL_makes_20 : decode cL_makes 20 = .ok (.invokestatic 117, 3) := by decide +kernel
theorem dL_makes_23 : decode cL_makes 23 = .ok (.istore 5, 2) := by decide +kernel
theorem dL_makes_25 : decode cL_makes 25 = .ok (.aload_n 0, 1) := by decide +kernel
theorem dL_makes_26 : decode cL_makes 26 = .ok (.iload_n 1, 1) := by decide +kernel
theorem dL_makes_27 : decode cL_makes 27 = .ok (.bipush 65, 2) := by decide +kernel
theorem dL_makes_29 : decode cL_makes 29 = .ok (.iload 4, 2) := by decide +kernel
theorem dL_makes_31 : decode cL_makes 31 = .ok (.iadd, 1) := by decide +kernel
theorem dL_makes_32 : decode cL_makes 32 = .ok (.i2c, 1) := by decide +kernel
theorem dL_makes_33 : decode cL_makes 33 = .ok (.iload 5, 2) := by decide +kernel
theorem dL_makes_35 : decode cL_makes 35 = .ok (.bipush 8, 2) := by decide +kernel
theorem dL_makes_37 : decode cL_makes 37 = .ok (.irem, 1) := by decide +kernel
theorem dL_makes_38 : decode cL_makes 38 = .ok (.ifCond .ne 8, 3) := by decide +kernel
theorem dL_makes_41 : decode cL_makes 41 = .ok (.bipush 45, 2) := by decide +kernel
theorem dL_makes_43 : decode cL_makes 43 = .ok (.goto 19, 3) := by decide +kernel
theorem dL_makes_46 : decode cL_makes 46 = .ok (.iload 5, 2) := by decide +kernel
theorem dL_makes_48 : decode cL_makes 48 = .ok (.bipush 8, 2) := by decide +kernel
theorem dL_makes_50 : decode cL_makes 50 = .ok (.irem, 1) := by decide +kernel
theorem dL_makes_51 : decode cL_makes 51 = .ok (.iconst 4, 1) := by decide +kernel
theorem dL_makes_52 : decode cL_makes 52 = .ok (.if_icmp .ge 8, 3) := by decide +kernel
theorem dL_makes_55 : decode cL_makes 55 = .ok (.bipush 105, 2) := by decide +kernel
theorem dL_makes_57 : decode cL_makes 57 = .ok (.goto 5, 3) := by decide +kernel
theorem dL_makes_60 : decode cL_makes 60 = .ok (.bipush 99, 2) := by decide +kernel
theorem dL_makes_62 : decode cL_makes 62 = .ok (.invokestatic 120, 3) := by decide +kernel
theorem dL_makes_65 : decode cL_makes 65 = .ok (.pop2, 1) := by decide +kernel
theorem dL_makes_66 : decode cL_makes 66 = .ok (.iinc 4 1, 3) := by decide +kernel
theorem dL_makes_69 : decode cL_makes 69 = .ok (.goto (-66), 3) := by decide +kernel
theorem dL_makes_72 : decode cL_makes 72 = .ok (.iconst 0, 1) := by decide +kernel
theorem dL_makes_73 : decode cL_makes 73 = .ok (.istore 4, 2) := by decide +kernel
theorem dL_makes_75 : decode cL_makes 75 = .ok (.iload 4, 2) := by decide +kernel
theorem dL_makes_77 : decode cL_makes 77 = .ok (.bipush 18, 2) := by decide +kernel
theorem dL_makes_79 : decode cL_makes 79 = .ok (.if_icmp .ge 36, 3) := by decide +kernel
theorem dL_makes_82 : decode cL_makes 82 = .ok (.aload_n 0, 1) := by decide +kernel
theorem dL_makes_83 : decode cL_makes 83 = .ok (.iload_n 1, 1) := by decide +kernel
theorem dL_makes_84 : decode cL_makes 84 = .ok (.aload_n 2, 1) := by decide +kernel
theorem dL_makes_85 : decode cL_makes 85 = .ok (.iload_n 3, 1) := by decide +kernel
theorem dL_makes_86 : decode cL_makes 86 = .ok (.iconst 5, 1) := by decide +kernel
theorem dL_makes_87 : decode cL_makes 87 = .ok (.iadd, 1) := by decide +kernel
theorem dL_makes_88 : decode cL_makes 88 = .ok (.iload 4, 2) := by decide +kernel
theorem dL_makes_90 : decode cL_makes 90 = .ok (.iadd, 1) := by decide +kernel
theorem dL_makes_91 : decode cL_makes 91 = .ok (.invokestatic 113, 3) := by decide +kernel
theorem dL_makes_94 : decode cL_makes 94 = .ok (.sipush 7919, 3) := by decide +kernel
theorem dL_makes_97 : decode cL_makes 97 = .ok (.iload 4, 2) := by decide +kernel
theorem dL_makes_99 : decode cL_makes 99 = .ok (.imul, 1) := by decide +kernel
theorem dL_makes_100 : decode cL_makes 100 = .ok (.iadd, 1) := by decide +kernel
theorem dL_makes_101 : decode cL_makes 101 = .ok (.ldc 123, 2) := by decide +kernel
theorem dL_makes_103 : decode cL_makes 103 = .ok (.invokestatic 117, 3) := by decide +kernel
theorem dL_makes_106 : decode cL_makes 106 = .ok (.invokestatic 124, 3) := by decide +kernel
theorem dL_makes_109 : decode cL_makes 109 = .ok (.iinc 4 1, 3) := by decide +kernel
theorem dL_makes_112 : decode cL_makes 112 = .ok (.goto (-37), 3) := by decide +kernel
theorem dL_makes_115 : decode cL_makes 115 = .ok (.return_, 1) := by decide +kernel
theorem dL_changes_0 : decode cL_changes 0 = .ok (.bipush 65, 2) := by decide +kernel
theorem dL_changes_2 : decode cL_changes 2 = .ok (.iload_n 2, 1) := by decide +kernel
theorem dL_changes_3 : decode cL_changes 3 = .ok (.iconst 5, 1) := by decide +kernel
theorem dL_changes_4 : decode cL_changes 4 = .ok (.irem, 1) := by decide +kernel
theorem dL_changes_5 : decode cL_changes 5 = .ok (.iadd, 1) := by decide +kernel
theorem dL_changes_6 : decode cL_changes 6 = .ok (.i2c, 1) := by decide +kernel
theorem dL_changes_7 : decode cL_changes 7 = .ok (.istore_n 3, 1) := by decide +kernel
theorem dL_changes_8 : decode cL_changes 8 = .ok (.bipush 65, 2) := by decide +kernel
theorem dL_changes_10 : decode cL_changes 10 = .ok (.iload_n 2, 1) := by decide +kernel
theorem dL_changes_11 : decode cL_changes 11 = .ok (.iconst 5, 1) := by decide +kernel
theorem dL_changes_12 : decode cL_changes 12 = .ok (.idiv, 1) := by decide +kernel
theorem dL_changes_13 : decode cL_changes 13 = .ok (.iconst 5, 1) := by decide +kernel
theorem dL_changes_14 : decode cL_changes 14 = .ok (.irem, 1) := by decide +kernel
theorem dL_changes_15 : decode cL_changes 15 = .ok (.iadd, 1) := by decide +kernel
theorem dL_changes_16 : decode cL_changes 16 = .ok (.i2c, 1) := by decide +kernel
theorem dL_changes_17 : decode cL_changes 17 = .ok (.istore 4, 2) := by decide +kernel
theorem dL_changes_19 : decode cL_changes 19 = .ok (.bipush 97, 2) := by decide +kernel
theorem dL_changes_21 : decode cL_changes 21 = .ok (.iload_n 2, 1) := by decide +kernel
theorem dL_changes_22 : decode cL_changes 22 = .ok (.bipush 25, 2) := by decide +kernel
theorem dL_changes_24 : decode cL_changes 24 = .ok (.idiv, 1) := by decide +kernel
theorem dL_changes_25 : decode cL_changes 25 = .ok (.iconst 2, 1) := by decide +kernel
theorem dL_changes_26 : decode cL_changes 26 = .ok (.irem, 1) := by decide +kernel
theorem dL_changes_27 : decode cL_changes 27 = .ok (.iadd, 1) := by decide +kernel
theorem dL_changes_28 : decode cL_changes 28 = .ok (.i2c, 1) := by decide +kernel
theorem dL_changes_29 : decode cL_changes 29 = .ok (.istore 5, 2) := by decide +kernel
theorem dL_changes_31 : decode cL_changes 31 = .ok (.iload_n 2, 1) := by decide +kernel
theorem dL_changes_32 : decode cL_changes 32 = .ok (.bipush 50, 2) := by decide +kernel
theorem dL_changes_34 : decode cL_changes 34 = .ok (.idiv, 1) := by decide +kernel
theorem dL_changes_35 : decode cL_changes 35 = .ok (.iconst 5, 1) := by decide +kernel
theorem dL_changes_36 : decode cL_changes 36 = .ok (.irem, 1) := by decide +kernel
theorem dL_changes_37 : decode cL_changes 37 = .ok (.ifCond .ne 7, 3) := by decide +kernel
theorem dL_changes_40 : decode cL_changes 40 = .ok (.iconst 1, 1) := by decide +kernel
theorem dL_changes_41 : decode cL_changes 41 = .ok (.goto 4, 3) := by decide +kernel
theorem dL_changes_44 : decode cL_changes 44 = .ok (.iconst 0, 1) := by decide +kernel
theorem dL_changes_45 : decode cL_changes 45 = .ok (.istore 6, 2) := by decide +kernel
theorem dL_changes_47 : decode cL_changes 47 = .ok (.ldc 128, 2) := by decide +kernel
theorem dL_changes_49 : decode cL_changes 49 = .ok (.iload_n 2, 1) := by decide +kernel
theorem dL_changes_50 : decode cL_changes 50 = .ok (.sipush 250, 3) := by decide +kernel
theorem dL_changes_53 : decode cL_changes 53 = .ok (.idiv, 1) := by decide +kernel
theorem dL_changes_54 : decode cL_changes 54 = .ok (.bipush 6, 2) := by decide +kernel
theorem dL_changes_56 : decode cL_changes 56 = .ok (.irem, 1) := by decide +kernel
theorem dL_changes_57 : decode cL_changes 57 = .ok (.invokevirtual 130, 3) := by decide +kernel
theorem dL_changes_60 : decode cL_changes 60 = .ok (.istore 7, 2) := by decide +kernel
theorem dL_changes_62 : decode cL_changes 62 = .ok (.iload_n 2, 1) := by decide +kernel
theorem dL_changes_63 : decode cL_changes 63 = .ok (.sipush 1500, 3) := by decide +kernel
theorem dL_changes_66 : decode cL_changes 66 = .ok (.idiv, 1) := by decide +kernel
theorem dL_changes_67 : decode cL_changes 67 = .ok (.bipush 100, 2) := by decide +kernel
theorem dL_changes_69 : decode cL_changes 69 = .ok (.irem, 1) := by decide +kernel
theorem dL_changes_70 : decode cL_changes 70 = .ok (.istore 8, 2) := by decide +kernel
theorem dL_changes_72 : decode cL_changes 72 = .ok (.iload_n 2, 1) := by decide +kernel
theorem dL_changes_73 : decode cL_changes 73 = .ok (.bipush 7, 2) := by decide +kernel
theorem dL_changes_75 : decode cL_changes 75 = .ok (.idiv, 1) := by decide +kernel
theorem dL_changes_76 : decode cL_changes 76 = .ok (.bipush 11, 2) := by decide +kernel
theorem dL_changes_78 : decode cL_changes 78 = .ok (.irem, 1) := by decide +kernel
theorem dL_changes_79 : decode cL_changes 79 = .ok (.tableswitch 238 0 9 #[53, 79, 79, 105, 105, 105, 148, 148, 191, 226], 53) := by decide +kernel
theorem dL_changes_132 : decode cL_changes 132 = .ok (.aload_n 0, 1) := by decide +kernel
theorem dL_changes_133 : decode cL_changes 133 = .ok (.iload_n 1, 1) := by decide +kernel
theorem dL_changes_134 : decode cL_changes 134 = .ok (.iload_n 3, 1) := by decide +kernel
theorem dL_changes_135 : decode cL_changes 135 = .ok (.iload_n 2, 1) := by decide +kernel
theorem dL_changes_136 : decode cL_changes 136 = .ok (.bipush 25, 2) := by decide +kernel
theorem dL_changes_138 : decode cL_changes 138 = .ok (.idiv, 1) := by decide +kernel
theorem dL_changes_139 : decode cL_changes 139 = .ok (.iconst 3, 1) := by decide +kernel
theorem dL_changes_140 : decode cL_changes 140 = .ok (.irem, 1) := by decide +kernel
theorem dL_changes_141 : decode cL_changes 141 = .ok (.ifCond .ne 8, 3) := by decide +kernel
theorem dL_changes_144 : decode cL_changes 144 = .ok (.bipush 45, 2) := by decide +kernel
theorem dL_changes_146 : decode cL_changes 146 = .ok (.goto 5, 3) := by decide +kernel
theorem dL_changes_149 : decode cL_changes 149 = .ok (.iload 4, 2) := by decide +kernel
theorem dL_changes_151 : decode cL_changes 151 = .ok (.invokestatic 136, 3) := by decide +kernel
theorem dL_changes_154 : decode cL_changes 154 = .ok (.pop2, 1) := by decide +kernel
theorem dL_changes_155 : decode cL_changes 155 = .ok (.goto 180, 3) := by decide +kernel
theorem dL_changes_158 : decode cL_changes 158 = .ok (.aload_n 0, 1) := by decide +kernel
theorem dL_changes_159 : decode cL_changes 159 = .ok (.iload_n 1, 1) := by decide +kernel
theorem dL_changes_160 : decode cL_changes 160 = .ok (.iload_n 3, 1) := by decide +kernel
theorem dL_changes_161 : decode cL_changes 161 = .ok (.iload 4, 2) := by decide +kernel
theorem dL_changes_163 : decode cL_changes 163 = .ok (.iload_n 2, 1) := by decide +kernel
theorem dL_changes_164 : decode cL_changes 164 = .ok (.bipush 25, 2) := by decide +kernel
theorem dL_changes_166 : decode cL_changes 166 = .ok (.idiv, 1) := by decide +kernel
theorem dL_changes_167 : decode cL_changes 167 = .ok (.iconst 3, 1) := by decide +kernel
theorem dL_changes_168 : decode cL_changes 168 = .ok (.irem, 1) := by decide +kernel
theorem dL_changes_169 : decode cL_changes 169 = .ok (.ifCond .le 7, 3) := by decide +kernel
theorem dL_changes_172 : decode cL_changes 172 = .ok (.iconst 1, 1) := by decide +kernel
theorem dL_changes_173 : decode cL_changes 173 = .ok (.goto 4, 3) := by decide +kernel
theorem dL_changes_176 : decode cL_changes 176 = .ok (.iconst 0, 1) := by decide +kernel
theorem dL_changes_177 : decode cL_changes 177 = .ok (.invokestatic 138, 3) := by decide +kernel
theorem dL_changes_180 : decode cL_changes 180 = .ok (.pop2, 1) := by decide +kernel
theorem dL_changes_181 : decode cL_changes 181 = .ok (.goto 154, 3) := by decide +kernel
theorem dL_changes_184 : decode cL_changes 184 = .ok (.aload_n 0, 1) := by decide +kernel
theorem dL_changes_185 : decode cL_changes 185 = .ok (.iload_n 1, 1) := by decide +kernel
theorem dL_changes_186 : decode cL_changes 186 = .ok (.iload_n 3, 1) := by decide +kernel
theorem dL_changes_187 : decode cL_changes 187 = .ok (.iload 5, 2) := by decide +kernel
theorem dL_changes_189 : decode cL_changes 189 = .ok (.iload 6, 2) := by decide +kernel
theorem dL_changes_191 : decode cL_changes 191 = .ok (.iload_n 2, 1) := by decide +kernel
theorem dL_changes_192 : decode cL_changes 192 = .ok (.sipush 150, 3) := by decide +kernel
theorem dL_changes_195 : decode cL_changes 195 = .ok (.idiv, 1) := by decide +kernel
theorem dL_changes_196 : decode cL_changes 196 = .ok (.iconst 5, 1) := by decide +kernel
theorem dL_changes_197 : decode cL_changes 197 = .ok (.irem, 1) := by decide +kernel
theorem dL_changes_198 : decode cL_changes 198 = .ok (.ifCond .ne 8, 3) := by decide +kernel
theorem dL_changes_201 : decode cL_changes 201 = .ok (.bipush 45, 2) := by decide +kernel
theorem dL_changes_203 : decode cL_changes 203 = .ok (.goto 5, 3) := by decide +kernel
theorem dL_changes_206 : decode cL_changes 206 = .ok (.iload 7, 2) := by decide +kernel
theorem dL_changes_208 : decode cL_changes 208 = .ok (.ldc 141, 2) := by decide +kernel
theorem dL_changes_210 : decode cL_changes 210 = .ok (.iload_n 2, 1) := by decide +kernel
theorem dL_changes_211 : decode cL_changes 211 = .ok (.iconst 3, 1) := by decide +kernel
theorem dL_changes_212 : decode cL_changes 212 = .ok (.idiv, 1) := by decide +kernel
theorem dL_changes_213 : decode cL_changes 213 = .ok (.iconst 5, 1) := by decide +kernel
theorem dL_changes_214 : decode cL_changes 214 = .ok (.irem, 1) := by decide +kernel
theorem dL_changes_215 : decode cL_changes 215 = .ok (.invokevirtual 130, 3) := by decide +kernel
theorem dL_changes_218 : decode cL_changes 218 = .ok (.iload 8, 2) := by decide +kernel
theorem dL_changes_220 : decode cL_changes 220 = .ok (.invokestatic 143, 3) := by decide +kernel
theorem dL_changes_223 : decode cL_changes 223 = .ok (.pop2, 1) := by decide +kernel
theorem dL_changes_224 : decode cL_changes 224 = .ok (.goto 111, 3) := by decide +kernel
theorem dL_changes_227 : decode cL_changes 227 = .ok (.aload_n 0, 1) := by decide +kernel
theorem dL_changes_228 : decode cL_changes 228 = .ok (.iload_n 1, 1) := by decide +kernel
theorem dL_changes_229 : decode cL_changes 229 = .ok (.iload_n 3, 1) := by decide +kernel
theorem dL_changes_230 : decode cL_changes 230 = .ok (.iload 5, 2) := by decide +kernel
theorem dL_changes_232 : decode cL_changes 232 = .ok (.iload 6, 2) := by decide +kernel
theorem dL_changes_234 : decode cL_changes 234 = .ok (.iload_n 2, 1) := by decide +kernel
theorem dL_changes_235 : decode cL_changes 235 = .ok (.sipush 150, 3) := by decide +kernel
theorem dL_changes_238 : decode cL_changes 238 = .ok (.idiv, 1) := by decide +kernel
theorem dL_changes_239 : decode cL_changes 239 = .ok (.iconst 5, 1) := by decide +kernel
theorem dL_changes_240 : decode cL_changes 240 = .ok (.irem, 1) := by decide +kernel
theorem dL_changes_241 : decode cL_changes 241 = .ok (.ifCond .ne 8, 3) := by decide +kernel
theorem dL_changes_244 : decode cL_changes 244 = .ok (.bipush 45, 2) := by decide +kernel
theorem dL_changes_246 : decode cL_changes 246 = .ok (.goto 5, 3) := by decide +kernel
theorem dL_changes_249 : decode cL_changes 249 = .ok (.iload 7, 2) := by decide +kernel
theorem dL_changes_251 : decode cL_changes 251 = .ok (.ldc 146, 2) := by decide +kernel
theorem dL_changes_253 : decode cL_changes 253 = .ok (.iload_n 2, 1) := by decide +kernel
theorem dL_changes_254 : decode cL_changes 254 = .ok (.iconst 3, 1) := by decide +kernel
theorem dL_changes_255 : decode cL_changes 255 = .ok (.idiv, 1) := by decide +kernel
theorem dL_changes_256 : decode cL_changes 256 = .ok (.iconst 5, 1) := by decide +kernel
theorem dL_changes_257 : decode cL_changes 257 = .ok (.irem, 1) := by decide +kernel
theorem dL_changes_258 : decode cL_changes 258 = .ok (.invokevirtual 130, 3) := by decide +kernel
theorem dL_changes_261 : decode cL_changes 261 = .ok (.iload 8, 2) := by decide +kernel
theorem dL_changes_263 : decode cL_changes 263 = .ok (.invokestatic 148, 3) := by decide +kernel
theorem dL_changes_266 : decode cL_changes 266 = .ok (.pop2, 1) := by decide +kernel
theorem dL_changes_267 : decode cL_changes 267 = .ok (.goto 68, 3) := by decide +kernel
theorem dL_changes_270 : decode cL_changes 270 = .ok (.aload_n 0, 1) := by decide +kernel
theorem dL_changes_271 : decode cL_changes 271 = .ok (.iload_n 1, 1) := by decide +kernel
theorem dL_changes_272 : decode cL_changes 272 = .ok (.iload_n 3, 1) := by decide +kernel
theorem dL_changes_273 : decode cL_changes 273 = .ok (.ldc 150, 2) := by decide +kernel
theorem dL_changes_275 : decode cL_changes 275 = .ok (.iload_n 2, 1) := by decide +kernel
theorem dL_changes_276 : decode cL_changes 276 = .ok (.bipush 25, 2) := by decide +kernel
theorem dL_changes_278 : decode cL_changes 278 = .ok (.idiv, 1) := by decide +kernel
theorem dL_changes_279 : decode cL_changes 279 = .ok (.iconst 3, 1) := by decide +kernel
theorem dL_changes_280 : decode cL_changes 280 = .ok (.irem, 1) := by decide +kernel
theorem dL_changes_281 : decode cL_changes 281 = .ok (.invokevirtual 130, 3) := by decide +kernel
theorem dL_changes_284 : decode cL_changes 284 = .ok (.iload_n 2, 1) := by decide +kernel
theorem dL_changes_285 : decode cL_changes 285 = .ok (.bipush 75, 2) := by decide +kernel
theorem dL_changes_287 : decode cL_changes 287 = .ok (.idiv, 1) := by decide +kernel
theorem dL_changes_288 : decode cL_changes 288 = .ok (.iconst 2, 1) := by decide +kernel
theorem dL_changes_289 : decode cL_changes 289 = .ok (.irem, 1) := by decide +kernel
theorem dL_changes_290 : decode cL_changes 290 = .ok (.ifCond .ne 7, 3) := by decide +kernel
theorem dL_changes_293 : decode cL_changes 293 = .ok (.iconst 1, 1) := by decide +kernel
theorem dL_changes_294 : decode cL_changes 294 = .ok (.goto 4, 3) := by decide +kernel
theorem dL_changes_297 : decode cL_changes 297 = .ok (.iconst 0, 1) := by decide +kernel
theorem dL_changes_298 : decode cL_changes 298 = .ok (.invokestatic 152, 3) := by decide +kernel
theorem dL_changes_301 : decode cL_changes 301 = .ok (.pop2, 1) := by decide +kernel
theorem dL_changes_302 : decode cL_changes 302 = .ok (.goto 33, 3) := by decide +kernel
theorem dL_changes_305 : decode cL_changes 305 = .ok (.aload_n 0, 1) := by decide +kernel
theorem dL_changes_306 : decode cL_changes 306 = .ok (.iload_n 1, 1) := by decide +kernel
theorem dL_changes_307 : decode cL_changes 307 = .ok (.iload_n 3, 1) := by decide +kernel
theorem dL_changes_308 : decode cL_changes 308 = .ok (.iload 7, 2) := by decide +kernel
theorem dL_changes_310 : decode cL_changes 310 = .ok (.invokestatic 154, 3) := by decide +kernel
theorem dL_changes_313 : decode cL_changes 313 = .ok (.pop2, 1) := by decide +kernel
theorem dL_changes_314 : decode cL_changes 314 = .ok (.goto 21, 3) := by decide +kernel
theorem dL_changes_317 : decode cL_changes 317 = .ok (.aload_n 0, 1) := by decide +kernel
theorem dL_changes_318 : decode cL_changes 318 = .ok (.iload_n 1, 1) := by decide +kernel
theorem dL_changes_319 : decode cL_changes 319 = .ok (.iload_n 3, 1) := by decide +kernel
theorem dL_changes_320 : decode cL_changes 320 = .ok (.ldc 156, 2) := by decide +kernel
theorem dL_changes_322 : decode cL_changes 322 = .ok (.iload_n 2, 1) := by decide +kernel
theorem dL_changes_323 : decode cL_changes 323 = .ok (.bipush 25, 2) := by decide +kernel
theorem dL_changes_325 : decode cL_changes 325 = .ok (.idiv, 1) := by decide +kernel
theorem dL_changes_326 : decode cL_changes 326 = .ok (.iconst 3, 1) := by decide +kernel
theorem dL_changes_327 : decode cL_changes 327 = .ok (.irem, 1) := by decide +kernel
theorem dL_changes_328 : decode cL_changes 328 = .ok (.invokevirtual 130, 3) := by decide +kernel
theorem dL_changes_331 : decode cL_changes 331 = .ok (.invokestatic 120, 3) := by decide +kernel
theorem dL_changes_334 : decode cL_changes 334 = .ok (.pop2, 1) := by decide +kernel
theorem dL_changes_335 : decode cL_changes 335 = .ok (.return_, 1) := by decide +kernel
theorem dL_isMended_0 : decode cL_isMended 0 = .ok (.iconst 0, 1) := by decide +kernel
theorem dL_isMended_1 : decode cL_isMended 1 = .ok (.istore_n 2, 1) := by decide +kernel
theorem dL_isMended_2 : decode cL_isMended 2 = .ok (.iload_n 2, 1) := by decide +kernel
theorem dL_isMended_3 : decode cL_isMended 3 = .ok (.bipush 6, 2) := by decide +kernel
theorem dL_isMended_5 : decode cL_isMended 5 = .ok (.if_icmp .ge 42, 3) := by decide +kernel
theorem dL_isMended_8 : decode cL_isMended 8 = .ok (.aload_n 0, 1) := by decide +kernel
theorem dL_isMended_9 : decode cL_isMended 9 = .ok (.iload_n 1, 1) := by decide +kernel
theorem dL_isMended_10 : decode cL_isMended 10 = .ok (.invokestatic 158, 3) := by decide +kernel
theorem dL_isMended_13 : decode cL_isMended 13 = .ok (.lconst 0, 1) := by decide +kernel
theorem dL_isMended_14 : decode cL_isMended 14 = .ok (.lcmp, 1) := by decide +kernel
theorem dL_isMended_15 : decode cL_isMended 15 = .ok (.ifCond .lt 32, 3) := by decide +kernel
theorem dL_isMended_18 : decode cL_isMended 18 = .ok (.aload_n 0, 1) := by decide +kernel
theorem dL_isMended_19 : decode cL_isMended 19 = .ok (.iload_n 1, 1) := by decide +kernel
theorem dL_isMended_20 : decode cL_isMended 20 = .ok (.ldc2_w 161, 3) := by decide +kernel
theorem dL_isMended_23 : decode cL_isMended 23 = .ok (.aload_n 0, 1) := by decide +kernel
theorem dL_isMended_24 : decode cL_isMended 24 = .ok (.iload_n 1, 1) := by decide +kernel
theorem dL_isMended_25 : decode cL_isMended 25 = .ok (.invokestatic 158, 3) := by decide +kernel
theorem dL_isMended_28 : decode cL_isMended 28 = .ok (.ldc2_w 163, 3) := by decide +kernel
theorem dL_isMended_31 : decode cL_isMended 31 = .ok (.ldiv, 1) := by decide +kernel
theorem dL_isMended_32 : decode cL_isMended 32 = .ok (.ladd, 1) := by decide +kernel
theorem dL_isMended_33 : decode cL_isMended 33 = .ok (.l2i, 1) := by decide +kernel
theorem dL_isMended_34 : decode cL_isMended 34 = .ok (.i2c, 1) := by decide +kernel
theorem dL_isMended_35 : decode cL_isMended 35 = .ok (.bipush 45, 2) := by decide +kernel
theorem dL_isMended_37 : decode cL_isMended 37 = .ok (.invokestatic 120, 3) := by decide +kernel
theorem dL_isMended_40 : decode cL_isMended 40 = .ok (.pop2, 1) := by decide +kernel
theorem dL_isMended_41 : decode cL_isMended 41 = .ok (.iinc 2 1, 3) := by decide +kernel
theorem dL_isMended_44 : decode cL_isMended 44 = .ok (.goto (-42), 3) := by decide +kernel
theorem dL_isMended_47 : decode cL_isMended 47 = .ok (.aload_n 0, 1) := by decide +kernel
theorem dL_isMended_48 : decode cL_isMended 48 = .ok (.iload_n 1, 1) := by decide +kernel
theorem dL_isMended_49 : decode cL_isMended 49 = .ok (.invokestatic 158, 3) := by decide +kernel
theorem dL_isMended_52 : decode cL_isMended 52 = .ok (.ldc2_w 165, 3) := by decide +kernel
theorem dL_isMended_55 : decode cL_isMended 55 = .ok (.lcmp, 1) := by decide +kernel
theorem dL_isMended_56 : decode cL_isMended 56 = .ok (.ifCond .ne 7, 3) := by decide +kernel
theorem dL_isMended_59 : decode cL_isMended 59 = .ok (.iconst 1, 1) := by decide +kernel
theorem dL_isMended_60 : decode cL_isMended 60 = .ok (.goto 4, 3) := by decide +kernel
theorem dL_isMended_63 : decode cL_isMended 63 = .ok (.iconst 0, 1) := by decide +kernel
theorem dL_isMended_64 : decode cL_isMended 64 = .ok (.ireturn, 1) := by decide +kernel
theorem dL_asks_0 : decode cL_asks 0 = .ok (.aload_n 0, 1) := by decide +kernel
theorem dL_asks_1 : decode cL_asks 1 = .ok (.iload_n 1, 1) := by decide +kernel
theorem dL_asks_2 : decode cL_asks 2 = .ok (.invokestatic 167, 3) := by decide +kernel
theorem dL_asks_5 : decode cL_asks 5 = .ok (.pop2, 1) := by decide +kernel
theorem dL_asks_6 : decode cL_asks 6 = .ok (.aload_n 2, 1) := by decide +kernel
theorem dL_asks_7 : decode cL_asks 7 = .ok (.iload_n 3, 1) := by decide +kernel
theorem dL_asks_8 : decode cL_asks 8 = .ok (.invokestatic 113, 3) := by decide +kernel
theorem dL_asks_11 : decode cL_asks 11 = .ok (.ldc 169, 2) := by decide +kernel
theorem dL_asks_13 : decode cL_asks 13 = .ok (.iload_n 3, 1) := by decide +kernel
theorem dL_asks_14 : decode cL_asks 14 = .ok (.imul, 1) := by decide +kernel
theorem dL_asks_15 : decode cL_asks 15 = .ok (.iadd, 1) := by decide +kernel
theorem dL_asks_16 : decode cL_asks 16 = .ok (.ldc 170, 2) := by decide +kernel
theorem dL_asks_18 : decode cL_asks 18 = .ok (.invokestatic 117, 3) := by decide +kernel
theorem dL_asks_21 : decode cL_asks 21 = .ok (.istore 5, 2) := by decide +kernel
theorem dL_asks_23 : decode cL_asks 23 = .ok (.iconst 0, 1) := by decide +kernel
theorem dL_asks_24 : decode cL_asks 24 = .ok (.istore 6, 2) := by decide +kernel
theorem dL_asks_26 : decode cL_asks 26 = .ok (.iload 5, 2) := by decide +kernel
theorem dL_asks_28 : decode cL_asks 28 = .ok (.iconst 3, 1) := by decide +kernel
theorem dL_asks_29 : decode cL_asks 29 = .ok (.irem, 1) := by decide +kernel
theorem dL_asks_30 : decode cL_asks 30 = .ok (.ifCond .le 106, 3) := by decide +kernel
theorem dL_asks_33 : decode cL_asks 33 = .ok (.aload_n 0, 1) := by decide +kernel
theorem dL_asks_34 : decode cL_asks 34 = .ok (.iload_n 1, 1) := by decide +kernel
theorem dL_asks_35 : decode cL_asks 35 = .ok (.iconst 1, 1) := by decide +kernel
theorem dL_asks_36 : decode cL_asks 36 = .ok (.invokestatic 171, 3) := by decide +kernel
theorem dL_asks_39 : decode cL_asks 39 = .ok (.pop2, 1) := by decide +kernel
theorem dL_asks_40 : decode cL_asks 40 = .ok (.iconst 1, 1) := by decide +kernel
theorem dL_asks_41 : decode cL_asks 41 = .ok (.istore 6, 2) := by decide +kernel
theorem dL_asks_43 : decode cL_asks 43 = .ok (.iload 5, 2) := by decide +kernel
theorem dL_asks_45 : decode cL_asks 45 = .ok (.iconst 3, 1) := by decide +kernel
theorem dL_asks_46 : decode cL_asks 46 = .ok (.idiv, 1) := by decide +kernel
theorem dL_asks_47 : decode cL_asks 47 = .ok (.iconst 2, 1) := by decide +kernel
theorem dL_asks_48 : decode cL_asks 48 = .ok (.irem, 1) := by decide +kernel
theorem dL_asks_49 : decode cL_asks 49 = .ok (.ifCond .ne 23, 3) := by decide +kernel
theorem dL_asks_52 : decode cL_asks 52 = .ok (.aload_n 0, 1) := by decide +kernel
theorem dL_asks_53 : decode cL_asks 53 = .ok (.iload_n 1, 1) := by decide +kernel
theorem dL_asks_54 : decode cL_asks 54 = .ok (.bipush 65, 2) := by decide +kernel
theorem dL_asks_56 : decode cL_asks 56 = .ok (.iload 5, 2) := by decide +kernel
theorem dL_asks_58 : decode cL_asks 58 = .ok (.bipush 6, 2) := by decide +kernel
theorem dL_asks_60 : decode cL_asks 60 = .ok (.idiv, 1) := by decide +kernel
theorem dL_asks_61 : decode cL_asks 61 = .ok (.iconst 5, 1) := by decide +kernel
theorem dL_asks_62 : decode cL_asks 62 = .ok (.irem, 1) := by decide +kernel
theorem dL_asks_63 : decode cL_asks 63 = .ok (.iadd, 1) := by decide +kernel
theorem dL_asks_64 : decode cL_asks 64 = .ok (.i2c, 1) := by decide +kernel
theorem dL_asks_65 : decode cL_asks 65 = .ok (.invokestatic 174, 3) := by decide +kernel
theorem dL_asks_68 : decode cL_asks 68 = .ok (.pop2, 1) := by decide +kernel
theorem dL_asks_69 : decode cL_asks 69 = .ok (.iinc 6 1, 3) := by decide +kernel
theorem dL_asks_72 : decode cL_asks 72 = .ok (.iload 5, 2) := by decide +kernel
theorem dL_asks_74 : decode cL_asks 74 = .ok (.bipush 30, 2) := by decide +kernel
theorem dL_asks_76 : decode cL_asks 76 = .ok (.idiv, 1) := by decide +kernel
theorem dL_asks_77 : decode cL_asks 77 = .ok (.iconst 3, 1) := by decide +kernel
theorem dL_asks_78 : decode cL_asks 78 = .ok (.irem, 1) := by decide +kernel
theorem dL_asks_79 : decode cL_asks 79 = .ok (.ifCond .ne 24, 3) := by decide +kernel
theorem dL_asks_82 : decode cL_asks 82 = .ok (.aload_n 0, 1) := by decide +kernel
theorem dL_asks_83 : decode cL_asks 83 = .ok (.iload_n 1, 1) := by decide +kernel
theorem dL_asks_84 : decode cL_asks 84 = .ok (.bipush 65, 2) := by decide +kernel
theorem dL_asks_86 : decode cL_asks 86 = .ok (.iload 5, 2) := by decide +kernel
theorem dL_asks_88 : decode cL_asks 88 = .ok (.bipush 90, 2) := by decide +kernel
theorem dL_asks_90 : decode cL_asks 90 = .ok (.idiv, 1) := by decide +kernel
theorem dL_asks_91 : decode cL_asks 91 = .ok (.iconst 5, 1) := by decide +kernel
theorem dL_asks_92 : decode cL_asks 92 = .ok (.irem, 1) := by decide +kernel
theorem dL_asks_93 : decode cL_asks 93 = .ok (.iadd, 1) := by decide +kernel
theorem dL_asks_94 : decode cL_asks 94 = .ok (.i2c, 1) := by decide +kernel
theorem dL_asks_95 : decode cL_asks 95 = .ok (.iconst 1, 1) := by decide +kernel
theorem dL_asks_96 : decode cL_asks 96 = .ok (.invokestatic 177, 3) := by decide +kernel
theorem dL_asks_99 : decode cL_asks 99 = .ok (.pop2, 1) := by decide +kernel
theorem dL_asks_100 : decode cL_asks 100 = .ok (.iinc 6 1, 3) := by decide +kernel
theorem dL_asks_103 : decode cL_asks 103 = .ok (.iload 5, 2) := by decide +kernel
theorem dL_asks_105 : decode cL_asks 105 = .ok (.sipush 450, 3) := by decide +kernel
theorem dL_asks_108 : decode cL_asks 108 = .ok (.idiv, 1) := by decide +kernel
theorem dL_asks_109 : decode cL_asks 109 = .ok (.iconst 3, 1) := by decide +kernel
theorem dL_asks_110 : decode cL_asks 110 = .ok (.irem, 1) := by decide +kernel
theorem dL_asks_111 : decode cL_asks 111 = .ok (.ifCond .ne 25, 3) := by decide +kernel
theorem dL_asks_114 : decode cL_asks 114 = .ok (.aload_n 0, 1) := by decide +kernel
theorem dL_asks_115 : decode cL_asks 115 = .ok (.iload_n 1, 1) := by decide +kernel
theorem dL_asks_116 : decode cL_asks 116 = .ok (.bipush 97, 2) := by decide +kernel
theorem dL_asks_118 : decode cL_asks 118 = .ok (.iload 5, 2) := by decide +kernel
theorem dL_asks_120 : decode cL_asks 120 = .ok (.sipush 1350, 3) := by decide +kernel
theorem dL_asks_123 : decode cL_asks 123 = .ok (.idiv, 1) := by decide +kernel
theorem dL_asks_124 : decode cL_asks 124 = .ok (.iconst 2, 1) := by decide +kernel
theorem dL_asks_125 : decode cL_asks 125 = .ok (.irem, 1) := by decide +kernel
theorem dL_asks_126 : decode cL_asks 126 = .ok (.iadd, 1) := by decide +kernel
theorem dL_asks_127 : decode cL_asks 127 = .ok (.i2c, 1) := by decide +kernel
theorem dL_asks_128 : decode cL_asks 128 = .ok (.iconst 0, 1) := by decide +kernel
theorem dL_asks_129 : decode cL_asks 129 = .ok (.invokestatic 180, 3) := by decide +kernel
theorem dL_asks_132 : decode cL_asks 132 = .ok (.pop2, 1) := by decide +kernel
theorem dL_asks_133 : decode cL_asks 133 = .ok (.iinc 6 1, 3) := by decide +kernel
theorem dL_asks_136 : decode cL_asks 136 = .ok (.iconst 0, 1) := by decide +kernel
theorem dL_asks_137 : decode cL_asks 137 = .ok (.istore 7, 2) := by decide +kernel
theorem dL_asks_139 : decode cL_asks 139 = .ok (.iload 7, 2) := by decide +kernel
theorem dL_asks_141 : decode cL_asks 141 = .ok (.iload 4, 2) := by decide +kernel
theorem dL_asks_143 : decode cL_asks 143 = .ok (.if_icmp .ge 104, 3) := by decide +kernel
theorem dL_asks_146 : decode cL_asks 146 = .ok (.aload_n 2, 1) := by decide +kernel
theorem dL_asks_147 : decode cL_asks 147 = .ok (.iload_n 3, 1) := by decide +kernel
theorem dL_asks_148 : decode cL_asks 148 = .ok (.iconst 1, 1) := by decide +kernel
theorem dL_asks_149 : decode cL_asks 149 = .ok (.iadd, 1) := by decide +kernel
theorem dL_asks_150 : decode cL_asks 150 = .ok (.iload 7, 2) := by decide +kernel
theorem dL_asks_152 : decode cL_asks 152 = .ok (.iadd, 1) := by decide +kernel
theorem dL_asks_153 : decode cL_asks 153 = .ok (.invokestatic 113, 3) := by decide +kernel
theorem dL_asks_156 : decode cL_asks 156 = .ok (.sipush 7919, 3) := by decide +kernel
theorem dL_asks_159 : decode cL_asks 159 = .ok (.iload_n 3, 1) := by decide +kernel
theorem dL_asks_160 : decode cL_asks 160 = .ok (.iload 7, 2) := by decide +kernel
theorem dL_asks_162 : decode cL_asks 162 = .ok (.iadd, 1) := by decide +kernel
theorem dL_asks_163 : decode cL_asks 163 = .ok (.imul, 1) := by decide +kernel
theorem dL_asks_164 : decode cL_asks 164 = .ok (.iadd, 1) := by decide +kernel
theorem dL_asks_165 : decode cL_asks 165 = .ok (.ldc 170, 2) := by decide +kernel
theorem dL_asks_167 : decode cL_asks 167 = .ok (.invokestatic 117, 3) := by decide +kernel
theorem dL_asks_170 : decode cL_asks 170 = .ok (.istore 8, 2) := by decide +kernel
theorem dL_asks_172 : decode cL_asks 172 = .ok (.aload_n 0, 1) := by decide +kernel
theorem dL_asks_173 : decode cL_asks 173 = .ok (.iload_n 1, 1) := by decide +kernel
theorem dL_asks_174 : decode cL_asks 174 = .ok (.ldc 183, 2) := by decide +kernel
theorem dL_asks_176 : decode cL_asks 176 = .ok (.iload 8, 2) := by decide +kernel
theorem dL_asks_178 : decode cL_asks 178 = .ok (.bipush 9, 2) := by decide +kernel
theorem dL_asks_180 : decode cL_asks 180 = .ok (.irem, 1) := by decide +kernel
theorem dL_asks_181 : decode cL_asks 181 = .ok (.invokevirtual 130, 3) := by decide +kernel
theorem dL_asks_184 : decode cL_asks 184 = .ok (.ldc 185, 2) := by decide +kernel
theorem dL_asks_186 : decode cL_asks 186 = .ok (.iload 8, 2) := by decide +kernel
theorem dL_asks_188 : decode cL_asks 188 = .ok (.bipush 9, 2) := by decide +kernel
theorem dL_asks_190 : decode cL_asks 190 = .ok (.idiv, 1) := by decide +kernel
theorem dL_asks_191 : decode cL_asks 191 = .ok (.bipush 6, 2) := by decide +kernel
theorem dL_asks_193 : decode cL_asks 193 = .ok (.irem, 1) := by decide +kernel
theorem dL_asks_194 : decode cL_asks 194 = .ok (.invokevirtual 130, 3) := by decide +kernel
theorem dL_asks_197 : decode cL_asks 197 = .ok (.bipush 97, 2) := by decide +kernel
theorem dL_asks_199 : decode cL_asks 199 = .ok (.iload 8, 2) := by decide +kernel
theorem dL_asks_201 : decode cL_asks 201 = .ok (.bipush 54, 2) := by decide +kernel
theorem dL_asks_203 : decode cL_asks 203 = .ok (.idiv, 1) := by decide +kernel
theorem dL_asks_204 : decode cL_asks 204 = .ok (.iconst 2, 1) := by decide +kernel
theorem dL_asks_205 : decode cL_asks 205 = .ok (.irem, 1) := by decide +kernel
theorem dL_asks_206 : decode cL_asks 206 = .ok (.iadd, 1) := by decide +kernel
theorem dL_asks_207 : decode cL_asks 207 = .ok (.i2c, 1) := by decide +kernel
theorem dL_asks_208 : decode cL_asks 208 = .ok (.iload 8, 2) := by decide +kernel
theorem dL_asks_210 : decode cL_asks 210 = .ok (.bipush 108, 2) := by decide +kernel
theorem dL_asks_212 : decode cL_asks 212 = .ok (.idiv, 1) := by decide +kernel
theorem dL_asks_213 : decode cL_asks 213 = .ok (.iconst 5, 1) := by decide +kernel
theorem dL_asks_214 : decode cL_asks 214 = .ok (.irem, 1) := by decide +kernel
theorem dL_asks_215 : decode cL_asks 215 = .ok (.ifCond .ne 7, 3) := by decide +kernel
theorem dL_asks_218 : decode cL_asks 218 = .ok (.iconst 1, 1) := by decide +kernel
theorem dL_asks_219 : decode cL_asks 219 = .ok (.goto 4, 3) := by decide +kernel
theorem dL_asks_222 : decode cL_asks 222 = .ok (.iconst 0, 1) := by decide +kernel
theorem dL_asks_223 : decode cL_asks 223 = .ok (.ldc 185, 2) := by decide +kernel
theorem dL_asks_225 : decode cL_asks 225 = .ok (.iload 8, 2) := by decide +kernel
theorem dL_asks_227 : decode cL_asks 227 = .ok (.sipush 540, 3) := by decide +kernel
theorem dL_asks_230 : decode cL_asks 230 = .ok (.idiv, 1) := by decide +kernel
theorem dL_asks_231 : decode cL_asks 231 = .ok (.bipush 6, 2) := by decide +kernel
theorem dL_asks_233 : decode cL_asks 233 = .ok (.irem, 1) := by decide +kernel
theorem dL_asks_234 : decode cL_asks 234 = .ok (.invokevirtual 130, 3) := by decide +kernel
theorem dL_asks_237 : decode cL_asks 237 = .ok (.invokestatic 187, 3) := by decide +kernel
theorem dL_asks_240 : decode cL_asks 240 = .ok (.pop2, 1) := by decide +kernel
theorem dL_asks_241 : decode cL_asks 241 = .ok (.iinc 7 1, 3) := by decide +kernel
theorem dL_asks_244 : decode cL_asks 244 = .ok (.goto (-105), 3) := by decide +kernel
theorem dL_asks_247 : decode cL_asks 247 = .ok (.iload 6, 2) := by decide +kernel
theorem dL_asks_249 : decode cL_asks 249 = .ok (.ireturn, 1) := by decide +kernel
theorem dL_law_0 : decode cL_law 0 = .ok (.new 12, 3) := by decide +kernel
theorem dL_law_3 : decode cL_law 3 = .ok (.dup, 1) := by decide +kernel
theorem dL_law_4 : decode cL_law 4 = .ok (.invokespecial 190, 3) := by decide +kernel
theorem dL_law_7 : decode cL_law 7 = .ok (.astore_n 1, 1) := by decide +kernel
theorem dL_law_8 : decode cL_law 8 = .ok (.aload_n 1, 1) := by decide +kernel
theorem dL_law_9 : decode cL_law 9 = .ok (.iconst 0, 1) := by decide +kernel
theorem dL_law_10 : decode cL_law 10 = .ok (.aload_n 0, 1) := by decide +kernel
theorem dL_law_11 : decode cL_law 11 = .ok (.iconst 0, 1) := by decide +kernel
theorem dL_law_12 : decode cL_law 12 = .ok (.invokestatic 191, 3) := by decide +kernel
theorem dL_law_15 : decode cL_law 15 = .ok (.aload_n 1, 1) := by decide +kernel
theorem dL_law_16 : decode cL_law 16 = .ok (.iconst 0, 1) := by decide +kernel
theorem dL_law_17 : decode cL_law 17 = .ok (.invokestatic 195, 3) := by decide +kernel
theorem dL_law_20 : decode cL_law 20 = .ok (.ifCond .ne 5, 3) := by decide +kernel
theorem dL_law_23 : decode cL_law 23 = .ok (.iconst 0, 1) := by decide +kernel
theorem dL_law_24 : decode cL_law 24 = .ok (.ireturn, 1) := by decide +kernel
theorem dL_law_25 : decode cL_law 25 = .ok (.aload_n 1, 1) := by decide +kernel
theorem dL_law_26 : decode cL_law 26 = .ok (.iconst 0, 1) := by decide +kernel
theorem dL_law_27 : decode cL_law 27 = .ok (.iconst 1, 1) := by decide +kernel
theorem dL_law_28 : decode cL_law 28 = .ok (.invokestatic 199, 3) := by decide +kernel
theorem dL_law_31 : decode cL_law 31 = .ok (.pop2, 1) := by decide +kernel
theorem dL_law_32 : decode cL_law 32 = .ok (.iconst 1, 1) := by decide +kernel
theorem dL_law_33 : decode cL_law 33 = .ok (.aload_n 0, 1) := by decide +kernel
theorem dL_law_34 : decode cL_law 34 = .ok (.bipush 30, 2) := by decide +kernel
theorem dL_law_36 : decode cL_law 36 = .ok (.invokestatic 113, 3) := by decide +kernel
theorem dL_law_39 : decode cL_law 39 = .ok (.iconst 4, 1) := by decide +kernel
theorem dL_law_40 : decode cL_law 40 = .ok (.invokestatic 117, 3) := by decide +kernel
theorem dL_law_43 : decode cL_law 43 = .ok (.iadd, 1) := by decide +kernel
theorem dL_law_44 : decode cL_law 44 = .ok (.istore_n 2, 1) := by decide +kernel
theorem dL_law_45 : decode cL_law 45 = .ok (.iconst 0, 1) := by decide +kernel
theorem dL_law_46 : decode cL_law 46 = .ok (.istore_n 3, 1) := by decide +kernel
theorem dL_law_47 : decode cL_law 47 = .ok (.iload_n 3, 1) := by decide +kernel
theorem dL_law_48 : decode cL_law 48 = .ok (.iload_n 2, 1) := by decide +kernel
theorem dL_law_49 : decode cL_law 49 = .ok (.if_icmp .ge 32, 3) := by decide +kernel
theorem dL_law_52 : decode cL_law 52 = .ok (.aload_n 1, 1) := by decide +kernel
theorem dL_law_53 : decode cL_law 53 = .ok (.iconst 1, 1) := by decide +kernel
theorem dL_law_54 : decode cL_law 54 = .ok (.aload_n 0, 1) := by decide +kernel
theorem dL_law_55 : decode cL_law 55 = .ok (.bipush 31, 2) := by decide +kernel
theorem dL_law_57 : decode cL_law 57 = .ok (.iload_n 3, 1) := by decide +kernel
theorem dL_law_58 : decode cL_law 58 = .ok (.iadd, 1) := by decide +kernel
theorem dL_law_59 : decode cL_law 59 = .ok (.invokestatic 113, 3) := by decide +kernel
theorem dL_law_62 : decode cL_law 62 = .ok (.ldc 169, 2) := by decide +kernel
theorem dL_law_64 : decode cL_law 64 = .ok (.iload_n 3, 1) := by decide +kernel
theorem dL_law_65 : decode cL_law 65 = .ok (.imul, 1) := by decide +kernel
theorem dL_law_66 : decode cL_law 66 = .ok (.iadd, 1) := by decide +kernel
theorem dL_law_67 : decode cL_law 67 = .ok (.ldc 123, 2) := by decide +kernel
theorem dL_law_69 : decode cL_law 69 = .ok (.invokestatic 117, 3) := by decide +kernel
theorem dL_law_72 : decode cL_law 72 = .ok (.invokestatic 124, 3) := by decide +kernel
theorem dL_law_75 : decode cL_law 75 = .ok (.iinc 3 1, 3) := by decide +kernel
theorem dL_law_78 : decode cL_law 78 = .ok (.goto (-31), 3) := by decide +kernel
theorem dL_law_81 : decode cL_law 81 = .ok (.aload_n 1, 1) := by decide +kernel
theorem dL_law_82 : decode cL_law 82 = .ok (.iconst 1, 1) := by decide +kernel
theorem dL_law_83 : decode cL_law 83 = .ok (.invokestatic 195, 3) := by decide +kernel
theorem dL_law_86 : decode cL_law 86 = .ok (.ifCond .ne 5, 3) := by decide +kernel
theorem dL_law_89 : decode cL_law 89 = .ok (.iconst 0, 1) := by decide +kernel
theorem dL_law_90 : decode cL_law 90 = .ok (.ireturn, 1) := by decide +kernel
theorem dL_law_91 : decode cL_law 91 = .ok (.aload_n 1, 1) := by decide +kernel
theorem dL_law_92 : decode cL_law 92 = .ok (.iconst 0, 1) := by decide +kernel
theorem dL_law_93 : decode cL_law 93 = .ok (.iconst 1, 1) := by decide +kernel
theorem dL_law_94 : decode cL_law 94 = .ok (.invokestatic 202, 3) := by decide +kernel
theorem dL_law_97 : decode cL_law 97 = .ok (.lconst 1, 1) := by decide +kernel
theorem dL_law_98 : decode cL_law 98 = .ok (.lcmp, 1) := by decide +kernel
theorem dL_law_99 : decode cL_law 99 = .ok (.ifCond .ne 7, 3) := by decide +kernel
theorem dL_law_102 : decode cL_law 102 = .ok (.iconst 1, 1) := by decide +kernel
theorem dL_law_103 : decode cL_law 103 = .ok (.goto 4, 3) := by decide +kernel
theorem dL_law_106 : decode cL_law 106 = .ok (.iconst 0, 1) := by decide +kernel
theorem dL_law_107 : decode cL_law 107 = .ok (.istore_n 3, 1) := by decide +kernel
theorem dL_law_108 : decode cL_law 108 = .ok (.lconst 0, 1) := by decide +kernel
theorem dL_law_109 : decode cL_law 109 = .ok (.lstore 4, 2) := by decide +kernel
theorem dL_law_111 : decode cL_law 111 = .ok (.iload_n 3, 1) := by decide +kernel
theorem dL_law_112 : decode cL_law 112 = .ok (.ifCond .ne 58, 3) := by decide +kernel
theorem dL_law_115 : decode cL_law 115 = .ok (.aload_n 1, 1) := by decide +kernel
theorem dL_law_116 : decode cL_law 116 = .ok (.iconst 0, 1) := by decide +kernel
theorem dL_law_117 : decode cL_law 117 = .ok (.iconst 1, 1) := by decide +kernel
theorem dL_law_118 : decode cL_law 118 = .ok (.iconst 3, 1) := by decide +kernel
theorem dL_law_119 : decode cL_law 119 = .ok (.invokestatic 204, 3) := by decide +kernel
theorem dL_law_122 : decode cL_law 122 = .ok (.lstore 4, 2) := by decide +kernel
theorem dL_law_124 : decode cL_law 124 = .ok (.aload_n 1, 1) := by decide +kernel
theorem dL_law_125 : decode cL_law 125 = .ok (.iconst 3, 1) := by decide +kernel
theorem dL_law_126 : decode cL_law 126 = .ok (.iconst 0, 1) := by decide +kernel
theorem dL_law_127 : decode cL_law 127 = .ok (.invokestatic 207, 3) := by decide +kernel
theorem dL_law_130 : decode cL_law 130 = .ok (.lconst 1, 1) := by decide +kernel
theorem dL_law_131 : decode cL_law 131 = .ok (.lcmp, 1) := by decide +kernel
theorem dL_law_132 : decode cL_law 132 = .ok (.ifCond .ne 36, 3) := by decide +kernel
theorem dL_law_135 : decode cL_law 135 = .ok (.aload_n 1, 1) := by decide +kernel
theorem dL_law_136 : decode cL_law 136 = .ok (.invokestatic 209, 3) := by decide +kernel
theorem dL_law_139 : decode cL_law 139 = .ok (.ldc2_w 212, 3) := by decide +kernel
theorem dL_law_142 : decode cL_law 142 = .ok (.lcmp, 1) := by decide +kernel
theorem dL_law_143 : decode cL_law 143 = .ok (.ifCond .ne 25, 3) := by decide +kernel
theorem dL_law_146 : decode cL_law 146 = .ok (.aload_n 1, 1) := by decide +kernel
theorem dL_law_147 : decode cL_law 147 = .ok (.iconst 3, 1) := by decide +kernel
theorem dL_law_148 : decode cL_law 148 = .ok (.iconst 1, 1) := by decide +kernel
theorem dL_law_149 : decode cL_law 149 = .ok (.invokestatic 207, 3) := by decide +kernel
theorem dL_law_152 : decode cL_law 152 = .ok (.lconst 0, 1) := by decide +kernel
theorem dL_law_153 : decode cL_law 153 = .ok (.lcmp, 1) := by decide +kernel
theorem dL_law_154 : decode cL_law 154 = .ok (.ifCond .ne 14, 3) := by decide +kernel
theorem dL_law_157 : decode cL_law 157 = .ok (.aload_n 1, 1) := by decide +kernel
theorem dL_law_158 : decode cL_law 158 = .ok (.invokestatic 209, 3) := by decide +kernel
theorem dL_law_161 : decode cL_law 161 = .ok (.ldc2_w 212, 3) := by decide +kernel
theorem dL_law_164 : decode cL_law 164 = .ok (.lcmp, 1) := by decide +kernel
theorem dL_law_165 : decode cL_law 165 = .ok (.ifCond .ne 21, 3) := by decide +kernel
theorem dL_law_168 : decode cL_law 168 = .ok (.iconst 0, 1) := by decide +kernel
theorem dL_law_169 : decode cL_law 169 = .ok (.ireturn, 1) := by decide +kernel
theorem dL_law_170 : decode cL_law 170 = .ok (.aload_n 1, 1) := by decide +kernel
theorem dL_law_171 : decode cL_law 171 = .ok (.iconst 0, 1) := by decide +kernel
theorem dL_law_172 : decode cL_law 172 = .ok (.iconst 1, 1) := by decide +kernel
theorem dL_law_173 : decode cL_law 173 = .ok (.iconst 3, 1) := by decide +kernel
theorem dL_law_174 : decode cL_law 174 = .ok (.invokestatic 204, 3) := by decide +kernel
theorem dL_law_177 : decode cL_law 177 = .ok (.ldc2_w 33, 3) := by decide +kernel
theorem dL_law_180 : decode cL_law 180 = .ok (.lcmp, 1) := by decide +kernel
theorem dL_law_181 : decode cL_law 181 = .ok (.ifCond .eq 5, 3) := by decide +kernel
theorem dL_law_184 : decode cL_law 184 = .ok (.iconst 0, 1) := by decide +kernel
theorem dL_law_185 : decode cL_law 185 = .ok (.ireturn, 1) := by decide +kernel
theorem dL_law_186 : decode cL_law 186 = .ok (.iconst 0, 1) := by decide +kernel
theorem dL_law_187 : decode cL_law 187 = .ok (.istore 6, 2) := by decide +kernel
theorem dL_law_189 : decode cL_law 189 = .ok (.iload 6, 2) := by decide +kernel
theorem dL_law_191 : decode cL_law 191 = .ok (.bipush 40, 2) := by decide +kernel
theorem dL_law_193 : decode cL_law 193 = .ok (.if_icmp .ge 117, 3) := by decide +kernel
theorem dL_law_196 : decode cL_law 196 = .ok (.iconst 1, 1) := by decide +kernel
theorem dL_law_197 : decode cL_law 197 = .ok (.iload 6, 2) := by decide +kernel
theorem dL_law_199 : decode cL_law 199 = .ok (.iconst 3, 1) := by decide +kernel
theorem dL_law_200 : decode cL_law 200 = .ok (.irem, 1) := by decide +kernel
theorem dL_law_201 : decode cL_law 201 = .ok (.iadd, 1) := by decide +kernel
theorem dL_law_202 : decode cL_law 202 = .ok (.istore 7, 2) := by decide +kernel
theorem dL_law_204 : decode cL_law 204 = .ok (.aload_n 1, 1) := by decide +kernel
theorem dL_law_205 : decode cL_law 205 = .ok (.iconst 0, 1) := by decide +kernel
theorem dL_law_206 : decode cL_law 206 = .ok (.aload_n 0, 1) := by decide +kernel
theorem dL_law_207 : decode cL_law 207 = .ok (.bipush 40, 2) := by decide +kernel
theorem dL_law_209 : decode cL_law 209 = .ok (.iconst 4, 1) := by decide +kernel
theorem dL_law_210 : decode cL_law 210 = .ok (.iload 6, 2) := by decide +kernel
theorem dL_law_212 : decode cL_law 212 = .ok (.imul, 1) := by decide +kernel
theorem dL_law_213 : decode cL_law 213 = .ok (.iadd, 1) := by decide +kernel
theorem dL_law_214 : decode cL_law 214 = .ok (.iload 7, 2) := by decide +kernel
theorem dL_law_216 : decode cL_law 216 = .ok (.invokestatic 214, 3) := by decide +kernel
theorem dL_law_219 : decode cL_law 219 = .ok (.istore 8, 2) := by decide +kernel
theorem dL_law_221 : decode cL_law 221 = .ok (.aload_n 1, 1) := by decide +kernel
theorem dL_law_222 : decode cL_law 222 = .ok (.iconst 0, 1) := by decide +kernel
theorem dL_law_223 : decode cL_law 223 = .ok (.iconst 0, 1) := by decide +kernel
theorem dL_law_224 : decode cL_law 224 = .ok (.invokestatic 207, 3) := by decide +kernel
theorem dL_law_227 : decode cL_law 227 = .ok (.lstore 9, 2) := by decide +kernel
theorem dL_law_229 : decode cL_law 229 = .ok (.aload_n 1, 1) := by decide +kernel
theorem dL_law_230 : decode cL_law 230 = .ok (.invokestatic 209, 3) := by decide +kernel
theorem dL_law_233 : decode cL_law 233 = .ok (.ldc2_w 212, 3) := by decide +kernel
theorem dL_law_236 : decode cL_law 236 = .ok (.lcmp, 1) := by decide +kernel
theorem dL_law_237 : decode cL_law 237 = .ok (.ifCond .ne 67, 3) := by decide +kernel
theorem dL_law_240 : decode cL_law 240 = .ok (.lload 9, 2) := by decide +kernel
theorem dL_law_242 : decode cL_law 242 = .ok (.lconst 0, 1) := by decide +kernel
theorem dL_law_243 : decode cL_law 243 = .ok (.lcmp, 1) := by decide +kernel
theorem dL_law_244 : decode cL_law 244 = .ok (.ifCond .ne 6, 3) := by decide +kernel
theorem dL_law_247 : decode cL_law 247 = .ok (.goto 57, 3) := by decide +kernel
theorem dL_law_250 : decode cL_law 250 = .ok (.aload_n 1, 1) := by decide +kernel
theorem dL_law_251 : decode cL_law 251 = .ok (.iconst 0, 1) := by decide +kernel
theorem dL_law_252 : decode cL_law 252 = .ok (.iconst 1, 1) := by decide +kernel
theorem dL_law_253 : decode cL_law 253 = .ok (.invokestatic 207, 3) := by decide +kernel
theorem dL_law_256 : decode cL_law 256 = .ok (.lstore 11, 2) := by decide +kernel
theorem dL_law_258 : decode cL_law 258 = .ok (.aload_n 1, 1) := by decide +kernel
theorem dL_law_259 : decode cL_law 259 = .ok (.invokestatic 209, 3) := by decide +kernel
theorem dL_law_262 : decode cL_law 262 = .ok (.ldc2_w 212, 3) := by decide +kernel
theorem dL_law_265 : decode cL_law 265 = .ok (.lcmp, 1) := by decide +kernel
theorem dL_law_266 : decode cL_law 266 = .ok (.ifCond .ne 6, 3) := by decide +kernel
theorem dL_law_269 : decode cL_law 269 = .ok (.goto 35, 3) := by decide +kernel
theorem dL_law_272 : decode cL_law 272 = .ok (.iload_n 3, 1) := by decide +kernel
theorem dL_law_273 : decode cL_law 273 = .ok (.ifCond .ne 29, 3) := by decide +kernel
theorem dL_law_276 : decode cL_law 276 = .ok (.lload 11, 2) := by decide +kernel
theorem dL_law_278 : decode cL_law 278 = .ok (.lload 9, 2) := by decide +kernel
theorem dL_law_280 : decode cL_law 280 = .ok (.lcmp, 1) := by decide +kernel
theorem dL_law_281 : decode cL_law 281 = .ok (.ifCond .ge 21, 3) := by decide +kernel
theorem dL_law_284 : decode cL_law 284 = .ok (.lload 9, 2) := by decide +kernel
theorem dL_law_286 : decode cL_law 286 = .ok (.lconst 1, 1) := by decide +kernel
theorem dL_law_287 : decode cL_law 287 = .ok (.lcmp, 1) := by decide +kernel
theorem dL_law_288 : decode cL_law 288 = .ok (.ifCond .ne 16, 3) := by decide +kernel
theorem dL_law_291 : decode cL_law 291 = .ok (.iload 8, 2) := by decide +kernel
theorem dL_law_293 : decode cL_law 293 = .ok (.i2l, 1) := by decide +kernel
theorem dL_law_294 : decode cL_law 294 = .ok (.lconst 1, 1) := by decide +kernel
theorem dL_law_295 : decode cL_law 295 = .ok (.ladd, 1) := by decide +kernel
theorem dL_law_296 : decode cL_law 296 = .ok (.lload 4, 2) := by decide +kernel
theorem dL_law_298 : decode cL_law 298 = .ok (.lcmp, 1) := by decide +kernel
theorem dL_law_299 : decode cL_law 299 = .ok (.ifCond .ge 5, 3) := by decide +kernel
theorem dL_law_302 : decode cL_law 302 = .ok (.iconst 0, 1) := by decide +kernel
theorem dL_law_303 : decode cL_law 303 = .ok (.ireturn, 1) := by decide +kernel
theorem dL_law_304 : decode cL_law 304 = .ok (.iinc 6 1, 3) := by decide +kernel
theorem dL_law_307 : decode cL_law 307 = .ok (.goto (-118), 3) := by decide +kernel
theorem dL_law_310 : decode cL_law 310 = .ok (.aload_n 1, 1) := by decide +kernel
theorem dL_law_311 : decode cL_law 311 = .ok (.invokestatic 218, 3) := by decide +kernel
theorem dL_law_314 : decode cL_law 314 = .ok (.lconst 1, 1) := by decide +kernel
theorem dL_law_315 : decode cL_law 315 = .ok (.lcmp, 1) := by decide +kernel
theorem dL_law_316 : decode cL_law 316 = .ok (.ifCond .ne 7, 3) := by decide +kernel
theorem dL_law_319 : decode cL_law 319 = .ok (.iconst 1, 1) := by decide +kernel
theorem dL_law_320 : decode cL_law 320 = .ok (.goto 4, 3) := by decide +kernel
theorem dL_law_323 : decode cL_law 323 = .ok (.iconst 0, 1) := by decide +kernel
theorem dL_law_324 : decode cL_law 324 = .ok (.ireturn, 1) := by decide +kernel
theorem dJ0_charAt_5068e_0 : decode cJ0_charAt_5068e 0 = .ok (.aload_n 0, 1) := by decide +kernel
theorem dJ0_charAt_5068e_1 : decode cJ0_charAt_5068e 1 = .ok (.invokevirtual 492, 3) := by decide +kernel
theorem dJ0_charAt_5068e_4 : decode cJ0_charAt_5068e 4 = .ok (.ifCond .eq 12, 3) := by decide +kernel
theorem dJ0_charAt_5068e_7 : decode cJ0_charAt_5068e 7 = .ok (.aload_n 0, 1) := by decide +kernel
theorem dJ0_charAt_5068e_8 : decode cJ0_charAt_5068e 8 = .ok (.getfield 9, 3) := by decide +kernel
theorem dJ0_charAt_5068e_11 : decode cJ0_charAt_5068e 11 = .ok (.iload_n 1, 1) := by decide +kernel
theorem dJ0_charAt_5068e_12 : decode cJ0_charAt_5068e 12 = .ok (.invokestatic 495, 3) := by decide +kernel
theorem dJ0_charAt_5068e_15 : decode cJ0_charAt_5068e 15 = .ok (.ireturn, 1) := by decide +kernel
theorem dJ0_charAt_5068e_16 : decode cJ0_charAt_5068e 16 = .ok (.aload_n 0, 1) := by decide +kernel
theorem dJ0_charAt_5068e_17 : decode cJ0_charAt_5068e 17 = .ok (.getfield 9, 3) := by decide +kernel
theorem dJ0_charAt_5068e_20 : decode cJ0_charAt_5068e 20 = .ok (.iload_n 1, 1) := by decide +kernel
theorem dJ0_charAt_5068e_21 : decode cJ0_charAt_5068e 21 = .ok (.invokestatic 498, 3) := by decide +kernel
theorem dJ0_charAt_5068e_24 : decode cJ0_charAt_5068e 24 = .ok (.ireturn, 1) := by decide +kernel
theorem dJ0_isLatin1_aae02_0 : decode cJ0_isLatin1_aae02 0 = .ok (.getstatic 38, 3) := by decide +kernel
theorem dJ0_isLatin1_aae02_3 : decode cJ0_isLatin1_aae02 3 = .ok (.ifCond .eq 14, 3) := by decide +kernel
theorem dJ0_isLatin1_aae02_6 : decode cJ0_isLatin1_aae02 6 = .ok (.aload_n 0, 1) := by decide +kernel
theorem dJ0_isLatin1_aae02_7 : decode cJ0_isLatin1_aae02 7 = .ok (.getfield 15, 3) := by decide +kernel
theorem dJ0_isLatin1_aae02_10 : decode cJ0_isLatin1_aae02 10 = .ok (.ifCond .ne 7, 3) := by decide +kernel
theorem dJ0_isLatin1_aae02_13 : decode cJ0_isLatin1_aae02 13 = .ok (.iconst 1, 1) := by decide +kernel
theorem dJ0_isLatin1_aae02_14 : decode cJ0_isLatin1_aae02 14 = .ok (.goto 4, 3) := by decide +kernel
theorem dJ0_isLatin1_aae02_17 : decode cJ0_isLatin1_aae02 17 = .ok (.iconst 0, 1) := by decide +kernel
theorem dJ0_isLatin1_aae02_18 : decode cJ0_isLatin1_aae02 18 = .ok (.ireturn, 1) := by decide +kernel
theorem dJ0_checkIndex_df160_0 : decode cJ0_checkIndex_df160 0 = .ok (.iload_n 0, 1) := by decide +kernel
theorem dJ0_checkIndex_df160_1 : decode cJ0_checkIndex_df160 1 = .ok (.iload_n 1, 1) := by decide +kernel
theorem dJ0_checkIndex_df160_2 : decode cJ0_checkIndex_df160 2 = .ok (.getstatic 1053, 3) := by decide +kernel
theorem dJ0_checkIndex_df160_5 : decode cJ0_checkIndex_df160 5 = .ok (.invokestatic 1059, 3) := by decide +kernel
theorem dJ0_checkIndex_df160_8 : decode cJ0_checkIndex_df160 8 = .ok (.pop, 1) := by decide +kernel
theorem dJ0_checkIndex_df160_9 : decode cJ0_checkIndex_df160 9 = .ok (.return_, 1) := by decide +kernel
