-- pasted from the claim's printed text: decode rows
theorem dX0_init_0 : decode cX0_init 0 = .ok (.aload_n 0, 1) := by decide +kernel
theorem dX0_init_1 : decode cX0_init 1 = .ok (.invokespecial 3, 3) := by decide +kernel
theorem dX0_init_4 : decode cX0_init 4 = .ok (.aload_n 0, 1) := by decide +kernel
theorem dX0_init_5 : decode cX0_init 5 = .ok (.new 9, 3) := by decide +kernel
theorem dX0_init_8 : decode cX0_init 8 = .ok (.dup, 1) := by decide +kernel
theorem dX0_init_9 : decode cX0_init 9 = .ok (.invokespecial 11, 3) := by decide +kernel
theorem dX0_init_12 : decode cX0_init 12 = .ok (.putfield 12, 3) := by decide +kernel
theorem dX0_init_15 : decode cX0_init 15 = .ok (.aload_n 0, 1) := by decide +kernel
theorem dX0_init_16 : decode cX0_init 16 = .ok (.iconst 0, 1) := by decide +kernel
theorem dX0_init_17 : decode cX0_init 17 = .ok (.putfield 18, 3) := by decide +kernel
theorem dX0_init_20 : decode cX0_init 20 = .ok (.aload_n 0, 1) := by decide +kernel
theorem dX0_init_21 : decode cX0_init 21 = .ok (.bipush 8, 2) := by decide +kernel
theorem dX0_init_23 : decode cX0_init 23 = .ok (.newarray .int, 2) := by decide +kernel
theorem dX0_init_25 : decode cX0_init 25 = .ok (.putfield 22, 3) := by decide +kernel
theorem dX0_init_28 : decode cX0_init 28 = .ok (.aload_n 0, 1) := by decide +kernel
theorem dX0_init_29 : decode cX0_init 29 = .ok (.bipush 8, 2) := by decide +kernel
theorem dX0_init_31 : decode cX0_init 31 = .ok (.newarray .int, 2) := by decide +kernel
theorem dX0_init_33 : decode cX0_init 33 = .ok (.putfield 26, 3) := by decide +kernel
theorem dX0_init_36 : decode cX0_init 36 = .ok (.aload_n 0, 1) := by decide +kernel
theorem dX0_init_37 : decode cX0_init 37 = .ok (.bipush 8, 2) := by decide +kernel
theorem dX0_init_39 : decode cX0_init 39 = .ok (.newarray .int, 2) := by decide +kernel
theorem dX0_init_41 : decode cX0_init 41 = .ok (.putfield 29, 3) := by decide +kernel
theorem dX0_init_44 : decode cX0_init 44 = .ok (.aload_n 0, 1) := by decide +kernel
theorem dX0_init_45 : decode cX0_init 45 = .ok (.bipush 8, 2) := by decide +kernel
theorem dX0_init_47 : decode cX0_init 47 = .ok (.newarray .int, 2) := by decide +kernel
theorem dX0_init_49 : decode cX0_init 49 = .ok (.putfield 32, 3) := by decide +kernel
theorem dX0_init_52 : decode cX0_init 52 = .ok (.return_, 1) := by decide +kernel
theorem dX0_clear_0 : decode cX0_clear 0 = .ok (.aload_n 0, 1) := by decide +kernel
theorem dX0_clear_1 : decode cX0_clear 1 = .ok (.getfield 12, 3) := by decide +kernel
theorem dX0_clear_4 : decode cX0_clear 4 = .ok (.invokevirtual 35, 3) := by decide +kernel
theorem dX0_clear_7 : decode cX0_clear 7 = .ok (.aload_n 0, 1) := by decide +kernel
theorem dX0_clear_8 : decode cX0_clear 8 = .ok (.iconst 0, 1) := by decide +kernel
theorem dX0_clear_9 : decode cX0_clear 9 = .ok (.putfield 18, 3) := by decide +kernel
theorem dX0_clear_12 : decode cX0_clear 12 = .ok (.return_, 1) := by decide +kernel
theorem dX0_add_0 : decode cX0_add 0 = .ok (.aload_n 0, 1) := by decide +kernel
theorem dX0_add_1 : decode cX0_add 1 = .ok (.getfield 18, 3) := by decide +kernel
theorem dX0_add_4 : decode cX0_add 4 = .ok (.bipush 8, 2) := by decide +kernel
theorem dX0_add_6 : decode cX0_add 6 = .ok (.if_icmp .lt 4, 3) := by decide +kernel
theorem dX0_add_9 : decode cX0_add 9 = .ok (.return_, 1) := by decide +kernel
theorem dX0_add_10 : decode cX0_add 10 = .ok (.aload_n 0, 1) := by decide +kernel
theorem dX0_add_11 : decode cX0_add 11 = .ok (.getfield 22, 3) := by decide +kernel
theorem dX0_add_14 : decode cX0_add 14 = .ok (.aload_n 0, 1) := by decide +kernel
theorem dX0_add_15 : decode cX0_add 15 = .ok (.getfield 18, 3) := by decide +kernel
theorem dX0_add_18 : decode cX0_add 18 = .ok (.iload_n 1, 1) := by decide +kernel
theorem dX0_add_19 : decode cX0_add 19 = .ok (.iastore, 1) := by decide +kernel
theorem dX0_add_20 : decode cX0_add 20 = .ok (.aload_n 0, 1) := by decide +kernel
theorem dX0_add_21 : decode cX0_add 21 = .ok (.getfield 26, 3) := by decide +kernel
theorem dX0_add_24 : decode cX0_add 24 = .ok (.aload_n 0, 1) := by decide +kernel
theorem dX0_add_25 : decode cX0_add 25 = .ok (.getfield 18, 3) := by decide +kernel
theorem dX0_add_28 : decode cX0_add 28 = .ok (.iload_n 2, 1) := by decide +kernel
theorem dX0_add_29 : decode cX0_add 29 = .ok (.iastore, 1) := by decide +kernel
theorem dX0_add_30 : decode cX0_add 30 = .ok (.aload_n 0, 1) := by decide +kernel
theorem dX0_add_31 : decode cX0_add 31 = .ok (.getfield 29, 3) := by decide +kernel
theorem dX0_add_34 : decode cX0_add 34 = .ok (.aload_n 0, 1) := by decide +kernel
theorem dX0_add_35 : decode cX0_add 35 = .ok (.getfield 18, 3) := by decide +kernel
theorem dX0_add_38 : decode cX0_add 38 = .ok (.iload_n 3, 1) := by decide +kernel
theorem dX0_add_39 : decode cX0_add 39 = .ok (.iastore, 1) := by decide +kernel
theorem dX0_add_40 : decode cX0_add 40 = .ok (.aload_n 0, 1) := by decide +kernel
theorem dX0_add_41 : decode cX0_add 41 = .ok (.getfield 32, 3) := by decide +kernel
theorem dX0_add_44 : decode cX0_add 44 = .ok (.aload_n 0, 1) := by decide +kernel
theorem dX0_add_45 : decode cX0_add 45 = .ok (.getfield 18, 3) := by decide +kernel
theorem dX0_add_48 : decode cX0_add 48 = .ok (.iload 4, 2) := by decide +kernel
theorem dX0_add_50 : decode cX0_add 50 = .ok (.iastore, 1) := by decide +kernel
theorem dX0_add_51 : decode cX0_add 51 = .ok (.aload_n 0, 1) := by decide +kernel
theorem dX0_add_52 : decode cX0_add 52 = .ok (.dup, 1) := by decide +kernel
theorem dX0_add_53 : decode cX0_add 53 = .ok (.getfield 18, 3) := by decide +kernel
theorem dX0_add_56 : decode cX0_add 56 = .ok (.iconst 1, 1) := by decide +kernel
theorem dX0_add_57 : decode cX0_add 57 = .ok (.iadd, 1) := by decide +kernel
theorem dX0_add_58 : decode cX0_add 58 = .ok (.putfield 18, 3) := by decide +kernel
theorem dX0_add_61 : decode cX0_add 61 = .ok (.return_, 1) := by decide +kernel
theorem dX0_become_0 : decode cX0_become 0 = .ok (.aload_n 0, 1) := by decide +kernel
theorem dX0_become_1 : decode cX0_become 1 = .ok (.getfield 12, 3) := by decide +kernel
theorem dX0_become_4 : decode cX0_become 4 = .ok (.aload_n 1, 1) := by decide +kernel
theorem dX0_become_5 : decode cX0_become 5 = .ok (.getfield 12, 3) := by decide +kernel
theorem dX0_become_8 : decode cX0_become 8 = .ok (.invokevirtual 38, 3) := by decide +kernel
theorem dX0_become_11 : decode cX0_become 11 = .ok (.aload_n 0, 1) := by decide +kernel
theorem dX0_become_12 : decode cX0_become 12 = .ok (.iconst 0, 1) := by decide +kernel
theorem dX0_become_13 : decode cX0_become 13 = .ok (.putfield 18, 3) := by decide +kernel
theorem dX0_become_16 : decode cX0_become 16 = .ok (.iconst 0, 1) := by decide +kernel
theorem dX0_become_17 : decode cX0_become 17 = .ok (.istore_n 2, 1) := by decide +kernel
theorem dX0_become_18 : decode cX0_become 18 = .ok (.iload_n 2, 1) := by decide +kernel
theorem dX0_become_19 : decode cX0_become 19 = .ok (.aload_n 1, 1) := by decide +kernel
theorem dX0_become_20 : decode cX0_become 20 = .ok (.getfield 18, 3) := by decide +kernel
theorem dX0_become_23 : decode cX0_become 23 = .ok (.if_icmp .ge 37, 3) := by decide +kernel
theorem dX0_become_26 : decode cX0_become 26 = .ok (.aload_n 0, 1) := by decide +kernel
theorem dX0_become_27 : decode cX0_become 27 = .ok (.aload_n 1, 1) := by decide +kernel
theorem dX0_become_28 : decode cX0_become 28 = .ok (.getfield 22, 3) := by decide +kernel
theorem dX0_become_31 : decode cX0_become 31 = .ok (.iload_n 2, 1) := by decide +kernel
theorem dX0_become_32 : decode cX0_become 32 = .ok (.iaload, 1) := by decide +kernel
theorem dX0_become_33 : decode cX0_become 33 = .ok (.aload_n 1, 1) := by decide +kernel
theorem dX0_become_34 : decode cX0_become 34 = .ok (.getfield 26, 3) := by decide +kernel
theorem dX0_become_37 : decode cX0_become 37 = .ok (.iload_n 2, 1) := by decide +kernel
theorem dX0_become_38 : decode cX0_become 38 = .ok (.iaload, 1) := by decide +kernel
theorem dX0_become_39 : decode cX0_become 39 = .ok (.aload_n 1, 1) := by decide +kernel
theorem dX0_become_40 : decode cX0_become 40 = .ok (.getfield 29, 3) := by decide +kernel
theorem dX0_become_43 : decode cX0_become 43 = .ok (.iload_n 2, 1) := by decide +kernel
theorem dX0_become_44 : decode cX0_become 44 = .ok (.iaload, 1) := by decide +kernel
theorem dX0_become_45 : decode cX0_become 45 = .ok (.aload_n 1, 1) := by decide +kernel
theorem dX0_become_46 : decode cX0_become 46 = .ok (.getfield 32, 3) := by decide +kernel
theorem dX0_become_49 : decode cX0_become 49 = .ok (.iload_n 2, 1) := by decide +kernel
theorem dX0_become_50 : decode cX0_become 50 = .ok (.iaload, 1) := by decide +kernel
theorem dX0_become_51 : decode cX0_become 51 = .ok (.invokevirtual 42, 3) := by decide +kernel
theorem dX0_become_54 : decode cX0_become 54 = .ok (.iinc 2 1, 3) := by decide +kernel
theorem dX0_become_57 : decode cX0_become 57 = .ok (.goto (-39), 3) := by decide +kernel
theorem dX0_become_60 : decode cX0_become 60 = .ok (.return_, 1) := by decide +kernel
theorem dX1_firstBroken_0 : decode cX1_firstBroken 0 = .ok (.iconst 0, 1) := by decide +kernel
theorem dX1_firstBroken_1 : decode cX1_firstBroken 1 = .ok (.istore_n 2, 1) := by decide +kernel
theorem dX1_firstBroken_2 : decode cX1_firstBroken 2 = .ok (.iload_n 2, 1) := by decide +kernel
theorem dX1_firstBroken_3 : decode cX1_firstBroken 3 = .ok (.iconst 5, 1) := by decide +kernel
theorem dX1_firstBroken_4 : decode cX1_firstBroken 4 = .ok (.if_icmp .ge 42, 3) := by decide +kernel
theorem dX1_firstBroken_7 : decode cX1_firstBroken 7 = .ok (.aload_n 0, 1) := by decide +kernel
theorem dX1_firstBroken_8 : decode cX1_firstBroken 8 = .ok (.getfield 9, 3) := by decide +kernel
theorem dX1_firstBroken_11 : decode cX1_firstBroken 11 = .ok (.iload_n 2, 1) := by decide +kernel
theorem dX1_firstBroken_12 : decode cX1_firstBroken 12 = .ok (.caload, 1) := by decide +kernel
theorem dX1_firstBroken_13 : decode cX1_firstBroken 13 = .ok (.bipush 45, 2) := by decide +kernel
theorem dX1_firstBroken_15 : decode cX1_firstBroken 15 = .ok (.if_icmp .ne 7, 3) := by decide +kernel
theorem dX1_firstBroken_18 : decode cX1_firstBroken 18 = .ok (.iconst 0, 1) := by decide +kernel
theorem dX1_firstBroken_19 : decode cX1_firstBroken 19 = .ok (.goto 9, 3) := by decide +kernel
theorem dX1_firstBroken_22 : decode cX1_firstBroken 22 = .ok (.aload_n 0, 1) := by decide +kernel
theorem dX1_firstBroken_23 : decode cX1_firstBroken 23 = .ok (.aload_n 1, 1) := by decide +kernel
theorem dX1_firstBroken_24 : decode cX1_firstBroken 24 = .ok (.iload_n 2, 1) := by decide +kernel
theorem dX1_firstBroken_25 : decode cX1_firstBroken 25 = .ok (.invokestatic 15, 3) := by decide +kernel
theorem dX1_firstBroken_28 : decode cX1_firstBroken 28 = .ok (.istore_n 3, 1) := by decide +kernel
theorem dX1_firstBroken_29 : decode cX1_firstBroken 29 = .ok (.iload_n 3, 1) := by decide +kernel
theorem dX1_firstBroken_30 : decode cX1_firstBroken 30 = .ok (.ifCond .eq 10, 3) := by decide +kernel
theorem dX1_firstBroken_33 : decode cX1_firstBroken 33 = .ok (.bipush 100, 2) := by decide +kernel
theorem dX1_firstBroken_35 : decode cX1_firstBroken 35 = .ok (.iload_n 2, 1) := by decide +kernel
theorem dX1_firstBroken_36 : decode cX1_firstBroken 36 = .ok (.imul, 1) := by decide +kernel
theorem dX1_firstBroken_37 : decode cX1_firstBroken 37 = .ok (.iload_n 3, 1) := by decide +kernel
theorem dX1_firstBroken_38 : decode cX1_firstBroken 38 = .ok (.iadd, 1) := by decide +kernel
theorem dX1_firstBroken_39 : decode cX1_firstBroken 39 = .ok (.ireturn, 1) := by decide +kernel
theorem dX1_firstBroken_40 : decode cX1_firstBroken 40 = .ok (.iinc 2 1, 3) := by decide +kernel
theorem dX1_firstBroken_43 : decode cX1_firstBroken 43 = .ok (.goto (-41), 3) := by decide +kernel
theorem dX1_firstBroken_46 : decode cX1_firstBroken 46 = .ok (.iconst (-1), 1) := by decide +kernel
theorem dX1_firstBroken_47 : decode cX1_firstBroken 47 = .ok (.ireturn, 1) := by decide +kernel
theorem dX1_brokenBy_0 : decode cX1_brokenBy 0 = .ok (.aload_n 0, 1) := by decide +kernel
theorem dX1_brokenBy_1 : decode cX1_brokenBy 1 = .ok (.getfield 21, 3) := by decide +kernel
theorem dX1_brokenBy_4 : decode cX1_brokenBy 4 = .ok (.iload_n 2, 1) := by decide +kernel
theorem dX1_brokenBy_5 : decode cX1_brokenBy 5 = .ok (.iaload, 1) := by decide +kernel
theorem dX1_brokenBy_6 : decode cX1_brokenBy 6 = .ok (.istore_n 3, 1) := by decide +kernel
theorem dX1_brokenBy_7 : decode cX1_brokenBy 7 = .ok (.iload_n 3, 1) := by decide +kernel
theorem dX1_brokenBy_8 : decode cX1_brokenBy 8 = .ok (.iconst (-1), 1) := by decide +kernel
theorem dX1_brokenBy_9 : decode cX1_brokenBy 9 = .ok (.if_icmp .eq 16, 3) := by decide +kernel
theorem dX1_brokenBy_12 : decode cX1_brokenBy 12 = .ok (.aload_n 0, 1) := by decide +kernel
theorem dX1_brokenBy_13 : decode cX1_brokenBy 13 = .ok (.getfield 9, 3) := by decide +kernel
theorem dX1_brokenBy_16 : decode cX1_brokenBy 16 = .ok (.iload_n 3, 1) := by decide +kernel
theorem dX1_brokenBy_17 : decode cX1_brokenBy 17 = .ok (.caload, 1) := by decide +kernel
theorem dX1_brokenBy_18 : decode cX1_brokenBy 18 = .ok (.bipush 99, 2) := by decide +kernel
theorem dX1_brokenBy_20 : decode cX1_brokenBy 20 = .ok (.if_icmp .eq 5, 3) := by decide +kernel
theorem dX1_brokenBy_23 : decode cX1_brokenBy 23 = .ok (.iconst 1, 1) := by decide +kernel
theorem dX1_brokenBy_24 : decode cX1_brokenBy 24 = .ok (.ireturn, 1) := by decide +kernel
theorem dX1_brokenBy_25 : decode cX1_brokenBy 25 = .ok (.iload_n 3, 1) := by decide +kernel
theorem dX1_brokenBy_26 : decode cX1_brokenBy 26 = .ok (.iconst (-1), 1) := by decide +kernel
theorem dX1_brokenBy_27 : decode cX1_brokenBy 27 = .ok (.if_icmp .eq 14, 3) := by decide +kernel
theorem dX1_brokenBy_30 : decode cX1_brokenBy 30 = .ok (.aload_n 0, 1) := by decide +kernel
theorem dX1_brokenBy_31 : decode cX1_brokenBy 31 = .ok (.getfield 25, 3) := by decide +kernel
theorem dX1_brokenBy_34 : decode cX1_brokenBy 34 = .ok (.iload_n 3, 1) := by decide +kernel
theorem dX1_brokenBy_35 : decode cX1_brokenBy 35 = .ok (.baload, 1) := by decide +kernel
theorem dX1_brokenBy_36 : decode cX1_brokenBy 36 = .ok (.ifCond .eq 5, 3) := by decide +kernel
theorem dX1_brokenBy_39 : decode cX1_brokenBy 39 = .ok (.iconst 2, 1) := by decide +kernel
theorem dX1_brokenBy_40 : decode cX1_brokenBy 40 = .ok (.ireturn, 1) := by decide +kernel
theorem dX1_brokenBy_41 : decode cX1_brokenBy 41 = .ok (.aload_n 0, 1) := by decide +kernel
theorem dX1_brokenBy_42 : decode cX1_brokenBy 42 = .ok (.getfield 29, 3) := by decide +kernel
theorem dX1_brokenBy_45 : decode cX1_brokenBy 45 = .ok (.iload_n 2, 1) := by decide +kernel
theorem dX1_brokenBy_46 : decode cX1_brokenBy 46 = .ok (.iaload, 1) := by decide +kernel
theorem dX1_brokenBy_47 : decode cX1_brokenBy 47 = .ok (.aload_n 1, 1) := by decide +kernel
theorem dX1_brokenBy_48 : decode cX1_brokenBy 48 = .ok (.getfield 32, 3) := by decide +kernel
theorem dX1_brokenBy_51 : decode cX1_brokenBy 51 = .ok (.aload_n 1, 1) := by decide +kernel
theorem dX1_brokenBy_52 : decode cX1_brokenBy 52 = .ok (.getfield 38, 3) := by decide +kernel
theorem dX1_brokenBy_55 : decode cX1_brokenBy 55 = .ok (.iconst (-1), 1) := by decide +kernel
theorem dX1_brokenBy_56 : decode cX1_brokenBy 56 = .ok (.ixor, 1) := by decide +kernel
theorem dX1_brokenBy_57 : decode cX1_brokenBy 57 = .ok (.iand, 1) := by decide +kernel
theorem dX1_brokenBy_58 : decode cX1_brokenBy 58 = .ok (.iconst (-1), 1) := by decide +kernel
theorem dX1_brokenBy_59 : decode cX1_brokenBy 59 = .ok (.ixor, 1) := by decide +kernel
theorem dX1_brokenBy_60 : decode cX1_brokenBy 60 = .ok (.iand, 1) := by decide +kernel
theorem dX1_brokenBy_61 : decode cX1_brokenBy 61 = .ok (.ifCond .eq 5, 3) := by decide +kernel
theorem dX1_brokenBy_64 : decode cX1_brokenBy 64 = .ok (.iconst 3, 1) := by decide +kernel
theorem dX1_brokenBy_65 : decode cX1_brokenBy 65 = .ok (.ireturn, 1) := by decide +kernel
theorem dX1_brokenBy_66 : decode cX1_brokenBy 66 = .ok (.aload_n 1, 1) := by decide +kernel
theorem dX1_brokenBy_67 : decode cX1_brokenBy 67 = .ok (.getfield 41, 3) := by decide +kernel
theorem dX1_brokenBy_70 : decode cX1_brokenBy 70 = .ok (.iload_n 2, 1) := by decide +kernel
theorem dX1_brokenBy_71 : decode cX1_brokenBy 71 = .ok (.iaload, 1) := by decide +kernel
theorem dX1_brokenBy_72 : decode cX1_brokenBy 72 = .ok (.iload_n 2, 1) := by decide +kernel
theorem dX1_brokenBy_73 : decode cX1_brokenBy 73 = .ok (.invokestatic 44, 3) := by decide +kernel
theorem dX1_brokenBy_76 : decode cX1_brokenBy 76 = .ok (.ifCond .eq 5, 3) := by decide +kernel
theorem dX1_brokenBy_79 : decode cX1_brokenBy 79 = .ok (.iconst 4, 1) := by decide +kernel
theorem dX1_brokenBy_80 : decode cX1_brokenBy 80 = .ok (.ireturn, 1) := by decide +kernel
theorem dX1_brokenBy_81 : decode cX1_brokenBy 81 = .ok (.aload_n 0, 1) := by decide +kernel
theorem dX1_brokenBy_82 : decode cX1_brokenBy 82 = .ok (.iload_n 2, 1) := by decide +kernel
theorem dX1_brokenBy_83 : decode cX1_brokenBy 83 = .ok (.invokestatic 48, 3) := by decide +kernel
theorem dX1_brokenBy_86 : decode cX1_brokenBy 86 = .ok (.ifCond .eq 5, 3) := by decide +kernel
theorem dX1_brokenBy_89 : decode cX1_brokenBy 89 = .ok (.iconst 5, 1) := by decide +kernel
theorem dX1_brokenBy_90 : decode cX1_brokenBy 90 = .ok (.ireturn, 1) := by decide +kernel
theorem dX1_brokenBy_91 : decode cX1_brokenBy 91 = .ok (.aload_n 0, 1) := by decide +kernel
theorem dX1_brokenBy_92 : decode cX1_brokenBy 92 = .ok (.getfield 9, 3) := by decide +kernel
theorem dX1_brokenBy_95 : decode cX1_brokenBy 95 = .ok (.iload_n 2, 1) := by decide +kernel
theorem dX1_brokenBy_96 : decode cX1_brokenBy 96 = .ok (.caload, 1) := by decide +kernel
theorem dX1_brokenBy_97 : decode cX1_brokenBy 97 = .ok (.bipush 105, 2) := by decide +kernel
theorem dX1_brokenBy_99 : decode cX1_brokenBy 99 = .ok (.if_icmp .ne 14, 3) := by decide +kernel
theorem dX1_brokenBy_102 : decode cX1_brokenBy 102 = .ok (.aload_n 0, 1) := by decide +kernel
theorem dX1_brokenBy_103 : decode cX1_brokenBy 103 = .ok (.iload_n 2, 1) := by decide +kernel
theorem dX1_brokenBy_104 : decode cX1_brokenBy 104 = .ok (.invokestatic 52, 3) := by decide +kernel
theorem dX1_brokenBy_107 : decode cX1_brokenBy 107 = .ok (.ifCond .eq 6, 3) := by decide +kernel
theorem dX1_brokenBy_110 : decode cX1_brokenBy 110 = .ok (.bipush 6, 2) := by decide +kernel
theorem dX1_brokenBy_112 : decode cX1_brokenBy 112 = .ok (.ireturn, 1) := by decide +kernel
theorem dX1_brokenBy_113 : decode cX1_brokenBy 113 = .ok (.aload_n 0, 1) := by decide +kernel
theorem dX1_brokenBy_114 : decode cX1_brokenBy 114 = .ok (.iload_n 2, 1) := by decide +kernel
theorem dX1_brokenBy_115 : decode cX1_brokenBy 115 = .ok (.invokestatic 55, 3) := by decide +kernel
theorem dX1_brokenBy_118 : decode cX1_brokenBy 118 = .ok (.ifCond .eq 6, 3) := by decide +kernel
theorem dX1_brokenBy_121 : decode cX1_brokenBy 121 = .ok (.bipush 7, 2) := by decide +kernel
theorem dX1_brokenBy_123 : decode cX1_brokenBy 123 = .ok (.ireturn, 1) := by decide +kernel
theorem dX1_brokenBy_124 : decode cX1_brokenBy 124 = .ok (.aload_n 0, 1) := by decide +kernel
theorem dX1_brokenBy_125 : decode cX1_brokenBy 125 = .ok (.getfield 9, 3) := by decide +kernel
theorem dX1_brokenBy_128 : decode cX1_brokenBy 128 = .ok (.iload_n 2, 1) := by decide +kernel
theorem dX1_brokenBy_129 : decode cX1_brokenBy 129 = .ok (.caload, 1) := by decide +kernel
theorem dX1_brokenBy_130 : decode cX1_brokenBy 130 = .ok (.bipush 99, 2) := by decide +kernel
theorem dX1_brokenBy_132 : decode cX1_brokenBy 132 = .ok (.if_icmp .ne 14, 3) := by decide +kernel
theorem dX1_brokenBy_135 : decode cX1_brokenBy 135 = .ok (.aload_n 0, 1) := by decide +kernel
theorem dX1_brokenBy_136 : decode cX1_brokenBy 136 = .ok (.iload_n 2, 1) := by decide +kernel
theorem dX1_brokenBy_137 : decode cX1_brokenBy 137 = .ok (.invokestatic 58, 3) := by decide +kernel
theorem dX1_brokenBy_140 : decode cX1_brokenBy 140 = .ok (.ifCond .eq 6, 3) := by decide +kernel
theorem dX1_brokenBy_143 : decode cX1_brokenBy 143 = .ok (.bipush 8, 2) := by decide +kernel
theorem dX1_brokenBy_145 : decode cX1_brokenBy 145 = .ok (.ireturn, 1) := by decide +kernel
theorem dX1_brokenBy_146 : decode cX1_brokenBy 146 = .ok (.aload_n 0, 1) := by decide +kernel
theorem dX1_brokenBy_147 : decode cX1_brokenBy 147 = .ok (.aload_n 1, 1) := by decide +kernel
theorem dX1_brokenBy_148 : decode cX1_brokenBy 148 = .ok (.iload_n 2, 1) := by decide +kernel
theorem dX1_brokenBy_149 : decode cX1_brokenBy 149 = .ok (.invokestatic 61, 3) := by decide +kernel
theorem dX1_brokenBy_152 : decode cX1_brokenBy 152 = .ok (.ifCond .eq 6, 3) := by decide +kernel
theorem dX1_brokenBy_155 : decode cX1_brokenBy 155 = .ok (.bipush 9, 2) := by decide +kernel
theorem dX1_brokenBy_157 : decode cX1_brokenBy 157 = .ok (.ireturn, 1) := by decide +kernel
theorem dX1_brokenBy_158 : decode cX1_brokenBy 158 = .ok (.aload_n 0, 1) := by decide +kernel
theorem dX1_brokenBy_159 : decode cX1_brokenBy 159 = .ok (.getfield 9, 3) := by decide +kernel
theorem dX1_brokenBy_162 : decode cX1_brokenBy 162 = .ok (.iload_n 2, 1) := by decide +kernel
theorem dX1_brokenBy_163 : decode cX1_brokenBy 163 = .ok (.caload, 1) := by decide +kernel
theorem dX1_brokenBy_164 : decode cX1_brokenBy 164 = .ok (.bipush 99, 2) := by decide +kernel
theorem dX1_brokenBy_166 : decode cX1_brokenBy 166 = .ok (.if_icmp .ne 25, 3) := by decide +kernel
theorem dX1_brokenBy_169 : decode cX1_brokenBy 169 = .ok (.aload_n 0, 1) := by decide +kernel
theorem dX1_brokenBy_170 : decode cX1_brokenBy 170 = .ok (.getfield 65, 3) := by decide +kernel
theorem dX1_brokenBy_173 : decode cX1_brokenBy 173 = .ok (.iload_n 2, 1) := by decide +kernel
theorem dX1_brokenBy_174 : decode cX1_brokenBy 174 = .ok (.baload, 1) := by decide +kernel
theorem dX1_brokenBy_175 : decode cX1_brokenBy 175 = .ok (.ifCond .ne 16, 3) := by decide +kernel
theorem dX1_brokenBy_178 : decode cX1_brokenBy 178 = .ok (.aload_n 1, 1) := by decide +kernel
theorem dX1_brokenBy_179 : decode cX1_brokenBy 179 = .ok (.iload_n 2, 1) := by decide +kernel
theorem dX1_brokenBy_180 : decode cX1_brokenBy 180 = .ok (.invokestatic 68, 3) := by decide +kernel
theorem dX1_brokenBy_183 : decode cX1_brokenBy 183 = .ok (.ifCond .eq 8, 3) := by decide +kernel
theorem dX1_brokenBy_186 : decode cX1_brokenBy 186 = .ok (.bipush 10, 2) := by decide +kernel
theorem dX1_brokenBy_188 : decode cX1_brokenBy 188 = .ok (.goto 4, 3) := by decide +kernel
theorem dX1_brokenBy_191 : decode cX1_brokenBy 191 = .ok (.iconst 0, 1) := by decide +kernel
theorem dX1_brokenBy_192 : decode cX1_brokenBy 192 = .ok (.ireturn, 1) := by decide +kernel
theorem dX1_isBadlyMade_0 : decode cX1_isBadlyMade 0 = .ok (.aload_n 0, 1) := by decide +kernel
theorem dX1_isBadlyMade_1 : decode cX1_isBadlyMade 1 = .ok (.getfield 21, 3) := by decide +kernel
theorem dX1_isBadlyMade_4 : decode cX1_isBadlyMade 4 = .ok (.iload_n 1, 1) := by decide +kernel
theorem dX1_isBadlyMade_5 : decode cX1_isBadlyMade 5 = .ok (.iaload, 1) := by decide +kernel
theorem dX1_isBadlyMade_6 : decode cX1_isBadlyMade 6 = .ok (.istore_n 2, 1) := by decide +kernel
theorem dX1_isBadlyMade_7 : decode cX1_isBadlyMade 7 = .ok (.aload_n 0, 1) := by decide +kernel
theorem dX1_isBadlyMade_8 : decode cX1_isBadlyMade 8 = .ok (.getfield 9, 3) := by decide +kernel
theorem dX1_isBadlyMade_11 : decode cX1_isBadlyMade 11 = .ok (.iload_n 1, 1) := by decide +kernel
theorem dX1_isBadlyMade_12 : decode cX1_isBadlyMade 12 = .ok (.caload, 1) := by decide +kernel
theorem dX1_isBadlyMade_13 : decode cX1_isBadlyMade 13 = .ok (.bipush 105, 2) := by decide +kernel
theorem dX1_isBadlyMade_15 : decode cX1_isBadlyMade 15 = .ok (.if_icmp .ne 8, 3) := by decide +kernel
theorem dX1_isBadlyMade_18 : decode cX1_isBadlyMade 18 = .ok (.iload_n 2, 1) := by decide +kernel
theorem dX1_isBadlyMade_19 : decode cX1_isBadlyMade 19 = .ok (.iconst (-1), 1) := by decide +kernel
theorem dX1_isBadlyMade_20 : decode cX1_isBadlyMade 20 = .ok (.if_icmp .ne 37, 3) := by decide +kernel
theorem dX1_isBadlyMade_23 : decode cX1_isBadlyMade 23 = .ok (.aload_n 0, 1) := by decide +kernel
theorem dX1_isBadlyMade_24 : decode cX1_isBadlyMade 24 = .ok (.getfield 65, 3) := by decide +kernel
theorem dX1_isBadlyMade_27 : decode cX1_isBadlyMade 27 = .ok (.iload_n 1, 1) := by decide +kernel
theorem dX1_isBadlyMade_28 : decode cX1_isBadlyMade 28 = .ok (.baload, 1) := by decide +kernel
theorem dX1_isBadlyMade_29 : decode cX1_isBadlyMade 29 = .ok (.ifCond .eq 12, 3) := by decide +kernel
theorem dX1_isBadlyMade_32 : decode cX1_isBadlyMade 32 = .ok (.aload_n 0, 1) := by decide +kernel
theorem dX1_isBadlyMade_33 : decode cX1_isBadlyMade 33 = .ok (.getfield 25, 3) := by decide +kernel
theorem dX1_isBadlyMade_36 : decode cX1_isBadlyMade 36 = .ok (.iload_n 1, 1) := by decide +kernel
theorem dX1_isBadlyMade_37 : decode cX1_isBadlyMade 37 = .ok (.baload, 1) := by decide +kernel
theorem dX1_isBadlyMade_38 : decode cX1_isBadlyMade 38 = .ok (.ifCond .ne 19, 3) := by decide +kernel
theorem dX1_isBadlyMade_41 : decode cX1_isBadlyMade 41 = .ok (.iload_n 2, 1) := by decide +kernel
theorem dX1_isBadlyMade_42 : decode cX1_isBadlyMade 42 = .ok (.iconst (-1), 1) := by decide +kernel
theorem dX1_isBadlyMade_43 : decode cX1_isBadlyMade 43 = .ok (.if_icmp .eq 18, 3) := by decide +kernel
theorem dX1_isBadlyMade_46 : decode cX1_isBadlyMade 46 = .ok (.aload_n 0, 1) := by decide +kernel
theorem dX1_isBadlyMade_47 : decode cX1_isBadlyMade 47 = .ok (.getfield 72, 3) := by decide +kernel
theorem dX1_isBadlyMade_50 : decode cX1_isBadlyMade 50 = .ok (.iload_n 2, 1) := by decide +kernel
theorem dX1_isBadlyMade_51 : decode cX1_isBadlyMade 51 = .ok (.caload, 1) := by decide +kernel
theorem dX1_isBadlyMade_52 : decode cX1_isBadlyMade 52 = .ok (.bipush 118, 2) := by decide +kernel
theorem dX1_isBadlyMade_54 : decode cX1_isBadlyMade 54 = .ok (.if_icmp .ne 7, 3) := by decide +kernel
theorem dX1_isBadlyMade_57 : decode cX1_isBadlyMade 57 = .ok (.iconst 1, 1) := by decide +kernel
theorem dX1_isBadlyMade_58 : decode cX1_isBadlyMade 58 = .ok (.goto 4, 3) := by decide +kernel
theorem dX1_isBadlyMade_61 : decode cX1_isBadlyMade 61 = .ok (.iconst 0, 1) := by decide +kernel
theorem dX1_isBadlyMade_62 : decode cX1_isBadlyMade 62 = .ok (.ireturn, 1) := by decide +kernel
theorem dX1_hasWrongMember_0 : decode cX1_hasWrongMember 0 = .ok (.iload_n 1, 1) := by decide +kernel
theorem dX1_hasWrongMember_1 : decode cX1_hasWrongMember 1 = .ok (.bipush 6, 2) := by decide +kernel
theorem dX1_hasWrongMember_3 : decode cX1_hasWrongMember 3 = .ok (.imul, 1) := by decide +kernel
theorem dX1_hasWrongMember_4 : decode cX1_hasWrongMember 4 = .ok (.istore_n 2, 1) := by decide +kernel
theorem dX1_hasWrongMember_5 : decode cX1_hasWrongMember 5 = .ok (.iload_n 2, 1) := by decide +kernel
theorem dX1_hasWrongMember_6 : decode cX1_hasWrongMember 6 = .ok (.iload_n 1, 1) := by decide +kernel
theorem dX1_hasWrongMember_7 : decode cX1_hasWrongMember 7 = .ok (.bipush 6, 2) := by decide +kernel
theorem dX1_hasWrongMember_9 : decode cX1_hasWrongMember 9 = .ok (.imul, 1) := by decide +kernel
theorem dX1_hasWrongMember_10 : decode cX1_hasWrongMember 10 = .ok (.bipush 6, 2) := by decide +kernel
theorem dX1_hasWrongMember_12 : decode cX1_hasWrongMember 12 = .ok (.iadd, 1) := by decide +kernel
theorem dX1_hasWrongMember_13 : decode cX1_hasWrongMember 13 = .ok (.if_icmp .ge 88, 3) := by decide +kernel
theorem dX1_hasWrongMember_16 : decode cX1_hasWrongMember 16 = .ok (.aload_n 0, 1) := by decide +kernel
theorem dX1_hasWrongMember_17 : decode cX1_hasWrongMember 17 = .ok (.getfield 75, 3) := by decide +kernel
theorem dX1_hasWrongMember_20 : decode cX1_hasWrongMember 20 = .ok (.getfield 79, 3) := by decide +kernel
theorem dX1_hasWrongMember_23 : decode cX1_hasWrongMember 23 = .ok (.iload_n 2, 1) := by decide +kernel
theorem dX1_hasWrongMember_24 : decode cX1_hasWrongMember 24 = .ok (.caload, 1) := by decide +kernel
theorem dX1_hasWrongMember_25 : decode cX1_hasWrongMember 25 = .ok (.istore_n 3, 1) := by decide +kernel
theorem dX1_hasWrongMember_26 : decode cX1_hasWrongMember 26 = .ok (.iload_n 3, 1) := by decide +kernel
theorem dX1_hasWrongMember_27 : decode cX1_hasWrongMember 27 = .ok (.bipush 45, 2) := by decide +kernel
theorem dX1_hasWrongMember_29 : decode cX1_hasWrongMember 29 = .ok (.if_icmp .eq 25, 3) := by decide +kernel
theorem dX1_hasWrongMember_32 : decode cX1_hasWrongMember 32 = .ok (.iload_n 3, 1) := by decide +kernel
theorem dX1_hasWrongMember_33 : decode cX1_hasWrongMember 33 = .ok (.bipush 112, 2) := by decide +kernel
theorem dX1_hasWrongMember_35 : decode cX1_hasWrongMember 35 = .ok (.if_icmp .ne 17, 3) := by decide +kernel
theorem dX1_hasWrongMember_38 : decode cX1_hasWrongMember 38 = .ok (.aload_n 0, 1) := by decide +kernel
theorem dX1_hasWrongMember_39 : decode cX1_hasWrongMember 39 = .ok (.getfield 75, 3) := by decide +kernel
theorem dX1_hasWrongMember_42 : decode cX1_hasWrongMember 42 = .ok (.getfield 84, 3) := by decide +kernel
theorem dX1_hasWrongMember_45 : decode cX1_hasWrongMember 45 = .ok (.iload_n 2, 1) := by decide +kernel
theorem dX1_hasWrongMember_46 : decode cX1_hasWrongMember 46 = .ok (.caload, 1) := by decide +kernel
theorem dX1_hasWrongMember_47 : decode cX1_hasWrongMember 47 = .ok (.bipush 102, 2) := by decide +kernel
theorem dX1_hasWrongMember_49 : decode cX1_hasWrongMember 49 = .ok (.if_icmp .ne 5, 3) := by decide +kernel
theorem dX1_hasWrongMember_52 : decode cX1_hasWrongMember 52 = .ok (.iconst 1, 1) := by decide +kernel
theorem dX1_hasWrongMember_53 : decode cX1_hasWrongMember 53 = .ok (.ireturn, 1) := by decide +kernel
theorem dX1_hasWrongMember_54 : decode cX1_hasWrongMember 54 = .ok (.aload_n 0, 1) := by decide +kernel
theorem dX1_hasWrongMember_55 : decode cX1_hasWrongMember 55 = .ok (.getfield 85, 3) := by decide +kernel
theorem dX1_hasWrongMember_58 : decode cX1_hasWrongMember 58 = .ok (.getfield 79, 3) := by decide +kernel
theorem dX1_hasWrongMember_61 : decode cX1_hasWrongMember 61 = .ok (.iload_n 2, 1) := by decide +kernel
theorem dX1_hasWrongMember_62 : decode cX1_hasWrongMember 62 = .ok (.caload, 1) := by decide +kernel
theorem dX1_hasWrongMember_63 : decode cX1_hasWrongMember 63 = .ok (.istore 4, 2) := by decide +kernel
theorem dX1_hasWrongMember_65 : decode cX1_hasWrongMember 65 = .ok (.iload 4, 2) := by decide +kernel
theorem dX1_hasWrongMember_67 : decode cX1_hasWrongMember 67 = .ok (.bipush 45, 2) := by decide +kernel
theorem dX1_hasWrongMember_69 : decode cX1_hasWrongMember 69 = .ok (.if_icmp .eq 26, 3) := by decide +kernel
theorem dX1_hasWrongMember_72 : decode cX1_hasWrongMember 72 = .ok (.iload 4, 2) := by decide +kernel
theorem dX1_hasWrongMember_74 : decode cX1_hasWrongMember 74 = .ok (.bipush 112, 2) := by decide +kernel
theorem dX1_hasWrongMember_76 : decode cX1_hasWrongMember 76 = .ok (.if_icmp .ne 17, 3) := by decide +kernel
theorem dX1_hasWrongMember_79 : decode cX1_hasWrongMember 79 = .ok (.aload_n 0, 1) := by decide +kernel
theorem dX1_hasWrongMember_80 : decode cX1_hasWrongMember 80 = .ok (.getfield 85, 3) := by decide +kernel
theorem dX1_hasWrongMember_83 : decode cX1_hasWrongMember 83 = .ok (.getfield 84, 3) := by decide +kernel
theorem dX1_hasWrongMember_86 : decode cX1_hasWrongMember 86 = .ok (.iload_n 2, 1) := by decide +kernel
theorem dX1_hasWrongMember_87 : decode cX1_hasWrongMember 87 = .ok (.caload, 1) := by decide +kernel
theorem dX1_hasWrongMember_88 : decode cX1_hasWrongMember 88 = .ok (.bipush 70, 2) := by decide +kernel
theorem dX1_hasWrongMember_90 : decode cX1_hasWrongMember 90 = .ok (.if_icmp .eq 5, 3) := by decide +kernel
theorem dX1_hasWrongMember_93 : decode cX1_hasWrongMember 93 = .ok (.iconst 1, 1) := by decide +kernel
theorem dX1_hasWrongMember_94 : decode cX1_hasWrongMember 94 = .ok (.ireturn, 1) := by decide +kernel
theorem dX1_hasWrongMember_95 : decode cX1_hasWrongMember 95 = .ok (.iinc 2 1, 3) := by decide +kernel
theorem dX1_hasWrongMember_98 : decode cX1_hasWrongMember 98 = .ok (.goto (-93), 3) := by decide +kernel
theorem dX1_hasWrongMember_101 : decode cX1_hasWrongMember 101 = .ok (.iconst 0, 1) := by decide +kernel
theorem dX1_hasWrongMember_102 : decode cX1_hasWrongMember 102 = .ok (.ireturn, 1) := by decide +kernel
theorem dX1_hasWrongAbstract_0 : decode cX1_hasWrongAbstract 0 = .ok (.aload_n 0, 1) := by decide +kernel
theorem dX1_hasWrongAbstract_1 : decode cX1_hasWrongAbstract 1 = .ok (.getfield 9, 3) := by decide +kernel
theorem dX1_hasWrongAbstract_4 : decode cX1_hasWrongAbstract 4 = .ok (.iload_n 1, 1) := by decide +kernel
theorem dX1_hasWrongAbstract_5 : decode cX1_hasWrongAbstract 5 = .ok (.caload, 1) := by decide +kernel
theorem dX1_hasWrongAbstract_6 : decode cX1_hasWrongAbstract 6 = .ok (.bipush 99, 2) := by decide +kernel
theorem dX1_hasWrongAbstract_8 : decode cX1_hasWrongAbstract 8 = .ok (.if_icmp .ne 16, 3) := by decide +kernel
theorem dX1_hasWrongAbstract_11 : decode cX1_hasWrongAbstract 11 = .ok (.aload_n 0, 1) := by decide +kernel
theorem dX1_hasWrongAbstract_12 : decode cX1_hasWrongAbstract 12 = .ok (.getfield 65, 3) := by decide +kernel
theorem dX1_hasWrongAbstract_15 : decode cX1_hasWrongAbstract 15 = .ok (.iload_n 1, 1) := by decide +kernel
theorem dX1_hasWrongAbstract_16 : decode cX1_hasWrongAbstract 16 = .ok (.baload, 1) := by decide +kernel
theorem dX1_hasWrongAbstract_17 : decode cX1_hasWrongAbstract 17 = .ok (.ifCond .ne 7, 3) := by decide +kernel
theorem dX1_hasWrongAbstract_20 : decode cX1_hasWrongAbstract 20 = .ok (.iconst 1, 1) := by decide +kernel
theorem dX1_hasWrongAbstract_21 : decode cX1_hasWrongAbstract 21 = .ok (.goto 4, 3) := by decide +kernel
theorem dX1_hasWrongAbstract_24 : decode cX1_hasWrongAbstract 24 = .ok (.iconst 0, 1) := by decide +kernel
theorem dX1_hasWrongAbstract_25 : decode cX1_hasWrongAbstract 25 = .ok (.istore_n 2, 1) := by decide +kernel
theorem dX1_hasWrongAbstract_26 : decode cX1_hasWrongAbstract 26 = .ok (.iload_n 1, 1) := by decide +kernel
theorem dX1_hasWrongAbstract_27 : decode cX1_hasWrongAbstract 27 = .ok (.bipush 6, 2) := by decide +kernel
theorem dX1_hasWrongAbstract_29 : decode cX1_hasWrongAbstract 29 = .ok (.imul, 1) := by decide +kernel
theorem dX1_hasWrongAbstract_30 : decode cX1_hasWrongAbstract 30 = .ok (.istore_n 3, 1) := by decide +kernel
theorem dX1_hasWrongAbstract_31 : decode cX1_hasWrongAbstract 31 = .ok (.iload_n 3, 1) := by decide +kernel
theorem dX1_hasWrongAbstract_32 : decode cX1_hasWrongAbstract 32 = .ok (.iload_n 1, 1) := by decide +kernel
theorem dX1_hasWrongAbstract_33 : decode cX1_hasWrongAbstract 33 = .ok (.bipush 6, 2) := by decide +kernel
theorem dX1_hasWrongAbstract_35 : decode cX1_hasWrongAbstract 35 = .ok (.imul, 1) := by decide +kernel
theorem dX1_hasWrongAbstract_36 : decode cX1_hasWrongAbstract 36 = .ok (.bipush 6, 2) := by decide +kernel
theorem dX1_hasWrongAbstract_38 : decode cX1_hasWrongAbstract 38 = .ok (.iadd, 1) := by decide +kernel
theorem dX1_hasWrongAbstract_39 : decode cX1_hasWrongAbstract 39 = .ok (.if_icmp .ge 43, 3) := by decide +kernel
theorem dX1_hasWrongAbstract_42 : decode cX1_hasWrongAbstract 42 = .ok (.aload_n 0, 1) := by decide +kernel
theorem dX1_hasWrongAbstract_43 : decode cX1_hasWrongAbstract 43 = .ok (.getfield 75, 3) := by decide +kernel
theorem dX1_hasWrongAbstract_46 : decode cX1_hasWrongAbstract 46 = .ok (.getfield 84, 3) := by decide +kernel
theorem dX1_hasWrongAbstract_49 : decode cX1_hasWrongAbstract 49 = .ok (.iload_n 3, 1) := by decide +kernel
theorem dX1_hasWrongAbstract_50 : decode cX1_hasWrongAbstract 50 = .ok (.caload, 1) := by decide +kernel
theorem dX1_hasWrongAbstract_51 : decode cX1_hasWrongAbstract 51 = .ok (.bipush 97, 2) := by decide +kernel
theorem dX1_hasWrongAbstract_53 : decode cX1_hasWrongAbstract 53 = .ok (.if_icmp .ne 23, 3) := by decide +kernel
theorem dX1_hasWrongAbstract_56 : decode cX1_hasWrongAbstract 56 = .ok (.iload_n 2, 1) := by decide +kernel
theorem dX1_hasWrongAbstract_57 : decode cX1_hasWrongAbstract 57 = .ok (.ifCond .ne 17, 3) := by decide +kernel
theorem dX1_hasWrongAbstract_60 : decode cX1_hasWrongAbstract 60 = .ok (.aload_n 0, 1) := by decide +kernel
theorem dX1_hasWrongAbstract_61 : decode cX1_hasWrongAbstract 61 = .ok (.getfield 75, 3) := by decide +kernel
theorem dX1_hasWrongAbstract_64 : decode cX1_hasWrongAbstract 64 = .ok (.getfield 79, 3) := by decide +kernel
theorem dX1_hasWrongAbstract_67 : decode cX1_hasWrongAbstract 67 = .ok (.iload_n 3, 1) := by decide +kernel
theorem dX1_hasWrongAbstract_68 : decode cX1_hasWrongAbstract 68 = .ok (.caload, 1) := by decide +kernel
theorem dX1_hasWrongAbstract_69 : decode cX1_hasWrongAbstract 69 = .ok (.bipush 118, 2) := by decide +kernel
theorem dX1_hasWrongAbstract_71 : decode cX1_hasWrongAbstract 71 = .ok (.if_icmp .ne 5, 3) := by decide +kernel
theorem dX1_hasWrongAbstract_74 : decode cX1_hasWrongAbstract 74 = .ok (.iconst 1, 1) := by decide +kernel
theorem dX1_hasWrongAbstract_75 : decode cX1_hasWrongAbstract 75 = .ok (.ireturn, 1) := by decide +kernel
theorem dX1_hasWrongAbstract_76 : decode cX1_hasWrongAbstract 76 = .ok (.iinc 3 1, 3) := by decide +kernel
theorem dX1_hasWrongAbstract_79 : decode cX1_hasWrongAbstract 79 = .ok (.goto (-48), 3) := by decide +kernel
theorem dX1_hasWrongAbstract_82 : decode cX1_hasWrongAbstract 82 = .ok (.iconst 0, 1) := by decide +kernel
theorem dX1_hasWrongAbstract_83 : decode cX1_hasWrongAbstract 83 = .ok (.ireturn, 1) := by decide +kernel
theorem dX1_standsWrongly_0 : decode cX1_standsWrongly 0 = .ok (.aload_n 0, 1) := by decide +kernel
theorem dX1_standsWrongly_1 : decode cX1_standsWrongly 1 = .ok (.getfield 21, 3) := by decide +kernel
theorem dX1_standsWrongly_4 : decode cX1_standsWrongly 4 = .ok (.iload_n 1, 1) := by decide +kernel
theorem dX1_standsWrongly_5 : decode cX1_standsWrongly 5 = .ok (.iaload, 1) := by decide +kernel
theorem dX1_standsWrongly_6 : decode cX1_standsWrongly 6 = .ok (.istore_n 2, 1) := by decide +kernel
theorem dX1_standsWrongly_7 : decode cX1_standsWrongly 7 = .ok (.iconst 1, 1) := by decide +kernel
theorem dX1_standsWrongly_8 : decode cX1_standsWrongly 8 = .ok (.istore_n 3, 1) := by decide +kernel
theorem dX1_standsWrongly_9 : decode cX1_standsWrongly 9 = .ok (.iload_n 3, 1) := by decide +kernel
theorem dX1_standsWrongly_10 : decode cX1_standsWrongly 10 = .ok (.iconst 5, 1) := by decide +kernel
theorem dX1_standsWrongly_11 : decode cX1_standsWrongly 11 = .ok (.if_icmp .ge 74, 3) := by decide +kernel
theorem dX1_standsWrongly_14 : decode cX1_standsWrongly 14 = .ok (.iload_n 2, 1) := by decide +kernel
theorem dX1_standsWrongly_15 : decode cX1_standsWrongly 15 = .ok (.iconst (-1), 1) := by decide +kernel
theorem dX1_standsWrongly_16 : decode cX1_standsWrongly 16 = .ok (.if_icmp .eq 69, 3) := by decide +kernel
theorem dX1_standsWrongly_19 : decode cX1_standsWrongly 19 = .ok (.aload_n 0, 1) := by decide +kernel
theorem dX1_standsWrongly_20 : decode cX1_standsWrongly 20 = .ok (.getfield 9, 3) := by decide +kernel
theorem dX1_standsWrongly_23 : decode cX1_standsWrongly 23 = .ok (.iload_n 2, 1) := by decide +kernel
theorem dX1_standsWrongly_24 : decode cX1_standsWrongly 24 = .ok (.caload, 1) := by decide +kernel
theorem dX1_standsWrongly_25 : decode cX1_standsWrongly 25 = .ok (.bipush 99, 2) := by decide +kernel
theorem dX1_standsWrongly_27 : decode cX1_standsWrongly 27 = .ok (.if_icmp .ne 58, 3) := by decide +kernel
theorem dX1_standsWrongly_30 : decode cX1_standsWrongly 30 = .ok (.iconst 0, 1) := by decide +kernel
theorem dX1_standsWrongly_31 : decode cX1_standsWrongly 31 = .ok (.istore 4, 2) := by decide +kernel
theorem dX1_standsWrongly_33 : decode cX1_standsWrongly 33 = .ok (.iload 4, 2) := by decide +kernel
theorem dX1_standsWrongly_35 : decode cX1_standsWrongly 35 = .ok (.bipush 6, 2) := by decide +kernel
theorem dX1_standsWrongly_37 : decode cX1_standsWrongly 37 = .ok (.if_icmp .ge 35, 3) := by decide +kernel
theorem dX1_standsWrongly_40 : decode cX1_standsWrongly 40 = .ok (.aload_n 0, 1) := by decide +kernel
theorem dX1_standsWrongly_41 : decode cX1_standsWrongly 41 = .ok (.getfield 75, 3) := by decide +kernel
theorem dX1_standsWrongly_44 : decode cX1_standsWrongly 44 = .ok (.iload_n 1, 1) := by decide +kernel
theorem dX1_standsWrongly_45 : decode cX1_standsWrongly 45 = .ok (.bipush 6, 2) := by decide +kernel
theorem dX1_standsWrongly_47 : decode cX1_standsWrongly 47 = .ok (.imul, 1) := by decide +kernel
theorem dX1_standsWrongly_48 : decode cX1_standsWrongly 48 = .ok (.iload 4, 2) := by decide +kernel
theorem dX1_standsWrongly_50 : decode cX1_standsWrongly 50 = .ok (.iadd, 1) := by decide +kernel
theorem dX1_standsWrongly_51 : decode cX1_standsWrongly 51 = .ok (.iload_n 2, 1) := by decide +kernel
theorem dX1_standsWrongly_52 : decode cX1_standsWrongly 52 = .ok (.bipush 6, 2) := by decide +kernel
theorem dX1_standsWrongly_54 : decode cX1_standsWrongly 54 = .ok (.imul, 1) := by decide +kernel
theorem dX1_standsWrongly_55 : decode cX1_standsWrongly 55 = .ok (.iload 4, 2) := by decide +kernel
theorem dX1_standsWrongly_57 : decode cX1_standsWrongly 57 = .ok (.iadd, 1) := by decide +kernel
theorem dX1_standsWrongly_58 : decode cX1_standsWrongly 58 = .ok (.invokestatic 88, 3) := by decide +kernel
theorem dX1_standsWrongly_61 : decode cX1_standsWrongly 61 = .ok (.ifCond .eq 5, 3) := by decide +kernel
theorem dX1_standsWrongly_64 : decode cX1_standsWrongly 64 = .ok (.iconst 1, 1) := by decide +kernel
theorem dX1_standsWrongly_65 : decode cX1_standsWrongly 65 = .ok (.ireturn, 1) := by decide +kernel
theorem dX1_standsWrongly_66 : decode cX1_standsWrongly 66 = .ok (.iinc 4 1, 3) := by decide +kernel
theorem dX1_standsWrongly_69 : decode cX1_standsWrongly 69 = .ok (.goto (-36), 3) := by decide +kernel
theorem dX1_standsWrongly_72 : decode cX1_standsWrongly 72 = .ok (.aload_n 0, 1) := by decide +kernel
theorem dX1_standsWrongly_73 : decode cX1_standsWrongly 73 = .ok (.getfield 21, 3) := by decide +kernel
theorem dX1_standsWrongly_76 : decode cX1_standsWrongly 76 = .ok (.iload_n 2, 1) := by decide +kernel
theorem dX1_standsWrongly_77 : decode cX1_standsWrongly 77 = .ok (.iaload, 1) := by decide +kernel
theorem dX1_standsWrongly_78 : decode cX1_standsWrongly 78 = .ok (.istore_n 2, 1) := by decide +kernel
theorem dX1_standsWrongly_79 : decode cX1_standsWrongly 79 = .ok (.iinc 3 1, 3) := by decide +kernel
theorem dX1_standsWrongly_82 : decode cX1_standsWrongly 82 = .ok (.goto (-73), 3) := by decide +kernel
theorem dX1_standsWrongly_85 : decode cX1_standsWrongly 85 = .ok (.iconst 0, 1) := by decide +kernel
theorem dX1_standsWrongly_86 : decode cX1_standsWrongly 86 = .ok (.ireturn, 1) := by decide +kernel
theorem dX1_clashes_0 : decode cX1_clashes 0 = .ok (.aload_n 0, 1) := by decide +kernel
theorem dX1_clashes_1 : decode cX1_clashes 1 = .ok (.getfield 79, 3) := by decide +kernel
theorem dX1_clashes_4 : decode cX1_clashes 4 = .ok (.iload_n 2, 1) := by decide +kernel
theorem dX1_clashes_5 : decode cX1_clashes 5 = .ok (.caload, 1) := by decide +kernel
theorem dX1_clashes_6 : decode cX1_clashes 6 = .ok (.istore_n 3, 1) := by decide +kernel
theorem dX1_clashes_7 : decode cX1_clashes 7 = .ok (.aload_n 0, 1) := by decide +kernel
theorem dX1_clashes_8 : decode cX1_clashes 8 = .ok (.getfield 79, 3) := by decide +kernel
theorem dX1_clashes_11 : decode cX1_clashes 11 = .ok (.iload_n 1, 1) := by decide +kernel
theorem dX1_clashes_12 : decode cX1_clashes 12 = .ok (.caload, 1) := by decide +kernel
theorem dX1_clashes_13 : decode cX1_clashes 13 = .ok (.bipush 45, 2) := by decide +kernel
theorem dX1_clashes_15 : decode cX1_clashes 15 = .ok (.if_icmp .eq 15, 3) := by decide +kernel
theorem dX1_clashes_18 : decode cX1_clashes 18 = .ok (.iload_n 3, 1) := by decide +kernel
theorem dX1_clashes_19 : decode cX1_clashes 19 = .ok (.bipush 45, 2) := by decide +kernel
theorem dX1_clashes_21 : decode cX1_clashes 21 = .ok (.if_icmp .eq 9, 3) := by decide +kernel
theorem dX1_clashes_24 : decode cX1_clashes 24 = .ok (.iload_n 3, 1) := by decide +kernel
theorem dX1_clashes_25 : decode cX1_clashes 25 = .ok (.bipush 118, 2) := by decide +kernel
theorem dX1_clashes_27 : decode cX1_clashes 27 = .ok (.if_icmp .ne 5, 3) := by decide +kernel
theorem dX1_clashes_30 : decode cX1_clashes 30 = .ok (.iconst 0, 1) := by decide +kernel
theorem dX1_clashes_31 : decode cX1_clashes 31 = .ok (.ireturn, 1) := by decide +kernel
theorem dX1_clashes_32 : decode cX1_clashes 32 = .ok (.aload_n 0, 1) := by decide +kernel
theorem dX1_clashes_33 : decode cX1_clashes 33 = .ok (.getfield 84, 3) := by decide +kernel
theorem dX1_clashes_36 : decode cX1_clashes 36 = .ok (.iload_n 1, 1) := by decide +kernel
theorem dX1_clashes_37 : decode cX1_clashes 37 = .ok (.caload, 1) := by decide +kernel
theorem dX1_clashes_38 : decode cX1_clashes 38 = .ok (.bipush 115, 2) := by decide +kernel
theorem dX1_clashes_40 : decode cX1_clashes 40 = .ok (.if_icmp .ne 7, 3) := by decide +kernel
theorem dX1_clashes_43 : decode cX1_clashes 43 = .ok (.iconst 1, 1) := by decide +kernel
theorem dX1_clashes_44 : decode cX1_clashes 44 = .ok (.goto 4, 3) := by decide +kernel
theorem dX1_clashes_47 : decode cX1_clashes 47 = .ok (.iconst 0, 1) := by decide +kernel
theorem dX1_clashes_48 : decode cX1_clashes 48 = .ok (.aload_n 0, 1) := by decide +kernel
theorem dX1_clashes_49 : decode cX1_clashes 49 = .ok (.getfield 84, 3) := by decide +kernel
theorem dX1_clashes_52 : decode cX1_clashes 52 = .ok (.iload_n 2, 1) := by decide +kernel
theorem dX1_clashes_53 : decode cX1_clashes 53 = .ok (.caload, 1) := by decide +kernel
theorem dX1_clashes_54 : decode cX1_clashes 54 = .ok (.bipush 115, 2) := by decide +kernel
theorem dX1_clashes_56 : decode cX1_clashes 56 = .ok (.if_icmp .ne 7, 3) := by decide +kernel
theorem dX1_clashes_59 : decode cX1_clashes 59 = .ok (.iconst 1, 1) := by decide +kernel
theorem dX1_clashes_60 : decode cX1_clashes 60 = .ok (.goto 4, 3) := by decide +kernel
theorem dX1_clashes_63 : decode cX1_clashes 63 = .ok (.iconst 0, 1) := by decide +kernel
theorem dX1_clashes_64 : decode cX1_clashes 64 = .ok (.if_icmp .ne 30, 3) := by decide +kernel
theorem dX1_clashes_67 : decode cX1_clashes 67 = .ok (.aload_n 0, 1) := by decide +kernel
theorem dX1_clashes_68 : decode cX1_clashes 68 = .ok (.getfield 84, 3) := by decide +kernel
theorem dX1_clashes_71 : decode cX1_clashes 71 = .ok (.iload_n 2, 1) := by decide +kernel
theorem dX1_clashes_72 : decode cX1_clashes 72 = .ok (.caload, 1) := by decide +kernel
theorem dX1_clashes_73 : decode cX1_clashes 73 = .ok (.bipush 102, 2) := by decide +kernel
theorem dX1_clashes_75 : decode cX1_clashes 75 = .ok (.if_icmp .eq 19, 3) := by decide +kernel
theorem dX1_clashes_78 : decode cX1_clashes 78 = .ok (.aload_n 0, 1) := by decide +kernel
theorem dX1_clashes_79 : decode cX1_clashes 79 = .ok (.getfield 79, 3) := by decide +kernel
theorem dX1_clashes_82 : decode cX1_clashes 82 = .ok (.iload_n 1, 1) := by decide +kernel
theorem dX1_clashes_83 : decode cX1_clashes 83 = .ok (.caload, 1) := by decide +kernel
theorem dX1_clashes_84 : decode cX1_clashes 84 = .ok (.invokestatic 92, 3) := by decide +kernel
theorem dX1_clashes_87 : decode cX1_clashes 87 = .ok (.iload_n 3, 1) := by decide +kernel
theorem dX1_clashes_88 : decode cX1_clashes 88 = .ok (.invokestatic 92, 3) := by decide +kernel
theorem dX1_clashes_91 : decode cX1_clashes 91 = .ok (.if_icmp .le 7, 3) := by decide +kernel
theorem dX1_clashes_94 : decode cX1_clashes 94 = .ok (.iconst 1, 1) := by decide +kernel
theorem dX1_clashes_95 : decode cX1_clashes 95 = .ok (.goto 4, 3) := by decide +kernel
theorem dX1_clashes_98 : decode cX1_clashes 98 = .ok (.iconst 0, 1) := by decide +kernel
theorem dX1_clashes_99 : decode cX1_clashes 99 = .ok (.ireturn, 1) := by decide +kernel
theorem dX1_hidesInterface_0 : decode cX1_hidesInterface 0 = .ok (.aload_n 1, 1) := by decide +kernel
theorem dX1_hidesInterface_1 : decode cX1_hidesInterface 1 = .ok (.getfield 41, 3) := by decide +kernel
theorem dX1_hidesInterface_4 : decode cX1_hidesInterface 4 = .ok (.iload_n 2, 1) := by decide +kernel
theorem dX1_hidesInterface_5 : decode cX1_hidesInterface 5 = .ok (.iaload, 1) := by decide +kernel
theorem dX1_hidesInterface_6 : decode cX1_hidesInterface 6 = .ok (.iconst 1, 1) := by decide +kernel
theorem dX1_hidesInterface_7 : decode cX1_hidesInterface 7 = .ok (.iload_n 2, 1) := by decide +kernel
theorem dX1_hidesInterface_8 : decode cX1_hidesInterface 8 = .ok (.ishl, 1) := by decide +kernel
theorem dX1_hidesInterface_9 : decode cX1_hidesInterface 9 = .ok (.iconst (-1), 1) := by decide +kernel
theorem dX1_hidesInterface_10 : decode cX1_hidesInterface 10 = .ok (.ixor, 1) := by decide +kernel
theorem dX1_hidesInterface_11 : decode cX1_hidesInterface 11 = .ok (.iand, 1) := by decide +kernel
theorem dX1_hidesInterface_12 : decode cX1_hidesInterface 12 = .ok (.istore_n 3, 1) := by decide +kernel
theorem dX1_hidesInterface_13 : decode cX1_hidesInterface 13 = .ok (.iconst 0, 1) := by decide +kernel
theorem dX1_hidesInterface_14 : decode cX1_hidesInterface 14 = .ok (.istore 4, 2) := by decide +kernel
theorem dX1_hidesInterface_16 : decode cX1_hidesInterface 16 = .ok (.iload 4, 2) := by decide +kernel
theorem dX1_hidesInterface_18 : decode cX1_hidesInterface 18 = .ok (.bipush 6, 2) := by decide +kernel
theorem dX1_hidesInterface_20 : decode cX1_hidesInterface 20 = .ok (.if_icmp .ge 86, 3) := by decide +kernel
theorem dX1_hidesInterface_23 : decode cX1_hidesInterface 23 = .ok (.aload_n 0, 1) := by decide +kernel
theorem dX1_hidesInterface_24 : decode cX1_hidesInterface 24 = .ok (.getfield 75, 3) := by decide +kernel
theorem dX1_hidesInterface_27 : decode cX1_hidesInterface 27 = .ok (.getfield 79, 3) := by decide +kernel
theorem dX1_hidesInterface_30 : decode cX1_hidesInterface 30 = .ok (.iload_n 2, 1) := by decide +kernel
theorem dX1_hidesInterface_31 : decode cX1_hidesInterface 31 = .ok (.bipush 6, 2) := by decide +kernel
theorem dX1_hidesInterface_33 : decode cX1_hidesInterface 33 = .ok (.imul, 1) := by decide +kernel
theorem dX1_hidesInterface_34 : decode cX1_hidesInterface 34 = .ok (.iload 4, 2) := by decide +kernel
theorem dX1_hidesInterface_36 : decode cX1_hidesInterface 36 = .ok (.iadd, 1) := by decide +kernel
theorem dX1_hidesInterface_37 : decode cX1_hidesInterface 37 = .ok (.caload, 1) := by decide +kernel
theorem dX1_hidesInterface_38 : decode cX1_hidesInterface 38 = .ok (.istore 5, 2) := by decide +kernel
theorem dX1_hidesInterface_40 : decode cX1_hidesInterface 40 = .ok (.iload 5, 2) := by decide +kernel
theorem dX1_hidesInterface_42 : decode cX1_hidesInterface 42 = .ok (.bipush 45, 2) := by decide +kernel
theorem dX1_hidesInterface_44 : decode cX1_hidesInterface 44 = .ok (.if_icmp .eq 34, 3) := by decide +kernel
theorem dX1_hidesInterface_47 : decode cX1_hidesInterface 47 = .ok (.iload 5, 2) := by decide +kernel
theorem dX1_hidesInterface_49 : decode cX1_hidesInterface 49 = .ok (.bipush 112, 2) := by decide +kernel
theorem dX1_hidesInterface_51 : decode cX1_hidesInterface 51 = .ok (.if_icmp .ne 23, 3) := by decide +kernel
theorem dX1_hidesInterface_54 : decode cX1_hidesInterface 54 = .ok (.aload_n 0, 1) := by decide +kernel
theorem dX1_hidesInterface_55 : decode cX1_hidesInterface 55 = .ok (.getfield 75, 3) := by decide +kernel
theorem dX1_hidesInterface_58 : decode cX1_hidesInterface 58 = .ok (.getfield 84, 3) := by decide +kernel
theorem dX1_hidesInterface_61 : decode cX1_hidesInterface 61 = .ok (.iload_n 2, 1) := by decide +kernel
theorem dX1_hidesInterface_62 : decode cX1_hidesInterface 62 = .ok (.bipush 6, 2) := by decide +kernel
theorem dX1_hidesInterface_64 : decode cX1_hidesInterface 64 = .ok (.imul, 1) := by decide +kernel
theorem dX1_hidesInterface_65 : decode cX1_hidesInterface 65 = .ok (.iload 4, 2) := by decide +kernel
theorem dX1_hidesInterface_67 : decode cX1_hidesInterface 67 = .ok (.iadd, 1) := by decide +kernel
theorem dX1_hidesInterface_68 : decode cX1_hidesInterface 68 = .ok (.caload, 1) := by decide +kernel
theorem dX1_hidesInterface_69 : decode cX1_hidesInterface 69 = .ok (.bipush 115, 2) := by decide +kernel
theorem dX1_hidesInterface_71 : decode cX1_hidesInterface 71 = .ok (.if_icmp .ne 7, 3) := by decide +kernel
theorem dX1_hidesInterface_74 : decode cX1_hidesInterface 74 = .ok (.iconst 1, 1) := by decide +kernel
theorem dX1_hidesInterface_75 : decode cX1_hidesInterface 75 = .ok (.goto 4, 3) := by decide +kernel
theorem dX1_hidesInterface_78 : decode cX1_hidesInterface 78 = .ok (.iconst 0, 1) := by decide +kernel
theorem dX1_hidesInterface_79 : decode cX1_hidesInterface 79 = .ok (.istore 6, 2) := by decide +kernel
theorem dX1_hidesInterface_81 : decode cX1_hidesInterface 81 = .ok (.iload 6, 2) := by decide +kernel
theorem dX1_hidesInterface_83 : decode cX1_hidesInterface 83 = .ok (.ifCond .eq 17, 3) := by decide +kernel
theorem dX1_hidesInterface_86 : decode cX1_hidesInterface 86 = .ok (.aload_n 1, 1) := by decide +kernel
theorem dX1_hidesInterface_87 : decode cX1_hidesInterface 87 = .ok (.getfield 96, 3) := by decide +kernel
theorem dX1_hidesInterface_90 : decode cX1_hidesInterface 90 = .ok (.iload 4, 2) := by decide +kernel
theorem dX1_hidesInterface_92 : decode cX1_hidesInterface 92 = .ok (.iaload, 1) := by decide +kernel
theorem dX1_hidesInterface_93 : decode cX1_hidesInterface 93 = .ok (.iload_n 3, 1) := by decide +kernel
theorem dX1_hidesInterface_94 : decode cX1_hidesInterface 94 = .ok (.iand, 1) := by decide +kernel
theorem dX1_hidesInterface_95 : decode cX1_hidesInterface 95 = .ok (.ifCond .eq 5, 3) := by decide +kernel
theorem dX1_hidesInterface_98 : decode cX1_hidesInterface 98 = .ok (.iconst 1, 1) := by decide +kernel
theorem dX1_hidesInterface_99 : decode cX1_hidesInterface 99 = .ok (.ireturn, 1) := by decide +kernel
theorem dX1_hidesInterface_100 : decode cX1_hidesInterface 100 = .ok (.iinc 4 1, 3) := by decide +kernel
theorem dX1_hidesInterface_103 : decode cX1_hidesInterface 103 = .ok (.goto (-87), 3) := by decide +kernel
theorem dX1_hidesInterface_106 : decode cX1_hidesInterface 106 = .ok (.iconst 0, 1) := by decide +kernel
theorem dX1_hidesInterface_107 : decode cX1_hidesInterface 107 = .ok (.ireturn, 1) := by decide +kernel
theorem dX1_lacksMethod_0 : decode cX1_lacksMethod 0 = .ok (.iconst 0, 1) := by decide +kernel
theorem dX1_lacksMethod_1 : decode cX1_lacksMethod 1 = .ok (.istore_n 2, 1) := by decide +kernel
theorem dX1_lacksMethod_2 : decode cX1_lacksMethod 2 = .ok (.iload_n 2, 1) := by decide +kernel
theorem dX1_lacksMethod_3 : decode cX1_lacksMethod 3 = .ok (.bipush 6, 2) := by decide +kernel
theorem dX1_lacksMethod_5 : decode cX1_lacksMethod 5 = .ok (.if_icmp .ge 66, 3) := by decide +kernel
theorem dX1_lacksMethod_8 : decode cX1_lacksMethod 8 = .ok (.aload_n 0, 1) := by decide +kernel
theorem dX1_lacksMethod_9 : decode cX1_lacksMethod 9 = .ok (.getfield 99, 3) := by decide +kernel
theorem dX1_lacksMethod_12 : decode cX1_lacksMethod 12 = .ok (.iload_n 1, 1) := by decide +kernel
theorem dX1_lacksMethod_13 : decode cX1_lacksMethod 13 = .ok (.bipush 6, 2) := by decide +kernel
theorem dX1_lacksMethod_15 : decode cX1_lacksMethod 15 = .ok (.imul, 1) := by decide +kernel
theorem dX1_lacksMethod_16 : decode cX1_lacksMethod 16 = .ok (.iload_n 2, 1) := by decide +kernel
theorem dX1_lacksMethod_17 : decode cX1_lacksMethod 17 = .ok (.iadd, 1) := by decide +kernel
theorem dX1_lacksMethod_18 : decode cX1_lacksMethod 18 = .ok (.iaload, 1) := by decide +kernel
theorem dX1_lacksMethod_19 : decode cX1_lacksMethod 19 = .ok (.iconst (-1), 1) := by decide +kernel
theorem dX1_lacksMethod_20 : decode cX1_lacksMethod 20 = .ok (.if_icmp .ne 19, 3) := by decide +kernel
theorem dX1_lacksMethod_23 : decode cX1_lacksMethod 23 = .ok (.aload_n 0, 1) := by decide +kernel
theorem dX1_lacksMethod_24 : decode cX1_lacksMethod 24 = .ok (.getfield 96, 3) := by decide +kernel
theorem dX1_lacksMethod_27 : decode cX1_lacksMethod 27 = .ok (.iload_n 2, 1) := by decide +kernel
theorem dX1_lacksMethod_28 : decode cX1_lacksMethod 28 = .ok (.iaload, 1) := by decide +kernel
theorem dX1_lacksMethod_29 : decode cX1_lacksMethod 29 = .ok (.aload_n 0, 1) := by decide +kernel
theorem dX1_lacksMethod_30 : decode cX1_lacksMethod 30 = .ok (.getfield 41, 3) := by decide +kernel
theorem dX1_lacksMethod_33 : decode cX1_lacksMethod 33 = .ok (.iload_n 1, 1) := by decide +kernel
theorem dX1_lacksMethod_34 : decode cX1_lacksMethod 34 = .ok (.iaload, 1) := by decide +kernel
theorem dX1_lacksMethod_35 : decode cX1_lacksMethod 35 = .ok (.iand, 1) := by decide +kernel
theorem dX1_lacksMethod_36 : decode cX1_lacksMethod 36 = .ok (.ifCond .eq 7, 3) := by decide +kernel
theorem dX1_lacksMethod_39 : decode cX1_lacksMethod 39 = .ok (.iconst 1, 1) := by decide +kernel
theorem dX1_lacksMethod_40 : decode cX1_lacksMethod 40 = .ok (.goto 4, 3) := by decide +kernel
theorem dX1_lacksMethod_43 : decode cX1_lacksMethod 43 = .ok (.iconst 0, 1) := by decide +kernel
theorem dX1_lacksMethod_44 : decode cX1_lacksMethod 44 = .ok (.istore_n 3, 1) := by decide +kernel
theorem dX1_lacksMethod_45 : decode cX1_lacksMethod 45 = .ok (.iload_n 3, 1) := by decide +kernel
theorem dX1_lacksMethod_46 : decode cX1_lacksMethod 46 = .ok (.ifCond .eq 19, 3) := by decide +kernel
theorem dX1_lacksMethod_49 : decode cX1_lacksMethod 49 = .ok (.aload_n 0, 1) := by decide +kernel
theorem dX1_lacksMethod_50 : decode cX1_lacksMethod 50 = .ok (.getfield 102, 3) := by decide +kernel
theorem dX1_lacksMethod_53 : decode cX1_lacksMethod 53 = .ok (.iload_n 1, 1) := by decide +kernel
theorem dX1_lacksMethod_54 : decode cX1_lacksMethod 54 = .ok (.bipush 6, 2) := by decide +kernel
theorem dX1_lacksMethod_56 : decode cX1_lacksMethod 56 = .ok (.imul, 1) := by decide +kernel
theorem dX1_lacksMethod_57 : decode cX1_lacksMethod 57 = .ok (.iload_n 2, 1) := by decide +kernel
theorem dX1_lacksMethod_58 : decode cX1_lacksMethod 58 = .ok (.iadd, 1) := by decide +kernel
theorem dX1_lacksMethod_59 : decode cX1_lacksMethod 59 = .ok (.iaload, 1) := by decide +kernel
theorem dX1_lacksMethod_60 : decode cX1_lacksMethod 60 = .ok (.ifCond .ge 5, 3) := by decide +kernel
theorem dX1_lacksMethod_63 : decode cX1_lacksMethod 63 = .ok (.iconst 1, 1) := by decide +kernel
theorem dX1_lacksMethod_64 : decode cX1_lacksMethod 64 = .ok (.ireturn, 1) := by decide +kernel
theorem dX1_lacksMethod_65 : decode cX1_lacksMethod 65 = .ok (.iinc 2 1, 3) := by decide +kernel
theorem dX1_lacksMethod_68 : decode cX1_lacksMethod 68 = .ok (.goto (-66), 3) := by decide +kernel
theorem dX1_lacksMethod_71 : decode cX1_lacksMethod 71 = .ok (.iconst 0, 1) := by decide +kernel
theorem dX1_lacksMethod_72 : decode cX1_lacksMethod 72 = .ok (.ireturn, 1) := by decide +kernel
theorem dX2_init_0 : decode cX2_init 0 = .ok (.aload_n 0, 1) := by decide +kernel
theorem dX2_init_1 : decode cX2_init 1 = .ok (.invokespecial 3, 3) := by decide +kernel
theorem dX2_init_4 : decode cX2_init 4 = .ok (.aload_n 0, 1) := by decide +kernel
theorem dX2_init_5 : decode cX2_init 5 = .ok (.iconst 5, 1) := by decide +kernel
theorem dX2_init_6 : decode cX2_init 6 = .ok (.newarray .char, 2) := by decide +kernel
theorem dX2_init_8 : decode cX2_init 8 = .ok (.putfield 9, 3) := by decide +kernel
theorem dX2_init_11 : decode cX2_init 11 = .ok (.aload_n 0, 1) := by decide +kernel
theorem dX2_init_12 : decode cX2_init 12 = .ok (.iconst 5, 1) := by decide +kernel
theorem dX2_init_13 : decode cX2_init 13 = .ok (.newarray .boolean, 2) := by decide +kernel
theorem dX2_init_15 : decode cX2_init 15 = .ok (.putfield 15, 3) := by decide +kernel
theorem dX2_init_18 : decode cX2_init 18 = .ok (.aload_n 0, 1) := by decide +kernel
theorem dX2_init_19 : decode cX2_init 19 = .ok (.iconst 5, 1) := by decide +kernel
theorem dX2_init_20 : decode cX2_init 20 = .ok (.newarray .boolean, 2) := by decide +kernel
theorem dX2_init_22 : decode cX2_init 22 = .ok (.putfield 19, 3) := by decide +kernel
theorem dX2_init_25 : decode cX2_init 25 = .ok (.aload_n 0, 1) := by decide +kernel
theorem dX2_init_26 : decode cX2_init 26 = .ok (.iconst 5, 1) := by decide +kernel
theorem dX2_init_27 : decode cX2_init 27 = .ok (.newarray .boolean, 2) := by decide +kernel
theorem dX2_init_29 : decode cX2_init 29 = .ok (.putfield 22, 3) := by decide +kernel
theorem dX2_init_32 : decode cX2_init 32 = .ok (.aload_n 0, 1) := by decide +kernel
theorem dX2_init_33 : decode cX2_init 33 = .ok (.iconst 5, 1) := by decide +kernel
theorem dX2_init_34 : decode cX2_init 34 = .ok (.newarray .char, 2) := by decide +kernel
theorem dX2_init_36 : decode cX2_init 36 = .ok (.putfield 25, 3) := by decide +kernel
theorem dX2_init_39 : decode cX2_init 39 = .ok (.aload_n 0, 1) := by decide +kernel
theorem dX2_init_40 : decode cX2_init 40 = .ok (.iconst 5, 1) := by decide +kernel
theorem dX2_init_41 : decode cX2_init 41 = .ok (.newarray .int, 2) := by decide +kernel
theorem dX2_init_43 : decode cX2_init 43 = .ok (.putfield 28, 3) := by decide +kernel
theorem dX2_init_46 : decode cX2_init 46 = .ok (.aload_n 0, 1) := by decide +kernel
theorem dX2_init_47 : decode cX2_init 47 = .ok (.iconst 5, 1) := by decide +kernel
theorem dX2_init_48 : decode cX2_init 48 = .ok (.newarray .int, 2) := by decide +kernel
theorem dX2_init_50 : decode cX2_init 50 = .ok (.putfield 32, 3) := by decide +kernel
theorem dX2_init_53 : decode cX2_init 53 = .ok (.aload_n 0, 1) := by decide +kernel
theorem dX2_init_54 : decode cX2_init 54 = .ok (.new 35, 3) := by decide +kernel
theorem dX2_init_57 : decode cX2_init 57 = .ok (.dup, 1) := by decide +kernel
theorem dX2_init_58 : decode cX2_init 58 = .ok (.invokespecial 37, 3) := by decide +kernel
theorem dX2_init_61 : decode cX2_init 61 = .ok (.putfield 38, 3) := by decide +kernel
theorem dX2_init_64 : decode cX2_init 64 = .ok (.aload_n 0, 1) := by decide +kernel
theorem dX2_init_65 : decode cX2_init 65 = .ok (.new 35, 3) := by decide +kernel
theorem dX2_init_68 : decode cX2_init 68 = .ok (.dup, 1) := by decide +kernel
theorem dX2_init_69 : decode cX2_init 69 = .ok (.invokespecial 37, 3) := by decide +kernel
theorem dX2_init_72 : decode cX2_init 72 = .ok (.putfield 42, 3) := by decide +kernel
theorem dX2_init_75 : decode cX2_init 75 = .ok (.iconst 0, 1) := by decide +kernel
theorem dX2_init_76 : decode cX2_init 76 = .ok (.istore_n 1, 1) := by decide +kernel
theorem dX2_init_77 : decode cX2_init 77 = .ok (.iload_n 1, 1) := by decide +kernel
theorem dX2_init_78 : decode cX2_init 78 = .ok (.iconst 5, 1) := by decide +kernel
theorem dX2_init_79 : decode cX2_init 79 = .ok (.if_icmp .ge 24, 3) := by decide +kernel
theorem dX2_init_82 : decode cX2_init 82 = .ok (.aload_n 0, 1) := by decide +kernel
theorem dX2_init_83 : decode cX2_init 83 = .ok (.getfield 9, 3) := by decide +kernel
theorem dX2_init_86 : decode cX2_init 86 = .ok (.iload_n 1, 1) := by decide +kernel
theorem dX2_init_87 : decode cX2_init 87 = .ok (.bipush 45, 2) := by decide +kernel
theorem dX2_init_89 : decode cX2_init 89 = .ok (.castore, 1) := by decide +kernel
theorem dX2_init_90 : decode cX2_init 90 = .ok (.aload_n 0, 1) := by decide +kernel
theorem dX2_init_91 : decode cX2_init 91 = .ok (.getfield 28, 3) := by decide +kernel
theorem dX2_init_94 : decode cX2_init 94 = .ok (.iload_n 1, 1) := by decide +kernel
theorem dX2_init_95 : decode cX2_init 95 = .ok (.iconst (-1), 1) := by decide +kernel
theorem dX2_init_96 : decode cX2_init 96 = .ok (.iastore, 1) := by decide +kernel
theorem dX2_init_97 : decode cX2_init 97 = .ok (.iinc 1 1, 3) := by decide +kernel
theorem dX2_init_100 : decode cX2_init 100 = .ok (.goto (-23), 3) := by decide +kernel
theorem dX2_init_103 : decode cX2_init 103 = .ok (.return_, 1) := by decide +kernel
theorem dX2_renew_0 : decode cX2_renew 0 = .ok (.aload_n 0, 1) := by decide +kernel
theorem dX2_renew_1 : decode cX2_renew 1 = .ok (.getfield 9, 3) := by decide +kernel
theorem dX2_renew_4 : decode cX2_renew 4 = .ok (.iload_n 1, 1) := by decide +kernel
theorem dX2_renew_5 : decode cX2_renew 5 = .ok (.iload_n 2, 1) := by decide +kernel
theorem dX2_renew_6 : decode cX2_renew 6 = .ok (.castore, 1) := by decide +kernel
theorem dX2_renew_7 : decode cX2_renew 7 = .ok (.aload_n 0, 1) := by decide +kernel
theorem dX2_renew_8 : decode cX2_renew 8 = .ok (.getfield 15, 3) := by decide +kernel
theorem dX2_renew_11 : decode cX2_renew 11 = .ok (.iload_n 1, 1) := by decide +kernel
theorem dX2_renew_12 : decode cX2_renew 12 = .ok (.iconst 1, 1) := by decide +kernel
theorem dX2_renew_13 : decode cX2_renew 13 = .ok (.bastore, 1) := by decide +kernel
theorem dX2_renew_14 : decode cX2_renew 14 = .ok (.aload_n 0, 1) := by decide +kernel
theorem dX2_renew_15 : decode cX2_renew 15 = .ok (.getfield 19, 3) := by decide +kernel
theorem dX2_renew_18 : decode cX2_renew 18 = .ok (.iload_n 1, 1) := by decide +kernel
theorem dX2_renew_19 : decode cX2_renew 19 = .ok (.iconst 0, 1) := by decide +kernel
theorem dX2_renew_20 : decode cX2_renew 20 = .ok (.bastore, 1) := by decide +kernel
theorem dX2_renew_21 : decode cX2_renew 21 = .ok (.aload_n 0, 1) := by decide +kernel
theorem dX2_renew_22 : decode cX2_renew 22 = .ok (.getfield 22, 3) := by decide +kernel
theorem dX2_renew_25 : decode cX2_renew 25 = .ok (.iload_n 1, 1) := by decide +kernel
theorem dX2_renew_26 : decode cX2_renew 26 = .ok (.iconst 0, 1) := by decide +kernel
theorem dX2_renew_27 : decode cX2_renew 27 = .ok (.bastore, 1) := by decide +kernel
theorem dX2_renew_28 : decode cX2_renew 28 = .ok (.aload_n 0, 1) := by decide +kernel
theorem dX2_renew_29 : decode cX2_renew 29 = .ok (.getfield 25, 3) := by decide +kernel
theorem dX2_renew_32 : decode cX2_renew 32 = .ok (.iload_n 1, 1) := by decide +kernel
theorem dX2_renew_33 : decode cX2_renew 33 = .ok (.bipush 112, 2) := by decide +kernel
theorem dX2_renew_35 : decode cX2_renew 35 = .ok (.castore, 1) := by decide +kernel
theorem dX2_renew_36 : decode cX2_renew 36 = .ok (.aload_n 0, 1) := by decide +kernel
theorem dX2_renew_37 : decode cX2_renew 37 = .ok (.getfield 28, 3) := by decide +kernel
theorem dX2_renew_40 : decode cX2_renew 40 = .ok (.iload_n 1, 1) := by decide +kernel
theorem dX2_renew_41 : decode cX2_renew 41 = .ok (.iconst (-1), 1) := by decide +kernel
theorem dX2_renew_42 : decode cX2_renew 42 = .ok (.iastore, 1) := by decide +kernel
theorem dX2_renew_43 : decode cX2_renew 43 = .ok (.aload_n 0, 1) := by decide +kernel
theorem dX2_renew_44 : decode cX2_renew 44 = .ok (.getfield 32, 3) := by decide +kernel
theorem dX2_renew_47 : decode cX2_renew 47 = .ok (.iload_n 1, 1) := by decide +kernel
theorem dX2_renew_48 : decode cX2_renew 48 = .ok (.iconst 0, 1) := by decide +kernel
theorem dX2_renew_49 : decode cX2_renew 49 = .ok (.iastore, 1) := by decide +kernel
theorem dX2_renew_50 : decode cX2_renew 50 = .ok (.aload_n 0, 1) := by decide +kernel
theorem dX2_renew_51 : decode cX2_renew 51 = .ok (.getfield 38, 3) := by decide +kernel
theorem dX2_renew_54 : decode cX2_renew 54 = .ok (.iload_n 1, 1) := by decide +kernel
theorem dX2_renew_55 : decode cX2_renew 55 = .ok (.invokevirtual 45, 3) := by decide +kernel
theorem dX2_renew_58 : decode cX2_renew 58 = .ok (.aload_n 0, 1) := by decide +kernel
theorem dX2_renew_59 : decode cX2_renew 59 = .ok (.getfield 42, 3) := by decide +kernel
theorem dX2_renew_62 : decode cX2_renew 62 = .ok (.iload_n 1, 1) := by decide +kernel
theorem dX2_renew_63 : decode cX2_renew 63 = .ok (.invokevirtual 45, 3) := by decide +kernel
theorem dX2_renew_66 : decode cX2_renew 66 = .ok (.return_, 1) := by decide +kernel
theorem dX2_become_0 : decode cX2_become 0 = .ok (.aload_n 1, 1) := by decide +kernel
theorem dX2_become_1 : decode cX2_become 1 = .ok (.getfield 9, 3) := by decide +kernel
theorem dX2_become_4 : decode cX2_become 4 = .ok (.iconst 0, 1) := by decide +kernel
theorem dX2_become_5 : decode cX2_become 5 = .ok (.aload_n 0, 1) := by decide +kernel
theorem dX2_become_6 : decode cX2_become 6 = .ok (.getfield 9, 3) := by decide +kernel
theorem dX2_become_9 : decode cX2_become 9 = .ok (.iconst 0, 1) := by decide +kernel
theorem dX2_become_10 : decode cX2_become 10 = .ok (.iconst 5, 1) := by decide +kernel
theorem dX2_become_11 : decode cX2_become 11 = .ok (.invokestatic 49, 3) := by decide +kernel
theorem dX2_become_14 : decode cX2_become 14 = .ok (.aload_n 1, 1) := by decide +kernel
theorem dX2_become_15 : decode cX2_become 15 = .ok (.getfield 15, 3) := by decide +kernel
theorem dX2_become_18 : decode cX2_become 18 = .ok (.iconst 0, 1) := by decide +kernel
theorem dX2_become_19 : decode cX2_become 19 = .ok (.aload_n 0, 1) := by decide +kernel
theorem dX2_become_20 : decode cX2_become 20 = .ok (.getfield 15, 3) := by decide +kernel
theorem dX2_become_23 : decode cX2_become 23 = .ok (.iconst 0, 1) := by decide +kernel
theorem dX2_become_24 : decode cX2_become 24 = .ok (.iconst 5, 1) := by decide +kernel
theorem dX2_become_25 : decode cX2_become 25 = .ok (.invokestatic 49, 3) := by decide +kernel
theorem dX2_become_28 : decode cX2_become 28 = .ok (.aload_n 1, 1) := by decide +kernel
theorem dX2_become_29 : decode cX2_become 29 = .ok (.getfield 19, 3) := by decide +kernel
theorem dX2_become_32 : decode cX2_become 32 = .ok (.iconst 0, 1) := by decide +kernel
theorem dX2_become_33 : decode cX2_become 33 = .ok (.aload_n 0, 1) := by decide +kernel
theorem dX2_become_34 : decode cX2_become 34 = .ok (.getfield 19, 3) := by decide +kernel
theorem dX2_become_37 : decode cX2_become 37 = .ok (.iconst 0, 1) := by decide +kernel
theorem dX2_become_38 : decode cX2_become 38 = .ok (.iconst 5, 1) := by decide +kernel
theorem dX2_become_39 : decode cX2_become 39 = .ok (.invokestatic 49, 3) := by decide +kernel
theorem dX2_become_42 : decode cX2_become 42 = .ok (.aload_n 1, 1) := by decide +kernel
theorem dX2_become_43 : decode cX2_become 43 = .ok (.getfield 22, 3) := by decide +kernel
theorem dX2_become_46 : decode cX2_become 46 = .ok (.iconst 0, 1) := by decide +kernel
theorem dX2_become_47 : decode cX2_become 47 = .ok (.aload_n 0, 1) := by decide +kernel
theorem dX2_become_48 : decode cX2_become 48 = .ok (.getfield 22, 3) := by decide +kernel
theorem dX2_become_51 : decode cX2_become 51 = .ok (.iconst 0, 1) := by decide +kernel
theorem dX2_become_52 : decode cX2_become 52 = .ok (.iconst 5, 1) := by decide +kernel
theorem dX2_become_53 : decode cX2_become 53 = .ok (.invokestatic 49, 3) := by decide +kernel
theorem dX2_become_56 : decode cX2_become 56 = .ok (.aload_n 1, 1) := by decide +kernel
theorem dX2_become_57 : decode cX2_become 57 = .ok (.getfield 25, 3) := by decide +kernel
theorem dX2_become_60 : decode cX2_become 60 = .ok (.iconst 0, 1) := by decide +kernel
theorem dX2_become_61 : decode cX2_become 61 = .ok (.aload_n 0, 1) := by decide +kernel
theorem dX2_become_62 : decode cX2_become 62 = .ok (.getfield 25, 3) := by decide +kernel
theorem dX2_become_65 : decode cX2_become 65 = .ok (.iconst 0, 1) := by decide +kernel
theorem dX2_become_66 : decode cX2_become 66 = .ok (.iconst 5, 1) := by decide +kernel
theorem dX2_become_67 : decode cX2_become 67 = .ok (.invokestatic 49, 3) := by decide +kernel
theorem dX2_become_70 : decode cX2_become 70 = .ok (.aload_n 1, 1) := by decide +kernel
theorem dX2_become_71 : decode cX2_become 71 = .ok (.getfield 28, 3) := by decide +kernel
theorem dX2_become_74 : decode cX2_become 74 = .ok (.iconst 0, 1) := by decide +kernel
theorem dX2_become_75 : decode cX2_become 75 = .ok (.aload_n 0, 1) := by decide +kernel
theorem dX2_become_76 : decode cX2_become 76 = .ok (.getfield 28, 3) := by decide +kernel
theorem dX2_become_79 : decode cX2_become 79 = .ok (.iconst 0, 1) := by decide +kernel
theorem dX2_become_80 : decode cX2_become 80 = .ok (.iconst 5, 1) := by decide +kernel
theorem dX2_become_81 : decode cX2_become 81 = .ok (.invokestatic 49, 3) := by decide +kernel
theorem dX2_become_84 : decode cX2_become 84 = .ok (.aload_n 1, 1) := by decide +kernel
theorem dX2_become_85 : decode cX2_become 85 = .ok (.getfield 32, 3) := by decide +kernel
theorem dX2_become_88 : decode cX2_become 88 = .ok (.iconst 0, 1) := by decide +kernel
theorem dX2_become_89 : decode cX2_become 89 = .ok (.aload_n 0, 1) := by decide +kernel
theorem dX2_become_90 : decode cX2_become 90 = .ok (.getfield 32, 3) := by decide +kernel
theorem dX2_become_93 : decode cX2_become 93 = .ok (.iconst 0, 1) := by decide +kernel
theorem dX2_become_94 : decode cX2_become 94 = .ok (.iconst 5, 1) := by decide +kernel
theorem dX2_become_95 : decode cX2_become 95 = .ok (.invokestatic 49, 3) := by decide +kernel
theorem dX2_become_98 : decode cX2_become 98 = .ok (.aload_n 0, 1) := by decide +kernel
theorem dX2_become_99 : decode cX2_become 99 = .ok (.getfield 38, 3) := by decide +kernel
theorem dX2_become_102 : decode cX2_become 102 = .ok (.aload_n 1, 1) := by decide +kernel
theorem dX2_become_103 : decode cX2_become 103 = .ok (.getfield 38, 3) := by decide +kernel
theorem dX2_become_106 : decode cX2_become 106 = .ok (.invokevirtual 55, 3) := by decide +kernel
theorem dX2_become_109 : decode cX2_become 109 = .ok (.aload_n 0, 1) := by decide +kernel
theorem dX2_become_110 : decode cX2_become 110 = .ok (.getfield 42, 3) := by decide +kernel
theorem dX2_become_113 : decode cX2_become 113 = .ok (.aload_n 1, 1) := by decide +kernel
theorem dX2_become_114 : decode cX2_become 114 = .ok (.getfield 42, 3) := by decide +kernel
theorem dX2_become_117 : decode cX2_become 117 = .ok (.invokevirtual 55, 3) := by decide +kernel
theorem dX2_become_120 : decode cX2_become 120 = .ok (.return_, 1) := by decide +kernel
theorem dX2_flagsOf_0 : decode cX2_flagsOf 0 = .ok (.iload_n 1, 1) := by decide +kernel
theorem dX2_flagsOf_1 : decode cX2_flagsOf 1 = .ok (.bipush 111, 2) := by decide +kernel
theorem dX2_flagsOf_3 : decode cX2_flagsOf 3 = .ok (.if_icmp .ne 10, 3) := by decide +kernel
theorem dX2_flagsOf_6 : decode cX2_flagsOf 6 = .ok (.aload_n 0, 1) := by decide +kernel
theorem dX2_flagsOf_7 : decode cX2_flagsOf 7 = .ok (.getfield 15, 3) := by decide +kernel
theorem dX2_flagsOf_10 : decode cX2_flagsOf 10 = .ok (.goto 20, 3) := by decide +kernel
theorem dX2_flagsOf_13 : decode cX2_flagsOf 13 = .ok (.iload_n 1, 1) := by decide +kernel
theorem dX2_flagsOf_14 : decode cX2_flagsOf 14 = .ok (.bipush 97, 2) := by decide +kernel
theorem dX2_flagsOf_16 : decode cX2_flagsOf 16 = .ok (.if_icmp .ne 10, 3) := by decide +kernel
theorem dX2_flagsOf_19 : decode cX2_flagsOf 19 = .ok (.aload_n 0, 1) := by decide +kernel
theorem dX2_flagsOf_20 : decode cX2_flagsOf 20 = .ok (.getfield 19, 3) := by decide +kernel
theorem dX2_flagsOf_23 : decode cX2_flagsOf 23 = .ok (.goto 7, 3) := by decide +kernel
theorem dX2_flagsOf_26 : decode cX2_flagsOf 26 = .ok (.aload_n 0, 1) := by decide +kernel
theorem dX2_flagsOf_27 : decode cX2_flagsOf 27 = .ok (.getfield 22, 3) := by decide +kernel
theorem dX2_flagsOf_30 : decode cX2_flagsOf 30 = .ok (.areturn, 1) := by decide +kernel
theorem dX2_typeCount_0 : decode cX2_typeCount 0 = .ok (.iconst 0, 1) := by decide +kernel
theorem dX2_typeCount_1 : decode cX2_typeCount 1 = .ok (.istore_n 1, 1) := by decide +kernel
theorem dX2_typeCount_2 : decode cX2_typeCount 2 = .ok (.aload_n 0, 1) := by decide +kernel
theorem dX2_typeCount_3 : decode cX2_typeCount 3 = .ok (.getfield 9, 3) := by decide +kernel
theorem dX2_typeCount_6 : decode cX2_typeCount 6 = .ok (.astore_n 2, 1) := by decide +kernel
theorem dX2_typeCount_7 : decode cX2_typeCount 7 = .ok (.aload_n 2, 1) := by decide +kernel
theorem dX2_typeCount_8 : decode cX2_typeCount 8 = .ok (.arraylength, 1) := by decide +kernel
theorem dX2_typeCount_9 : decode cX2_typeCount 9 = .ok (.istore_n 3, 1) := by decide +kernel
theorem dX2_typeCount_10 : decode cX2_typeCount 10 = .ok (.iconst 0, 1) := by decide +kernel
theorem dX2_typeCount_11 : decode cX2_typeCount 11 = .ok (.istore 4, 2) := by decide +kernel
theorem dX2_typeCount_13 : decode cX2_typeCount 13 = .ok (.iload 4, 2) := by decide +kernel
theorem dX2_typeCount_15 : decode cX2_typeCount 15 = .ok (.iload_n 3, 1) := by decide +kernel
theorem dX2_typeCount_16 : decode cX2_typeCount 16 = .ok (.if_icmp .ge 30, 3) := by decide +kernel
theorem dX2_typeCount_19 : decode cX2_typeCount 19 = .ok (.aload_n 2, 1) := by decide +kernel
theorem dX2_typeCount_20 : decode cX2_typeCount 20 = .ok (.iload 4, 2) := by decide +kernel
theorem dX2_typeCount_22 : decode cX2_typeCount 22 = .ok (.caload, 1) := by decide +kernel
theorem dX2_typeCount_23 : decode cX2_typeCount 23 = .ok (.istore 5, 2) := by decide +kernel
theorem dX2_typeCount_25 : decode cX2_typeCount 25 = .ok (.iload_n 1, 1) := by decide +kernel
theorem dX2_typeCount_26 : decode cX2_typeCount 26 = .ok (.iload 5, 2) := by decide +kernel
theorem dX2_typeCount_28 : decode cX2_typeCount 28 = .ok (.bipush 45, 2) := by decide +kernel
theorem dX2_typeCount_30 : decode cX2_typeCount 30 = .ok (.if_icmp .ne 7, 3) := by decide +kernel
theorem dX2_typeCount_33 : decode cX2_typeCount 33 = .ok (.iconst 0, 1) := by decide +kernel
theorem dX2_typeCount_34 : decode cX2_typeCount 34 = .ok (.goto 4, 3) := by decide +kernel
theorem dX2_typeCount_37 : decode cX2_typeCount 37 = .ok (.iconst 1, 1) := by decide +kernel
theorem dX2_typeCount_38 : decode cX2_typeCount 38 = .ok (.iadd, 1) := by decide +kernel
theorem dX2_typeCount_39 : decode cX2_typeCount 39 = .ok (.istore_n 1, 1) := by decide +kernel
theorem dX2_typeCount_40 : decode cX2_typeCount 40 = .ok (.iinc 4 1, 3) := by decide +kernel
theorem dX2_typeCount_43 : decode cX2_typeCount 43 = .ok (.goto (-30), 3) := by decide +kernel
theorem dX2_typeCount_46 : decode cX2_typeCount 46 = .ok (.iload_n 1, 1) := by decide +kernel
theorem dX2_typeCount_47 : decode cX2_typeCount 47 = .ok (.ireturn, 1) := by decide +kernel
theorem dX6_init_0 : decode cX6_init 0 = .ok (.aload_n 0, 1) := by decide +kernel
theorem dX6_init_1 : decode cX6_init 1 = .ok (.invokespecial 3, 3) := by decide +kernel
theorem dX6_init_4 : decode cX6_init 4 = .ok (.aload_n 0, 1) := by decide +kernel
theorem dX6_init_5 : decode cX6_init 5 = .ok (.bipush 30, 2) := by decide +kernel
theorem dX6_init_7 : decode cX6_init 7 = .ok (.newarray .char, 2) := by decide +kernel
theorem dX6_init_9 : decode cX6_init 9 = .ok (.putfield 9, 3) := by decide +kernel
theorem dX6_init_12 : decode cX6_init 12 = .ok (.aload_n 0, 1) := by decide +kernel
theorem dX6_init_13 : decode cX6_init 13 = .ok (.bipush 30, 2) := by decide +kernel
theorem dX6_init_15 : decode cX6_init 15 = .ok (.newarray .char, 2) := by decide +kernel
theorem dX6_init_17 : decode cX6_init 17 = .ok (.putfield 15, 3) := by decide +kernel
theorem dX6_init_20 : decode cX6_init 20 = .ok (.aload_n 0, 1) := by decide +kernel
theorem dX6_init_21 : decode cX6_init 21 = .ok (.bipush 30, 2) := by decide +kernel
theorem dX6_init_23 : decode cX6_init 23 = .ok (.newarray .int, 2) := by decide +kernel
theorem dX6_init_25 : decode cX6_init 25 = .ok (.putfield 18, 3) := by decide +kernel
theorem dX6_init_28 : decode cX6_init 28 = .ok (.iconst 0, 1) := by decide +kernel
theorem dX6_init_29 : decode cX6_init 29 = .ok (.istore_n 1, 1) := by decide +kernel
theorem dX6_init_30 : decode cX6_init 30 = .ok (.iload_n 1, 1) := by decide +kernel
theorem dX6_init_31 : decode cX6_init 31 = .ok (.bipush 30, 2) := by decide +kernel
theorem dX6_init_33 : decode cX6_init 33 = .ok (.if_icmp .ge 25, 3) := by decide +kernel
theorem dX6_init_36 : decode cX6_init 36 = .ok (.aload_n 0, 1) := by decide +kernel
theorem dX6_init_37 : decode cX6_init 37 = .ok (.getfield 9, 3) := by decide +kernel
theorem dX6_init_40 : decode cX6_init 40 = .ok (.iload_n 1, 1) := by decide +kernel
theorem dX6_init_41 : decode cX6_init 41 = .ok (.bipush 45, 2) := by decide +kernel
theorem dX6_init_43 : decode cX6_init 43 = .ok (.castore, 1) := by decide +kernel
theorem dX6_init_44 : decode cX6_init 44 = .ok (.aload_n 0, 1) := by decide +kernel
theorem dX6_init_45 : decode cX6_init 45 = .ok (.getfield 15, 3) := by decide +kernel
theorem dX6_init_48 : decode cX6_init 48 = .ok (.iload_n 1, 1) := by decide +kernel
theorem dX6_init_49 : decode cX6_init 49 = .ok (.bipush 45, 2) := by decide +kernel
theorem dX6_init_51 : decode cX6_init 51 = .ok (.castore, 1) := by decide +kernel
theorem dX6_init_52 : decode cX6_init 52 = .ok (.iinc 1 1, 3) := by decide +kernel
theorem dX6_init_55 : decode cX6_init 55 = .ok (.goto (-25), 3) := by decide +kernel
theorem dX6_init_58 : decode cX6_init 58 = .ok (.return_, 1) := by decide +kernel
theorem dX6_put_0 : decode cX6_put 0 = .ok (.aload_n 0, 1) := by decide +kernel
theorem dX6_put_1 : decode cX6_put 1 = .ok (.getfield 9, 3) := by decide +kernel
theorem dX6_put_4 : decode cX6_put 4 = .ok (.iload_n 1, 1) := by decide +kernel
theorem dX6_put_5 : decode cX6_put 5 = .ok (.caload, 1) := by decide +kernel
theorem dX6_put_6 : decode cX6_put 6 = .ok (.istore 5, 2) := by decide +kernel
theorem dX6_put_8 : decode cX6_put 8 = .ok (.iload_n 2, 1) := by decide +kernel
theorem dX6_put_9 : decode cX6_put 9 = .ok (.bipush 45, 2) := by decide +kernel
theorem dX6_put_11 : decode cX6_put 11 = .ok (.if_icmp .ne 7, 3) := by decide +kernel
theorem dX6_put_14 : decode cX6_put 14 = .ok (.iconst 1, 1) := by decide +kernel
theorem dX6_put_15 : decode cX6_put 15 = .ok (.goto 4, 3) := by decide +kernel
theorem dX6_put_18 : decode cX6_put 18 = .ok (.iconst 0, 1) := by decide +kernel
theorem dX6_put_19 : decode cX6_put 19 = .ok (.istore 6, 2) := by decide +kernel
theorem dX6_put_21 : decode cX6_put 21 = .ok (.aload_n 0, 1) := by decide +kernel
theorem dX6_put_22 : decode cX6_put 22 = .ok (.getfield 9, 3) := by decide +kernel
theorem dX6_put_25 : decode cX6_put 25 = .ok (.iload_n 1, 1) := by decide +kernel
theorem dX6_put_26 : decode cX6_put 26 = .ok (.iload_n 2, 1) := by decide +kernel
theorem dX6_put_27 : decode cX6_put 27 = .ok (.castore, 1) := by decide +kernel
theorem dX6_put_28 : decode cX6_put 28 = .ok (.aload_n 0, 1) := by decide +kernel
theorem dX6_put_29 : decode cX6_put 29 = .ok (.getfield 15, 3) := by decide +kernel
theorem dX6_put_32 : decode cX6_put 32 = .ok (.iload_n 1, 1) := by decide +kernel
theorem dX6_put_33 : decode cX6_put 33 = .ok (.iload 6, 2) := by decide +kernel
theorem dX6_put_35 : decode cX6_put 35 = .ok (.ifCond .eq 8, 3) := by decide +kernel
theorem dX6_put_38 : decode cX6_put 38 = .ok (.bipush 45, 2) := by decide +kernel
theorem dX6_put_40 : decode cX6_put 40 = .ok (.goto 4, 3) := by decide +kernel
theorem dX6_put_43 : decode cX6_put 43 = .ok (.iload_n 3, 1) := by decide +kernel
theorem dX6_put_44 : decode cX6_put 44 = .ok (.castore, 1) := by decide +kernel
theorem dX6_put_45 : decode cX6_put 45 = .ok (.aload_n 0, 1) := by decide +kernel
theorem dX6_put_46 : decode cX6_put 46 = .ok (.getfield 18, 3) := by decide +kernel
theorem dX6_put_49 : decode cX6_put 49 = .ok (.iload_n 1, 1) := by decide +kernel
theorem dX6_put_50 : decode cX6_put 50 = .ok (.iload 6, 2) := by decide +kernel
theorem dX6_put_52 : decode cX6_put 52 = .ok (.ifCond .eq 7, 3) := by decide +kernel
theorem dX6_put_55 : decode cX6_put 55 = .ok (.iconst 0, 1) := by decide +kernel
theorem dX6_put_56 : decode cX6_put 56 = .ok (.goto 5, 3) := by decide +kernel
theorem dX6_put_59 : decode cX6_put 59 = .ok (.iload 4, 2) := by decide +kernel
theorem dX6_put_61 : decode cX6_put 61 = .ok (.iastore, 1) := by decide +kernel
theorem dX6_put_62 : decode cX6_put 62 = .ok (.iload 5, 2) := by decide +kernel
theorem dX6_put_64 : decode cX6_put 64 = .ok (.ireturn, 1) := by decide +kernel
theorem dX6_clear_0 : decode cX6_clear 0 = .ok (.iconst 0, 1) := by decide +kernel
theorem dX6_clear_1 : decode cX6_clear 1 = .ok (.istore_n 2, 1) := by decide +kernel
theorem dX6_clear_2 : decode cX6_clear 2 = .ok (.iload_n 2, 1) := by decide +kernel
theorem dX6_clear_3 : decode cX6_clear 3 = .ok (.bipush 6, 2) := by decide +kernel
theorem dX6_clear_5 : decode cX6_clear 5 = .ok (.if_icmp .ge 25, 3) := by decide +kernel
theorem dX6_clear_8 : decode cX6_clear 8 = .ok (.aload_n 0, 1) := by decide +kernel
theorem dX6_clear_9 : decode cX6_clear 9 = .ok (.iload_n 1, 1) := by decide +kernel
theorem dX6_clear_10 : decode cX6_clear 10 = .ok (.bipush 6, 2) := by decide +kernel
theorem dX6_clear_12 : decode cX6_clear 12 = .ok (.imul, 1) := by decide +kernel
theorem dX6_clear_13 : decode cX6_clear 13 = .ok (.iload_n 2, 1) := by decide +kernel
theorem dX6_clear_14 : decode cX6_clear 14 = .ok (.iadd, 1) := by decide +kernel
theorem dX6_clear_15 : decode cX6_clear 15 = .ok (.bipush 45, 2) := by decide +kernel
theorem dX6_clear_17 : decode cX6_clear 17 = .ok (.bipush 45, 2) := by decide +kernel
theorem dX6_clear_19 : decode cX6_clear 19 = .ok (.iconst 0, 1) := by decide +kernel
theorem dX6_clear_20 : decode cX6_clear 20 = .ok (.invokevirtual 22, 3) := by decide +kernel
theorem dX6_clear_23 : decode cX6_clear 23 = .ok (.pop, 1) := by decide +kernel
theorem dX6_clear_24 : decode cX6_clear 24 = .ok (.iinc 2 1, 3) := by decide +kernel
theorem dX6_clear_27 : decode cX6_clear 27 = .ok (.goto (-25), 3) := by decide +kernel
theorem dX6_clear_30 : decode cX6_clear 30 = .ok (.return_, 1) := by decide +kernel
theorem dX6_become_0 : decode cX6_become 0 = .ok (.aload_n 1, 1) := by decide +kernel
theorem dX6_become_1 : decode cX6_become 1 = .ok (.getfield 9, 3) := by decide +kernel
theorem dX6_become_4 : decode cX6_become 4 = .ok (.iconst 0, 1) := by decide +kernel
theorem dX6_become_5 : decode cX6_become 5 = .ok (.aload_n 0, 1) := by decide +kernel
theorem dX6_become_6 : decode cX6_become 6 = .ok (.getfield 9, 3) := by decide +kernel
theorem dX6_become_9 : decode cX6_become 9 = .ok (.iconst 0, 1) := by decide +kernel
theorem dX6_become_10 : decode cX6_become 10 = .ok (.aload_n 0, 1) := by decide +kernel
theorem dX6_become_11 : decode cX6_become 11 = .ok (.getfield 9, 3) := by decide +kernel
theorem dX6_become_14 : decode cX6_become 14 = .ok (.arraylength, 1) := by decide +kernel
theorem dX6_become_15 : decode cX6_become 15 = .ok (.invokestatic 26, 3) := by decide +kernel
theorem dX6_become_18 : decode cX6_become 18 = .ok (.aload_n 1, 1) := by decide +kernel
theorem dX6_become_19 : decode cX6_become 19 = .ok (.getfield 15, 3) := by decide +kernel
theorem dX6_become_22 : decode cX6_become 22 = .ok (.iconst 0, 1) := by decide +kernel
theorem dX6_become_23 : decode cX6_become 23 = .ok (.aload_n 0, 1) := by decide +kernel
theorem dX6_become_24 : decode cX6_become 24 = .ok (.getfield 15, 3) := by decide +kernel
theorem dX6_become_27 : decode cX6_become 27 = .ok (.iconst 0, 1) := by decide +kernel
theorem dX6_become_28 : decode cX6_become 28 = .ok (.aload_n 0, 1) := by decide +kernel
theorem dX6_become_29 : decode cX6_become 29 = .ok (.getfield 15, 3) := by decide +kernel
theorem dX6_become_32 : decode cX6_become 32 = .ok (.arraylength, 1) := by decide +kernel
theorem dX6_become_33 : decode cX6_become 33 = .ok (.invokestatic 26, 3) := by decide +kernel
theorem dX6_become_36 : decode cX6_become 36 = .ok (.aload_n 1, 1) := by decide +kernel
theorem dX6_become_37 : decode cX6_become 37 = .ok (.getfield 18, 3) := by decide +kernel
theorem dX6_become_40 : decode cX6_become 40 = .ok (.iconst 0, 1) := by decide +kernel
theorem dX6_become_41 : decode cX6_become 41 = .ok (.aload_n 0, 1) := by decide +kernel
theorem dX6_become_42 : decode cX6_become 42 = .ok (.getfield 18, 3) := by decide +kernel
theorem dX6_become_45 : decode cX6_become 45 = .ok (.iconst 0, 1) := by decide +kernel
theorem dX6_become_46 : decode cX6_become 46 = .ok (.aload_n 0, 1) := by decide +kernel
theorem dX6_become_47 : decode cX6_become 47 = .ok (.getfield 18, 3) := by decide +kernel
theorem dX6_become_50 : decode cX6_become 50 = .ok (.arraylength, 1) := by decide +kernel
theorem dX6_become_51 : decode cX6_become 51 = .ok (.invokestatic 26, 3) := by decide +kernel
theorem dX6_become_54 : decode cX6_become 54 = .ok (.return_, 1) := by decide +kernel
theorem dX7_init_0 : decode cX7_init 0 = .ok (.aload_n 0, 1) := by decide +kernel
theorem dX7_init_1 : decode cX7_init 1 = .ok (.invokespecial 3, 3) := by decide +kernel
theorem dX7_init_4 : decode cX7_init 4 = .ok (.aload_n 0, 1) := by decide +kernel
theorem dX7_init_5 : decode cX7_init 5 = .ok (.iconst 0, 1) := by decide +kernel
theorem dX7_init_6 : decode cX7_init 6 = .ok (.putfield 9, 3) := by decide +kernel
theorem dX7_init_9 : decode cX7_init 9 = .ok (.aload_n 0, 1) := by decide +kernel
theorem dX7_init_10 : decode cX7_init 10 = .ok (.iconst (-1), 1) := by decide +kernel
theorem dX7_init_11 : decode cX7_init 11 = .ok (.putfield 15, 3) := by decide +kernel
theorem dX7_init_14 : decode cX7_init 14 = .ok (.aload_n 0, 1) := by decide +kernel
theorem dX7_init_15 : decode cX7_init 15 = .ok (.iconst 0, 1) := by decide +kernel
theorem dX7_init_16 : decode cX7_init 16 = .ok (.putfield 19, 3) := by decide +kernel
theorem dX7_init_19 : decode cX7_init 19 = .ok (.aload_n 0, 1) := by decide +kernel
theorem dX7_init_20 : decode cX7_init 20 = .ok (.iconst (-1), 1) := by decide +kernel
theorem dX7_init_21 : decode cX7_init 21 = .ok (.putfield 22, 3) := by decide +kernel
theorem dX7_init_24 : decode cX7_init 24 = .ok (.return_, 1) := by decide +kernel
theorem dX7_clear_0 : decode cX7_clear 0 = .ok (.aload_n 0, 1) := by decide +kernel
theorem dX7_clear_1 : decode cX7_clear 1 = .ok (.iconst 0, 1) := by decide +kernel
theorem dX7_clear_2 : decode cX7_clear 2 = .ok (.putfield 9, 3) := by decide +kernel
theorem dX7_clear_5 : decode cX7_clear 5 = .ok (.aload_n 0, 1) := by decide +kernel
theorem dX7_clear_6 : decode cX7_clear 6 = .ok (.iconst (-1), 1) := by decide +kernel
theorem dX7_clear_7 : decode cX7_clear 7 = .ok (.putfield 15, 3) := by decide +kernel
theorem dX7_clear_10 : decode cX7_clear 10 = .ok (.aload_n 0, 1) := by decide +kernel
theorem dX7_clear_11 : decode cX7_clear 11 = .ok (.iconst 0, 1) := by decide +kernel
theorem dX7_clear_12 : decode cX7_clear 12 = .ok (.putfield 19, 3) := by decide +kernel
theorem dX7_clear_15 : decode cX7_clear 15 = .ok (.aload_n 0, 1) := by decide +kernel
theorem dX7_clear_16 : decode cX7_clear 16 = .ok (.iconst (-1), 1) := by decide +kernel
theorem dX7_clear_17 : decode cX7_clear 17 = .ok (.putfield 22, 3) := by decide +kernel
theorem dX7_clear_20 : decode cX7_clear 20 = .ok (.return_, 1) := by decide +kernel
theorem dX7_become_0 : decode cX7_become 0 = .ok (.aload_n 0, 1) := by decide +kernel
theorem dX7_become_1 : decode cX7_become 1 = .ok (.aload_n 1, 1) := by decide +kernel
theorem dX7_become_2 : decode cX7_become 2 = .ok (.getfield 9, 3) := by decide +kernel
theorem dX7_become_5 : decode cX7_become 5 = .ok (.putfield 9, 3) := by decide +kernel
theorem dX7_become_8 : decode cX7_become 8 = .ok (.aload_n 0, 1) := by decide +kernel
theorem dX7_become_9 : decode cX7_become 9 = .ok (.aload_n 1, 1) := by decide +kernel
theorem dX7_become_10 : decode cX7_become 10 = .ok (.getfield 15, 3) := by decide +kernel
theorem dX7_become_13 : decode cX7_become 13 = .ok (.putfield 15, 3) := by decide +kernel
theorem dX7_become_16 : decode cX7_become 16 = .ok (.aload_n 0, 1) := by decide +kernel
theorem dX7_become_17 : decode cX7_become 17 = .ok (.aload_n 1, 1) := by decide +kernel
theorem dX7_become_18 : decode cX7_become 18 = .ok (.getfield 19, 3) := by decide +kernel
theorem dX7_become_21 : decode cX7_become 21 = .ok (.putfield 19, 3) := by decide +kernel
theorem dX7_become_24 : decode cX7_become 24 = .ok (.aload_n 0, 1) := by decide +kernel
theorem dX7_become_25 : decode cX7_become 25 = .ok (.aload_n 1, 1) := by decide +kernel
theorem dX7_become_26 : decode cX7_become 26 = .ok (.getfield 22, 3) := by decide +kernel
theorem dX7_become_29 : decode cX7_become 29 = .ok (.putfield 22, 3) := by decide +kernel
theorem dX7_become_32 : decode cX7_become 32 = .ok (.return_, 1) := by decide +kernel
theorem dX7_set_0 : decode cX7_set 0 = .ok (.aload_n 0, 1) := by decide +kernel
theorem dX7_set_1 : decode cX7_set 1 = .ok (.iconst 1, 1) := by decide +kernel
theorem dX7_set_2 : decode cX7_set 2 = .ok (.putfield 9, 3) := by decide +kernel
theorem dX7_set_5 : decode cX7_set 5 = .ok (.aload_n 0, 1) := by decide +kernel
theorem dX7_set_6 : decode cX7_set 6 = .ok (.iload_n 1, 1) := by decide +kernel
theorem dX7_set_7 : decode cX7_set 7 = .ok (.putfield 15, 3) := by decide +kernel
theorem dX7_set_10 : decode cX7_set 10 = .ok (.aload_n 0, 1) := by decide +kernel
theorem dX7_set_11 : decode cX7_set 11 = .ok (.iload_n 2, 1) := by decide +kernel
theorem dX7_set_12 : decode cX7_set 12 = .ok (.putfield 19, 3) := by decide +kernel
theorem dX7_set_15 : decode cX7_set 15 = .ok (.aload_n 0, 1) := by decide +kernel
theorem dX7_set_16 : decode cX7_set 16 = .ok (.iload_n 3, 1) := by decide +kernel
theorem dX7_set_17 : decode cX7_set 17 = .ok (.putfield 22, 3) := by decide +kernel
theorem dX7_set_20 : decode cX7_set 20 = .ok (.return_, 1) := by decide +kernel
theorem dX8_init_0 : decode cX8_init 0 = .ok (.aload_n 0, 1) := by decide +kernel
theorem dX8_init_1 : decode cX8_init 1 = .ok (.invokespecial 3, 3) := by decide +kernel
theorem dX8_init_4 : decode cX8_init 4 = .ok (.aload_n 0, 1) := by decide +kernel
theorem dX8_init_5 : decode cX8_init 5 = .ok (.iconst 0, 1) := by decide +kernel
theorem dX8_init_6 : decode cX8_init 6 = .ok (.putfield 9, 3) := by decide +kernel
theorem dX8_init_9 : decode cX8_init 9 = .ok (.aload_n 0, 1) := by decide +kernel
theorem dX8_init_10 : decode cX8_init 10 = .ok (.iconst 0, 1) := by decide +kernel
theorem dX8_init_11 : decode cX8_init 11 = .ok (.putfield 15, 3) := by decide +kernel
theorem dX8_init_14 : decode cX8_init 14 = .ok (.aload_n 0, 1) := by decide +kernel
theorem dX8_init_15 : decode cX8_init 15 = .ok (.bipush 45, 2) := by decide +kernel
theorem dX8_init_17 : decode cX8_init 17 = .ok (.putfield 19, 3) := by decide +kernel
theorem dX8_init_20 : decode cX8_init 20 = .ok (.aload_n 0, 1) := by decide +kernel
theorem dX8_init_21 : decode cX8_init 21 = .ok (.bipush 8, 2) := by decide +kernel
theorem dX8_init_23 : decode cX8_init 23 = .ok (.newarray .int, 2) := by decide +kernel
theorem dX8_init_25 : decode cX8_init 25 = .ok (.putfield 23, 3) := by decide +kernel
theorem dX8_init_28 : decode cX8_init 28 = .ok (.return_, 1) := by decide +kernel
theorem dX8_follow_0 : decode cX8_follow 0 = .ok (.aload_n 0, 1) := by decide +kernel
theorem dX8_follow_1 : decode cX8_follow 1 = .ok (.iconst 1, 1) := by decide +kernel
theorem dX8_follow_2 : decode cX8_follow 2 = .ok (.putfield 9, 3) := by decide +kernel
theorem dX8_follow_5 : decode cX8_follow 5 = .ok (.aload_n 0, 1) := by decide +kernel
theorem dX8_follow_6 : decode cX8_follow 6 = .ok (.iconst 0, 1) := by decide +kernel
theorem dX8_follow_7 : decode cX8_follow 7 = .ok (.putfield 15, 3) := by decide +kernel
theorem dX8_follow_10 : decode cX8_follow 10 = .ok (.aload_n 0, 1) := by decide +kernel
theorem dX8_follow_11 : decode cX8_follow 11 = .ok (.aload_n 2, 1) := by decide +kernel
theorem dX8_follow_12 : decode cX8_follow 12 = .ok (.aload_n 1, 1) := by decide +kernel
theorem dX8_follow_13 : decode cX8_follow 13 = .ok (.getfield 27, 3) := by decide +kernel
theorem dX8_follow_16 : decode cX8_follow 16 = .ok (.invokevirtual 33, 3) := by decide +kernel
theorem dX8_follow_19 : decode cX8_follow 19 = .ok (.putfield 19, 3) := by decide +kernel
theorem dX8_follow_22 : decode cX8_follow 22 = .ok (.iconst 0, 1) := by decide +kernel
theorem dX8_follow_23 : decode cX8_follow 23 = .ok (.istore_n 3, 1) := by decide +kernel
theorem dX8_follow_24 : decode cX8_follow 24 = .ok (.iload_n 3, 1) := by decide +kernel
theorem dX8_follow_25 : decode cX8_follow 25 = .ok (.aload_n 1, 1) := by decide +kernel
theorem dX8_follow_26 : decode cX8_follow 26 = .ok (.getfield 39, 3) := by decide +kernel
theorem dX8_follow_29 : decode cX8_follow 29 = .ok (.if_icmp .ge 82, 3) := by decide +kernel
theorem dX8_follow_32 : decode cX8_follow 32 = .ok (.aload_n 0, 1) := by decide +kernel
theorem dX8_follow_33 : decode cX8_follow 33 = .ok (.getfield 19, 3) := by decide +kernel
theorem dX8_follow_36 : decode cX8_follow 36 = .ok (.bipush 45, 2) := by decide +kernel
theorem dX8_follow_38 : decode cX8_follow 38 = .ok (.if_icmp .ne 73, 3) := by decide +kernel
theorem dX8_follow_41 : decode cX8_follow 41 = .ok (.aload_n 2, 1) := by decide +kernel
theorem dX8_follow_42 : decode cX8_follow 42 = .ok (.aload_n 1, 1) := by decide +kernel
theorem dX8_follow_43 : decode cX8_follow 43 = .ok (.getfield 42, 3) := by decide +kernel
theorem dX8_follow_46 : decode cX8_follow 46 = .ok (.iload_n 3, 1) := by decide +kernel
theorem dX8_follow_47 : decode cX8_follow 47 = .ok (.iaload, 1) := by decide +kernel
theorem dX8_follow_48 : decode cX8_follow 48 = .ok (.aload_n 1, 1) := by decide +kernel
theorem dX8_follow_49 : decode cX8_follow 49 = .ok (.getfield 45, 3) := by decide +kernel
theorem dX8_follow_52 : decode cX8_follow 52 = .ok (.iload_n 3, 1) := by decide +kernel
theorem dX8_follow_53 : decode cX8_follow 53 = .ok (.iaload, 1) := by decide +kernel
theorem dX8_follow_54 : decode cX8_follow 54 = .ok (.aload_n 1, 1) := by decide +kernel
theorem dX8_follow_55 : decode cX8_follow 55 = .ok (.getfield 48, 3) := by decide +kernel
theorem dX8_follow_58 : decode cX8_follow 58 = .ok (.iload_n 3, 1) := by decide +kernel
theorem dX8_follow_59 : decode cX8_follow 59 = .ok (.iaload, 1) := by decide +kernel
theorem dX8_follow_60 : decode cX8_follow 60 = .ok (.aload_n 1, 1) := by decide +kernel
theorem dX8_follow_61 : decode cX8_follow 61 = .ok (.getfield 51, 3) := by decide +kernel
theorem dX8_follow_64 : decode cX8_follow 64 = .ok (.iload_n 3, 1) := by decide +kernel
theorem dX8_follow_65 : decode cX8_follow 65 = .ok (.iaload, 1) := by decide +kernel
theorem dX8_follow_66 : decode cX8_follow 66 = .ok (.invokevirtual 54, 3) := by decide +kernel
theorem dX8_follow_69 : decode cX8_follow 69 = .ok (.istore 4, 2) := by decide +kernel
theorem dX8_follow_71 : decode cX8_follow 71 = .ok (.iload 4, 2) := by decide +kernel
theorem dX8_follow_73 : decode cX8_follow 73 = .ok (.ifCond .ge 14, 3) := by decide +kernel
theorem dX8_follow_76 : decode cX8_follow 76 = .ok (.aload_n 0, 1) := by decide +kernel
theorem dX8_follow_77 : decode cX8_follow 77 = .ok (.iload 4, 2) := by decide +kernel
theorem dX8_follow_79 : decode cX8_follow 79 = .ok (.ineg, 1) := by decide +kernel
theorem dX8_follow_80 : decode cX8_follow 80 = .ok (.i2c, 1) := by decide +kernel
theorem dX8_follow_81 : decode cX8_follow 81 = .ok (.putfield 19, 3) := by decide +kernel
theorem dX8_follow_84 : decode cX8_follow 84 = .ok (.goto 21, 3) := by decide +kernel
theorem dX8_follow_87 : decode cX8_follow 87 = .ok (.aload_n 0, 1) := by decide +kernel
theorem dX8_follow_88 : decode cX8_follow 88 = .ok (.getfield 23, 3) := by decide +kernel
theorem dX8_follow_91 : decode cX8_follow 91 = .ok (.iload_n 3, 1) := by decide +kernel
theorem dX8_follow_92 : decode cX8_follow 92 = .ok (.iload 4, 2) := by decide +kernel
theorem dX8_follow_94 : decode cX8_follow 94 = .ok (.iastore, 1) := by decide +kernel
theorem dX8_follow_95 : decode cX8_follow 95 = .ok (.aload_n 0, 1) := by decide +kernel
theorem dX8_follow_96 : decode cX8_follow 96 = .ok (.dup, 1) := by decide +kernel
theorem dX8_follow_97 : decode cX8_follow 97 = .ok (.getfield 15, 3) := by decide +kernel
theorem dX8_follow_100 : decode cX8_follow 100 = .ok (.iconst 1, 1) := by decide +kernel
theorem dX8_follow_101 : decode cX8_follow 101 = .ok (.iadd, 1) := by decide +kernel
theorem dX8_follow_102 : decode cX8_follow 102 = .ok (.putfield 15, 3) := by decide +kernel
theorem dX8_follow_105 : decode cX8_follow 105 = .ok (.iinc 3 1, 3) := by decide +kernel
theorem dX8_follow_108 : decode cX8_follow 108 = .ok (.goto (-84), 3) := by decide +kernel
theorem dX8_follow_111 : decode cX8_follow 111 = .ok (.return_, 1) := by decide +kernel
