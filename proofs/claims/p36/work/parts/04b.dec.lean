-- pasted from the claim's printed text: decode rows
theorem dX3_init_0 : decode cX3_init 0 = .ok (.aload_n 0, 1) := by decide +kernel
theorem dX3_init_1 : decode cX3_init 1 = .ok (.invokespecial 3, 3) := by decide +kernel
theorem dX3_init_4 : decode cX3_init 4 = .ok (.aload_n 0, 1) := by decide +kernel
theorem dX3_init_5 : decode cX3_init 5 = .ok (.bipush 6, 2) := by decide +kernel
theorem dX3_init_7 : decode cX3_init 7 = .ok (.newarray .int, 2) := by decide +kernel
theorem dX3_init_9 : decode cX3_init 9 = .ok (.putfield 9, 3) := by decide +kernel
theorem dX3_init_12 : decode cX3_init 12 = .ok (.aload_n 0, 1) := by decide +kernel
theorem dX3_init_13 : decode cX3_init 13 = .ok (.bipush 36, 2) := by decide +kernel
theorem dX3_init_15 : decode cX3_init 15 = .ok (.newarray .int, 2) := by decide +kernel
theorem dX3_init_17 : decode cX3_init 17 = .ok (.putfield 15, 3) := by decide +kernel
theorem dX3_init_20 : decode cX3_init 20 = .ok (.aload_n 0, 1) := by decide +kernel
theorem dX3_init_21 : decode cX3_init 21 = .ok (.bipush 36, 2) := by decide +kernel
theorem dX3_init_23 : decode cX3_init 23 = .ok (.newarray .int, 2) := by decide +kernel
theorem dX3_init_25 : decode cX3_init 25 = .ok (.putfield 18, 3) := by decide +kernel
theorem dX3_init_28 : decode cX3_init 28 = .ok (.aload_n 0, 1) := by decide +kernel
theorem dX3_init_29 : decode cX3_init 29 = .ok (.bipush 6, 2) := by decide +kernel
theorem dX3_init_31 : decode cX3_init 31 = .ok (.newarray .int, 2) := by decide +kernel
theorem dX3_init_33 : decode cX3_init 33 = .ok (.putfield 21, 3) := by decide +kernel
theorem dX3_init_36 : decode cX3_init 36 = .ok (.aload_n 0, 1) := by decide +kernel
theorem dX3_init_37 : decode cX3_init 37 = .ok (.bipush 6, 2) := by decide +kernel
theorem dX3_init_39 : decode cX3_init 39 = .ok (.newarray .int, 2) := by decide +kernel
theorem dX3_init_41 : decode cX3_init 41 = .ok (.putfield 24, 3) := by decide +kernel
theorem dX3_init_44 : decode cX3_init 44 = .ok (.aload_n 0, 1) := by decide +kernel
theorem dX3_init_45 : decode cX3_init 45 = .ok (.bipush 36, 2) := by decide +kernel
theorem dX3_init_47 : decode cX3_init 47 = .ok (.newarray .int, 2) := by decide +kernel
theorem dX3_init_49 : decode cX3_init 49 = .ok (.putfield 27, 3) := by decide +kernel
theorem dX3_init_52 : decode cX3_init 52 = .ok (.aload_n 0, 1) := by decide +kernel
theorem dX3_init_53 : decode cX3_init 53 = .ok (.bipush 36, 2) := by decide +kernel
theorem dX3_init_55 : decode cX3_init 55 = .ok (.newarray .int, 2) := by decide +kernel
theorem dX3_init_57 : decode cX3_init 57 = .ok (.putfield 30, 3) := by decide +kernel
theorem dX3_init_60 : decode cX3_init 60 = .ok (.aload_n 0, 1) := by decide +kernel
theorem dX3_init_61 : decode cX3_init 61 = .ok (.bipush 36, 2) := by decide +kernel
theorem dX3_init_63 : decode cX3_init 63 = .ok (.newarray .int, 2) := by decide +kernel
theorem dX3_init_65 : decode cX3_init 65 = .ok (.putfield 33, 3) := by decide +kernel
theorem dX3_init_68 : decode cX3_init 68 = .ok (.aload_n 0, 1) := by decide +kernel
theorem dX3_init_69 : decode cX3_init 69 = .ok (.getstatic 36, 3) := by decide +kernel
theorem dX3_init_72 : decode cX3_init 72 = .ok (.arraylength, 1) := by decide +kernel
theorem dX3_init_73 : decode cX3_init 73 = .ok (.newarray .int, 2) := by decide +kernel
theorem dX3_init_75 : decode cX3_init 75 = .ok (.putfield 40, 3) := by decide +kernel
theorem dX3_init_78 : decode cX3_init 78 = .ok (.return_, 1) := by decide +kernel
theorem dX3_derive_0 : decode cX3_derive 0 = .ok (.aload_n 0, 1) := by decide +kernel
theorem dX3_derive_1 : decode cX3_derive 1 = .ok (.iconst 0, 1) := by decide +kernel
theorem dX3_derive_2 : decode cX3_derive 2 = .ok (.putfield 43, 3) := by decide +kernel
theorem dX3_derive_5 : decode cX3_derive 5 = .ok (.aload_n 0, 1) := by decide +kernel
theorem dX3_derive_6 : decode cX3_derive 6 = .ok (.iconst 0, 1) := by decide +kernel
theorem dX3_derive_7 : decode cX3_derive 7 = .ok (.putfield 47, 3) := by decide +kernel
theorem dX3_derive_10 : decode cX3_derive 10 = .ok (.iconst 0, 1) := by decide +kernel
theorem dX3_derive_11 : decode cX3_derive 11 = .ok (.istore_n 2, 1) := by decide +kernel
theorem dX3_derive_12 : decode cX3_derive 12 = .ok (.iload_n 2, 1) := by decide +kernel
theorem dX3_derive_13 : decode cX3_derive 13 = .ok (.iconst 5, 1) := by decide +kernel
theorem dX3_derive_14 : decode cX3_derive 14 = .ok (.if_icmp .ge 63, 3) := by decide +kernel
theorem dX3_derive_17 : decode cX3_derive 17 = .ok (.aload_n 0, 1) := by decide +kernel
theorem dX3_derive_18 : decode cX3_derive 18 = .ok (.dup, 1) := by decide +kernel
theorem dX3_derive_19 : decode cX3_derive 19 = .ok (.getfield 43, 3) := by decide +kernel
theorem dX3_derive_22 : decode cX3_derive 22 = .ok (.aload_n 1, 1) := by decide +kernel
theorem dX3_derive_23 : decode cX3_derive 23 = .ok (.getfield 50, 3) := by decide +kernel
theorem dX3_derive_26 : decode cX3_derive 26 = .ok (.iload_n 2, 1) := by decide +kernel
theorem dX3_derive_27 : decode cX3_derive 27 = .ok (.caload, 1) := by decide +kernel
theorem dX3_derive_28 : decode cX3_derive 28 = .ok (.bipush 45, 2) := by decide +kernel
theorem dX3_derive_30 : decode cX3_derive 30 = .ok (.if_icmp .eq 9, 3) := by decide +kernel
theorem dX3_derive_33 : decode cX3_derive 33 = .ok (.iconst 1, 1) := by decide +kernel
theorem dX3_derive_34 : decode cX3_derive 34 = .ok (.iload_n 2, 1) := by decide +kernel
theorem dX3_derive_35 : decode cX3_derive 35 = .ok (.ishl, 1) := by decide +kernel
theorem dX3_derive_36 : decode cX3_derive 36 = .ok (.goto 4, 3) := by decide +kernel
theorem dX3_derive_39 : decode cX3_derive 39 = .ok (.iconst 0, 1) := by decide +kernel
theorem dX3_derive_40 : decode cX3_derive 40 = .ok (.ior, 1) := by decide +kernel
theorem dX3_derive_41 : decode cX3_derive 41 = .ok (.putfield 43, 3) := by decide +kernel
theorem dX3_derive_44 : decode cX3_derive 44 = .ok (.aload_n 0, 1) := by decide +kernel
theorem dX3_derive_45 : decode cX3_derive 45 = .ok (.dup, 1) := by decide +kernel
theorem dX3_derive_46 : decode cX3_derive 46 = .ok (.getfield 47, 3) := by decide +kernel
theorem dX3_derive_49 : decode cX3_derive 49 = .ok (.aload_n 1, 1) := by decide +kernel
theorem dX3_derive_50 : decode cX3_derive 50 = .ok (.getfield 50, 3) := by decide +kernel
theorem dX3_derive_53 : decode cX3_derive 53 = .ok (.iload_n 2, 1) := by decide +kernel
theorem dX3_derive_54 : decode cX3_derive 54 = .ok (.caload, 1) := by decide +kernel
theorem dX3_derive_55 : decode cX3_derive 55 = .ok (.bipush 99, 2) := by decide +kernel
theorem dX3_derive_57 : decode cX3_derive 57 = .ok (.if_icmp .ne 9, 3) := by decide +kernel
theorem dX3_derive_60 : decode cX3_derive 60 = .ok (.iconst 1, 1) := by decide +kernel
theorem dX3_derive_61 : decode cX3_derive 61 = .ok (.iload_n 2, 1) := by decide +kernel
theorem dX3_derive_62 : decode cX3_derive 62 = .ok (.ishl, 1) := by decide +kernel
theorem dX3_derive_63 : decode cX3_derive 63 = .ok (.goto 4, 3) := by decide +kernel
theorem dX3_derive_66 : decode cX3_derive 66 = .ok (.iconst 0, 1) := by decide +kernel
theorem dX3_derive_67 : decode cX3_derive 67 = .ok (.ior, 1) := by decide +kernel
theorem dX3_derive_68 : decode cX3_derive 68 = .ok (.putfield 47, 3) := by decide +kernel
theorem dX3_derive_71 : decode cX3_derive 71 = .ok (.iinc 2 1, 3) := by decide +kernel
theorem dX3_derive_74 : decode cX3_derive 74 = .ok (.goto (-62), 3) := by decide +kernel
theorem dX3_derive_77 : decode cX3_derive 77 = .ok (.aload_n 0, 1) := by decide +kernel
theorem dX3_derive_78 : decode cX3_derive 78 = .ok (.aload_n 1, 1) := by decide +kernel
theorem dX3_derive_79 : decode cX3_derive 79 = .ok (.invokevirtual 55, 3) := by decide +kernel
theorem dX3_derive_82 : decode cX3_derive 82 = .ok (.aload_n 0, 1) := by decide +kernel
theorem dX3_derive_83 : decode cX3_derive 83 = .ok (.aload_n 1, 1) := by decide +kernel
theorem dX3_derive_84 : decode cX3_derive 84 = .ok (.getfield 59, 3) := by decide +kernel
theorem dX3_derive_87 : decode cX3_derive 87 = .ok (.invokevirtual 63, 3) := by decide +kernel
theorem dX3_derive_90 : decode cX3_derive 90 = .ok (.iconst 0, 1) := by decide +kernel
theorem dX3_derive_91 : decode cX3_derive 91 = .ok (.istore_n 2, 1) := by decide +kernel
theorem dX3_derive_92 : decode cX3_derive 92 = .ok (.iload_n 2, 1) := by decide +kernel
theorem dX3_derive_93 : decode cX3_derive 93 = .ok (.iconst 5, 1) := by decide +kernel
theorem dX3_derive_94 : decode cX3_derive 94 = .ok (.if_icmp .ge 21, 3) := by decide +kernel
theorem dX3_derive_97 : decode cX3_derive 97 = .ok (.aload_n 0, 1) := by decide +kernel
theorem dX3_derive_98 : decode cX3_derive 98 = .ok (.aload_n 1, 1) := by decide +kernel
theorem dX3_derive_99 : decode cX3_derive 99 = .ok (.iload_n 2, 1) := by decide +kernel
theorem dX3_derive_100 : decode cX3_derive 100 = .ok (.invokevirtual 67, 3) := by decide +kernel
theorem dX3_derive_103 : decode cX3_derive 103 = .ok (.aload_n 0, 1) := by decide +kernel
theorem dX3_derive_104 : decode cX3_derive 104 = .ok (.aload_n 1, 1) := by decide +kernel
theorem dX3_derive_105 : decode cX3_derive 105 = .ok (.iload_n 2, 1) := by decide +kernel
theorem dX3_derive_106 : decode cX3_derive 106 = .ok (.invokevirtual 71, 3) := by decide +kernel
theorem dX3_derive_109 : decode cX3_derive 109 = .ok (.iinc 2 1, 3) := by decide +kernel
theorem dX3_derive_112 : decode cX3_derive 112 = .ok (.goto (-20), 3) := by decide +kernel
theorem dX3_derive_115 : decode cX3_derive 115 = .ok (.return_, 1) := by decide +kernel
theorem dX3_deriveAbove_0 : decode cX3_deriveAbove 0 = .ok (.iconst 0, 1) := by decide +kernel
theorem dX3_deriveAbove_1 : decode cX3_deriveAbove 1 = .ok (.istore_n 2, 1) := by decide +kernel
theorem dX3_deriveAbove_2 : decode cX3_deriveAbove 2 = .ok (.iload_n 2, 1) := by decide +kernel
theorem dX3_deriveAbove_3 : decode cX3_deriveAbove 3 = .ok (.iconst 5, 1) := by decide +kernel
theorem dX3_deriveAbove_4 : decode cX3_deriveAbove 4 = .ok (.if_icmp .ge 64, 3) := by decide +kernel
theorem dX3_deriveAbove_7 : decode cX3_deriveAbove 7 = .ok (.aload_n 1, 1) := by decide +kernel
theorem dX3_deriveAbove_8 : decode cX3_deriveAbove 8 = .ok (.getfield 74, 3) := by decide +kernel
theorem dX3_deriveAbove_11 : decode cX3_deriveAbove 11 = .ok (.iload_n 2, 1) := by decide +kernel
theorem dX3_deriveAbove_12 : decode cX3_deriveAbove 12 = .ok (.iaload, 1) := by decide +kernel
theorem dX3_deriveAbove_13 : decode cX3_deriveAbove 13 = .ok (.istore_n 3, 1) := by decide +kernel
theorem dX3_deriveAbove_14 : decode cX3_deriveAbove 14 = .ok (.aload_n 1, 1) := by decide +kernel
theorem dX3_deriveAbove_15 : decode cX3_deriveAbove 15 = .ok (.getfield 77, 3) := by decide +kernel
theorem dX3_deriveAbove_18 : decode cX3_deriveAbove 18 = .ok (.iload_n 2, 1) := by decide +kernel
theorem dX3_deriveAbove_19 : decode cX3_deriveAbove 19 = .ok (.iaload, 1) := by decide +kernel
theorem dX3_deriveAbove_20 : decode cX3_deriveAbove 20 = .ok (.iconst (-1), 1) := by decide +kernel
theorem dX3_deriveAbove_21 : decode cX3_deriveAbove 21 = .ok (.if_icmp .eq 14, 3) := by decide +kernel
theorem dX3_deriveAbove_24 : decode cX3_deriveAbove 24 = .ok (.iload_n 3, 1) := by decide +kernel
theorem dX3_deriveAbove_25 : decode cX3_deriveAbove 25 = .ok (.iconst 1, 1) := by decide +kernel
theorem dX3_deriveAbove_26 : decode cX3_deriveAbove 26 = .ok (.aload_n 1, 1) := by decide +kernel
theorem dX3_deriveAbove_27 : decode cX3_deriveAbove 27 = .ok (.getfield 77, 3) := by decide +kernel
theorem dX3_deriveAbove_30 : decode cX3_deriveAbove 30 = .ok (.iload_n 2, 1) := by decide +kernel
theorem dX3_deriveAbove_31 : decode cX3_deriveAbove 31 = .ok (.iaload, 1) := by decide +kernel
theorem dX3_deriveAbove_32 : decode cX3_deriveAbove 32 = .ok (.ishl, 1) := by decide +kernel
theorem dX3_deriveAbove_33 : decode cX3_deriveAbove 33 = .ok (.ior, 1) := by decide +kernel
theorem dX3_deriveAbove_34 : decode cX3_deriveAbove 34 = .ok (.istore_n 3, 1) := by decide +kernel
theorem dX3_deriveAbove_35 : decode cX3_deriveAbove 35 = .ok (.aload_n 0, 1) := by decide +kernel
theorem dX3_deriveAbove_36 : decode cX3_deriveAbove 36 = .ok (.getfield 9, 3) := by decide +kernel
theorem dX3_deriveAbove_39 : decode cX3_deriveAbove 39 = .ok (.iload_n 2, 1) := by decide +kernel
theorem dX3_deriveAbove_40 : decode cX3_deriveAbove 40 = .ok (.aload_n 0, 1) := by decide +kernel
theorem dX3_deriveAbove_41 : decode cX3_deriveAbove 41 = .ok (.getfield 43, 3) := by decide +kernel
theorem dX3_deriveAbove_44 : decode cX3_deriveAbove 44 = .ok (.iload_n 2, 1) := by decide +kernel
theorem dX3_deriveAbove_45 : decode cX3_deriveAbove 45 = .ok (.invokestatic 80, 3) := by decide +kernel
theorem dX3_deriveAbove_48 : decode cX3_deriveAbove 48 = .ok (.ifCond .eq 12, 3) := by decide +kernel
theorem dX3_deriveAbove_51 : decode cX3_deriveAbove 51 = .ok (.iload_n 3, 1) := by decide +kernel
theorem dX3_deriveAbove_52 : decode cX3_deriveAbove 52 = .ok (.aload_n 0, 1) := by decide +kernel
theorem dX3_deriveAbove_53 : decode cX3_deriveAbove 53 = .ok (.getfield 43, 3) := by decide +kernel
theorem dX3_deriveAbove_56 : decode cX3_deriveAbove 56 = .ok (.iand, 1) := by decide +kernel
theorem dX3_deriveAbove_57 : decode cX3_deriveAbove 57 = .ok (.goto 4, 3) := by decide +kernel
theorem dX3_deriveAbove_60 : decode cX3_deriveAbove 60 = .ok (.iconst 0, 1) := by decide +kernel
theorem dX3_deriveAbove_61 : decode cX3_deriveAbove 61 = .ok (.iastore, 1) := by decide +kernel
theorem dX3_deriveAbove_62 : decode cX3_deriveAbove 62 = .ok (.iinc 2 1, 3) := by decide +kernel
theorem dX3_deriveAbove_65 : decode cX3_deriveAbove 65 = .ok (.goto (-63), 3) := by decide +kernel
theorem dX3_deriveAbove_68 : decode cX3_deriveAbove 68 = .ok (.iconst 0, 1) := by decide +kernel
theorem dX3_deriveAbove_69 : decode cX3_deriveAbove 69 = .ok (.istore_n 2, 1) := by decide +kernel
theorem dX3_deriveAbove_70 : decode cX3_deriveAbove 70 = .ok (.iload_n 2, 1) := by decide +kernel
theorem dX3_deriveAbove_71 : decode cX3_deriveAbove 71 = .ok (.iconst 5, 1) := by decide +kernel
theorem dX3_deriveAbove_72 : decode cX3_deriveAbove 72 = .ok (.if_icmp .ge 50, 3) := by decide +kernel
theorem dX3_deriveAbove_75 : decode cX3_deriveAbove 75 = .ok (.iconst 0, 1) := by decide +kernel
theorem dX3_deriveAbove_76 : decode cX3_deriveAbove 76 = .ok (.istore_n 3, 1) := by decide +kernel
theorem dX3_deriveAbove_77 : decode cX3_deriveAbove 77 = .ok (.iload_n 3, 1) := by decide +kernel
theorem dX3_deriveAbove_78 : decode cX3_deriveAbove 78 = .ok (.iconst 5, 1) := by decide +kernel
theorem dX3_deriveAbove_79 : decode cX3_deriveAbove 79 = .ok (.if_icmp .ge 37, 3) := by decide +kernel
theorem dX3_deriveAbove_82 : decode cX3_deriveAbove 82 = .ok (.aload_n 0, 1) := by decide +kernel
theorem dX3_deriveAbove_83 : decode cX3_deriveAbove 83 = .ok (.getfield 9, 3) := by decide +kernel
theorem dX3_deriveAbove_86 : decode cX3_deriveAbove 86 = .ok (.iload_n 3, 1) := by decide +kernel
theorem dX3_deriveAbove_87 : decode cX3_deriveAbove 87 = .ok (.iaload, 1) := by decide +kernel
theorem dX3_deriveAbove_88 : decode cX3_deriveAbove 88 = .ok (.iload_n 2, 1) := by decide +kernel
theorem dX3_deriveAbove_89 : decode cX3_deriveAbove 89 = .ok (.invokestatic 80, 3) := by decide +kernel
theorem dX3_deriveAbove_92 : decode cX3_deriveAbove 92 = .ok (.ifCond .eq 18, 3) := by decide +kernel
theorem dX3_deriveAbove_95 : decode cX3_deriveAbove 95 = .ok (.aload_n 0, 1) := by decide +kernel
theorem dX3_deriveAbove_96 : decode cX3_deriveAbove 96 = .ok (.getfield 9, 3) := by decide +kernel
theorem dX3_deriveAbove_99 : decode cX3_deriveAbove 99 = .ok (.iload_n 3, 1) := by decide +kernel
theorem dX3_deriveAbove_100 : decode cX3_deriveAbove 100 = .ok (.dup2, 1) := by decide +kernel
theorem dX3_deriveAbove_101 : decode cX3_deriveAbove 101 = .ok (.iaload, 1) := by decide +kernel
theorem dX3_deriveAbove_102 : decode cX3_deriveAbove 102 = .ok (.aload_n 0, 1) := by decide +kernel
theorem dX3_deriveAbove_103 : decode cX3_deriveAbove 103 = .ok (.getfield 9, 3) := by decide +kernel
theorem dX3_deriveAbove_106 : decode cX3_deriveAbove 106 = .ok (.iload_n 2, 1) := by decide +kernel
theorem dX3_deriveAbove_107 : decode cX3_deriveAbove 107 = .ok (.iaload, 1) := by decide +kernel
theorem dX3_deriveAbove_108 : decode cX3_deriveAbove 108 = .ok (.ior, 1) := by decide +kernel
theorem dX3_deriveAbove_109 : decode cX3_deriveAbove 109 = .ok (.iastore, 1) := by decide +kernel
theorem dX3_deriveAbove_110 : decode cX3_deriveAbove 110 = .ok (.iinc 3 1, 3) := by decide +kernel
theorem dX3_deriveAbove_113 : decode cX3_deriveAbove 113 = .ok (.goto (-36), 3) := by decide +kernel
theorem dX3_deriveAbove_116 : decode cX3_deriveAbove 116 = .ok (.iinc 2 1, 3) := by decide +kernel
theorem dX3_deriveAbove_119 : decode cX3_deriveAbove 119 = .ok (.goto (-49), 3) := by decide +kernel
theorem dX3_deriveAbove_122 : decode cX3_deriveAbove 122 = .ok (.return_, 1) := by decide +kernel
theorem dX3_deriveInterfaceMethods_0 : decode cX3_deriveInterfaceMethods 0 = .ok (.aload_n 0, 1) := by decide +kernel
theorem dX3_deriveInterfaceMethods_1 : decode cX3_deriveInterfaceMethods 1 = .ok (.getfield 21, 3) := by decide +kernel
theorem dX3_deriveInterfaceMethods_4 : decode cX3_deriveInterfaceMethods 4 = .ok (.iconst 0, 1) := by decide +kernel
theorem dX3_deriveInterfaceMethods_5 : decode cX3_deriveInterfaceMethods 5 = .ok (.invokestatic 84, 3) := by decide +kernel
theorem dX3_deriveInterfaceMethods_8 : decode cX3_deriveInterfaceMethods 8 = .ok (.aload_n 0, 1) := by decide +kernel
theorem dX3_deriveInterfaceMethods_9 : decode cX3_deriveInterfaceMethods 9 = .ok (.getfield 24, 3) := by decide +kernel
theorem dX3_deriveInterfaceMethods_12 : decode cX3_deriveInterfaceMethods 12 = .ok (.iconst 0, 1) := by decide +kernel
theorem dX3_deriveInterfaceMethods_13 : decode cX3_deriveInterfaceMethods 13 = .ok (.invokestatic 84, 3) := by decide +kernel
theorem dX3_deriveInterfaceMethods_16 : decode cX3_deriveInterfaceMethods 16 = .ok (.iconst 0, 1) := by decide +kernel
theorem dX3_deriveInterfaceMethods_17 : decode cX3_deriveInterfaceMethods 17 = .ok (.istore_n 2, 1) := by decide +kernel
theorem dX3_deriveInterfaceMethods_18 : decode cX3_deriveInterfaceMethods 18 = .ok (.iload_n 2, 1) := by decide +kernel
theorem dX3_deriveInterfaceMethods_19 : decode cX3_deriveInterfaceMethods 19 = .ok (.iconst 5, 1) := by decide +kernel
theorem dX3_deriveInterfaceMethods_20 : decode cX3_deriveInterfaceMethods 20 = .ok (.if_icmp .ge 96, 3) := by decide +kernel
theorem dX3_deriveInterfaceMethods_23 : decode cX3_deriveInterfaceMethods 23 = .ok (.iconst 0, 1) := by decide +kernel
theorem dX3_deriveInterfaceMethods_24 : decode cX3_deriveInterfaceMethods 24 = .ok (.istore_n 3, 1) := by decide +kernel
theorem dX3_deriveInterfaceMethods_25 : decode cX3_deriveInterfaceMethods 25 = .ok (.iload_n 3, 1) := by decide +kernel
theorem dX3_deriveInterfaceMethods_26 : decode cX3_deriveInterfaceMethods 26 = .ok (.bipush 6, 2) := by decide +kernel
theorem dX3_deriveInterfaceMethods_28 : decode cX3_deriveInterfaceMethods 28 = .ok (.if_icmp .ge 82, 3) := by decide +kernel
theorem dX3_deriveInterfaceMethods_31 : decode cX3_deriveInterfaceMethods 31 = .ok (.aload_n 1, 1) := by decide +kernel
theorem dX3_deriveInterfaceMethods_32 : decode cX3_deriveInterfaceMethods 32 = .ok (.getfield 90, 3) := by decide +kernel
theorem dX3_deriveInterfaceMethods_35 : decode cX3_deriveInterfaceMethods 35 = .ok (.iload_n 2, 1) := by decide +kernel
theorem dX3_deriveInterfaceMethods_36 : decode cX3_deriveInterfaceMethods 36 = .ok (.bipush 6, 2) := by decide +kernel
theorem dX3_deriveInterfaceMethods_38 : decode cX3_deriveInterfaceMethods 38 = .ok (.imul, 1) := by decide +kernel
theorem dX3_deriveInterfaceMethods_39 : decode cX3_deriveInterfaceMethods 39 = .ok (.iload_n 3, 1) := by decide +kernel
theorem dX3_deriveInterfaceMethods_40 : decode cX3_deriveInterfaceMethods 40 = .ok (.iadd, 1) := by decide +kernel
theorem dX3_deriveInterfaceMethods_41 : decode cX3_deriveInterfaceMethods 41 = .ok (.caload, 1) := by decide +kernel
theorem dX3_deriveInterfaceMethods_42 : decode cX3_deriveInterfaceMethods 42 = .ok (.istore 4, 2) := by decide +kernel
theorem dX3_deriveInterfaceMethods_44 : decode cX3_deriveInterfaceMethods 44 = .ok (.iload 4, 2) := by decide +kernel
theorem dX3_deriveInterfaceMethods_46 : decode cX3_deriveInterfaceMethods 46 = .ok (.bipush 45, 2) := by decide +kernel
theorem dX3_deriveInterfaceMethods_48 : decode cX3_deriveInterfaceMethods 48 = .ok (.if_icmp .eq 56, 3) := by decide +kernel
theorem dX3_deriveInterfaceMethods_51 : decode cX3_deriveInterfaceMethods 51 = .ok (.iload 4, 2) := by decide +kernel
theorem dX3_deriveInterfaceMethods_53 : decode cX3_deriveInterfaceMethods 53 = .ok (.bipush 115, 2) := by decide +kernel
theorem dX3_deriveInterfaceMethods_55 : decode cX3_deriveInterfaceMethods 55 = .ok (.if_icmp .eq 49, 3) := by decide +kernel
theorem dX3_deriveInterfaceMethods_58 : decode cX3_deriveInterfaceMethods 58 = .ok (.aload_n 0, 1) := by decide +kernel
theorem dX3_deriveInterfaceMethods_59 : decode cX3_deriveInterfaceMethods 59 = .ok (.getfield 47, 3) := by decide +kernel
theorem dX3_deriveInterfaceMethods_62 : decode cX3_deriveInterfaceMethods 62 = .ok (.iload_n 2, 1) := by decide +kernel
theorem dX3_deriveInterfaceMethods_63 : decode cX3_deriveInterfaceMethods 63 = .ok (.invokestatic 80, 3) := by decide +kernel
theorem dX3_deriveInterfaceMethods_66 : decode cX3_deriveInterfaceMethods 66 = .ok (.ifCond .ne 38, 3) := by decide +kernel
theorem dX3_deriveInterfaceMethods_69 : decode cX3_deriveInterfaceMethods 69 = .ok (.aload_n 0, 1) := by decide +kernel
theorem dX3_deriveInterfaceMethods_70 : decode cX3_deriveInterfaceMethods 70 = .ok (.getfield 21, 3) := by decide +kernel
theorem dX3_deriveInterfaceMethods_73 : decode cX3_deriveInterfaceMethods 73 = .ok (.iload_n 3, 1) := by decide +kernel
theorem dX3_deriveInterfaceMethods_74 : decode cX3_deriveInterfaceMethods 74 = .ok (.dup2, 1) := by decide +kernel
theorem dX3_deriveInterfaceMethods_75 : decode cX3_deriveInterfaceMethods 75 = .ok (.iaload, 1) := by decide +kernel
theorem dX3_deriveInterfaceMethods_76 : decode cX3_deriveInterfaceMethods 76 = .ok (.iconst 1, 1) := by decide +kernel
theorem dX3_deriveInterfaceMethods_77 : decode cX3_deriveInterfaceMethods 77 = .ok (.iload_n 2, 1) := by decide +kernel
theorem dX3_deriveInterfaceMethods_78 : decode cX3_deriveInterfaceMethods 78 = .ok (.ishl, 1) := by decide +kernel
theorem dX3_deriveInterfaceMethods_79 : decode cX3_deriveInterfaceMethods 79 = .ok (.ior, 1) := by decide +kernel
theorem dX3_deriveInterfaceMethods_80 : decode cX3_deriveInterfaceMethods 80 = .ok (.iastore, 1) := by decide +kernel
theorem dX3_deriveInterfaceMethods_81 : decode cX3_deriveInterfaceMethods 81 = .ok (.aload_n 0, 1) := by decide +kernel
theorem dX3_deriveInterfaceMethods_82 : decode cX3_deriveInterfaceMethods 82 = .ok (.getfield 24, 3) := by decide +kernel
theorem dX3_deriveInterfaceMethods_85 : decode cX3_deriveInterfaceMethods 85 = .ok (.iload_n 3, 1) := by decide +kernel
theorem dX3_deriveInterfaceMethods_86 : decode cX3_deriveInterfaceMethods 86 = .ok (.dup2, 1) := by decide +kernel
theorem dX3_deriveInterfaceMethods_87 : decode cX3_deriveInterfaceMethods 87 = .ok (.iaload, 1) := by decide +kernel
theorem dX3_deriveInterfaceMethods_88 : decode cX3_deriveInterfaceMethods 88 = .ok (.iload 4, 2) := by decide +kernel
theorem dX3_deriveInterfaceMethods_90 : decode cX3_deriveInterfaceMethods 90 = .ok (.bipush 97, 2) := by decide +kernel
theorem dX3_deriveInterfaceMethods_92 : decode cX3_deriveInterfaceMethods 92 = .ok (.if_icmp .ne 7, 3) := by decide +kernel
theorem dX3_deriveInterfaceMethods_95 : decode cX3_deriveInterfaceMethods 95 = .ok (.iconst 0, 1) := by decide +kernel
theorem dX3_deriveInterfaceMethods_96 : decode cX3_deriveInterfaceMethods 96 = .ok (.goto 6, 3) := by decide +kernel
theorem dX3_deriveInterfaceMethods_99 : decode cX3_deriveInterfaceMethods 99 = .ok (.iconst 1, 1) := by decide +kernel
theorem dX3_deriveInterfaceMethods_100 : decode cX3_deriveInterfaceMethods 100 = .ok (.iload_n 2, 1) := by decide +kernel
theorem dX3_deriveInterfaceMethods_101 : decode cX3_deriveInterfaceMethods 101 = .ok (.ishl, 1) := by decide +kernel
theorem dX3_deriveInterfaceMethods_102 : decode cX3_deriveInterfaceMethods 102 = .ok (.ior, 1) := by decide +kernel
theorem dX3_deriveInterfaceMethods_103 : decode cX3_deriveInterfaceMethods 103 = .ok (.iastore, 1) := by decide +kernel
theorem dX3_deriveInterfaceMethods_104 : decode cX3_deriveInterfaceMethods 104 = .ok (.iinc 3 1, 3) := by decide +kernel
theorem dX3_deriveInterfaceMethods_107 : decode cX3_deriveInterfaceMethods 107 = .ok (.goto (-82), 3) := by decide +kernel
theorem dX3_deriveInterfaceMethods_110 : decode cX3_deriveInterfaceMethods 110 = .ok (.iinc 2 1, 3) := by decide +kernel
theorem dX3_deriveInterfaceMethods_113 : decode cX3_deriveInterfaceMethods 113 = .ok (.goto (-95), 3) := by decide +kernel
theorem dX3_deriveInterfaceMethods_116 : decode cX3_deriveInterfaceMethods 116 = .ok (.return_, 1) := by decide +kernel
theorem dX3_walkChain_0 : decode cX3_walkChain 0 = .ok (.iload_n 2, 1) := by decide +kernel
theorem dX3_walkChain_1 : decode cX3_walkChain 1 = .ok (.bipush 6, 2) := by decide +kernel
theorem dX3_walkChain_3 : decode cX3_walkChain 3 = .ok (.imul, 1) := by decide +kernel
theorem dX3_walkChain_4 : decode cX3_walkChain 4 = .ok (.istore_n 3, 1) := by decide +kernel
theorem dX3_walkChain_5 : decode cX3_walkChain 5 = .ok (.iload_n 3, 1) := by decide +kernel
theorem dX3_walkChain_6 : decode cX3_walkChain 6 = .ok (.iload_n 2, 1) := by decide +kernel
theorem dX3_walkChain_7 : decode cX3_walkChain 7 = .ok (.bipush 6, 2) := by decide +kernel
theorem dX3_walkChain_9 : decode cX3_walkChain 9 = .ok (.imul, 1) := by decide +kernel
theorem dX3_walkChain_10 : decode cX3_walkChain 10 = .ok (.bipush 6, 2) := by decide +kernel
theorem dX3_walkChain_12 : decode cX3_walkChain 12 = .ok (.iadd, 1) := by decide +kernel
theorem dX3_walkChain_13 : decode cX3_walkChain 13 = .ok (.if_icmp .ge 23, 3) := by decide +kernel
theorem dX3_walkChain_16 : decode cX3_walkChain 16 = .ok (.aload_n 0, 1) := by decide +kernel
theorem dX3_walkChain_17 : decode cX3_walkChain 17 = .ok (.getfield 15, 3) := by decide +kernel
theorem dX3_walkChain_20 : decode cX3_walkChain 20 = .ok (.iload_n 3, 1) := by decide +kernel
theorem dX3_walkChain_21 : decode cX3_walkChain 21 = .ok (.iconst (-1), 1) := by decide +kernel
theorem dX3_walkChain_22 : decode cX3_walkChain 22 = .ok (.iastore, 1) := by decide +kernel
theorem dX3_walkChain_23 : decode cX3_walkChain 23 = .ok (.aload_n 0, 1) := by decide +kernel
theorem dX3_walkChain_24 : decode cX3_walkChain 24 = .ok (.getfield 18, 3) := by decide +kernel
theorem dX3_walkChain_27 : decode cX3_walkChain 27 = .ok (.iload_n 3, 1) := by decide +kernel
theorem dX3_walkChain_28 : decode cX3_walkChain 28 = .ok (.iconst (-1), 1) := by decide +kernel
theorem dX3_walkChain_29 : decode cX3_walkChain 29 = .ok (.iastore, 1) := by decide +kernel
theorem dX3_walkChain_30 : decode cX3_walkChain 30 = .ok (.iinc 3 1, 3) := by decide +kernel
theorem dX3_walkChain_33 : decode cX3_walkChain 33 = .ok (.goto (-28), 3) := by decide +kernel
theorem dX3_walkChain_36 : decode cX3_walkChain 36 = .ok (.aload_n 0, 1) := by decide +kernel
theorem dX3_walkChain_37 : decode cX3_walkChain 37 = .ok (.getfield 43, 3) := by decide +kernel
theorem dX3_walkChain_40 : decode cX3_walkChain 40 = .ok (.iload_n 2, 1) := by decide +kernel
theorem dX3_walkChain_41 : decode cX3_walkChain 41 = .ok (.invokestatic 80, 3) := by decide +kernel
theorem dX3_walkChain_44 : decode cX3_walkChain 44 = .ok (.ifCond .eq 13, 3) := by decide +kernel
theorem dX3_walkChain_47 : decode cX3_walkChain 47 = .ok (.aload_n 0, 1) := by decide +kernel
theorem dX3_walkChain_48 : decode cX3_walkChain 48 = .ok (.aload_n 1, 1) := by decide +kernel
theorem dX3_walkChain_49 : decode cX3_walkChain 49 = .ok (.getfield 59, 3) := by decide +kernel
theorem dX3_walkChain_52 : decode cX3_walkChain 52 = .ok (.iload_n 2, 1) := by decide +kernel
theorem dX3_walkChain_53 : decode cX3_walkChain 53 = .ok (.iload_n 2, 1) := by decide +kernel
theorem dX3_walkChain_54 : decode cX3_walkChain 54 = .ok (.invokevirtual 93, 3) := by decide +kernel
theorem dX3_walkChain_57 : decode cX3_walkChain 57 = .ok (.aload_n 0, 1) := by decide +kernel
theorem dX3_walkChain_58 : decode cX3_walkChain 58 = .ok (.getfield 47, 3) := by decide +kernel
theorem dX3_walkChain_61 : decode cX3_walkChain 61 = .ok (.iload_n 2, 1) := by decide +kernel
theorem dX3_walkChain_62 : decode cX3_walkChain 62 = .ok (.invokestatic 80, 3) := by decide +kernel
theorem dX3_walkChain_65 : decode cX3_walkChain 65 = .ok (.ifCond .eq 12, 3) := by decide +kernel
theorem dX3_walkChain_68 : decode cX3_walkChain 68 = .ok (.aload_n 1, 1) := by decide +kernel
theorem dX3_walkChain_69 : decode cX3_walkChain 69 = .ok (.getfield 77, 3) := by decide +kernel
theorem dX3_walkChain_72 : decode cX3_walkChain 72 = .ok (.iload_n 2, 1) := by decide +kernel
theorem dX3_walkChain_73 : decode cX3_walkChain 73 = .ok (.iaload, 1) := by decide +kernel
theorem dX3_walkChain_74 : decode cX3_walkChain 74 = .ok (.goto 4, 3) := by decide +kernel
theorem dX3_walkChain_77 : decode cX3_walkChain 77 = .ok (.iconst (-1), 1) := by decide +kernel
theorem dX3_walkChain_78 : decode cX3_walkChain 78 = .ok (.istore_n 3, 1) := by decide +kernel
theorem dX3_walkChain_79 : decode cX3_walkChain 79 = .ok (.iconst 1, 1) := by decide +kernel
theorem dX3_walkChain_80 : decode cX3_walkChain 80 = .ok (.istore 4, 2) := by decide +kernel
theorem dX3_walkChain_82 : decode cX3_walkChain 82 = .ok (.iload 4, 2) := by decide +kernel
theorem dX3_walkChain_84 : decode cX3_walkChain 84 = .ok (.iconst 5, 1) := by decide +kernel
theorem dX3_walkChain_85 : decode cX3_walkChain 85 = .ok (.if_icmp .ge 42, 3) := by decide +kernel
theorem dX3_walkChain_88 : decode cX3_walkChain 88 = .ok (.iload_n 3, 1) := by decide +kernel
theorem dX3_walkChain_89 : decode cX3_walkChain 89 = .ok (.iconst (-1), 1) := by decide +kernel
theorem dX3_walkChain_90 : decode cX3_walkChain 90 = .ok (.if_icmp .eq 37, 3) := by decide +kernel
theorem dX3_walkChain_93 : decode cX3_walkChain 93 = .ok (.aload_n 0, 1) := by decide +kernel
theorem dX3_walkChain_94 : decode cX3_walkChain 94 = .ok (.getfield 47, 3) := by decide +kernel
theorem dX3_walkChain_97 : decode cX3_walkChain 97 = .ok (.iload_n 3, 1) := by decide +kernel
theorem dX3_walkChain_98 : decode cX3_walkChain 98 = .ok (.invokestatic 80, 3) := by decide +kernel
theorem dX3_walkChain_101 : decode cX3_walkChain 101 = .ok (.ifCond .eq 26, 3) := by decide +kernel
theorem dX3_walkChain_104 : decode cX3_walkChain 104 = .ok (.aload_n 0, 1) := by decide +kernel
theorem dX3_walkChain_105 : decode cX3_walkChain 105 = .ok (.aload_n 1, 1) := by decide +kernel
theorem dX3_walkChain_106 : decode cX3_walkChain 106 = .ok (.getfield 59, 3) := by decide +kernel
theorem dX3_walkChain_109 : decode cX3_walkChain 109 = .ok (.iload_n 2, 1) := by decide +kernel
theorem dX3_walkChain_110 : decode cX3_walkChain 110 = .ok (.iload_n 3, 1) := by decide +kernel
theorem dX3_walkChain_111 : decode cX3_walkChain 111 = .ok (.invokevirtual 93, 3) := by decide +kernel
theorem dX3_walkChain_114 : decode cX3_walkChain 114 = .ok (.aload_n 1, 1) := by decide +kernel
theorem dX3_walkChain_115 : decode cX3_walkChain 115 = .ok (.getfield 77, 3) := by decide +kernel
theorem dX3_walkChain_118 : decode cX3_walkChain 118 = .ok (.iload_n 3, 1) := by decide +kernel
theorem dX3_walkChain_119 : decode cX3_walkChain 119 = .ok (.iaload, 1) := by decide +kernel
theorem dX3_walkChain_120 : decode cX3_walkChain 120 = .ok (.istore_n 3, 1) := by decide +kernel
theorem dX3_walkChain_121 : decode cX3_walkChain 121 = .ok (.iinc 4 1, 3) := by decide +kernel
theorem dX3_walkChain_124 : decode cX3_walkChain 124 = .ok (.goto (-42), 3) := by decide +kernel
theorem dX3_walkChain_127 : decode cX3_walkChain 127 = .ok (.return_, 1) := by decide +kernel
theorem dX3_noteMethods_0 : decode cX3_noteMethods 0 = .ok (.iconst 0, 1) := by decide +kernel
theorem dX3_noteMethods_1 : decode cX3_noteMethods 1 = .ok (.istore 4, 2) := by decide +kernel
theorem dX3_noteMethods_3 : decode cX3_noteMethods 3 = .ok (.iload 4, 2) := by decide +kernel
theorem dX3_noteMethods_5 : decode cX3_noteMethods 5 = .ok (.bipush 6, 2) := by decide +kernel
theorem dX3_noteMethods_7 : decode cX3_noteMethods 7 = .ok (.if_icmp .ge 120, 3) := by decide +kernel
theorem dX3_noteMethods_10 : decode cX3_noteMethods 10 = .ok (.iload_n 2, 1) := by decide +kernel
theorem dX3_noteMethods_11 : decode cX3_noteMethods 11 = .ok (.bipush 6, 2) := by decide +kernel
theorem dX3_noteMethods_13 : decode cX3_noteMethods 13 = .ok (.imul, 1) := by decide +kernel
theorem dX3_noteMethods_14 : decode cX3_noteMethods 14 = .ok (.iload 4, 2) := by decide +kernel
theorem dX3_noteMethods_16 : decode cX3_noteMethods 16 = .ok (.iadd, 1) := by decide +kernel
theorem dX3_noteMethods_17 : decode cX3_noteMethods 17 = .ok (.istore 5, 2) := by decide +kernel
theorem dX3_noteMethods_19 : decode cX3_noteMethods 19 = .ok (.aload_n 1, 1) := by decide +kernel
theorem dX3_noteMethods_20 : decode cX3_noteMethods 20 = .ok (.getfield 97, 3) := by decide +kernel
theorem dX3_noteMethods_23 : decode cX3_noteMethods 23 = .ok (.iload_n 3, 1) := by decide +kernel
theorem dX3_noteMethods_24 : decode cX3_noteMethods 24 = .ok (.bipush 6, 2) := by decide +kernel
theorem dX3_noteMethods_26 : decode cX3_noteMethods 26 = .ok (.imul, 1) := by decide +kernel
theorem dX3_noteMethods_27 : decode cX3_noteMethods 27 = .ok (.iload 4, 2) := by decide +kernel
theorem dX3_noteMethods_29 : decode cX3_noteMethods 29 = .ok (.iadd, 1) := by decide +kernel
theorem dX3_noteMethods_30 : decode cX3_noteMethods 30 = .ok (.caload, 1) := by decide +kernel
theorem dX3_noteMethods_31 : decode cX3_noteMethods 31 = .ok (.istore 6, 2) := by decide +kernel
theorem dX3_noteMethods_33 : decode cX3_noteMethods 33 = .ok (.aload_n 0, 1) := by decide +kernel
theorem dX3_noteMethods_34 : decode cX3_noteMethods 34 = .ok (.getfield 15, 3) := by decide +kernel
theorem dX3_noteMethods_37 : decode cX3_noteMethods 37 = .ok (.iload 5, 2) := by decide +kernel
theorem dX3_noteMethods_39 : decode cX3_noteMethods 39 = .ok (.iaload, 1) := by decide +kernel
theorem dX3_noteMethods_40 : decode cX3_noteMethods 40 = .ok (.iconst (-1), 1) := by decide +kernel
theorem dX3_noteMethods_41 : decode cX3_noteMethods 41 = .ok (.if_icmp .ne 18, 3) := by decide +kernel
theorem dX3_noteMethods_44 : decode cX3_noteMethods 44 = .ok (.iload 6, 2) := by decide +kernel
theorem dX3_noteMethods_46 : decode cX3_noteMethods 46 = .ok (.bipush 45, 2) := by decide +kernel
theorem dX3_noteMethods_48 : decode cX3_noteMethods 48 = .ok (.if_icmp .eq 11, 3) := by decide +kernel
theorem dX3_noteMethods_51 : decode cX3_noteMethods 51 = .ok (.aload_n 0, 1) := by decide +kernel
theorem dX3_noteMethods_52 : decode cX3_noteMethods 52 = .ok (.getfield 15, 3) := by decide +kernel
theorem dX3_noteMethods_55 : decode cX3_noteMethods 55 = .ok (.iload 5, 2) := by decide +kernel
theorem dX3_noteMethods_57 : decode cX3_noteMethods 57 = .ok (.iload_n 3, 1) := by decide +kernel
theorem dX3_noteMethods_58 : decode cX3_noteMethods 58 = .ok (.iastore, 1) := by decide +kernel
theorem dX3_noteMethods_59 : decode cX3_noteMethods 59 = .ok (.iload 6, 2) := by decide +kernel
theorem dX3_noteMethods_61 : decode cX3_noteMethods 61 = .ok (.bipush 45, 2) := by decide +kernel
theorem dX3_noteMethods_63 : decode cX3_noteMethods 63 = .ok (.if_icmp .eq 31, 3) := by decide +kernel
theorem dX3_noteMethods_66 : decode cX3_noteMethods 66 = .ok (.iload 6, 2) := by decide +kernel
theorem dX3_noteMethods_68 : decode cX3_noteMethods 68 = .ok (.bipush 118, 2) := by decide +kernel
theorem dX3_noteMethods_70 : decode cX3_noteMethods 70 = .ok (.if_icmp .eq 24, 3) := by decide +kernel
theorem dX3_noteMethods_73 : decode cX3_noteMethods 73 = .ok (.aload_n 1, 1) := by decide +kernel
theorem dX3_noteMethods_74 : decode cX3_noteMethods 74 = .ok (.getfield 90, 3) := by decide +kernel
theorem dX3_noteMethods_77 : decode cX3_noteMethods 77 = .ok (.iload_n 3, 1) := by decide +kernel
theorem dX3_noteMethods_78 : decode cX3_noteMethods 78 = .ok (.bipush 6, 2) := by decide +kernel
theorem dX3_noteMethods_80 : decode cX3_noteMethods 80 = .ok (.imul, 1) := by decide +kernel
theorem dX3_noteMethods_81 : decode cX3_noteMethods 81 = .ok (.iload 4, 2) := by decide +kernel
theorem dX3_noteMethods_83 : decode cX3_noteMethods 83 = .ok (.iadd, 1) := by decide +kernel
theorem dX3_noteMethods_84 : decode cX3_noteMethods 84 = .ok (.caload, 1) := by decide +kernel
theorem dX3_noteMethods_85 : decode cX3_noteMethods 85 = .ok (.bipush 115, 2) := by decide +kernel
theorem dX3_noteMethods_87 : decode cX3_noteMethods 87 = .ok (.if_icmp .eq 7, 3) := by decide +kernel
theorem dX3_noteMethods_90 : decode cX3_noteMethods 90 = .ok (.iconst 1, 1) := by decide +kernel
theorem dX3_noteMethods_91 : decode cX3_noteMethods 91 = .ok (.goto 4, 3) := by decide +kernel
theorem dX3_noteMethods_94 : decode cX3_noteMethods 94 = .ok (.iconst 0, 1) := by decide +kernel
theorem dX3_noteMethods_95 : decode cX3_noteMethods 95 = .ok (.istore 7, 2) := by decide +kernel
theorem dX3_noteMethods_97 : decode cX3_noteMethods 97 = .ok (.aload_n 0, 1) := by decide +kernel
theorem dX3_noteMethods_98 : decode cX3_noteMethods 98 = .ok (.getfield 18, 3) := by decide +kernel
theorem dX3_noteMethods_101 : decode cX3_noteMethods 101 = .ok (.iload 5, 2) := by decide +kernel
theorem dX3_noteMethods_103 : decode cX3_noteMethods 103 = .ok (.iaload, 1) := by decide +kernel
theorem dX3_noteMethods_104 : decode cX3_noteMethods 104 = .ok (.iconst (-1), 1) := by decide +kernel
theorem dX3_noteMethods_105 : decode cX3_noteMethods 105 = .ok (.if_icmp .ne 16, 3) := by decide +kernel
theorem dX3_noteMethods_108 : decode cX3_noteMethods 108 = .ok (.iload 7, 2) := by decide +kernel
theorem dX3_noteMethods_110 : decode cX3_noteMethods 110 = .ok (.ifCond .eq 11, 3) := by decide +kernel
theorem dX3_noteMethods_113 : decode cX3_noteMethods 113 = .ok (.aload_n 0, 1) := by decide +kernel
theorem dX3_noteMethods_114 : decode cX3_noteMethods 114 = .ok (.getfield 18, 3) := by decide +kernel
theorem dX3_noteMethods_117 : decode cX3_noteMethods 117 = .ok (.iload 5, 2) := by decide +kernel
theorem dX3_noteMethods_119 : decode cX3_noteMethods 119 = .ok (.iload_n 3, 1) := by decide +kernel
theorem dX3_noteMethods_120 : decode cX3_noteMethods 120 = .ok (.iastore, 1) := by decide +kernel
theorem dX3_noteMethods_121 : decode cX3_noteMethods 121 = .ok (.iinc 4 1, 3) := by decide +kernel
theorem dX3_noteMethods_124 : decode cX3_noteMethods 124 = .ok (.goto (-121), 3) := by decide +kernel
theorem dX3_noteMethods_127 : decode cX3_noteMethods 127 = .ok (.return_, 1) := by decide +kernel
theorem dX3_deriveChoices_0 : decode cX3_deriveChoices 0 = .ok (.iconst 0, 1) := by decide +kernel
theorem dX3_deriveChoices_1 : decode cX3_deriveChoices 1 = .ok (.istore_n 3, 1) := by decide +kernel
theorem dX3_deriveChoices_2 : decode cX3_deriveChoices 2 = .ok (.iload_n 3, 1) := by decide +kernel
theorem dX3_deriveChoices_3 : decode cX3_deriveChoices 3 = .ok (.bipush 6, 2) := by decide +kernel
theorem dX3_deriveChoices_5 : decode cX3_deriveChoices 5 = .ok (.if_icmp .ge 210, 3) := by decide +kernel
theorem dX3_deriveChoices_8 : decode cX3_deriveChoices 8 = .ok (.iload_n 2, 1) := by decide +kernel
theorem dX3_deriveChoices_9 : decode cX3_deriveChoices 9 = .ok (.bipush 6, 2) := by decide +kernel
theorem dX3_deriveChoices_11 : decode cX3_deriveChoices 11 = .ok (.imul, 1) := by decide +kernel
theorem dX3_deriveChoices_12 : decode cX3_deriveChoices 12 = .ok (.iload_n 3, 1) := by decide +kernel
theorem dX3_deriveChoices_13 : decode cX3_deriveChoices 13 = .ok (.iadd, 1) := by decide +kernel
theorem dX3_deriveChoices_14 : decode cX3_deriveChoices 14 = .ok (.istore 4, 2) := by decide +kernel
theorem dX3_deriveChoices_16 : decode cX3_deriveChoices 16 = .ok (.aload_n 0, 1) := by decide +kernel
theorem dX3_deriveChoices_17 : decode cX3_deriveChoices 17 = .ok (.aload_n 0, 1) := by decide +kernel
theorem dX3_deriveChoices_18 : decode cX3_deriveChoices 18 = .ok (.getfield 21, 3) := by decide +kernel
theorem dX3_deriveChoices_21 : decode cX3_deriveChoices 21 = .ok (.iload_n 3, 1) := by decide +kernel
theorem dX3_deriveChoices_22 : decode cX3_deriveChoices 22 = .ok (.iaload, 1) := by decide +kernel
theorem dX3_deriveChoices_23 : decode cX3_deriveChoices 23 = .ok (.aload_n 0, 1) := by decide +kernel
theorem dX3_deriveChoices_24 : decode cX3_deriveChoices 24 = .ok (.getfield 9, 3) := by decide +kernel
theorem dX3_deriveChoices_27 : decode cX3_deriveChoices 27 = .ok (.iload_n 2, 1) := by decide +kernel
theorem dX3_deriveChoices_28 : decode cX3_deriveChoices 28 = .ok (.iaload, 1) := by decide +kernel
theorem dX3_deriveChoices_29 : decode cX3_deriveChoices 29 = .ok (.iand, 1) := by decide +kernel
theorem dX3_deriveChoices_30 : decode cX3_deriveChoices 30 = .ok (.invokevirtual 100, 3) := by decide +kernel
theorem dX3_deriveChoices_33 : decode cX3_deriveChoices 33 = .ok (.istore 5, 2) := by decide +kernel
theorem dX3_deriveChoices_35 : decode cX3_deriveChoices 35 = .ok (.iload 5, 2) := by decide +kernel
theorem dX3_deriveChoices_37 : decode cX3_deriveChoices 37 = .ok (.aload_n 0, 1) := by decide +kernel
theorem dX3_deriveChoices_38 : decode cX3_deriveChoices 38 = .ok (.getfield 24, 3) := by decide +kernel
theorem dX3_deriveChoices_41 : decode cX3_deriveChoices 41 = .ok (.iload_n 3, 1) := by decide +kernel
theorem dX3_deriveChoices_42 : decode cX3_deriveChoices 42 = .ok (.iaload, 1) := by decide +kernel
theorem dX3_deriveChoices_43 : decode cX3_deriveChoices 43 = .ok (.iand, 1) := by decide +kernel
theorem dX3_deriveChoices_44 : decode cX3_deriveChoices 44 = .ok (.istore 6, 2) := by decide +kernel
theorem dX3_deriveChoices_46 : decode cX3_deriveChoices 46 = .ok (.aload_n 0, 1) := by decide +kernel
theorem dX3_deriveChoices_47 : decode cX3_deriveChoices 47 = .ok (.getfield 27, 3) := by decide +kernel
theorem dX3_deriveChoices_50 : decode cX3_deriveChoices 50 = .ok (.iload 4, 2) := by decide +kernel
theorem dX3_deriveChoices_52 : decode cX3_deriveChoices 52 = .ok (.aload_n 0, 1) := by decide +kernel
theorem dX3_deriveChoices_53 : decode cX3_deriveChoices 53 = .ok (.getfield 15, 3) := by decide +kernel
theorem dX3_deriveChoices_56 : decode cX3_deriveChoices 56 = .ok (.iload 4, 2) := by decide +kernel
theorem dX3_deriveChoices_58 : decode cX3_deriveChoices 58 = .ok (.iaload, 1) := by decide +kernel
theorem dX3_deriveChoices_59 : decode cX3_deriveChoices 59 = .ok (.iastore, 1) := by decide +kernel
theorem dX3_deriveChoices_60 : decode cX3_deriveChoices 60 = .ok (.aload_n 0, 1) := by decide +kernel
theorem dX3_deriveChoices_61 : decode cX3_deriveChoices 61 = .ok (.getfield 15, 3) := by decide +kernel
theorem dX3_deriveChoices_64 : decode cX3_deriveChoices 64 = .ok (.iload 4, 2) := by decide +kernel
theorem dX3_deriveChoices_66 : decode cX3_deriveChoices 66 = .ok (.iaload, 1) := by decide +kernel
theorem dX3_deriveChoices_67 : decode cX3_deriveChoices 67 = .ok (.iconst (-1), 1) := by decide +kernel
theorem dX3_deriveChoices_68 : decode cX3_deriveChoices 68 = .ok (.if_icmp .ne 30, 3) := by decide +kernel
theorem dX3_deriveChoices_71 : decode cX3_deriveChoices 71 = .ok (.aload_n 0, 1) := by decide +kernel
theorem dX3_deriveChoices_72 : decode cX3_deriveChoices 72 = .ok (.getfield 27, 3) := by decide +kernel
theorem dX3_deriveChoices_75 : decode cX3_deriveChoices 75 = .ok (.iload 4, 2) := by decide +kernel
theorem dX3_deriveChoices_77 : decode cX3_deriveChoices 77 = .ok (.aload_n 0, 1) := by decide +kernel
theorem dX3_deriveChoices_78 : decode cX3_deriveChoices 78 = .ok (.iload 6, 2) := by decide +kernel
theorem dX3_deriveChoices_80 : decode cX3_deriveChoices 80 = .ok (.invokestatic 104, 3) := by decide +kernel
theorem dX3_deriveChoices_83 : decode cX3_deriveChoices 83 = .ok (.iconst 1, 1) := by decide +kernel
theorem dX3_deriveChoices_84 : decode cX3_deriveChoices 84 = .ok (.if_icmp .ne 8, 3) := by decide +kernel
theorem dX3_deriveChoices_87 : decode cX3_deriveChoices 87 = .ok (.iload 6, 2) := by decide +kernel
theorem dX3_deriveChoices_89 : decode cX3_deriveChoices 89 = .ok (.goto 5, 3) := by decide +kernel
theorem dX3_deriveChoices_92 : decode cX3_deriveChoices 92 = .ok (.iload 5, 2) := by decide +kernel
theorem dX3_deriveChoices_94 : decode cX3_deriveChoices 94 = .ok (.invokevirtual 109, 3) := by decide +kernel
theorem dX3_deriveChoices_97 : decode cX3_deriveChoices 97 = .ok (.iastore, 1) := by decide +kernel
theorem dX3_deriveChoices_98 : decode cX3_deriveChoices 98 = .ok (.aload_n 0, 1) := by decide +kernel
theorem dX3_deriveChoices_99 : decode cX3_deriveChoices 99 = .ok (.getfield 18, 3) := by decide +kernel
theorem dX3_deriveChoices_102 : decode cX3_deriveChoices 102 = .ok (.iload 4, 2) := by decide +kernel
theorem dX3_deriveChoices_104 : decode cX3_deriveChoices 104 = .ok (.iaload, 1) := by decide +kernel
theorem dX3_deriveChoices_105 : decode cX3_deriveChoices 105 = .ok (.istore 7, 2) := by decide +kernel
theorem dX3_deriveChoices_107 : decode cX3_deriveChoices 107 = .ok (.iload 7, 2) := by decide +kernel
theorem dX3_deriveChoices_109 : decode cX3_deriveChoices 109 = .ok (.iconst (-1), 1) := by decide +kernel
theorem dX3_deriveChoices_110 : decode cX3_deriveChoices 110 = .ok (.if_icmp .eq 58, 3) := by decide +kernel
theorem dX3_deriveChoices_113 : decode cX3_deriveChoices 113 = .ok (.iload 7, 2) := by decide +kernel
theorem dX3_deriveChoices_115 : decode cX3_deriveChoices 115 = .ok (.iconst 5, 1) := by decide +kernel
theorem dX3_deriveChoices_116 : decode cX3_deriveChoices 116 = .ok (.if_icmp .eq 27, 3) := by decide +kernel
theorem dX3_deriveChoices_119 : decode cX3_deriveChoices 119 = .ok (.aload_n 1, 1) := by decide +kernel
theorem dX3_deriveChoices_120 : decode cX3_deriveChoices 120 = .ok (.getfield 59, 3) := by decide +kernel
theorem dX3_deriveChoices_123 : decode cX3_deriveChoices 123 = .ok (.getfield 90, 3) := by decide +kernel
theorem dX3_deriveChoices_126 : decode cX3_deriveChoices 126 = .ok (.iload 7, 2) := by decide +kernel
theorem dX3_deriveChoices_128 : decode cX3_deriveChoices 128 = .ok (.bipush 6, 2) := by decide +kernel
theorem dX3_deriveChoices_130 : decode cX3_deriveChoices 130 = .ok (.imul, 1) := by decide +kernel
theorem dX3_deriveChoices_131 : decode cX3_deriveChoices 131 = .ok (.iload_n 3, 1) := by decide +kernel
theorem dX3_deriveChoices_132 : decode cX3_deriveChoices 132 = .ok (.iadd, 1) := by decide +kernel
theorem dX3_deriveChoices_133 : decode cX3_deriveChoices 133 = .ok (.caload, 1) := by decide +kernel
theorem dX3_deriveChoices_134 : decode cX3_deriveChoices 134 = .ok (.bipush 97, 2) := by decide +kernel
theorem dX3_deriveChoices_136 : decode cX3_deriveChoices 136 = .ok (.if_icmp .ne 7, 3) := by decide +kernel
theorem dX3_deriveChoices_139 : decode cX3_deriveChoices 139 = .ok (.iconst 1, 1) := by decide +kernel
theorem dX3_deriveChoices_140 : decode cX3_deriveChoices 140 = .ok (.goto 4, 3) := by decide +kernel
theorem dX3_deriveChoices_143 : decode cX3_deriveChoices 143 = .ok (.iconst 0, 1) := by decide +kernel
theorem dX3_deriveChoices_144 : decode cX3_deriveChoices 144 = .ok (.istore 8, 2) := by decide +kernel
theorem dX3_deriveChoices_146 : decode cX3_deriveChoices 146 = .ok (.aload_n 0, 1) := by decide +kernel
theorem dX3_deriveChoices_147 : decode cX3_deriveChoices 147 = .ok (.getfield 30, 3) := by decide +kernel
theorem dX3_deriveChoices_150 : decode cX3_deriveChoices 150 = .ok (.iload 4, 2) := by decide +kernel
theorem dX3_deriveChoices_152 : decode cX3_deriveChoices 152 = .ok (.iload 8, 2) := by decide +kernel
theorem dX3_deriveChoices_154 : decode cX3_deriveChoices 154 = .ok (.ifCond .eq 8, 3) := by decide +kernel
theorem dX3_deriveChoices_157 : decode cX3_deriveChoices 157 = .ok (.bipush (-65), 2) := by decide +kernel
theorem dX3_deriveChoices_159 : decode cX3_deriveChoices 159 = .ok (.goto 5, 3) := by decide +kernel
theorem dX3_deriveChoices_162 : decode cX3_deriveChoices 162 = .ok (.iload 7, 2) := by decide +kernel
theorem dX3_deriveChoices_164 : decode cX3_deriveChoices 164 = .ok (.iastore, 1) := by decide +kernel
theorem dX3_deriveChoices_165 : decode cX3_deriveChoices 165 = .ok (.goto 44, 3) := by decide +kernel
theorem dX3_deriveChoices_168 : decode cX3_deriveChoices 168 = .ok (.iload 6, 2) := by decide +kernel
theorem dX3_deriveChoices_170 : decode cX3_deriveChoices 170 = .ok (.invokestatic 104, 3) := by decide +kernel
theorem dX3_deriveChoices_173 : decode cX3_deriveChoices 173 = .ok (.istore 8, 2) := by decide +kernel
theorem dX3_deriveChoices_175 : decode cX3_deriveChoices 175 = .ok (.aload_n 0, 1) := by decide +kernel
theorem dX3_deriveChoices_176 : decode cX3_deriveChoices 176 = .ok (.getfield 30, 3) := by decide +kernel
theorem dX3_deriveChoices_179 : decode cX3_deriveChoices 179 = .ok (.iload 4, 2) := by decide +kernel
theorem dX3_deriveChoices_181 : decode cX3_deriveChoices 181 = .ok (.iload 8, 2) := by decide +kernel
theorem dX3_deriveChoices_183 : decode cX3_deriveChoices 183 = .ok (.iconst 1, 1) := by decide +kernel
theorem dX3_deriveChoices_184 : decode cX3_deriveChoices 184 = .ok (.if_icmp .ne 12, 3) := by decide +kernel
theorem dX3_deriveChoices_187 : decode cX3_deriveChoices 187 = .ok (.aload_n 0, 1) := by decide +kernel
theorem dX3_deriveChoices_188 : decode cX3_deriveChoices 188 = .ok (.iload 6, 2) := by decide +kernel
theorem dX3_deriveChoices_190 : decode cX3_deriveChoices 190 = .ok (.invokevirtual 109, 3) := by decide +kernel
theorem dX3_deriveChoices_193 : decode cX3_deriveChoices 193 = .ok (.goto 15, 3) := by decide +kernel
theorem dX3_deriveChoices_196 : decode cX3_deriveChoices 196 = .ok (.iload 8, 2) := by decide +kernel
theorem dX3_deriveChoices_198 : decode cX3_deriveChoices 198 = .ok (.ifCond .ne 8, 3) := by decide +kernel
theorem dX3_deriveChoices_201 : decode cX3_deriveChoices 201 = .ok (.bipush (-65), 2) := by decide +kernel
theorem dX3_deriveChoices_203 : decode cX3_deriveChoices 203 = .ok (.goto 5, 3) := by decide +kernel
theorem dX3_deriveChoices_206 : decode cX3_deriveChoices 206 = .ok (.bipush (-73), 2) := by decide +kernel
theorem dX3_deriveChoices_208 : decode cX3_deriveChoices 208 = .ok (.iastore, 1) := by decide +kernel
theorem dX3_deriveChoices_209 : decode cX3_deriveChoices 209 = .ok (.iinc 3 1, 3) := by decide +kernel
theorem dX3_deriveChoices_212 : decode cX3_deriveChoices 212 = .ok (.goto (-210), 3) := by decide +kernel
theorem dX3_deriveChoices_215 : decode cX3_deriveChoices 215 = .ok (.return_, 1) := by decide +kernel
theorem dX3_nearest_0 : decode cX3_nearest 0 = .ok (.iload_n 1, 1) := by decide +kernel
theorem dX3_nearest_1 : decode cX3_nearest 1 = .ok (.istore_n 2, 1) := by decide +kernel
theorem dX3_nearest_2 : decode cX3_nearest 2 = .ok (.iconst 0, 1) := by decide +kernel
theorem dX3_nearest_3 : decode cX3_nearest 3 = .ok (.istore_n 3, 1) := by decide +kernel
theorem dX3_nearest_4 : decode cX3_nearest 4 = .ok (.iload_n 3, 1) := by decide +kernel
theorem dX3_nearest_5 : decode cX3_nearest 5 = .ok (.iconst 5, 1) := by decide +kernel
theorem dX3_nearest_6 : decode cX3_nearest 6 = .ok (.if_icmp .ge 41, 3) := by decide +kernel
theorem dX3_nearest_9 : decode cX3_nearest 9 = .ok (.iload_n 1, 1) := by decide +kernel
theorem dX3_nearest_10 : decode cX3_nearest 10 = .ok (.ifCond .eq 37, 3) := by decide +kernel
theorem dX3_nearest_13 : decode cX3_nearest 13 = .ok (.iconst 1, 1) := by decide +kernel
theorem dX3_nearest_14 : decode cX3_nearest 14 = .ok (.iload_n 3, 1) := by decide +kernel
theorem dX3_nearest_15 : decode cX3_nearest 15 = .ok (.ishl, 1) := by decide +kernel
theorem dX3_nearest_16 : decode cX3_nearest 16 = .ok (.istore 4, 2) := by decide +kernel
theorem dX3_nearest_18 : decode cX3_nearest 18 = .ok (.iload_n 1, 1) := by decide +kernel
theorem dX3_nearest_19 : decode cX3_nearest 19 = .ok (.iload 4, 2) := by decide +kernel
theorem dX3_nearest_21 : decode cX3_nearest 21 = .ok (.iand, 1) := by decide +kernel
theorem dX3_nearest_22 : decode cX3_nearest 22 = .ok (.ifCond .eq 19, 3) := by decide +kernel
theorem dX3_nearest_25 : decode cX3_nearest 25 = .ok (.iload_n 2, 1) := by decide +kernel
theorem dX3_nearest_26 : decode cX3_nearest 26 = .ok (.aload_n 0, 1) := by decide +kernel
theorem dX3_nearest_27 : decode cX3_nearest 27 = .ok (.getfield 9, 3) := by decide +kernel
theorem dX3_nearest_30 : decode cX3_nearest 30 = .ok (.iload_n 3, 1) := by decide +kernel
theorem dX3_nearest_31 : decode cX3_nearest 31 = .ok (.iaload, 1) := by decide +kernel
theorem dX3_nearest_32 : decode cX3_nearest 32 = .ok (.iload 4, 2) := by decide +kernel
theorem dX3_nearest_34 : decode cX3_nearest 34 = .ok (.iconst (-1), 1) := by decide +kernel
theorem dX3_nearest_35 : decode cX3_nearest 35 = .ok (.ixor, 1) := by decide +kernel
theorem dX3_nearest_36 : decode cX3_nearest 36 = .ok (.iand, 1) := by decide +kernel
theorem dX3_nearest_37 : decode cX3_nearest 37 = .ok (.iconst (-1), 1) := by decide +kernel
theorem dX3_nearest_38 : decode cX3_nearest 38 = .ok (.ixor, 1) := by decide +kernel
theorem dX3_nearest_39 : decode cX3_nearest 39 = .ok (.iand, 1) := by decide +kernel
theorem dX3_nearest_40 : decode cX3_nearest 40 = .ok (.istore_n 2, 1) := by decide +kernel
theorem dX3_nearest_41 : decode cX3_nearest 41 = .ok (.iinc 3 1, 3) := by decide +kernel
theorem dX3_nearest_44 : decode cX3_nearest 44 = .ok (.goto (-40), 3) := by decide +kernel
theorem dX3_nearest_47 : decode cX3_nearest 47 = .ok (.iload_n 2, 1) := by decide +kernel
theorem dX3_nearest_48 : decode cX3_nearest 48 = .ok (.ireturn, 1) := by decide +kernel
theorem dX3_lowest_0 : decode cX3_lowest 0 = .ok (.iconst 0, 1) := by decide +kernel
theorem dX3_lowest_1 : decode cX3_lowest 1 = .ok (.istore_n 2, 1) := by decide +kernel
theorem dX3_lowest_2 : decode cX3_lowest 2 = .ok (.iload_n 2, 1) := by decide +kernel
theorem dX3_lowest_3 : decode cX3_lowest 3 = .ok (.iconst 5, 1) := by decide +kernel
theorem dX3_lowest_4 : decode cX3_lowest 4 = .ok (.if_icmp .ge 24, 3) := by decide +kernel
theorem dX3_lowest_7 : decode cX3_lowest 7 = .ok (.iload_n 1, 1) := by decide +kernel
theorem dX3_lowest_8 : decode cX3_lowest 8 = .ok (.ifCond .eq 20, 3) := by decide +kernel
theorem dX3_lowest_11 : decode cX3_lowest 11 = .ok (.iload_n 1, 1) := by decide +kernel
theorem dX3_lowest_12 : decode cX3_lowest 12 = .ok (.iload_n 2, 1) := by decide +kernel
theorem dX3_lowest_13 : decode cX3_lowest 13 = .ok (.ishr, 1) := by decide +kernel
theorem dX3_lowest_14 : decode cX3_lowest 14 = .ok (.iconst 1, 1) := by decide +kernel
theorem dX3_lowest_15 : decode cX3_lowest 15 = .ok (.iand, 1) := by decide +kernel
theorem dX3_lowest_16 : decode cX3_lowest 16 = .ok (.iconst 1, 1) := by decide +kernel
theorem dX3_lowest_17 : decode cX3_lowest 17 = .ok (.if_icmp .ne 5, 3) := by decide +kernel
theorem dX3_lowest_20 : decode cX3_lowest 20 = .ok (.iload_n 2, 1) := by decide +kernel
theorem dX3_lowest_21 : decode cX3_lowest 21 = .ok (.ireturn, 1) := by decide +kernel
theorem dX3_lowest_22 : decode cX3_lowest 22 = .ok (.iinc 2 1, 3) := by decide +kernel
theorem dX3_lowest_25 : decode cX3_lowest 25 = .ok (.goto (-23), 3) := by decide +kernel
theorem dX3_lowest_28 : decode cX3_lowest 28 = .ok (.iconst (-1), 1) := by decide +kernel
theorem dX3_lowest_29 : decode cX3_lowest 29 = .ok (.ireturn, 1) := by decide +kernel
theorem dX3_deriveLawful_0 : decode cX3_deriveLawful 0 = .ok (.iconst 0, 1) := by decide +kernel
theorem dX3_deriveLawful_1 : decode cX3_deriveLawful 1 = .ok (.istore_n 2, 1) := by decide +kernel
theorem dX3_deriveLawful_2 : decode cX3_deriveLawful 2 = .ok (.iload_n 2, 1) := by decide +kernel
theorem dX3_deriveLawful_3 : decode cX3_deriveLawful 3 = .ok (.iconst 5, 1) := by decide +kernel
theorem dX3_deriveLawful_4 : decode cX3_deriveLawful 4 = .ok (.if_icmp .ge 41, 3) := by decide +kernel
theorem dX3_deriveLawful_7 : decode cX3_deriveLawful 7 = .ok (.iconst 0, 1) := by decide +kernel
theorem dX3_deriveLawful_8 : decode cX3_deriveLawful 8 = .ok (.istore_n 3, 1) := by decide +kernel
theorem dX3_deriveLawful_9 : decode cX3_deriveLawful 9 = .ok (.iload_n 3, 1) := by decide +kernel
theorem dX3_deriveLawful_10 : decode cX3_deriveLawful 10 = .ok (.iconst 5, 1) := by decide +kernel
theorem dX3_deriveLawful_11 : decode cX3_deriveLawful 11 = .ok (.if_icmp .ge 28, 3) := by decide +kernel
theorem dX3_deriveLawful_14 : decode cX3_deriveLawful 14 = .ok (.aload_n 0, 1) := by decide +kernel
theorem dX3_deriveLawful_15 : decode cX3_deriveLawful 15 = .ok (.getfield 9, 3) := by decide +kernel
theorem dX3_deriveLawful_18 : decode cX3_deriveLawful 18 = .ok (.iload_n 3, 1) := by decide +kernel
theorem dX3_deriveLawful_19 : decode cX3_deriveLawful 19 = .ok (.iaload, 1) := by decide +kernel
theorem dX3_deriveLawful_20 : decode cX3_deriveLawful 20 = .ok (.invokestatic 104, 3) := by decide +kernel
theorem dX3_deriveLawful_23 : decode cX3_deriveLawful 23 = .ok (.iload_n 2, 1) := by decide +kernel
theorem dX3_deriveLawful_24 : decode cX3_deriveLawful 24 = .ok (.if_icmp .ne 9, 3) := by decide +kernel
theorem dX3_deriveLawful_27 : decode cX3_deriveLawful 27 = .ok (.aload_n 0, 1) := by decide +kernel
theorem dX3_deriveLawful_28 : decode cX3_deriveLawful 28 = .ok (.aload_n 1, 1) := by decide +kernel
theorem dX3_deriveLawful_29 : decode cX3_deriveLawful 29 = .ok (.iload_n 3, 1) := by decide +kernel
theorem dX3_deriveLawful_30 : decode cX3_deriveLawful 30 = .ok (.invokevirtual 112, 3) := by decide +kernel
theorem dX3_deriveLawful_33 : decode cX3_deriveLawful 33 = .ok (.iinc 3 1, 3) := by decide +kernel
theorem dX3_deriveLawful_36 : decode cX3_deriveLawful 36 = .ok (.goto (-27), 3) := by decide +kernel
theorem dX3_deriveLawful_39 : decode cX3_deriveLawful 39 = .ok (.iinc 2 1, 3) := by decide +kernel
theorem dX3_deriveLawful_42 : decode cX3_deriveLawful 42 = .ok (.goto (-40), 3) := by decide +kernel
theorem dX3_deriveLawful_45 : decode cX3_deriveLawful 45 = .ok (.aload_n 0, 1) := by decide +kernel
theorem dX3_deriveLawful_46 : decode cX3_deriveLawful 46 = .ok (.iconst 0, 1) := by decide +kernel
theorem dX3_deriveLawful_47 : decode cX3_deriveLawful 47 = .ok (.putfield 115, 3) := by decide +kernel
theorem dX3_deriveLawful_50 : decode cX3_deriveLawful 50 = .ok (.aload_n 0, 1) := by decide +kernel
theorem dX3_deriveLawful_51 : decode cX3_deriveLawful 51 = .ok (.iconst 0, 1) := by decide +kernel
theorem dX3_deriveLawful_52 : decode cX3_deriveLawful 52 = .ok (.putfield 118, 3) := by decide +kernel
theorem dX3_deriveLawful_55 : decode cX3_deriveLawful 55 = .ok (.iconst 0, 1) := by decide +kernel
theorem dX3_deriveLawful_56 : decode cX3_deriveLawful 56 = .ok (.istore_n 2, 1) := by decide +kernel
theorem dX3_deriveLawful_57 : decode cX3_deriveLawful 57 = .ok (.iload_n 2, 1) := by decide +kernel
theorem dX3_deriveLawful_58 : decode cX3_deriveLawful 58 = .ok (.iconst 5, 1) := by decide +kernel
theorem dX3_deriveLawful_59 : decode cX3_deriveLawful 59 = .ok (.if_icmp .ge 106, 3) := by decide +kernel
theorem dX3_deriveLawful_62 : decode cX3_deriveLawful 62 = .ok (.aload_n 0, 1) := by decide +kernel
theorem dX3_deriveLawful_63 : decode cX3_deriveLawful 63 = .ok (.getfield 43, 3) := by decide +kernel
theorem dX3_deriveLawful_66 : decode cX3_deriveLawful 66 = .ok (.iload_n 2, 1) := by decide +kernel
theorem dX3_deriveLawful_67 : decode cX3_deriveLawful 67 = .ok (.invokestatic 80, 3) := by decide +kernel
theorem dX3_deriveLawful_70 : decode cX3_deriveLawful 70 = .ok (.ifCond .eq 16, 3) := by decide +kernel
theorem dX3_deriveLawful_73 : decode cX3_deriveLawful 73 = .ok (.aload_n 1, 1) := by decide +kernel
theorem dX3_deriveLawful_74 : decode cX3_deriveLawful 74 = .ok (.getfield 121, 3) := by decide +kernel
theorem dX3_deriveLawful_77 : decode cX3_deriveLawful 77 = .ok (.iload_n 2, 1) := by decide +kernel
theorem dX3_deriveLawful_78 : decode cX3_deriveLawful 78 = .ok (.baload, 1) := by decide +kernel
theorem dX3_deriveLawful_79 : decode cX3_deriveLawful 79 = .ok (.ifCond .eq 7, 3) := by decide +kernel
theorem dX3_deriveLawful_82 : decode cX3_deriveLawful 82 = .ok (.iconst 1, 1) := by decide +kernel
theorem dX3_deriveLawful_83 : decode cX3_deriveLawful 83 = .ok (.goto 4, 3) := by decide +kernel
theorem dX3_deriveLawful_86 : decode cX3_deriveLawful 86 = .ok (.iconst 0, 1) := by decide +kernel
theorem dX3_deriveLawful_87 : decode cX3_deriveLawful 87 = .ok (.istore_n 3, 1) := by decide +kernel
theorem dX3_deriveLawful_88 : decode cX3_deriveLawful 88 = .ok (.aload_n 0, 1) := by decide +kernel
theorem dX3_deriveLawful_89 : decode cX3_deriveLawful 89 = .ok (.dup, 1) := by decide +kernel
theorem dX3_deriveLawful_90 : decode cX3_deriveLawful 90 = .ok (.getfield 115, 3) := by decide +kernel
theorem dX3_deriveLawful_93 : decode cX3_deriveLawful 93 = .ok (.iload_n 3, 1) := by decide +kernel
theorem dX3_deriveLawful_94 : decode cX3_deriveLawful 94 = .ok (.ifCond .eq 29, 3) := by decide +kernel
theorem dX3_deriveLawful_97 : decode cX3_deriveLawful 97 = .ok (.aload_n 0, 1) := by decide +kernel
theorem dX3_deriveLawful_98 : decode cX3_deriveLawful 98 = .ok (.getfield 47, 3) := by decide +kernel
theorem dX3_deriveLawful_101 : decode cX3_deriveLawful 101 = .ok (.iload_n 2, 1) := by decide +kernel
theorem dX3_deriveLawful_102 : decode cX3_deriveLawful 102 = .ok (.invokestatic 80, 3) := by decide +kernel
theorem dX3_deriveLawful_105 : decode cX3_deriveLawful 105 = .ok (.ifCond .eq 18, 3) := by decide +kernel
theorem dX3_deriveLawful_108 : decode cX3_deriveLawful 108 = .ok (.aload_n 1, 1) := by decide +kernel
theorem dX3_deriveLawful_109 : decode cX3_deriveLawful 109 = .ok (.getfield 125, 3) := by decide +kernel
theorem dX3_deriveLawful_112 : decode cX3_deriveLawful 112 = .ok (.iload_n 2, 1) := by decide +kernel
theorem dX3_deriveLawful_113 : decode cX3_deriveLawful 113 = .ok (.baload, 1) := by decide +kernel
theorem dX3_deriveLawful_114 : decode cX3_deriveLawful 114 = .ok (.ifCond .ne 9, 3) := by decide +kernel
theorem dX3_deriveLawful_117 : decode cX3_deriveLawful 117 = .ok (.iconst 1, 1) := by decide +kernel
theorem dX3_deriveLawful_118 : decode cX3_deriveLawful 118 = .ok (.iload_n 2, 1) := by decide +kernel
theorem dX3_deriveLawful_119 : decode cX3_deriveLawful 119 = .ok (.ishl, 1) := by decide +kernel
theorem dX3_deriveLawful_120 : decode cX3_deriveLawful 120 = .ok (.goto 4, 3) := by decide +kernel
theorem dX3_deriveLawful_123 : decode cX3_deriveLawful 123 = .ok (.iconst 0, 1) := by decide +kernel
theorem dX3_deriveLawful_124 : decode cX3_deriveLawful 124 = .ok (.ior, 1) := by decide +kernel
theorem dX3_deriveLawful_125 : decode cX3_deriveLawful 125 = .ok (.putfield 115, 3) := by decide +kernel
theorem dX3_deriveLawful_128 : decode cX3_deriveLawful 128 = .ok (.aload_n 0, 1) := by decide +kernel
theorem dX3_deriveLawful_129 : decode cX3_deriveLawful 129 = .ok (.dup, 1) := by decide +kernel
theorem dX3_deriveLawful_130 : decode cX3_deriveLawful 130 = .ok (.getfield 118, 3) := by decide +kernel
theorem dX3_deriveLawful_133 : decode cX3_deriveLawful 133 = .ok (.iload_n 3, 1) := by decide +kernel
theorem dX3_deriveLawful_134 : decode cX3_deriveLawful 134 = .ok (.ifCond .eq 20, 3) := by decide +kernel
theorem dX3_deriveLawful_137 : decode cX3_deriveLawful 137 = .ok (.aload_n 0, 1) := by decide +kernel
theorem dX3_deriveLawful_138 : decode cX3_deriveLawful 138 = .ok (.getfield 47, 3) := by decide +kernel
theorem dX3_deriveLawful_141 : decode cX3_deriveLawful 141 = .ok (.iload_n 2, 1) := by decide +kernel
theorem dX3_deriveLawful_142 : decode cX3_deriveLawful 142 = .ok (.invokestatic 80, 3) := by decide +kernel
theorem dX3_deriveLawful_145 : decode cX3_deriveLawful 145 = .ok (.ifCond .ne 9, 3) := by decide +kernel
theorem dX3_deriveLawful_148 : decode cX3_deriveLawful 148 = .ok (.iconst 1, 1) := by decide +kernel
theorem dX3_deriveLawful_149 : decode cX3_deriveLawful 149 = .ok (.iload_n 2, 1) := by decide +kernel
theorem dX3_deriveLawful_150 : decode cX3_deriveLawful 150 = .ok (.ishl, 1) := by decide +kernel
theorem dX3_deriveLawful_151 : decode cX3_deriveLawful 151 = .ok (.goto 4, 3) := by decide +kernel
theorem dX3_deriveLawful_154 : decode cX3_deriveLawful 154 = .ok (.iconst 0, 1) := by decide +kernel
theorem dX3_deriveLawful_155 : decode cX3_deriveLawful 155 = .ok (.ior, 1) := by decide +kernel
theorem dX3_deriveLawful_156 : decode cX3_deriveLawful 156 = .ok (.putfield 118, 3) := by decide +kernel
theorem dX3_deriveLawful_159 : decode cX3_deriveLawful 159 = .ok (.iinc 2 1, 3) := by decide +kernel
theorem dX3_deriveLawful_162 : decode cX3_deriveLawful 162 = .ok (.goto (-105), 3) := by decide +kernel
theorem dX3_deriveLawful_165 : decode cX3_deriveLawful 165 = .ok (.aload_n 0, 1) := by decide +kernel
theorem dX3_deriveLawful_166 : decode cX3_deriveLawful 166 = .ok (.aload_n 1, 1) := by decide +kernel
theorem dX3_deriveLawful_167 : decode cX3_deriveLawful 167 = .ok (.invokevirtual 128, 3) := by decide +kernel
theorem dX3_deriveLawful_170 : decode cX3_deriveLawful 170 = .ok (.return_, 1) := by decide +kernel
theorem dX3_deriveFields_0 : decode cX3_deriveFields 0 = .ok (.iconst 0, 1) := by decide +kernel
theorem dX3_deriveFields_1 : decode cX3_deriveFields 1 = .ok (.istore_n 3, 1) := by decide +kernel
theorem dX3_deriveFields_2 : decode cX3_deriveFields 2 = .ok (.iload_n 3, 1) := by decide +kernel
theorem dX3_deriveFields_3 : decode cX3_deriveFields 3 = .ok (.bipush 6, 2) := by decide +kernel
theorem dX3_deriveFields_5 : decode cX3_deriveFields 5 = .ok (.if_icmp .ge 60, 3) := by decide +kernel
theorem dX3_deriveFields_8 : decode cX3_deriveFields 8 = .ok (.iload_n 2, 1) := by decide +kernel
theorem dX3_deriveFields_9 : decode cX3_deriveFields 9 = .ok (.bipush 6, 2) := by decide +kernel
theorem dX3_deriveFields_11 : decode cX3_deriveFields 11 = .ok (.imul, 1) := by decide +kernel
theorem dX3_deriveFields_12 : decode cX3_deriveFields 12 = .ok (.iload_n 3, 1) := by decide +kernel
theorem dX3_deriveFields_13 : decode cX3_deriveFields 13 = .ok (.iadd, 1) := by decide +kernel
theorem dX3_deriveFields_14 : decode cX3_deriveFields 14 = .ok (.istore 4, 2) := by decide +kernel
theorem dX3_deriveFields_16 : decode cX3_deriveFields 16 = .ok (.aload_n 0, 1) := by decide +kernel
theorem dX3_deriveFields_17 : decode cX3_deriveFields 17 = .ok (.getfield 33, 3) := by decide +kernel
theorem dX3_deriveFields_20 : decode cX3_deriveFields 20 = .ok (.iload 4, 2) := by decide +kernel
theorem dX3_deriveFields_22 : decode cX3_deriveFields 22 = .ok (.aload_n 1, 1) := by decide +kernel
theorem dX3_deriveFields_23 : decode cX3_deriveFields 23 = .ok (.getfield 131, 3) := by decide +kernel
theorem dX3_deriveFields_26 : decode cX3_deriveFields 26 = .ok (.getfield 97, 3) := by decide +kernel
theorem dX3_deriveFields_29 : decode cX3_deriveFields 29 = .ok (.iload 4, 2) := by decide +kernel
theorem dX3_deriveFields_31 : decode cX3_deriveFields 31 = .ok (.caload, 1) := by decide +kernel
theorem dX3_deriveFields_32 : decode cX3_deriveFields 32 = .ok (.bipush 45, 2) := by decide +kernel
theorem dX3_deriveFields_34 : decode cX3_deriveFields 34 = .ok (.if_icmp .eq 7, 3) := by decide +kernel
theorem dX3_deriveFields_37 : decode cX3_deriveFields 37 = .ok (.iload_n 2, 1) := by decide +kernel
theorem dX3_deriveFields_38 : decode cX3_deriveFields 38 = .ok (.goto 20, 3) := by decide +kernel
theorem dX3_deriveFields_41 : decode cX3_deriveFields 41 = .ok (.aload_n 0, 1) := by decide +kernel
theorem dX3_deriveFields_42 : decode cX3_deriveFields 42 = .ok (.aload_n 1, 1) := by decide +kernel
theorem dX3_deriveFields_43 : decode cX3_deriveFields 43 = .ok (.getfield 74, 3) := by decide +kernel
theorem dX3_deriveFields_46 : decode cX3_deriveFields 46 = .ok (.iload_n 2, 1) := by decide +kernel
theorem dX3_deriveFields_47 : decode cX3_deriveFields 47 = .ok (.iaload, 1) := by decide +kernel
theorem dX3_deriveFields_48 : decode cX3_deriveFields 48 = .ok (.aload_n 1, 1) := by decide +kernel
theorem dX3_deriveFields_49 : decode cX3_deriveFields 49 = .ok (.getfield 77, 3) := by decide +kernel
theorem dX3_deriveFields_52 : decode cX3_deriveFields 52 = .ok (.iload_n 2, 1) := by decide +kernel
theorem dX3_deriveFields_53 : decode cX3_deriveFields 53 = .ok (.iaload, 1) := by decide +kernel
theorem dX3_deriveFields_54 : decode cX3_deriveFields 54 = .ok (.iload_n 3, 1) := by decide +kernel
theorem dX3_deriveFields_55 : decode cX3_deriveFields 55 = .ok (.invokevirtual 134, 3) := by decide +kernel
theorem dX3_deriveFields_58 : decode cX3_deriveFields 58 = .ok (.iastore, 1) := by decide +kernel
theorem dX3_deriveFields_59 : decode cX3_deriveFields 59 = .ok (.iinc 3 1, 3) := by decide +kernel
theorem dX3_deriveFields_62 : decode cX3_deriveFields 62 = .ok (.goto (-60), 3) := by decide +kernel
theorem dX3_deriveFields_65 : decode cX3_deriveFields 65 = .ok (.return_, 1) := by decide +kernel
theorem dX3_inheritedField_0 : decode cX3_inheritedField 0 = .ok (.iconst 0, 1) := by decide +kernel
theorem dX3_inheritedField_1 : decode cX3_inheritedField 1 = .ok (.istore 4, 2) := by decide +kernel
theorem dX3_inheritedField_3 : decode cX3_inheritedField 3 = .ok (.iload 4, 2) := by decide +kernel
theorem dX3_inheritedField_5 : decode cX3_inheritedField 5 = .ok (.iconst 5, 1) := by decide +kernel
theorem dX3_inheritedField_6 : decode cX3_inheritedField 6 = .ok (.if_icmp .ge 48, 3) := by decide +kernel
theorem dX3_inheritedField_9 : decode cX3_inheritedField 9 = .ok (.iload_n 1, 1) := by decide +kernel
theorem dX3_inheritedField_10 : decode cX3_inheritedField 10 = .ok (.iload 4, 2) := by decide +kernel
theorem dX3_inheritedField_12 : decode cX3_inheritedField 12 = .ok (.ishr, 1) := by decide +kernel
theorem dX3_inheritedField_13 : decode cX3_inheritedField 13 = .ok (.iconst 1, 1) := by decide +kernel
theorem dX3_inheritedField_14 : decode cX3_inheritedField 14 = .ok (.iand, 1) := by decide +kernel
theorem dX3_inheritedField_15 : decode cX3_inheritedField 15 = .ok (.iconst 1, 1) := by decide +kernel
theorem dX3_inheritedField_16 : decode cX3_inheritedField 16 = .ok (.if_icmp .ne 32, 3) := by decide +kernel
theorem dX3_inheritedField_19 : decode cX3_inheritedField 19 = .ok (.aload_n 0, 1) := by decide +kernel
theorem dX3_inheritedField_20 : decode cX3_inheritedField 20 = .ok (.getfield 33, 3) := by decide +kernel
theorem dX3_inheritedField_23 : decode cX3_inheritedField 23 = .ok (.iload 4, 2) := by decide +kernel
theorem dX3_inheritedField_25 : decode cX3_inheritedField 25 = .ok (.bipush 6, 2) := by decide +kernel
theorem dX3_inheritedField_27 : decode cX3_inheritedField 27 = .ok (.imul, 1) := by decide +kernel
theorem dX3_inheritedField_28 : decode cX3_inheritedField 28 = .ok (.iload_n 3, 1) := by decide +kernel
theorem dX3_inheritedField_29 : decode cX3_inheritedField 29 = .ok (.iadd, 1) := by decide +kernel
theorem dX3_inheritedField_30 : decode cX3_inheritedField 30 = .ok (.iaload, 1) := by decide +kernel
theorem dX3_inheritedField_31 : decode cX3_inheritedField 31 = .ok (.iconst (-1), 1) := by decide +kernel
theorem dX3_inheritedField_32 : decode cX3_inheritedField 32 = .ok (.if_icmp .eq 16, 3) := by decide +kernel
theorem dX3_inheritedField_35 : decode cX3_inheritedField 35 = .ok (.aload_n 0, 1) := by decide +kernel
theorem dX3_inheritedField_36 : decode cX3_inheritedField 36 = .ok (.getfield 33, 3) := by decide +kernel
theorem dX3_inheritedField_39 : decode cX3_inheritedField 39 = .ok (.iload 4, 2) := by decide +kernel
theorem dX3_inheritedField_41 : decode cX3_inheritedField 41 = .ok (.bipush 6, 2) := by decide +kernel
theorem dX3_inheritedField_43 : decode cX3_inheritedField 43 = .ok (.imul, 1) := by decide +kernel
theorem dX3_inheritedField_44 : decode cX3_inheritedField 44 = .ok (.iload_n 3, 1) := by decide +kernel
theorem dX3_inheritedField_45 : decode cX3_inheritedField 45 = .ok (.iadd, 1) := by decide +kernel
theorem dX3_inheritedField_46 : decode cX3_inheritedField 46 = .ok (.iaload, 1) := by decide +kernel
theorem dX3_inheritedField_47 : decode cX3_inheritedField 47 = .ok (.ireturn, 1) := by decide +kernel
theorem dX3_inheritedField_48 : decode cX3_inheritedField 48 = .ok (.iinc 4 1, 3) := by decide +kernel
theorem dX3_inheritedField_51 : decode cX3_inheritedField 51 = .ok (.goto (-48), 3) := by decide +kernel
theorem dX3_inheritedField_54 : decode cX3_inheritedField 54 = .ok (.iload_n 2, 1) := by decide +kernel
theorem dX3_inheritedField_55 : decode cX3_inheritedField 55 = .ok (.iconst (-1), 1) := by decide +kernel
theorem dX3_inheritedField_56 : decode cX3_inheritedField 56 = .ok (.if_icmp .ne 7, 3) := by decide +kernel
theorem dX3_inheritedField_59 : decode cX3_inheritedField 59 = .ok (.iconst (-1), 1) := by decide +kernel
theorem dX3_inheritedField_60 : decode cX3_inheritedField 60 = .ok (.goto 14, 3) := by decide +kernel
theorem dX3_inheritedField_63 : decode cX3_inheritedField 63 = .ok (.aload_n 0, 1) := by decide +kernel
theorem dX3_inheritedField_64 : decode cX3_inheritedField 64 = .ok (.getfield 33, 3) := by decide +kernel
theorem dX3_inheritedField_67 : decode cX3_inheritedField 67 = .ok (.iload_n 2, 1) := by decide +kernel
theorem dX3_inheritedField_68 : decode cX3_inheritedField 68 = .ok (.bipush 6, 2) := by decide +kernel
theorem dX3_inheritedField_70 : decode cX3_inheritedField 70 = .ok (.imul, 1) := by decide +kernel
theorem dX3_inheritedField_71 : decode cX3_inheritedField 71 = .ok (.iload_n 3, 1) := by decide +kernel
theorem dX3_inheritedField_72 : decode cX3_inheritedField 72 = .ok (.iadd, 1) := by decide +kernel
theorem dX3_inheritedField_73 : decode cX3_inheritedField 73 = .ok (.iaload, 1) := by decide +kernel
theorem dX3_inheritedField_74 : decode cX3_inheritedField 74 = .ok (.ireturn, 1) := by decide +kernel
theorem dX3_deriveUsable_0 : decode cX3_deriveUsable 0 = .ok (.aload_n 0, 1) := by decide +kernel
theorem dX3_deriveUsable_1 : decode cX3_deriveUsable 1 = .ok (.getfield 40, 3) := by decide +kernel
theorem dX3_deriveUsable_4 : decode cX3_deriveUsable 4 = .ok (.iconst 0, 1) := by decide +kernel
theorem dX3_deriveUsable_5 : decode cX3_deriveUsable 5 = .ok (.invokestatic 84, 3) := by decide +kernel
theorem dX3_deriveUsable_8 : decode cX3_deriveUsable 8 = .ok (.aload_n 0, 1) := by decide +kernel
theorem dX3_deriveUsable_9 : decode cX3_deriveUsable 9 = .ok (.iconst 0, 1) := by decide +kernel
theorem dX3_deriveUsable_10 : decode cX3_deriveUsable 10 = .ok (.putfield 138, 3) := by decide +kernel
theorem dX3_deriveUsable_13 : decode cX3_deriveUsable 13 = .ok (.iconst 0, 1) := by decide +kernel
theorem dX3_deriveUsable_14 : decode cX3_deriveUsable 14 = .ok (.istore_n 2, 1) := by decide +kernel
theorem dX3_deriveUsable_15 : decode cX3_deriveUsable 15 = .ok (.iload_n 2, 1) := by decide +kernel
theorem dX3_deriveUsable_16 : decode cX3_deriveUsable 16 = .ok (.bipush 30, 2) := by decide +kernel
theorem dX3_deriveUsable_18 : decode cX3_deriveUsable 18 = .ok (.if_icmp .ge 247, 3) := by decide +kernel
theorem dX3_deriveUsable_21 : decode cX3_deriveUsable 21 = .ok (.iconst 1, 1) := by decide +kernel
theorem dX3_deriveUsable_22 : decode cX3_deriveUsable 22 = .ok (.iload_n 2, 1) := by decide +kernel
theorem dX3_deriveUsable_23 : decode cX3_deriveUsable 23 = .ok (.bipush 6, 2) := by decide +kernel
theorem dX3_deriveUsable_25 : decode cX3_deriveUsable 25 = .ok (.irem, 1) := by decide +kernel
theorem dX3_deriveUsable_26 : decode cX3_deriveUsable 26 = .ok (.ishl, 1) := by decide +kernel
theorem dX3_deriveUsable_27 : decode cX3_deriveUsable 27 = .ok (.istore_n 3, 1) := by decide +kernel
theorem dX3_deriveUsable_28 : decode cX3_deriveUsable 28 = .ok (.aload_n 0, 1) := by decide +kernel
theorem dX3_deriveUsable_29 : decode cX3_deriveUsable 29 = .ok (.dup, 1) := by decide +kernel
theorem dX3_deriveUsable_30 : decode cX3_deriveUsable 30 = .ok (.getfield 138, 3) := by decide +kernel
theorem dX3_deriveUsable_33 : decode cX3_deriveUsable 33 = .ok (.aload_n 1, 1) := by decide +kernel
theorem dX3_deriveUsable_34 : decode cX3_deriveUsable 34 = .ok (.getfield 59, 3) := by decide +kernel
theorem dX3_deriveUsable_37 : decode cX3_deriveUsable 37 = .ok (.getfield 97, 3) := by decide +kernel
theorem dX3_deriveUsable_40 : decode cX3_deriveUsable 40 = .ok (.iload_n 2, 1) := by decide +kernel
theorem dX3_deriveUsable_41 : decode cX3_deriveUsable 41 = .ok (.caload, 1) := by decide +kernel
theorem dX3_deriveUsable_42 : decode cX3_deriveUsable 42 = .ok (.bipush 45, 2) := by decide +kernel
theorem dX3_deriveUsable_44 : decode cX3_deriveUsable 44 = .ok (.if_icmp .ne 7, 3) := by decide +kernel
theorem dX3_deriveUsable_47 : decode cX3_deriveUsable 47 = .ok (.iconst 0, 1) := by decide +kernel
theorem dX3_deriveUsable_48 : decode cX3_deriveUsable 48 = .ok (.goto 4, 3) := by decide +kernel
theorem dX3_deriveUsable_51 : decode cX3_deriveUsable 51 = .ok (.iload_n 3, 1) := by decide +kernel
theorem dX3_deriveUsable_52 : decode cX3_deriveUsable 52 = .ok (.ior, 1) := by decide +kernel
theorem dX3_deriveUsable_53 : decode cX3_deriveUsable 53 = .ok (.putfield 138, 3) := by decide +kernel
theorem dX3_deriveUsable_56 : decode cX3_deriveUsable 56 = .ok (.aload_n 0, 1) := by decide +kernel
theorem dX3_deriveUsable_57 : decode cX3_deriveUsable 57 = .ok (.aload_n 1, 1) := by decide +kernel
theorem dX3_deriveUsable_58 : decode cX3_deriveUsable 58 = .ok (.getfield 59, 3) := by decide +kernel
theorem dX3_deriveUsable_61 : decode cX3_deriveUsable 61 = .ok (.getfield 97, 3) := by decide +kernel
theorem dX3_deriveUsable_64 : decode cX3_deriveUsable 64 = .ok (.iload_n 2, 1) := by decide +kernel
theorem dX3_deriveUsable_65 : decode cX3_deriveUsable 65 = .ok (.caload, 1) := by decide +kernel
theorem dX3_deriveUsable_66 : decode cX3_deriveUsable 66 = .ok (.invokevirtual 141, 3) := by decide +kernel
theorem dX3_deriveUsable_69 : decode cX3_deriveUsable 69 = .ok (.ifCond .eq 62, 3) := by decide +kernel
theorem dX3_deriveUsable_72 : decode cX3_deriveUsable 72 = .ok (.aload_n 1, 1) := by decide +kernel
theorem dX3_deriveUsable_73 : decode cX3_deriveUsable 73 = .ok (.getfield 59, 3) := by decide +kernel
theorem dX3_deriveUsable_76 : decode cX3_deriveUsable 76 = .ok (.getfield 90, 3) := by decide +kernel
theorem dX3_deriveUsable_79 : decode cX3_deriveUsable 79 = .ok (.iload_n 2, 1) := by decide +kernel
theorem dX3_deriveUsable_80 : decode cX3_deriveUsable 80 = .ok (.caload, 1) := by decide +kernel
theorem dX3_deriveUsable_81 : decode cX3_deriveUsable 81 = .ok (.bipush 115, 2) := by decide +kernel
theorem dX3_deriveUsable_83 : decode cX3_deriveUsable 83 = .ok (.if_icmp .ne 7, 3) := by decide +kernel
theorem dX3_deriveUsable_86 : decode cX3_deriveUsable 86 = .ok (.iconst 1, 1) := by decide +kernel
theorem dX3_deriveUsable_87 : decode cX3_deriveUsable 87 = .ok (.goto 4, 3) := by decide +kernel
theorem dX3_deriveUsable_90 : decode cX3_deriveUsable 90 = .ok (.iconst 0, 1) := by decide +kernel
theorem dX3_deriveUsable_91 : decode cX3_deriveUsable 91 = .ok (.istore 4, 2) := by decide +kernel
theorem dX3_deriveUsable_93 : decode cX3_deriveUsable 93 = .ok (.aload_n 0, 1) := by decide +kernel
theorem dX3_deriveUsable_94 : decode cX3_deriveUsable 94 = .ok (.getfield 40, 3) := by decide +kernel
theorem dX3_deriveUsable_97 : decode cX3_deriveUsable 97 = .ok (.iconst 1, 1) := by decide +kernel
theorem dX3_deriveUsable_98 : decode cX3_deriveUsable 98 = .ok (.dup2, 1) := by decide +kernel
theorem dX3_deriveUsable_99 : decode cX3_deriveUsable 99 = .ok (.iaload, 1) := by decide +kernel
theorem dX3_deriveUsable_100 : decode cX3_deriveUsable 100 = .ok (.iload 4, 2) := by decide +kernel
theorem dX3_deriveUsable_102 : decode cX3_deriveUsable 102 = .ok (.ifCond .eq 7, 3) := by decide +kernel
theorem dX3_deriveUsable_105 : decode cX3_deriveUsable 105 = .ok (.iload_n 3, 1) := by decide +kernel
theorem dX3_deriveUsable_106 : decode cX3_deriveUsable 106 = .ok (.goto 4, 3) := by decide +kernel
theorem dX3_deriveUsable_109 : decode cX3_deriveUsable 109 = .ok (.iconst 0, 1) := by decide +kernel
theorem dX3_deriveUsable_110 : decode cX3_deriveUsable 110 = .ok (.ior, 1) := by decide +kernel
theorem dX3_deriveUsable_111 : decode cX3_deriveUsable 111 = .ok (.iastore, 1) := by decide +kernel
theorem dX3_deriveUsable_112 : decode cX3_deriveUsable 112 = .ok (.aload_n 0, 1) := by decide +kernel
theorem dX3_deriveUsable_113 : decode cX3_deriveUsable 113 = .ok (.getfield 40, 3) := by decide +kernel
theorem dX3_deriveUsable_116 : decode cX3_deriveUsable 116 = .ok (.iconst 2, 1) := by decide +kernel
theorem dX3_deriveUsable_117 : decode cX3_deriveUsable 117 = .ok (.dup2, 1) := by decide +kernel
theorem dX3_deriveUsable_118 : decode cX3_deriveUsable 118 = .ok (.iaload, 1) := by decide +kernel
theorem dX3_deriveUsable_119 : decode cX3_deriveUsable 119 = .ok (.iload 4, 2) := by decide +kernel
theorem dX3_deriveUsable_121 : decode cX3_deriveUsable 121 = .ok (.ifCond .eq 7, 3) := by decide +kernel
theorem dX3_deriveUsable_124 : decode cX3_deriveUsable 124 = .ok (.iconst 0, 1) := by decide +kernel
theorem dX3_deriveUsable_125 : decode cX3_deriveUsable 125 = .ok (.goto 4, 3) := by decide +kernel
theorem dX3_deriveUsable_128 : decode cX3_deriveUsable 128 = .ok (.iload_n 3, 1) := by decide +kernel
theorem dX3_deriveUsable_129 : decode cX3_deriveUsable 129 = .ok (.ior, 1) := by decide +kernel
theorem dX3_deriveUsable_130 : decode cX3_deriveUsable 130 = .ok (.iastore, 1) := by decide +kernel
theorem dX3_deriveUsable_131 : decode cX3_deriveUsable 131 = .ok (.aload_n 0, 1) := by decide +kernel
theorem dX3_deriveUsable_132 : decode cX3_deriveUsable 132 = .ok (.aload_n 1, 1) := by decide +kernel
theorem dX3_deriveUsable_133 : decode cX3_deriveUsable 133 = .ok (.getfield 131, 3) := by decide +kernel
theorem dX3_deriveUsable_136 : decode cX3_deriveUsable 136 = .ok (.getfield 97, 3) := by decide +kernel
theorem dX3_deriveUsable_139 : decode cX3_deriveUsable 139 = .ok (.iload_n 2, 1) := by decide +kernel
theorem dX3_deriveUsable_140 : decode cX3_deriveUsable 140 = .ok (.caload, 1) := by decide +kernel
theorem dX3_deriveUsable_141 : decode cX3_deriveUsable 141 = .ok (.invokevirtual 141, 3) := by decide +kernel
theorem dX3_deriveUsable_144 : decode cX3_deriveUsable 144 = .ok (.ifCond .eq 115, 3) := by decide +kernel
theorem dX3_deriveUsable_147 : decode cX3_deriveUsable 147 = .ok (.aload_n 1, 1) := by decide +kernel
theorem dX3_deriveUsable_148 : decode cX3_deriveUsable 148 = .ok (.getfield 131, 3) := by decide +kernel
theorem dX3_deriveUsable_151 : decode cX3_deriveUsable 151 = .ok (.getfield 90, 3) := by decide +kernel
theorem dX3_deriveUsable_154 : decode cX3_deriveUsable 154 = .ok (.iload_n 2, 1) := by decide +kernel
theorem dX3_deriveUsable_155 : decode cX3_deriveUsable 155 = .ok (.caload, 1) := by decide +kernel
theorem dX3_deriveUsable_156 : decode cX3_deriveUsable 156 = .ok (.istore 4, 2) := by decide +kernel
theorem dX3_deriveUsable_158 : decode cX3_deriveUsable 158 = .ok (.aload_n 0, 1) := by decide +kernel
theorem dX3_deriveUsable_159 : decode cX3_deriveUsable 159 = .ok (.getfield 40, 3) := by decide +kernel
theorem dX3_deriveUsable_162 : decode cX3_deriveUsable 162 = .ok (.iconst 5, 1) := by decide +kernel
theorem dX3_deriveUsable_163 : decode cX3_deriveUsable 163 = .ok (.dup2, 1) := by decide +kernel
theorem dX3_deriveUsable_164 : decode cX3_deriveUsable 164 = .ok (.iaload, 1) := by decide +kernel
theorem dX3_deriveUsable_165 : decode cX3_deriveUsable 165 = .ok (.iload 4, 2) := by decide +kernel
theorem dX3_deriveUsable_167 : decode cX3_deriveUsable 167 = .ok (.bipush 115, 2) := by decide +kernel
theorem dX3_deriveUsable_169 : decode cX3_deriveUsable 169 = .ok (.if_icmp .eq 10, 3) := by decide +kernel
theorem dX3_deriveUsable_172 : decode cX3_deriveUsable 172 = .ok (.iload 4, 2) := by decide +kernel
theorem dX3_deriveUsable_174 : decode cX3_deriveUsable 174 = .ok (.bipush 70, 2) := by decide +kernel
theorem dX3_deriveUsable_176 : decode cX3_deriveUsable 176 = .ok (.if_icmp .ne 7, 3) := by decide +kernel
theorem dX3_deriveUsable_179 : decode cX3_deriveUsable 179 = .ok (.iload_n 3, 1) := by decide +kernel
theorem dX3_deriveUsable_180 : decode cX3_deriveUsable 180 = .ok (.goto 4, 3) := by decide +kernel
theorem dX3_deriveUsable_183 : decode cX3_deriveUsable 183 = .ok (.iconst 0, 1) := by decide +kernel
theorem dX3_deriveUsable_184 : decode cX3_deriveUsable 184 = .ok (.ior, 1) := by decide +kernel
theorem dX3_deriveUsable_185 : decode cX3_deriveUsable 185 = .ok (.iastore, 1) := by decide +kernel
theorem dX3_deriveUsable_186 : decode cX3_deriveUsable 186 = .ok (.aload_n 0, 1) := by decide +kernel
theorem dX3_deriveUsable_187 : decode cX3_deriveUsable 187 = .ok (.getfield 40, 3) := by decide +kernel
theorem dX3_deriveUsable_190 : decode cX3_deriveUsable 190 = .ok (.bipush 6, 2) := by decide +kernel
theorem dX3_deriveUsable_192 : decode cX3_deriveUsable 192 = .ok (.dup2, 1) := by decide +kernel
theorem dX3_deriveUsable_193 : decode cX3_deriveUsable 193 = .ok (.iaload, 1) := by decide +kernel
theorem dX3_deriveUsable_194 : decode cX3_deriveUsable 194 = .ok (.iload 4, 2) := by decide +kernel
theorem dX3_deriveUsable_196 : decode cX3_deriveUsable 196 = .ok (.bipush 115, 2) := by decide +kernel
theorem dX3_deriveUsable_198 : decode cX3_deriveUsable 198 = .ok (.if_icmp .ne 7, 3) := by decide +kernel
theorem dX3_deriveUsable_201 : decode cX3_deriveUsable 201 = .ok (.iload_n 3, 1) := by decide +kernel
theorem dX3_deriveUsable_202 : decode cX3_deriveUsable 202 = .ok (.goto 4, 3) := by decide +kernel
theorem dX3_deriveUsable_205 : decode cX3_deriveUsable 205 = .ok (.iconst 0, 1) := by decide +kernel
theorem dX3_deriveUsable_206 : decode cX3_deriveUsable 206 = .ok (.ior, 1) := by decide +kernel
theorem dX3_deriveUsable_207 : decode cX3_deriveUsable 207 = .ok (.iastore, 1) := by decide +kernel
theorem dX3_deriveUsable_208 : decode cX3_deriveUsable 208 = .ok (.aload_n 0, 1) := by decide +kernel
theorem dX3_deriveUsable_209 : decode cX3_deriveUsable 209 = .ok (.getfield 40, 3) := by decide +kernel
theorem dX3_deriveUsable_212 : decode cX3_deriveUsable 212 = .ok (.bipush 7, 2) := by decide +kernel
theorem dX3_deriveUsable_214 : decode cX3_deriveUsable 214 = .ok (.dup2, 1) := by decide +kernel
theorem dX3_deriveUsable_215 : decode cX3_deriveUsable 215 = .ok (.iaload, 1) := by decide +kernel
theorem dX3_deriveUsable_216 : decode cX3_deriveUsable 216 = .ok (.iload 4, 2) := by decide +kernel
theorem dX3_deriveUsable_218 : decode cX3_deriveUsable 218 = .ok (.bipush 110, 2) := by decide +kernel
theorem dX3_deriveUsable_220 : decode cX3_deriveUsable 220 = .ok (.if_icmp .eq 10, 3) := by decide +kernel
theorem dX3_deriveUsable_223 : decode cX3_deriveUsable 223 = .ok (.iload 4, 2) := by decide +kernel
theorem dX3_deriveUsable_225 : decode cX3_deriveUsable 225 = .ok (.bipush 102, 2) := by decide +kernel
theorem dX3_deriveUsable_227 : decode cX3_deriveUsable 227 = .ok (.if_icmp .ne 7, 3) := by decide +kernel
theorem dX3_deriveUsable_230 : decode cX3_deriveUsable 230 = .ok (.iload_n 3, 1) := by decide +kernel
theorem dX3_deriveUsable_231 : decode cX3_deriveUsable 231 = .ok (.goto 4, 3) := by decide +kernel
theorem dX3_deriveUsable_234 : decode cX3_deriveUsable 234 = .ok (.iconst 0, 1) := by decide +kernel
theorem dX3_deriveUsable_235 : decode cX3_deriveUsable 235 = .ok (.ior, 1) := by decide +kernel
theorem dX3_deriveUsable_236 : decode cX3_deriveUsable 236 = .ok (.iastore, 1) := by decide +kernel
theorem dX3_deriveUsable_237 : decode cX3_deriveUsable 237 = .ok (.aload_n 0, 1) := by decide +kernel
theorem dX3_deriveUsable_238 : decode cX3_deriveUsable 238 = .ok (.getfield 40, 3) := by decide +kernel
theorem dX3_deriveUsable_241 : decode cX3_deriveUsable 241 = .ok (.bipush 8, 2) := by decide +kernel
theorem dX3_deriveUsable_243 : decode cX3_deriveUsable 243 = .ok (.dup2, 1) := by decide +kernel
theorem dX3_deriveUsable_244 : decode cX3_deriveUsable 244 = .ok (.iaload, 1) := by decide +kernel
theorem dX3_deriveUsable_245 : decode cX3_deriveUsable 245 = .ok (.iload 4, 2) := by decide +kernel
theorem dX3_deriveUsable_247 : decode cX3_deriveUsable 247 = .ok (.bipush 110, 2) := by decide +kernel
theorem dX3_deriveUsable_249 : decode cX3_deriveUsable 249 = .ok (.if_icmp .ne 7, 3) := by decide +kernel
theorem dX3_deriveUsable_252 : decode cX3_deriveUsable 252 = .ok (.iload_n 3, 1) := by decide +kernel
theorem dX3_deriveUsable_253 : decode cX3_deriveUsable 253 = .ok (.goto 4, 3) := by decide +kernel
theorem dX3_deriveUsable_256 : decode cX3_deriveUsable 256 = .ok (.iconst 0, 1) := by decide +kernel
theorem dX3_deriveUsable_257 : decode cX3_deriveUsable 257 = .ok (.ior, 1) := by decide +kernel
theorem dX3_deriveUsable_258 : decode cX3_deriveUsable 258 = .ok (.iastore, 1) := by decide +kernel
theorem dX3_deriveUsable_259 : decode cX3_deriveUsable 259 = .ok (.iinc 2 1, 3) := by decide +kernel
theorem dX3_deriveUsable_262 : decode cX3_deriveUsable 262 = .ok (.goto (-247), 3) := by decide +kernel
theorem dX3_deriveUsable_265 : decode cX3_deriveUsable 265 = .ok (.aload_n 0, 1) := by decide +kernel
theorem dX3_deriveUsable_266 : decode cX3_deriveUsable 266 = .ok (.getfield 40, 3) := by decide +kernel
theorem dX3_deriveUsable_269 : decode cX3_deriveUsable 269 = .ok (.iconst 3, 1) := by decide +kernel
theorem dX3_deriveUsable_270 : decode cX3_deriveUsable 270 = .ok (.aload_n 0, 1) := by decide +kernel
theorem dX3_deriveUsable_271 : decode cX3_deriveUsable 271 = .ok (.getfield 40, 3) := by decide +kernel
theorem dX3_deriveUsable_274 : decode cX3_deriveUsable 274 = .ok (.iconst 2, 1) := by decide +kernel
theorem dX3_deriveUsable_275 : decode cX3_deriveUsable 275 = .ok (.iaload, 1) := by decide +kernel
theorem dX3_deriveUsable_276 : decode cX3_deriveUsable 276 = .ok (.iastore, 1) := by decide +kernel
theorem dX3_deriveUsable_277 : decode cX3_deriveUsable 277 = .ok (.aload_n 0, 1) := by decide +kernel
theorem dX3_deriveUsable_278 : decode cX3_deriveUsable 278 = .ok (.getfield 40, 3) := by decide +kernel
theorem dX3_deriveUsable_281 : decode cX3_deriveUsable 281 = .ok (.iconst 4, 1) := by decide +kernel
theorem dX3_deriveUsable_282 : decode cX3_deriveUsable 282 = .ok (.aload_n 0, 1) := by decide +kernel
theorem dX3_deriveUsable_283 : decode cX3_deriveUsable 283 = .ok (.getfield 40, 3) := by decide +kernel
theorem dX3_deriveUsable_286 : decode cX3_deriveUsable 286 = .ok (.iconst 2, 1) := by decide +kernel
theorem dX3_deriveUsable_287 : decode cX3_deriveUsable 287 = .ok (.iaload, 1) := by decide +kernel
theorem dX3_deriveUsable_288 : decode cX3_deriveUsable 288 = .ok (.iastore, 1) := by decide +kernel
theorem dX3_deriveUsable_289 : decode cX3_deriveUsable 289 = .ok (.return_, 1) := by decide +kernel
theorem dX3_isFarSeen_0 : decode cX3_isFarSeen 0 = .ok (.iload_n 1, 1) := by decide +kernel
theorem dX3_isFarSeen_1 : decode cX3_isFarSeen 1 = .ok (.bipush 112, 2) := by decide +kernel
theorem dX3_isFarSeen_3 : decode cX3_isFarSeen 3 = .ok (.if_icmp .eq 9, 3) := by decide +kernel
theorem dX3_isFarSeen_6 : decode cX3_isFarSeen 6 = .ok (.iload_n 1, 1) := by decide +kernel
theorem dX3_isFarSeen_7 : decode cX3_isFarSeen 7 = .ok (.bipush 111, 2) := by decide +kernel
theorem dX3_isFarSeen_9 : decode cX3_isFarSeen 9 = .ok (.if_icmp .ne 7, 3) := by decide +kernel
theorem dX3_isFarSeen_12 : decode cX3_isFarSeen 12 = .ok (.iconst 1, 1) := by decide +kernel
theorem dX3_isFarSeen_13 : decode cX3_isFarSeen 13 = .ok (.goto 4, 3) := by decide +kernel
theorem dX3_isFarSeen_16 : decode cX3_isFarSeen 16 = .ok (.iconst 0, 1) := by decide +kernel
theorem dX3_isFarSeen_17 : decode cX3_isFarSeen 17 = .ok (.ireturn, 1) := by decide +kernel
theorem dX3_seat_0 : decode cX3_seat 0 = .ok (.aload_n 0, 1) := by decide +kernel
theorem dX3_seat_1 : decode cX3_seat 1 = .ok (.getfield 9, 3) := by decide +kernel
theorem dX3_seat_4 : decode cX3_seat 4 = .ok (.iconst 5, 1) := by decide +kernel
theorem dX3_seat_5 : decode cX3_seat 5 = .ok (.aload_n 1, 1) := by decide +kernel
theorem dX3_seat_6 : decode cX3_seat 6 = .ok (.getfield 145, 3) := by decide +kernel
theorem dX3_seat_9 : decode cX3_seat 9 = .ok (.iastore, 1) := by decide +kernel
theorem dX3_seat_10 : decode cX3_seat 10 = .ok (.iconst 0, 1) := by decide +kernel
theorem dX3_seat_11 : decode cX3_seat 11 = .ok (.istore_n 2, 1) := by decide +kernel
theorem dX3_seat_12 : decode cX3_seat 12 = .ok (.iload_n 2, 1) := by decide +kernel
theorem dX3_seat_13 : decode cX3_seat 13 = .ok (.iconst 5, 1) := by decide +kernel
theorem dX3_seat_14 : decode cX3_seat 14 = .ok (.if_icmp .ge 35, 3) := by decide +kernel
theorem dX3_seat_17 : decode cX3_seat 17 = .ok (.aload_n 1, 1) := by decide +kernel
theorem dX3_seat_18 : decode cX3_seat 18 = .ok (.getfield 145, 3) := by decide +kernel
theorem dX3_seat_21 : decode cX3_seat 21 = .ok (.iload_n 2, 1) := by decide +kernel
theorem dX3_seat_22 : decode cX3_seat 22 = .ok (.invokestatic 80, 3) := by decide +kernel
theorem dX3_seat_25 : decode cX3_seat 25 = .ok (.ifCond .eq 18, 3) := by decide +kernel
theorem dX3_seat_28 : decode cX3_seat 28 = .ok (.aload_n 0, 1) := by decide +kernel
theorem dX3_seat_29 : decode cX3_seat 29 = .ok (.getfield 9, 3) := by decide +kernel
theorem dX3_seat_32 : decode cX3_seat 32 = .ok (.iconst 5, 1) := by decide +kernel
theorem dX3_seat_33 : decode cX3_seat 33 = .ok (.dup2, 1) := by decide +kernel
theorem dX3_seat_34 : decode cX3_seat 34 = .ok (.iaload, 1) := by decide +kernel
theorem dX3_seat_35 : decode cX3_seat 35 = .ok (.aload_n 0, 1) := by decide +kernel
theorem dX3_seat_36 : decode cX3_seat 36 = .ok (.getfield 9, 3) := by decide +kernel
theorem dX3_seat_39 : decode cX3_seat 39 = .ok (.iload_n 2, 1) := by decide +kernel
theorem dX3_seat_40 : decode cX3_seat 40 = .ok (.iaload, 1) := by decide +kernel
theorem dX3_seat_41 : decode cX3_seat 41 = .ok (.ior, 1) := by decide +kernel
theorem dX3_seat_42 : decode cX3_seat 42 = .ok (.iastore, 1) := by decide +kernel
theorem dX3_seat_43 : decode cX3_seat 43 = .ok (.iinc 2 1, 3) := by decide +kernel
theorem dX3_seat_46 : decode cX3_seat 46 = .ok (.goto (-34), 3) := by decide +kernel
theorem dX3_seat_49 : decode cX3_seat 49 = .ok (.aload_n 1, 1) := by decide +kernel
theorem dX3_seat_50 : decode cX3_seat 50 = .ok (.getfield 149, 3) := by decide +kernel
theorem dX3_seat_53 : decode cX3_seat 53 = .ok (.iconst (-1), 1) := by decide +kernel
theorem dX3_seat_54 : decode cX3_seat 54 = .ok (.if_icmp .eq 28, 3) := by decide +kernel
theorem dX3_seat_57 : decode cX3_seat 57 = .ok (.aload_n 0, 1) := by decide +kernel
theorem dX3_seat_58 : decode cX3_seat 58 = .ok (.getfield 9, 3) := by decide +kernel
theorem dX3_seat_61 : decode cX3_seat 61 = .ok (.iconst 5, 1) := by decide +kernel
theorem dX3_seat_62 : decode cX3_seat 62 = .ok (.dup2, 1) := by decide +kernel
theorem dX3_seat_63 : decode cX3_seat 63 = .ok (.iaload, 1) := by decide +kernel
theorem dX3_seat_64 : decode cX3_seat 64 = .ok (.iconst 1, 1) := by decide +kernel
theorem dX3_seat_65 : decode cX3_seat 65 = .ok (.aload_n 1, 1) := by decide +kernel
theorem dX3_seat_66 : decode cX3_seat 66 = .ok (.getfield 149, 3) := by decide +kernel
theorem dX3_seat_69 : decode cX3_seat 69 = .ok (.ishl, 1) := by decide +kernel
theorem dX3_seat_70 : decode cX3_seat 70 = .ok (.aload_n 0, 1) := by decide +kernel
theorem dX3_seat_71 : decode cX3_seat 71 = .ok (.getfield 9, 3) := by decide +kernel
theorem dX3_seat_74 : decode cX3_seat 74 = .ok (.aload_n 1, 1) := by decide +kernel
theorem dX3_seat_75 : decode cX3_seat 75 = .ok (.getfield 149, 3) := by decide +kernel
theorem dX3_seat_78 : decode cX3_seat 78 = .ok (.iaload, 1) := by decide +kernel
theorem dX3_seat_79 : decode cX3_seat 79 = .ok (.ior, 1) := by decide +kernel
theorem dX3_seat_80 : decode cX3_seat 80 = .ok (.ior, 1) := by decide +kernel
theorem dX3_seat_81 : decode cX3_seat 81 = .ok (.iastore, 1) := by decide +kernel
theorem dX3_seat_82 : decode cX3_seat 82 = .ok (.iconst 0, 1) := by decide +kernel
theorem dX3_seat_83 : decode cX3_seat 83 = .ok (.istore_n 2, 1) := by decide +kernel
theorem dX3_seat_84 : decode cX3_seat 84 = .ok (.iload_n 2, 1) := by decide +kernel
theorem dX3_seat_85 : decode cX3_seat 85 = .ok (.bipush 6, 2) := by decide +kernel
theorem dX3_seat_87 : decode cX3_seat 87 = .ok (.if_icmp .ge 126, 3) := by decide +kernel
theorem dX3_seat_90 : decode cX3_seat 90 = .ok (.bipush 30, 2) := by decide +kernel
theorem dX3_seat_92 : decode cX3_seat 92 = .ok (.iload_n 2, 1) := by decide +kernel
theorem dX3_seat_93 : decode cX3_seat 93 = .ok (.iadd, 1) := by decide +kernel
theorem dX3_seat_94 : decode cX3_seat 94 = .ok (.istore_n 3, 1) := by decide +kernel
theorem dX3_seat_95 : decode cX3_seat 95 = .ok (.aload_n 1, 1) := by decide +kernel
theorem dX3_seat_96 : decode cX3_seat 96 = .ok (.getfield 149, 3) := by decide +kernel
theorem dX3_seat_99 : decode cX3_seat 99 = .ok (.iconst (-1), 1) := by decide +kernel
theorem dX3_seat_100 : decode cX3_seat 100 = .ok (.if_icmp .ne 7, 3) := by decide +kernel
theorem dX3_seat_103 : decode cX3_seat 103 = .ok (.iconst (-1), 1) := by decide +kernel
theorem dX3_seat_104 : decode cX3_seat 104 = .ok (.goto 12, 3) := by decide +kernel
theorem dX3_seat_107 : decode cX3_seat 107 = .ok (.aload_n 1, 1) := by decide +kernel
theorem dX3_seat_108 : decode cX3_seat 108 = .ok (.getfield 149, 3) := by decide +kernel
theorem dX3_seat_111 : decode cX3_seat 111 = .ok (.bipush 6, 2) := by decide +kernel
theorem dX3_seat_113 : decode cX3_seat 113 = .ok (.imul, 1) := by decide +kernel
theorem dX3_seat_114 : decode cX3_seat 114 = .ok (.iload_n 2, 1) := by decide +kernel
theorem dX3_seat_115 : decode cX3_seat 115 = .ok (.iadd, 1) := by decide +kernel
theorem dX3_seat_116 : decode cX3_seat 116 = .ok (.istore 4, 2) := by decide +kernel
theorem dX3_seat_118 : decode cX3_seat 118 = .ok (.aload_n 0, 1) := by decide +kernel
theorem dX3_seat_119 : decode cX3_seat 119 = .ok (.getfield 15, 3) := by decide +kernel
theorem dX3_seat_122 : decode cX3_seat 122 = .ok (.iload_n 3, 1) := by decide +kernel
theorem dX3_seat_123 : decode cX3_seat 123 = .ok (.aload_n 1, 1) := by decide +kernel
theorem dX3_seat_124 : decode cX3_seat 124 = .ok (.getfield 151, 3) := by decide +kernel
theorem dX3_seat_127 : decode cX3_seat 127 = .ok (.iload_n 2, 1) := by decide +kernel
theorem dX3_seat_128 : decode cX3_seat 128 = .ok (.if_icmp .ne 7, 3) := by decide +kernel
theorem dX3_seat_131 : decode cX3_seat 131 = .ok (.iconst 5, 1) := by decide +kernel
theorem dX3_seat_132 : decode cX3_seat 132 = .ok (.goto 20, 3) := by decide +kernel
theorem dX3_seat_135 : decode cX3_seat 135 = .ok (.iload 4, 2) := by decide +kernel
theorem dX3_seat_137 : decode cX3_seat 137 = .ok (.iconst (-1), 1) := by decide +kernel
theorem dX3_seat_138 : decode cX3_seat 138 = .ok (.if_icmp .ne 7, 3) := by decide +kernel
theorem dX3_seat_141 : decode cX3_seat 141 = .ok (.iconst (-1), 1) := by decide +kernel
theorem dX3_seat_142 : decode cX3_seat 142 = .ok (.goto 10, 3) := by decide +kernel
theorem dX3_seat_145 : decode cX3_seat 145 = .ok (.aload_n 0, 1) := by decide +kernel
theorem dX3_seat_146 : decode cX3_seat 146 = .ok (.getfield 15, 3) := by decide +kernel
theorem dX3_seat_149 : decode cX3_seat 149 = .ok (.iload 4, 2) := by decide +kernel
theorem dX3_seat_151 : decode cX3_seat 151 = .ok (.iaload, 1) := by decide +kernel
theorem dX3_seat_152 : decode cX3_seat 152 = .ok (.iastore, 1) := by decide +kernel
theorem dX3_seat_153 : decode cX3_seat 153 = .ok (.aload_n 0, 1) := by decide +kernel
theorem dX3_seat_154 : decode cX3_seat 154 = .ok (.getfield 18, 3) := by decide +kernel
theorem dX3_seat_157 : decode cX3_seat 157 = .ok (.iload_n 3, 1) := by decide +kernel
theorem dX3_seat_158 : decode cX3_seat 158 = .ok (.aload_n 1, 1) := by decide +kernel
theorem dX3_seat_159 : decode cX3_seat 159 = .ok (.getfield 151, 3) := by decide +kernel
theorem dX3_seat_162 : decode cX3_seat 162 = .ok (.iload_n 2, 1) := by decide +kernel
theorem dX3_seat_163 : decode cX3_seat 163 = .ok (.if_icmp .ne 7, 3) := by decide +kernel
theorem dX3_seat_166 : decode cX3_seat 166 = .ok (.iconst 5, 1) := by decide +kernel
theorem dX3_seat_167 : decode cX3_seat 167 = .ok (.goto 20, 3) := by decide +kernel
theorem dX3_seat_170 : decode cX3_seat 170 = .ok (.iload 4, 2) := by decide +kernel
theorem dX3_seat_172 : decode cX3_seat 172 = .ok (.iconst (-1), 1) := by decide +kernel
theorem dX3_seat_173 : decode cX3_seat 173 = .ok (.if_icmp .ne 7, 3) := by decide +kernel
theorem dX3_seat_176 : decode cX3_seat 176 = .ok (.iconst (-1), 1) := by decide +kernel
theorem dX3_seat_177 : decode cX3_seat 177 = .ok (.goto 10, 3) := by decide +kernel
theorem dX3_seat_180 : decode cX3_seat 180 = .ok (.aload_n 0, 1) := by decide +kernel
theorem dX3_seat_181 : decode cX3_seat 181 = .ok (.getfield 18, 3) := by decide +kernel
theorem dX3_seat_184 : decode cX3_seat 184 = .ok (.iload 4, 2) := by decide +kernel
theorem dX3_seat_186 : decode cX3_seat 186 = .ok (.iaload, 1) := by decide +kernel
theorem dX3_seat_187 : decode cX3_seat 187 = .ok (.iastore, 1) := by decide +kernel
theorem dX3_seat_188 : decode cX3_seat 188 = .ok (.aload_n 0, 1) := by decide +kernel
theorem dX3_seat_189 : decode cX3_seat 189 = .ok (.getfield 33, 3) := by decide +kernel
theorem dX3_seat_192 : decode cX3_seat 192 = .ok (.iload_n 3, 1) := by decide +kernel
theorem dX3_seat_193 : decode cX3_seat 193 = .ok (.aload_n 0, 1) := by decide +kernel
theorem dX3_seat_194 : decode cX3_seat 194 = .ok (.aload_n 1, 1) := by decide +kernel
theorem dX3_seat_195 : decode cX3_seat 195 = .ok (.getfield 145, 3) := by decide +kernel
theorem dX3_seat_198 : decode cX3_seat 198 = .ok (.aload_n 1, 1) := by decide +kernel
theorem dX3_seat_199 : decode cX3_seat 199 = .ok (.getfield 149, 3) := by decide +kernel
theorem dX3_seat_202 : decode cX3_seat 202 = .ok (.iload_n 2, 1) := by decide +kernel
theorem dX3_seat_203 : decode cX3_seat 203 = .ok (.invokevirtual 134, 3) := by decide +kernel
theorem dX3_seat_206 : decode cX3_seat 206 = .ok (.iastore, 1) := by decide +kernel
theorem dX3_seat_207 : decode cX3_seat 207 = .ok (.iinc 2 1, 3) := by decide +kernel
theorem dX3_seat_210 : decode cX3_seat 210 = .ok (.goto (-126), 3) := by decide +kernel
theorem dX3_seat_213 : decode cX3_seat 213 = .ok (.return_, 1) := by decide +kernel
theorem dX4_init_0 : decode cX4_init 0 = .ok (.aload_n 0, 1) := by decide +kernel
theorem dX4_init_1 : decode cX4_init 1 = .ok (.invokespecial 3, 3) := by decide +kernel
theorem dX4_init_4 : decode cX4_init 4 = .ok (.aload_n 0, 1) := by decide +kernel
theorem dX4_init_5 : decode cX4_init 5 = .ok (.new 9, 3) := by decide +kernel
theorem dX4_init_8 : decode cX4_init 8 = .ok (.dup, 1) := by decide +kernel
theorem dX4_init_9 : decode cX4_init 9 = .ok (.invokespecial 11, 3) := by decide +kernel
theorem dX4_init_12 : decode cX4_init 12 = .ok (.putfield 12, 3) := by decide +kernel
theorem dX4_init_15 : decode cX4_init 15 = .ok (.aload_n 0, 1) := by decide +kernel
theorem dX4_init_16 : decode cX4_init 16 = .ok (.new 18, 3) := by decide +kernel
theorem dX4_init_19 : decode cX4_init 19 = .ok (.dup, 1) := by decide +kernel
theorem dX4_init_20 : decode cX4_init 20 = .ok (.invokespecial 20, 3) := by decide +kernel
theorem dX4_init_23 : decode cX4_init 23 = .ok (.putfield 21, 3) := by decide +kernel
theorem dX4_init_26 : decode cX4_init 26 = .ok (.aload_n 0, 1) := by decide +kernel
theorem dX4_init_27 : decode cX4_init 27 = .ok (.aconst_null, 1) := by decide +kernel
theorem dX4_init_28 : decode cX4_init 28 = .ok (.putfield 25, 3) := by decide +kernel
theorem dX4_init_31 : decode cX4_init 31 = .ok (.aload_n 0, 1) := by decide +kernel
theorem dX4_init_32 : decode cX4_init 32 = .ok (.aconst_null, 1) := by decide +kernel
theorem dX4_init_33 : decode cX4_init 33 = .ok (.putfield 29, 3) := by decide +kernel
theorem dX4_init_36 : decode cX4_init 36 = .ok (.aload_n 0, 1) := by decide +kernel
theorem dX4_init_37 : decode cX4_init 37 = .ok (.ldc 32, 2) := by decide +kernel
theorem dX4_init_39 : decode cX4_init 39 = .ok (.putfield 33, 3) := by decide +kernel
theorem dX4_init_42 : decode cX4_init 42 = .ok (.return_, 1) := by decide +kernel
theorem dX4_find_0 : decode cX4_find 0 = .ok (.aload_n 0, 1) := by decide +kernel
theorem dX4_find_1 : decode cX4_find 1 = .ok (.aload_n 1, 1) := by decide +kernel
theorem dX4_find_2 : decode cX4_find 2 = .ok (.putfield 25, 3) := by decide +kernel
theorem dX4_find_5 : decode cX4_find 5 = .ok (.aload_n 0, 1) := by decide +kernel
theorem dX4_find_6 : decode cX4_find 6 = .ok (.aload_n 2, 1) := by decide +kernel
theorem dX4_find_7 : decode cX4_find 7 = .ok (.putfield 29, 3) := by decide +kernel
theorem dX4_find_10 : decode cX4_find 10 = .ok (.aload_n 0, 1) := by decide +kernel
theorem dX4_find_11 : decode cX4_find 11 = .ok (.ldc 32, 2) := by decide +kernel
theorem dX4_find_13 : decode cX4_find 13 = .ok (.putfield 33, 3) := by decide +kernel
theorem dX4_find_16 : decode cX4_find 16 = .ok (.aload_n 0, 1) := by decide +kernel
theorem dX4_find_17 : decode cX4_find 17 = .ok (.getfield 21, 3) := by decide +kernel
theorem dX4_find_20 : decode cX4_find 20 = .ok (.invokevirtual 37, 3) := by decide +kernel
theorem dX4_find_23 : decode cX4_find 23 = .ok (.aload_n 0, 1) := by decide +kernel
theorem dX4_find_24 : decode cX4_find 24 = .ok (.getfield 25, 3) := by decide +kernel
theorem dX4_find_27 : decode cX4_find 27 = .ok (.aload_n 0, 1) := by decide +kernel
theorem dX4_find_28 : decode cX4_find 28 = .ok (.getfield 21, 3) := by decide +kernel
theorem dX4_find_31 : decode cX4_find 31 = .ok (.invokevirtual 40, 3) := by decide +kernel
theorem dX4_find_34 : decode cX4_find 34 = .ok (.pop, 1) := by decide +kernel
theorem dX4_find_35 : decode cX4_find 35 = .ok (.aload_n 0, 1) := by decide +kernel
theorem dX4_find_36 : decode cX4_find 36 = .ok (.getfield 29, 3) := by decide +kernel
theorem dX4_find_39 : decode cX4_find 39 = .ok (.aload_n 0, 1) := by decide +kernel
theorem dX4_find_40 : decode cX4_find 40 = .ok (.getfield 21, 3) := by decide +kernel
theorem dX4_find_43 : decode cX4_find 43 = .ok (.invokevirtual 40, 3) := by decide +kernel
theorem dX4_find_46 : decode cX4_find 46 = .ok (.pop, 1) := by decide +kernel
theorem dX4_find_47 : decode cX4_find 47 = .ok (.aload_n 0, 1) := by decide +kernel
theorem dX4_find_48 : decode cX4_find 48 = .ok (.iconst 0, 1) := by decide +kernel
theorem dX4_find_49 : decode cX4_find 49 = .ok (.invokevirtual 46, 3) := by decide +kernel
theorem dX4_find_52 : decode cX4_find 52 = .ok (.iconst 1, 1) := by decide +kernel
theorem dX4_find_53 : decode cX4_find 53 = .ok (.istore_n 3, 1) := by decide +kernel
theorem dX4_find_54 : decode cX4_find 54 = .ok (.aload_n 0, 1) := by decide +kernel
theorem dX4_find_55 : decode cX4_find 55 = .ok (.getfield 33, 3) := by decide +kernel
theorem dX4_find_58 : decode cX4_find 58 = .ok (.ldc 32, 2) := by decide +kernel
theorem dX4_find_60 : decode cX4_find 60 = .ok (.if_icmp .ne 20, 3) := by decide +kernel
theorem dX4_find_63 : decode cX4_find 63 = .ok (.iload_n 3, 1) := by decide +kernel
theorem dX4_find_64 : decode cX4_find 64 = .ok (.bipush 6, 2) := by decide +kernel
theorem dX4_find_66 : decode cX4_find 66 = .ok (.if_icmp .ge 14, 3) := by decide +kernel
theorem dX4_find_69 : decode cX4_find 69 = .ok (.iinc 3 1, 3) := by decide +kernel
theorem dX4_find_72 : decode cX4_find 72 = .ok (.aload_n 0, 1) := by decide +kernel
theorem dX4_find_73 : decode cX4_find 73 = .ok (.iload_n 3, 1) := by decide +kernel
theorem dX4_find_74 : decode cX4_find 74 = .ok (.invokevirtual 50, 3) := by decide +kernel
theorem dX4_find_77 : decode cX4_find 77 = .ok (.goto (-23), 3) := by decide +kernel
theorem dX4_find_80 : decode cX4_find 80 = .ok (.aload_n 0, 1) := by decide +kernel
theorem dX4_find_81 : decode cX4_find 81 = .ok (.getfield 33, 3) := by decide +kernel
theorem dX4_find_84 : decode cX4_find 84 = .ok (.ldc 32, 2) := by decide +kernel
theorem dX4_find_86 : decode cX4_find 86 = .ok (.if_icmp .ne 7, 3) := by decide +kernel
theorem dX4_find_89 : decode cX4_find 89 = .ok (.iconst 0, 1) := by decide +kernel
theorem dX4_find_90 : decode cX4_find 90 = .ok (.goto 4, 3) := by decide +kernel
theorem dX4_find_93 : decode cX4_find 93 = .ok (.iload_n 3, 1) := by decide +kernel
theorem dX4_find_94 : decode cX4_find 94 = .ok (.ireturn, 1) := by decide +kernel
theorem dX4_trySize_0 : decode cX4_trySize 0 = .ok (.aload_n 0, 1) := by decide +kernel
theorem dX4_trySize_1 : decode cX4_trySize 1 = .ok (.getfield 25, 3) := by decide +kernel
theorem dX4_trySize_4 : decode cX4_trySize 4 = .ok (.getfield 54, 3) := by decide +kernel
theorem dX4_trySize_7 : decode cX4_trySize 7 = .ok (.getfield 58, 3) := by decide +kernel
theorem dX4_trySize_10 : decode cX4_trySize 10 = .ok (.aload_n 0, 1) := by decide +kernel
theorem dX4_trySize_11 : decode cX4_trySize 11 = .ok (.getfield 29, 3) := by decide +kernel
theorem dX4_trySize_14 : decode cX4_trySize 14 = .ok (.getfield 54, 3) := by decide +kernel
theorem dX4_trySize_17 : decode cX4_trySize 17 = .ok (.getfield 58, 3) := by decide +kernel
theorem dX4_trySize_20 : decode cX4_trySize 20 = .ok (.ior, 1) := by decide +kernel
theorem dX4_trySize_21 : decode cX4_trySize 21 = .ok (.istore_n 2, 1) := by decide +kernel
theorem dX4_trySize_22 : decode cX4_trySize 22 = .ok (.iconst (-1), 1) := by decide +kernel
theorem dX4_trySize_23 : decode cX4_trySize 23 = .ok (.istore_n 3, 1) := by decide +kernel
theorem dX4_trySize_24 : decode cX4_trySize 24 = .ok (.iload_n 3, 1) := by decide +kernel
theorem dX4_trySize_25 : decode cX4_trySize 25 = .ok (.iconst 5, 1) := by decide +kernel
theorem dX4_trySize_26 : decode cX4_trySize 26 = .ok (.if_icmp .ge 205, 3) := by decide +kernel
theorem dX4_trySize_29 : decode cX4_trySize 29 = .ok (.getstatic 63, 3) := by decide +kernel
theorem dX4_trySize_32 : decode cX4_trySize 32 = .ok (.astore 4, 2) := by decide +kernel
theorem dX4_trySize_34 : decode cX4_trySize 34 = .ok (.aload 4, 2) := by decide +kernel
theorem dX4_trySize_36 : decode cX4_trySize 36 = .ok (.arraylength, 1) := by decide +kernel
theorem dX4_trySize_37 : decode cX4_trySize 37 = .ok (.istore 5, 2) := by decide +kernel
theorem dX4_trySize_39 : decode cX4_trySize 39 = .ok (.iconst 0, 1) := by decide +kernel
theorem dX4_trySize_40 : decode cX4_trySize 40 = .ok (.istore 6, 2) := by decide +kernel
theorem dX4_trySize_42 : decode cX4_trySize 42 = .ok (.iload 6, 2) := by decide +kernel
theorem dX4_trySize_44 : decode cX4_trySize 44 = .ok (.iload 5, 2) := by decide +kernel
theorem dX4_trySize_46 : decode cX4_trySize 46 = .ok (.if_icmp .ge 179, 3) := by decide +kernel
theorem dX4_trySize_49 : decode cX4_trySize 49 = .ok (.aload 4, 2) := by decide +kernel
theorem dX4_trySize_51 : decode cX4_trySize 51 = .ok (.iload 6, 2) := by decide +kernel
theorem dX4_trySize_53 : decode cX4_trySize 53 = .ok (.iaload, 1) := by decide +kernel
theorem dX4_trySize_54 : decode cX4_trySize 54 = .ok (.istore 7, 2) := by decide +kernel
theorem dX4_trySize_56 : decode cX4_trySize 56 = .ok (.iload_n 1, 1) := by decide +kernel
theorem dX4_trySize_57 : decode cX4_trySize 57 = .ok (.iconst 2, 1) := by decide +kernel
theorem dX4_trySize_58 : decode cX4_trySize 58 = .ok (.isub, 1) := by decide +kernel
theorem dX4_trySize_59 : decode cX4_trySize 59 = .ok (.iload_n 3, 1) := by decide +kernel
theorem dX4_trySize_60 : decode cX4_trySize 60 = .ok (.iconst (-1), 1) := by decide +kernel
theorem dX4_trySize_61 : decode cX4_trySize 61 = .ok (.if_icmp .ne 7, 3) := by decide +kernel
theorem dX4_trySize_64 : decode cX4_trySize 64 = .ok (.iconst 0, 1) := by decide +kernel
theorem dX4_trySize_65 : decode cX4_trySize 65 = .ok (.goto 4, 3) := by decide +kernel
theorem dX4_trySize_68 : decode cX4_trySize 68 = .ok (.iconst 1, 1) := by decide +kernel
theorem dX4_trySize_69 : decode cX4_trySize 69 = .ok (.isub, 1) := by decide +kernel
theorem dX4_trySize_70 : decode cX4_trySize 70 = .ok (.iload 7, 2) := by decide +kernel
theorem dX4_trySize_72 : decode cX4_trySize 72 = .ok (.invokestatic 67, 3) := by decide +kernel
theorem dX4_trySize_75 : decode cX4_trySize 75 = .ok (.isub, 1) := by decide +kernel
theorem dX4_trySize_76 : decode cX4_trySize 76 = .ok (.istore 8, 2) := by decide +kernel
theorem dX4_trySize_78 : decode cX4_trySize 78 = .ok (.iload 8, 2) := by decide +kernel
theorem dX4_trySize_80 : decode cX4_trySize 80 = .ok (.ifCond .lt 139, 3) := by decide +kernel
theorem dX4_trySize_83 : decode cX4_trySize 83 = .ok (.iload 8, 2) := by decide +kernel
theorem dX4_trySize_85 : decode cX4_trySize 85 = .ok (.iconst 1, 1) := by decide +kernel
theorem dX4_trySize_86 : decode cX4_trySize 86 = .ok (.if_icmp .gt 133, 3) := by decide +kernel
theorem dX4_trySize_89 : decode cX4_trySize 89 = .ok (.aload_n 0, 1) := by decide +kernel
theorem dX4_trySize_90 : decode cX4_trySize 90 = .ok (.getfield 25, 3) := by decide +kernel
theorem dX4_trySize_93 : decode cX4_trySize 93 = .ok (.iload_n 3, 1) := by decide +kernel
theorem dX4_trySize_94 : decode cX4_trySize 94 = .ok (.iload 7, 2) := by decide +kernel
theorem dX4_trySize_96 : decode cX4_trySize 96 = .ok (.invokevirtual 73, 3) := by decide +kernel
theorem dX4_trySize_99 : decode cX4_trySize 99 = .ok (.ifCond .ne 6, 3) := by decide +kernel
theorem dX4_trySize_102 : decode cX4_trySize 102 = .ok (.goto 117, 3) := by decide +kernel
theorem dX4_trySize_105 : decode cX4_trySize 105 = .ok (.iload 8, 2) := by decide +kernel
theorem dX4_trySize_107 : decode cX4_trySize 107 = .ok (.ifCond .ne 7, 3) := by decide +kernel
theorem dX4_trySize_110 : decode cX4_trySize 110 = .ok (.iconst (-1), 1) := by decide +kernel
theorem dX4_trySize_111 : decode cX4_trySize 111 = .ok (.goto 4, 3) := by decide +kernel
theorem dX4_trySize_114 : decode cX4_trySize 114 = .ok (.iconst 0, 1) := by decide +kernel
theorem dX4_trySize_115 : decode cX4_trySize 115 = .ok (.istore 9, 2) := by decide +kernel
theorem dX4_trySize_117 : decode cX4_trySize 117 = .ok (.iload 9, 2) := by decide +kernel
theorem dX4_trySize_119 : decode cX4_trySize 119 = .ok (.iload 8, 2) := by decide +kernel
theorem dX4_trySize_121 : decode cX4_trySize 121 = .ok (.ifCond .ne 7, 3) := by decide +kernel
theorem dX4_trySize_124 : decode cX4_trySize 124 = .ok (.iconst 0, 1) := by decide +kernel
theorem dX4_trySize_125 : decode cX4_trySize 125 = .ok (.goto 5, 3) := by decide +kernel
theorem dX4_trySize_128 : decode cX4_trySize 128 = .ok (.bipush 6, 2) := by decide +kernel
theorem dX4_trySize_130 : decode cX4_trySize 130 = .ok (.if_icmp .ge 89, 3) := by decide +kernel
theorem dX4_trySize_133 : decode cX4_trySize 133 = .ok (.aload_n 0, 1) := by decide +kernel
theorem dX4_trySize_134 : decode cX4_trySize 134 = .ok (.getfield 21, 3) := by decide +kernel
theorem dX4_trySize_137 : decode cX4_trySize 137 = .ok (.iload_n 3, 1) := by decide +kernel
theorem dX4_trySize_138 : decode cX4_trySize 138 = .ok (.iload 7, 2) := by decide +kernel
theorem dX4_trySize_140 : decode cX4_trySize 140 = .ok (.iload 9, 2) := by decide +kernel
theorem dX4_trySize_142 : decode cX4_trySize 142 = .ok (.invokevirtual 77, 3) := by decide +kernel
theorem dX4_trySize_145 : decode cX4_trySize 145 = .ok (.iload 9, 2) := by decide +kernel
theorem dX4_trySize_147 : decode cX4_trySize 147 = .ok (.iconst (-1), 1) := by decide +kernel
theorem dX4_trySize_148 : decode cX4_trySize 148 = .ok (.if_icmp .eq 12, 3) := by decide +kernel
theorem dX4_trySize_151 : decode cX4_trySize 151 = .ok (.iload_n 2, 1) := by decide +kernel
theorem dX4_trySize_152 : decode cX4_trySize 152 = .ok (.iload 9, 2) := by decide +kernel
theorem dX4_trySize_154 : decode cX4_trySize 154 = .ok (.invokestatic 81, 3) := by decide +kernel
theorem dX4_trySize_157 : decode cX4_trySize 157 = .ok (.ifCond .eq 7, 3) := by decide +kernel
theorem dX4_trySize_160 : decode cX4_trySize 160 = .ok (.iconst 1, 1) := by decide +kernel
theorem dX4_trySize_161 : decode cX4_trySize 161 = .ok (.goto 4, 3) := by decide +kernel
theorem dX4_trySize_164 : decode cX4_trySize 164 = .ok (.iconst 0, 1) := by decide +kernel
theorem dX4_trySize_165 : decode cX4_trySize 165 = .ok (.istore 10, 2) := by decide +kernel
theorem dX4_trySize_167 : decode cX4_trySize 167 = .ok (.iload 10, 2) := by decide +kernel
theorem dX4_trySize_169 : decode cX4_trySize 169 = .ok (.ifCond .eq 44, 3) := by decide +kernel
theorem dX4_trySize_172 : decode cX4_trySize 172 = .ok (.aload_n 0, 1) := by decide +kernel
theorem dX4_trySize_173 : decode cX4_trySize 173 = .ok (.getfield 25, 3) := by decide +kernel
theorem dX4_trySize_176 : decode cX4_trySize 176 = .ok (.aload_n 0, 1) := by decide +kernel
theorem dX4_trySize_177 : decode cX4_trySize 177 = .ok (.getfield 21, 3) := by decide +kernel
theorem dX4_trySize_180 : decode cX4_trySize 180 = .ok (.invokevirtual 40, 3) := by decide +kernel
theorem dX4_trySize_183 : decode cX4_trySize 183 = .ok (.bipush 45, 2) := by decide +kernel
theorem dX4_trySize_185 : decode cX4_trySize 185 = .ok (.if_icmp .ne 28, 3) := by decide +kernel
theorem dX4_trySize_188 : decode cX4_trySize 188 = .ok (.aload_n 0, 1) := by decide +kernel
theorem dX4_trySize_189 : decode cX4_trySize 189 = .ok (.aload_n 0, 1) := by decide +kernel
theorem dX4_trySize_190 : decode cX4_trySize 190 = .ok (.getfield 29, 3) := by decide +kernel
theorem dX4_trySize_193 : decode cX4_trySize 193 = .ok (.aload_n 0, 1) := by decide +kernel
theorem dX4_trySize_194 : decode cX4_trySize 194 = .ok (.getfield 21, 3) := by decide +kernel
theorem dX4_trySize_197 : decode cX4_trySize 197 = .ok (.invokevirtual 40, 3) := by decide +kernel
theorem dX4_trySize_200 : decode cX4_trySize 200 = .ok (.bipush 45, 2) := by decide +kernel
theorem dX4_trySize_202 : decode cX4_trySize 202 = .ok (.if_icmp .eq 7, 3) := by decide +kernel
theorem dX4_trySize_205 : decode cX4_trySize 205 = .ok (.iconst 1, 1) := by decide +kernel
theorem dX4_trySize_206 : decode cX4_trySize 206 = .ok (.goto 4, 3) := by decide +kernel
theorem dX4_trySize_209 : decode cX4_trySize 209 = .ok (.iconst 0, 1) := by decide +kernel
theorem dX4_trySize_210 : decode cX4_trySize 210 = .ok (.invokevirtual 46, 3) := by decide +kernel
theorem dX4_trySize_213 : decode cX4_trySize 213 = .ok (.iinc 9 1, 3) := by decide +kernel
theorem dX4_trySize_216 : decode cX4_trySize 216 = .ok (.goto (-99), 3) := by decide +kernel
theorem dX4_trySize_219 : decode cX4_trySize 219 = .ok (.iinc 6 1, 3) := by decide +kernel
theorem dX4_trySize_222 : decode cX4_trySize 222 = .ok (.goto (-180), 3) := by decide +kernel
theorem dX4_trySize_225 : decode cX4_trySize 225 = .ok (.iinc 3 1, 3) := by decide +kernel
theorem dX4_trySize_228 : decode cX4_trySize 228 = .ok (.goto (-204), 3) := by decide +kernel
theorem dX4_trySize_231 : decode cX4_trySize 231 = .ok (.return_, 1) := by decide +kernel
theorem dX4_tryActs_0 : decode cX4_tryActs 0 = .ok (.aload_n 0, 1) := by decide +kernel
theorem dX4_tryActs_1 : decode cX4_tryActs 1 = .ok (.getfield 21, 3) := by decide +kernel
theorem dX4_tryActs_4 : decode cX4_tryActs 4 = .ok (.getfield 84, 3) := by decide +kernel
theorem dX4_tryActs_7 : decode cX4_tryActs 7 = .ok (.ifCond .eq 7, 3) := by decide +kernel
theorem dX4_tryActs_10 : decode cX4_tryActs 10 = .ok (.iconst 5, 1) := by decide +kernel
theorem dX4_tryActs_11 : decode cX4_tryActs 11 = .ok (.goto 4, 3) := by decide +kernel
theorem dX4_tryActs_14 : decode cX4_tryActs 14 = .ok (.iconst 4, 1) := by decide +kernel
theorem dX4_tryActs_15 : decode cX4_tryActs 15 = .ok (.istore_n 2, 1) := by decide +kernel
theorem dX4_tryActs_16 : decode cX4_tryActs 16 = .ok (.aload_n 0, 1) := by decide +kernel
theorem dX4_tryActs_17 : decode cX4_tryActs 17 = .ok (.getfield 21, 3) := by decide +kernel
theorem dX4_tryActs_20 : decode cX4_tryActs 20 = .ok (.getfield 84, 3) := by decide +kernel
theorem dX4_tryActs_23 : decode cX4_tryActs 23 = .ok (.ifCond .eq 11, 3) := by decide +kernel
theorem dX4_tryActs_26 : decode cX4_tryActs 26 = .ok (.iload_n 1, 1) := by decide +kernel
theorem dX4_tryActs_27 : decode cX4_tryActs 27 = .ok (.ifCond .ne 7, 3) := by decide +kernel
theorem dX4_tryActs_30 : decode cX4_tryActs 30 = .ok (.iconst 5, 1) := by decide +kernel
theorem dX4_tryActs_31 : decode cX4_tryActs 31 = .ok (.goto 4, 3) := by decide +kernel
theorem dX4_tryActs_34 : decode cX4_tryActs 34 = .ok (.iconst 0, 1) := by decide +kernel
theorem dX4_tryActs_35 : decode cX4_tryActs 35 = .ok (.istore_n 3, 1) := by decide +kernel
theorem dX4_tryActs_36 : decode cX4_tryActs 36 = .ok (.iconst 0, 1) := by decide +kernel
theorem dX4_tryActs_37 : decode cX4_tryActs 37 = .ok (.istore 4, 2) := by decide +kernel
theorem dX4_tryActs_39 : decode cX4_tryActs 39 = .ok (.iload 4, 2) := by decide +kernel
theorem dX4_tryActs_41 : decode cX4_tryActs 41 = .ok (.getstatic 88, 3) := by decide +kernel
theorem dX4_tryActs_44 : decode cX4_tryActs 44 = .ok (.arraylength, 1) := by decide +kernel
theorem dX4_tryActs_45 : decode cX4_tryActs 45 = .ok (.if_icmp .ge 275, 3) := by decide +kernel
theorem dX4_tryActs_48 : decode cX4_tryActs 48 = .ok (.aload_n 0, 1) := by decide +kernel
theorem dX4_tryActs_49 : decode cX4_tryActs 49 = .ok (.iload 4, 2) := by decide +kernel
theorem dX4_tryActs_51 : decode cX4_tryActs 51 = .ok (.iload_n 1, 1) := by decide +kernel
theorem dX4_tryActs_52 : decode cX4_tryActs 52 = .ok (.invokevirtual 92, 3) := by decide +kernel
theorem dX4_tryActs_55 : decode cX4_tryActs 55 = .ok (.istore 5, 2) := by decide +kernel
theorem dX4_tryActs_57 : decode cX4_tryActs 57 = .ok (.iload 5, 2) := by decide +kernel
theorem dX4_tryActs_59 : decode cX4_tryActs 59 = .ok (.ifCond .ne 14, 3) := by decide +kernel
theorem dX4_tryActs_62 : decode cX4_tryActs 62 = .ok (.iload 4, 2) := by decide +kernel
theorem dX4_tryActs_64 : decode cX4_tryActs 64 = .ok (.invokestatic 96, 3) := by decide +kernel
theorem dX4_tryActs_67 : decode cX4_tryActs 67 = .ok (.ifCond .eq 6, 3) := by decide +kernel
theorem dX4_tryActs_70 : decode cX4_tryActs 70 = .ok (.goto 244, 3) := by decide +kernel
theorem dX4_tryActs_73 : decode cX4_tryActs 73 = .ok (.iload 4, 2) := by decide +kernel
theorem dX4_tryActs_75 : decode cX4_tryActs 75 = .ok (.invokestatic 100, 3) := by decide +kernel
theorem dX4_tryActs_78 : decode cX4_tryActs 78 = .ok (.ifCond .eq 7, 3) := by decide +kernel
theorem dX4_tryActs_81 : decode cX4_tryActs 81 = .ok (.iload_n 2, 1) := by decide +kernel
theorem dX4_tryActs_82 : decode cX4_tryActs 82 = .ok (.goto 4, 3) := by decide +kernel
theorem dX4_tryActs_85 : decode cX4_tryActs 85 = .ok (.iconst (-1), 1) := by decide +kernel
theorem dX4_tryActs_86 : decode cX4_tryActs 86 = .ok (.istore 6, 2) := by decide +kernel
theorem dX4_tryActs_88 : decode cX4_tryActs 88 = .ok (.iload 4, 2) := by decide +kernel
theorem dX4_tryActs_90 : decode cX4_tryActs 90 = .ok (.invokestatic 96, 3) := by decide +kernel
theorem dX4_tryActs_93 : decode cX4_tryActs 93 = .ok (.ifCond .eq 7, 3) := by decide +kernel
theorem dX4_tryActs_96 : decode cX4_tryActs 96 = .ok (.iconst 5, 1) := by decide +kernel
theorem dX4_tryActs_97 : decode cX4_tryActs 97 = .ok (.goto 4, 3) := by decide +kernel
theorem dX4_tryActs_100 : decode cX4_tryActs 100 = .ok (.iconst (-1), 1) := by decide +kernel
theorem dX4_tryActs_101 : decode cX4_tryActs 101 = .ok (.istore 7, 2) := by decide +kernel
theorem dX4_tryActs_103 : decode cX4_tryActs 103 = .ok (.iload 4, 2) := by decide +kernel
theorem dX4_tryActs_105 : decode cX4_tryActs 105 = .ok (.invokestatic 103, 3) := by decide +kernel
theorem dX4_tryActs_108 : decode cX4_tryActs 108 = .ok (.ifCond .eq 7, 3) := by decide +kernel
theorem dX4_tryActs_111 : decode cX4_tryActs 111 = .ok (.iload_n 2, 1) := by decide +kernel
theorem dX4_tryActs_112 : decode cX4_tryActs 112 = .ok (.goto 4, 3) := by decide +kernel
theorem dX4_tryActs_115 : decode cX4_tryActs 115 = .ok (.iconst (-1), 1) := by decide +kernel
theorem dX4_tryActs_116 : decode cX4_tryActs 116 = .ok (.istore 8, 2) := by decide +kernel
theorem dX4_tryActs_118 : decode cX4_tryActs 118 = .ok (.iload 4, 2) := by decide +kernel
theorem dX4_tryActs_120 : decode cX4_tryActs 120 = .ok (.invokestatic 100, 3) := by decide +kernel
theorem dX4_tryActs_123 : decode cX4_tryActs 123 = .ok (.ifCond .eq 7, 3) := by decide +kernel
theorem dX4_tryActs_126 : decode cX4_tryActs 126 = .ok (.iconst 0, 1) := by decide +kernel
theorem dX4_tryActs_127 : decode cX4_tryActs 127 = .ok (.goto 4, 3) := by decide +kernel
theorem dX4_tryActs_130 : decode cX4_tryActs 130 = .ok (.iconst (-1), 1) := by decide +kernel
theorem dX4_tryActs_131 : decode cX4_tryActs 131 = .ok (.istore 9, 2) := by decide +kernel
theorem dX4_tryActs_133 : decode cX4_tryActs 133 = .ok (.iload 9, 2) := by decide +kernel
theorem dX4_tryActs_135 : decode cX4_tryActs 135 = .ok (.iload 6, 2) := by decide +kernel
theorem dX4_tryActs_137 : decode cX4_tryActs 137 = .ok (.if_icmp .gt 177, 3) := by decide +kernel
theorem dX4_tryActs_140 : decode cX4_tryActs 140 = .ok (.iload 4, 2) := by decide +kernel
theorem dX4_tryActs_142 : decode cX4_tryActs 142 = .ok (.invokestatic 96, 3) := by decide +kernel
theorem dX4_tryActs_145 : decode cX4_tryActs 145 = .ok (.ifCond .eq 7, 3) := by decide +kernel
theorem dX4_tryActs_148 : decode cX4_tryActs 148 = .ok (.iconst 0, 1) := by decide +kernel
theorem dX4_tryActs_149 : decode cX4_tryActs 149 = .ok (.goto 4, 3) := by decide +kernel
theorem dX4_tryActs_152 : decode cX4_tryActs 152 = .ok (.iconst (-1), 1) := by decide +kernel
theorem dX4_tryActs_153 : decode cX4_tryActs 153 = .ok (.istore 10, 2) := by decide +kernel
theorem dX4_tryActs_155 : decode cX4_tryActs 155 = .ok (.iload 10, 2) := by decide +kernel
theorem dX4_tryActs_157 : decode cX4_tryActs 157 = .ok (.iload 7, 2) := by decide +kernel
theorem dX4_tryActs_159 : decode cX4_tryActs 159 = .ok (.if_icmp .gt 149, 3) := by decide +kernel
theorem dX4_tryActs_162 : decode cX4_tryActs 162 = .ok (.iload 10, 2) := by decide +kernel
theorem dX4_tryActs_164 : decode cX4_tryActs 164 = .ok (.iconst (-1), 1) := by decide +kernel
theorem dX4_tryActs_165 : decode cX4_tryActs 165 = .ok (.if_icmp .eq 16, 3) := by decide +kernel
theorem dX4_tryActs_168 : decode cX4_tryActs 168 = .ok (.iload 5, 2) := by decide +kernel
theorem dX4_tryActs_170 : decode cX4_tryActs 170 = .ok (.iload 10, 2) := by decide +kernel
theorem dX4_tryActs_172 : decode cX4_tryActs 172 = .ok (.invokestatic 81, 3) := by decide +kernel
theorem dX4_tryActs_175 : decode cX4_tryActs 175 = .ok (.ifCond .ne 6, 3) := by decide +kernel
theorem dX4_tryActs_178 : decode cX4_tryActs 178 = .ok (.goto 124, 3) := by decide +kernel
theorem dX4_tryActs_181 : decode cX4_tryActs 181 = .ok (.iload 4, 2) := by decide +kernel
theorem dX4_tryActs_183 : decode cX4_tryActs 183 = .ok (.invokestatic 103, 3) := by decide +kernel
theorem dX4_tryActs_186 : decode cX4_tryActs 186 = .ok (.ifCond .eq 7, 3) := by decide +kernel
theorem dX4_tryActs_189 : decode cX4_tryActs 189 = .ok (.iload_n 3, 1) := by decide +kernel
theorem dX4_tryActs_190 : decode cX4_tryActs 190 = .ok (.goto 4, 3) := by decide +kernel
theorem dX4_tryActs_193 : decode cX4_tryActs 193 = .ok (.iconst (-1), 1) := by decide +kernel
theorem dX4_tryActs_194 : decode cX4_tryActs 194 = .ok (.istore 11, 2) := by decide +kernel
theorem dX4_tryActs_196 : decode cX4_tryActs 196 = .ok (.iload 11, 2) := by decide +kernel
theorem dX4_tryActs_198 : decode cX4_tryActs 198 = .ok (.iload 8, 2) := by decide +kernel
theorem dX4_tryActs_200 : decode cX4_tryActs 200 = .ok (.if_icmp .gt 102, 3) := by decide +kernel
theorem dX4_tryActs_203 : decode cX4_tryActs 203 = .ok (.iload 4, 2) := by decide +kernel
theorem dX4_tryActs_205 : decode cX4_tryActs 205 = .ok (.bipush 7, 2) := by decide +kernel
theorem dX4_tryActs_207 : decode cX4_tryActs 207 = .ok (.imul, 1) := by decide +kernel
theorem dX4_tryActs_208 : decode cX4_tryActs 208 = .ok (.iload 9, 2) := by decide +kernel
theorem dX4_tryActs_210 : decode cX4_tryActs 210 = .ok (.iadd, 1) := by decide +kernel
theorem dX4_tryActs_211 : decode cX4_tryActs 211 = .ok (.iconst 1, 1) := by decide +kernel
theorem dX4_tryActs_212 : decode cX4_tryActs 212 = .ok (.iadd, 1) := by decide +kernel
theorem dX4_tryActs_213 : decode cX4_tryActs 213 = .ok (.bipush 7, 2) := by decide +kernel
theorem dX4_tryActs_215 : decode cX4_tryActs 215 = .ok (.imul, 1) := by decide +kernel
theorem dX4_tryActs_216 : decode cX4_tryActs 216 = .ok (.iload 10, 2) := by decide +kernel
theorem dX4_tryActs_218 : decode cX4_tryActs 218 = .ok (.iadd, 1) := by decide +kernel
theorem dX4_tryActs_219 : decode cX4_tryActs 219 = .ok (.iconst 1, 1) := by decide +kernel
theorem dX4_tryActs_220 : decode cX4_tryActs 220 = .ok (.iadd, 1) := by decide +kernel
theorem dX4_tryActs_221 : decode cX4_tryActs 221 = .ok (.bipush 7, 2) := by decide +kernel
theorem dX4_tryActs_223 : decode cX4_tryActs 223 = .ok (.imul, 1) := by decide +kernel
theorem dX4_tryActs_224 : decode cX4_tryActs 224 = .ok (.iload 11, 2) := by decide +kernel
theorem dX4_tryActs_226 : decode cX4_tryActs 226 = .ok (.iadd, 1) := by decide +kernel
theorem dX4_tryActs_227 : decode cX4_tryActs 227 = .ok (.iconst 1, 1) := by decide +kernel
theorem dX4_tryActs_228 : decode cX4_tryActs 228 = .ok (.iadd, 1) := by decide +kernel
theorem dX4_tryActs_229 : decode cX4_tryActs 229 = .ok (.istore 12, 2) := by decide +kernel
theorem dX4_tryActs_231 : decode cX4_tryActs 231 = .ok (.iload 12, 2) := by decide +kernel
theorem dX4_tryActs_233 : decode cX4_tryActs 233 = .ok (.aload_n 0, 1) := by decide +kernel
theorem dX4_tryActs_234 : decode cX4_tryActs 234 = .ok (.getfield 33, 3) := by decide +kernel
theorem dX4_tryActs_237 : decode cX4_tryActs 237 = .ok (.if_icmp .lt 4, 3) := by decide +kernel
theorem dX4_tryActs_240 : decode cX4_tryActs 240 = .ok (.return_, 1) := by decide +kernel
theorem dX4_tryActs_241 : decode cX4_tryActs 241 = .ok (.aload_n 0, 1) := by decide +kernel
theorem dX4_tryActs_242 : decode cX4_tryActs 242 = .ok (.getfield 25, 3) := by decide +kernel
theorem dX4_tryActs_245 : decode cX4_tryActs 245 = .ok (.iload 4, 2) := by decide +kernel
theorem dX4_tryActs_247 : decode cX4_tryActs 247 = .ok (.iload 9, 2) := by decide +kernel
theorem dX4_tryActs_249 : decode cX4_tryActs 249 = .ok (.iload 10, 2) := by decide +kernel
theorem dX4_tryActs_251 : decode cX4_tryActs 251 = .ok (.iload 11, 2) := by decide +kernel
theorem dX4_tryActs_253 : decode cX4_tryActs 253 = .ok (.invokevirtual 106, 3) := by decide +kernel
theorem dX4_tryActs_256 : decode cX4_tryActs 256 = .ok (.ifCond .lt 40, 3) := by decide +kernel
theorem dX4_tryActs_259 : decode cX4_tryActs 259 = .ok (.iload_n 1, 1) := by decide +kernel
theorem dX4_tryActs_260 : decode cX4_tryActs 260 = .ok (.ifCond .ne 21, 3) := by decide +kernel
theorem dX4_tryActs_263 : decode cX4_tryActs 263 = .ok (.aload_n 0, 1) := by decide +kernel
theorem dX4_tryActs_264 : decode cX4_tryActs 264 = .ok (.getfield 29, 3) := by decide +kernel
theorem dX4_tryActs_267 : decode cX4_tryActs 267 = .ok (.iload 4, 2) := by decide +kernel
theorem dX4_tryActs_269 : decode cX4_tryActs 269 = .ok (.iload 9, 2) := by decide +kernel
theorem dX4_tryActs_271 : decode cX4_tryActs 271 = .ok (.iload 10, 2) := by decide +kernel
theorem dX4_tryActs_273 : decode cX4_tryActs 273 = .ok (.iload 11, 2) := by decide +kernel
theorem dX4_tryActs_275 : decode cX4_tryActs 275 = .ok (.invokevirtual 106, 3) := by decide +kernel
theorem dX4_tryActs_278 : decode cX4_tryActs 278 = .ok (.ifCond .ge 18, 3) := by decide +kernel
theorem dX4_tryActs_281 : decode cX4_tryActs 281 = .ok (.aload_n 0, 1) := by decide +kernel
theorem dX4_tryActs_282 : decode cX4_tryActs 282 = .ok (.iload 12, 2) := by decide +kernel
theorem dX4_tryActs_284 : decode cX4_tryActs 284 = .ok (.iload 4, 2) := by decide +kernel
theorem dX4_tryActs_286 : decode cX4_tryActs 286 = .ok (.iload 9, 2) := by decide +kernel
theorem dX4_tryActs_288 : decode cX4_tryActs 288 = .ok (.iload 10, 2) := by decide +kernel
theorem dX4_tryActs_290 : decode cX4_tryActs 290 = .ok (.iload 11, 2) := by decide +kernel
theorem dX4_tryActs_292 : decode cX4_tryActs 292 = .ok (.invokevirtual 110, 3) := by decide +kernel
theorem dX4_tryActs_295 : decode cX4_tryActs 295 = .ok (.return_, 1) := by decide +kernel
theorem dX4_tryActs_296 : decode cX4_tryActs 296 = .ok (.iinc 11 1, 3) := by decide +kernel
theorem dX4_tryActs_299 : decode cX4_tryActs 299 = .ok (.goto (-103), 3) := by decide +kernel
theorem dX4_tryActs_302 : decode cX4_tryActs 302 = .ok (.iinc 10 1, 3) := by decide +kernel
theorem dX4_tryActs_305 : decode cX4_tryActs 305 = .ok (.goto (-150), 3) := by decide +kernel
theorem dX4_tryActs_308 : decode cX4_tryActs 308 = .ok (.iinc 9 1, 3) := by decide +kernel
theorem dX4_tryActs_311 : decode cX4_tryActs 311 = .ok (.goto (-178), 3) := by decide +kernel
theorem dX4_tryActs_314 : decode cX4_tryActs 314 = .ok (.iinc 4 1, 3) := by decide +kernel
theorem dX4_tryActs_317 : decode cX4_tryActs 317 = .ok (.goto (-278), 3) := by decide +kernel
theorem dX4_tryActs_320 : decode cX4_tryActs 320 = .ok (.return_, 1) := by decide +kernel
theorem dX4_worthTrying_0 : decode cX4_worthTrying 0 = .ok (.aload_n 0, 1) := by decide +kernel
theorem dX4_worthTrying_1 : decode cX4_worthTrying 1 = .ok (.getfield 25, 3) := by decide +kernel
theorem dX4_worthTrying_4 : decode cX4_worthTrying 4 = .ok (.getfield 54, 3) := by decide +kernel
theorem dX4_worthTrying_7 : decode cX4_worthTrying 7 = .ok (.getfield 114, 3) := by decide +kernel
theorem dX4_worthTrying_10 : decode cX4_worthTrying 10 = .ok (.iload_n 1, 1) := by decide +kernel
theorem dX4_worthTrying_11 : decode cX4_worthTrying 11 = .ok (.iaload, 1) := by decide +kernel
theorem dX4_worthTrying_12 : decode cX4_worthTrying 12 = .ok (.istore_n 3, 1) := by decide +kernel
theorem dX4_worthTrying_13 : decode cX4_worthTrying 13 = .ok (.iload_n 1, 1) := by decide +kernel
theorem dX4_worthTrying_14 : decode cX4_worthTrying 14 = .ok (.iconst 4, 1) := by decide +kernel
theorem dX4_worthTrying_15 : decode cX4_worthTrying 15 = .ok (.if_icmp .ne 15, 3) := by decide +kernel
theorem dX4_worthTrying_18 : decode cX4_worthTrying 18 = .ok (.aload_n 0, 1) := by decide +kernel
theorem dX4_worthTrying_19 : decode cX4_worthTrying 19 = .ok (.getfield 21, 3) := by decide +kernel
theorem dX4_worthTrying_22 : decode cX4_worthTrying 22 = .ok (.getfield 84, 3) := by decide +kernel
theorem dX4_worthTrying_25 : decode cX4_worthTrying 25 = .ok (.ifCond .ne 5, 3) := by decide +kernel
theorem dX4_worthTrying_28 : decode cX4_worthTrying 28 = .ok (.iconst 0, 1) := by decide +kernel
theorem dX4_worthTrying_29 : decode cX4_worthTrying 29 = .ok (.ireturn, 1) := by decide +kernel
theorem dX4_worthTrying_30 : decode cX4_worthTrying 30 = .ok (.aload_n 0, 1) := by decide +kernel
theorem dX4_worthTrying_31 : decode cX4_worthTrying 31 = .ok (.getfield 21, 3) := by decide +kernel
theorem dX4_worthTrying_34 : decode cX4_worthTrying 34 = .ok (.getfield 117, 3) := by decide +kernel
theorem dX4_worthTrying_37 : decode cX4_worthTrying 37 = .ok (.iconst (-1), 1) := by decide +kernel
theorem dX4_worthTrying_38 : decode cX4_worthTrying 38 = .ok (.if_icmp .eq 7, 3) := by decide +kernel
theorem dX4_worthTrying_41 : decode cX4_worthTrying 41 = .ok (.iload_n 2, 1) := by decide +kernel
theorem dX4_worthTrying_42 : decode cX4_worthTrying 42 = .ok (.ifCond .eq 5, 3) := by decide +kernel
theorem dX4_worthTrying_45 : decode cX4_worthTrying 45 = .ok (.iload_n 3, 1) := by decide +kernel
theorem dX4_worthTrying_46 : decode cX4_worthTrying 46 = .ok (.ireturn, 1) := by decide +kernel
theorem dX4_worthTrying_47 : decode cX4_worthTrying 47 = .ok (.iload_n 1, 1) := by decide +kernel
theorem dX4_worthTrying_48 : decode cX4_worthTrying 48 = .ok (.iconst 2, 1) := by decide +kernel
theorem dX4_worthTrying_49 : decode cX4_worthTrying 49 = .ok (.if_icmp .eq 8, 3) := by decide +kernel
theorem dX4_worthTrying_52 : decode cX4_worthTrying 52 = .ok (.iload_n 1, 1) := by decide +kernel
theorem dX4_worthTrying_53 : decode cX4_worthTrying 53 = .ok (.iconst 3, 1) := by decide +kernel
theorem dX4_worthTrying_54 : decode cX4_worthTrying 54 = .ok (.if_icmp .ne 15, 3) := by decide +kernel
theorem dX4_worthTrying_57 : decode cX4_worthTrying 57 = .ok (.iconst 1, 1) := by decide +kernel
theorem dX4_worthTrying_58 : decode cX4_worthTrying 58 = .ok (.aload_n 0, 1) := by decide +kernel
theorem dX4_worthTrying_59 : decode cX4_worthTrying 59 = .ok (.getfield 21, 3) := by decide +kernel
theorem dX4_worthTrying_62 : decode cX4_worthTrying 62 = .ok (.getfield 117, 3) := by decide +kernel
theorem dX4_worthTrying_65 : decode cX4_worthTrying 65 = .ok (.ishl, 1) := by decide +kernel
theorem dX4_worthTrying_66 : decode cX4_worthTrying 66 = .ok (.goto 4, 3) := by decide +kernel
theorem dX4_worthTrying_69 : decode cX4_worthTrying 69 = .ok (.iconst 0, 1) := by decide +kernel
theorem dX4_worthTrying_70 : decode cX4_worthTrying 70 = .ok (.ireturn, 1) := by decide +kernel
theorem dX4_keep_0 : decode cX4_keep 0 = .ok (.aload_n 0, 1) := by decide +kernel
theorem dX4_keep_1 : decode cX4_keep 1 = .ok (.iload_n 1, 1) := by decide +kernel
theorem dX4_keep_2 : decode cX4_keep 2 = .ok (.putfield 33, 3) := by decide +kernel
theorem dX4_keep_5 : decode cX4_keep 5 = .ok (.aload_n 0, 1) := by decide +kernel
theorem dX4_keep_6 : decode cX4_keep 6 = .ok (.getfield 12, 3) := by decide +kernel
theorem dX4_keep_9 : decode cX4_keep 9 = .ok (.iconst 0, 1) := by decide +kernel
theorem dX4_keep_10 : decode cX4_keep 10 = .ok (.putfield 120, 3) := by decide +kernel
theorem dX4_keep_13 : decode cX4_keep 13 = .ok (.aload_n 0, 1) := by decide +kernel
theorem dX4_keep_14 : decode cX4_keep 14 = .ok (.getfield 12, 3) := by decide +kernel
theorem dX4_keep_17 : decode cX4_keep 17 = .ok (.getfield 123, 3) := by decide +kernel
theorem dX4_keep_20 : decode cX4_keep 20 = .ok (.aload_n 0, 1) := by decide +kernel
theorem dX4_keep_21 : decode cX4_keep 21 = .ok (.getfield 21, 3) := by decide +kernel
theorem dX4_keep_24 : decode cX4_keep 24 = .ok (.invokevirtual 126, 3) := by decide +kernel
theorem dX4_keep_27 : decode cX4_keep 27 = .ok (.aload_n 0, 1) := by decide +kernel
theorem dX4_keep_28 : decode cX4_keep 28 = .ok (.getfield 12, 3) := by decide +kernel
theorem dX4_keep_31 : decode cX4_keep 31 = .ok (.iload_n 2, 1) := by decide +kernel
theorem dX4_keep_32 : decode cX4_keep 32 = .ok (.iload_n 3, 1) := by decide +kernel
theorem dX4_keep_33 : decode cX4_keep 33 = .ok (.iload 4, 2) := by decide +kernel
theorem dX4_keep_35 : decode cX4_keep 35 = .ok (.iload 5, 2) := by decide +kernel
theorem dX4_keep_37 : decode cX4_keep 37 = .ok (.invokevirtual 130, 3) := by decide +kernel
theorem dX4_keep_40 : decode cX4_keep 40 = .ok (.return_, 1) := by decide +kernel
