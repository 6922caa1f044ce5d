theorem dL_cell_0 : decode cL_cell 0 = .ok (.iload_n 1, 1) := by decide +kernel
theorem dL_cell_1 : decode cL_cell 1 = .ok (.aload_n 0, 1) := by decide +kernel
theorem dL_cell_2 : decode cL_cell 2 = .ok (.arraylength, 1) := by decide +kernel
theorem dL_cell_3 : decode cL_cell 3 = .ok (.if_icmp .ge 9, 3) := by decide +kernel
theorem dL_cell_6 : decode cL_cell 6 = .ok (.aload_n 0, 1) := by decide +kernel
theorem dL_cell_7 : decode cL_cell 7 = .ok (.iload_n 1, 1) := by decide +kernel
theorem dL_cell_8 : decode cL_cell 8 = .ok (.iaload, 1) := by decide +kernel
theorem dL_cell_9 : decode cL_cell 9 = .ok (.goto 15, 3) := by decide +kernel
theorem dL_cell_12 : decode cL_cell 12 = .ok (.ldc2_w 7, 3) := by decide +kernel
theorem dL_cell_15 : decode cL_cell 15 = .ok (.iload_n 1, 1) := by decide +kernel
theorem dL_cell_16 : decode cL_cell 16 = .ok (.bipush 14, 2) := by decide +kernel
theorem dL_cell_18 : decode cL_cell 18 = .ok (.iadd, 1) := by decide +kernel
theorem dL_cell_19 : decode cL_cell 19 = .ok (.i2l, 1) := by decide +kernel
theorem dL_cell_20 : decode cL_cell 20 = .ok (.lmul, 1) := by decide +kernel
theorem dL_cell_21 : decode cL_cell 21 = .ok (.iconst 5, 1) := by decide +kernel
theorem dL_cell_22 : decode cL_cell 22 = .ok (.lushr, 1) := by decide +kernel
theorem dL_cell_23 : decode cL_cell 23 = .ok (.l2i, 1) := by decide +kernel
theorem dL_cell_24 : decode cL_cell 24 = .ok (.ireturn, 1) := by decide +kernel
theorem dL_some_0 : decode cL_some 0 = .ok (.iload_n 0, 1) := by decide +kernel
theorem dL_some_1 : decode cL_some 1 = .ok (.iconst 2, 1) := by decide +kernel
theorem dL_some_2 : decode cL_some 2 = .ok (.iushr, 1) := by decide +kernel
theorem dL_some_3 : decode cL_some 3 = .ok (.iload_n 1, 1) := by decide +kernel
theorem dL_some_4 : decode cL_some 4 = .ok (.irem, 1) := by decide +kernel
theorem dL_some_5 : decode cL_some 5 = .ok (.ireturn, 1) := by decide +kernel
theorem dL_alike_0 : decode cL_alike 0 = .ok (.iconst 0, 1) := by decide +kernel
theorem dL_alike_1 : decode cL_alike 1 = .ok (.istore_n 3, 1) := by decide +kernel
theorem dL_alike_2 : decode cL_alike 2 = .ok (.iload_n 3, 1) := by decide +kernel
theorem dL_alike_3 : decode cL_alike 3 = .ok (.aload_n 0, 1) := by decide +kernel
theorem dL_alike_4 : decode cL_alike 4 = .ok (.iconst 1, 1) := by decide +kernel
theorem dL_alike_5 : decode cL_alike 5 = .ok (.iaload, 1) := by decide +kernel
theorem dL_alike_6 : decode cL_alike 6 = .ok (.if_icmp .ge 35, 3) := by decide +kernel
theorem dL_alike_9 : decode cL_alike 9 = .ok (.aload_n 1, 1) := by decide +kernel
theorem dL_alike_10 : decode cL_alike 10 = .ok (.iload_n 3, 1) := by decide +kernel
theorem dL_alike_11 : decode cL_alike 11 = .ok (.iaload, 1) := by decide +kernel
theorem dL_alike_12 : decode cL_alike 12 = .ok (.aload_n 2, 1) := by decide +kernel
theorem dL_alike_13 : decode cL_alike 13 = .ok (.iload_n 3, 1) := by decide +kernel
theorem dL_alike_14 : decode cL_alike 14 = .ok (.iaload, 1) := by decide +kernel
theorem dL_alike_15 : decode cL_alike 15 = .ok (.if_icmp .ne 18, 3) := by decide +kernel
theorem dL_alike_18 : decode cL_alike 18 = .ok (.aload_n 1, 1) := by decide +kernel
theorem dL_alike_19 : decode cL_alike 19 = .ok (.bipush 14, 2) := by decide +kernel
theorem dL_alike_21 : decode cL_alike 21 = .ok (.iload_n 3, 1) := by decide +kernel
theorem dL_alike_22 : decode cL_alike 22 = .ok (.iadd, 1) := by decide +kernel
theorem dL_alike_23 : decode cL_alike 23 = .ok (.iaload, 1) := by decide +kernel
theorem dL_alike_24 : decode cL_alike 24 = .ok (.aload_n 2, 1) := by decide +kernel
theorem dL_alike_25 : decode cL_alike 25 = .ok (.bipush 14, 2) := by decide +kernel
theorem dL_alike_27 : decode cL_alike 27 = .ok (.iload_n 3, 1) := by decide +kernel
theorem dL_alike_28 : decode cL_alike 28 = .ok (.iadd, 1) := by decide +kernel
theorem dL_alike_29 : decode cL_alike 29 = .ok (.iaload, 1) := by decide +kernel
theorem dL_alike_30 : decode cL_alike 30 = .ok (.if_icmp .eq 5, 3) := by decide +kernel
theorem dL_alike_33 : decode cL_alike 33 = .ok (.iconst 0, 1) := by decide +kernel
theorem dL_alike_34 : decode cL_alike 34 = .ok (.ireturn, 1) := by decide +kernel
theorem dL_alike_35 : decode cL_alike 35 = .ok (.iinc 3 1, 3) := by decide +kernel
theorem dL_alike_38 : decode cL_alike 38 = .ok (.goto (-36), 3) := by decide +kernel
theorem dL_alike_41 : decode cL_alike 41 = .ok (.iconst 1, 1) := by decide +kernel
theorem dL_alike_42 : decode cL_alike 42 = .ok (.ireturn, 1) := by decide +kernel
theorem dL_met_0 : decode cL_met 0 = .ok (.iconst 0, 1) := by decide +kernel
theorem dL_met_1 : decode cL_met 1 = .ok (.istore_n 2, 1) := by decide +kernel
theorem dL_met_2 : decode cL_met 2 = .ok (.iconst 0, 1) := by decide +kernel
theorem dL_met_3 : decode cL_met 3 = .ok (.istore_n 3, 1) := by decide +kernel
theorem dL_met_4 : decode cL_met 4 = .ok (.iload_n 3, 1) := by decide +kernel
theorem dL_met_5 : decode cL_met 5 = .ok (.iconst 4, 1) := by decide +kernel
theorem dL_met_6 : decode cL_met 6 = .ok (.if_icmp .ge 126, 3) := by decide +kernel
theorem dL_met_9 : decode cL_met 9 = .ok (.iload_n 3, 1) := by decide +kernel
theorem dL_met_10 : decode cL_met 10 = .ok (.iconst 1, 1) := by decide +kernel
theorem dL_met_11 : decode cL_met 11 = .ok (.iadd, 1) := by decide +kernel
theorem dL_met_12 : decode cL_met 12 = .ok (.istore 4, 2) := by decide +kernel
theorem dL_met_14 : decode cL_met 14 = .ok (.iload 4, 2) := by decide +kernel
theorem dL_met_16 : decode cL_met 16 = .ok (.iconst 4, 1) := by decide +kernel
theorem dL_met_17 : decode cL_met 17 = .ok (.if_icmp .ge 109, 3) := by decide +kernel
theorem dL_met_20 : decode cL_met 20 = .ok (.iconst 0, 1) := by decide +kernel
theorem dL_met_21 : decode cL_met 21 = .ok (.istore 5, 2) := by decide +kernel
theorem dL_met_23 : decode cL_met 23 = .ok (.iload 5, 2) := by decide +kernel
theorem dL_met_25 : decode cL_met 25 = .ok (.bipush 30, 2) := by decide +kernel
theorem dL_met_27 : decode cL_met 27 = .ok (.if_icmp .ge 93, 3) := by decide +kernel
theorem dL_met_30 : decode cL_met 30 = .ok (.iload 5, 2) := by decide +kernel
theorem dL_met_32 : decode cL_met 32 = .ok (.iconst 5, 1) := by decide +kernel
theorem dL_met_33 : decode cL_met 33 = .ok (.idiv, 1) := by decide +kernel
theorem dL_met_34 : decode cL_met 34 = .ok (.istore 6, 2) := by decide +kernel
theorem dL_met_36 : decode cL_met 36 = .ok (.iload 5, 2) := by decide +kernel
theorem dL_met_38 : decode cL_met 38 = .ok (.iconst 5, 1) := by decide +kernel
theorem dL_met_39 : decode cL_met 39 = .ok (.irem, 1) := by decide +kernel
theorem dL_met_40 : decode cL_met 40 = .ok (.istore 7, 2) := by decide +kernel
theorem dL_met_42 : decode cL_met 42 = .ok (.iconst 0, 1) := by decide +kernel
theorem dL_met_43 : decode cL_met 43 = .ok (.istore 8, 2) := by decide +kernel
theorem dL_met_45 : decode cL_met 45 = .ok (.iconst 0, 1) := by decide +kernel
theorem dL_met_46 : decode cL_met 46 = .ok (.istore 9, 2) := by decide +kernel
theorem dL_met_48 : decode cL_met 48 = .ok (.iload 9, 2) := by decide +kernel
theorem dL_met_50 : decode cL_met 50 = .ok (.aload_n 0, 1) := by decide +kernel
theorem dL_met_51 : decode cL_met 51 = .ok (.iconst 1, 1) := by decide +kernel
theorem dL_met_52 : decode cL_met 52 = .ok (.iaload, 1) := by decide +kernel
theorem dL_met_53 : decode cL_met 53 = .ok (.if_icmp .ge 48, 3) := by decide +kernel
theorem dL_met_56 : decode cL_met 56 = .ok (.iload 8, 2) := by decide +kernel
theorem dL_met_58 : decode cL_met 58 = .ok (.ifCond .ne 30, 3) := by decide +kernel
theorem dL_met_61 : decode cL_met 61 = .ok (.aload_n 1, 1) := by decide +kernel
theorem dL_met_62 : decode cL_met 62 = .ok (.iconst 4, 1) := by decide +kernel
theorem dL_met_63 : decode cL_met 63 = .ok (.iload 9, 2) := by decide +kernel
theorem dL_met_65 : decode cL_met 65 = .ok (.imul, 1) := by decide +kernel
theorem dL_met_66 : decode cL_met 66 = .ok (.iload_n 3, 1) := by decide +kernel
theorem dL_met_67 : decode cL_met 67 = .ok (.iadd, 1) := by decide +kernel
theorem dL_met_68 : decode cL_met 68 = .ok (.iaload, 1) := by decide +kernel
theorem dL_met_69 : decode cL_met 69 = .ok (.iload 6, 2) := by decide +kernel
theorem dL_met_71 : decode cL_met 71 = .ok (.if_icmp .ne 21, 3) := by decide +kernel
theorem dL_met_74 : decode cL_met 74 = .ok (.aload_n 1, 1) := by decide +kernel
theorem dL_met_75 : decode cL_met 75 = .ok (.iconst 4, 1) := by decide +kernel
theorem dL_met_76 : decode cL_met 76 = .ok (.iload 9, 2) := by decide +kernel
theorem dL_met_78 : decode cL_met 78 = .ok (.imul, 1) := by decide +kernel
theorem dL_met_79 : decode cL_met 79 = .ok (.iload 4, 2) := by decide +kernel
theorem dL_met_81 : decode cL_met 81 = .ok (.iadd, 1) := by decide +kernel
theorem dL_met_82 : decode cL_met 82 = .ok (.iaload, 1) := by decide +kernel
theorem dL_met_83 : decode cL_met 83 = .ok (.iload 7, 2) := by decide +kernel
theorem dL_met_85 : decode cL_met 85 = .ok (.if_icmp .ne 7, 3) := by decide +kernel
theorem dL_met_88 : decode cL_met 88 = .ok (.iconst 1, 1) := by decide +kernel
theorem dL_met_89 : decode cL_met 89 = .ok (.goto 4, 3) := by decide +kernel
theorem dL_met_92 : decode cL_met 92 = .ok (.iconst 0, 1) := by decide +kernel
theorem dL_met_93 : decode cL_met 93 = .ok (.istore 8, 2) := by decide +kernel
theorem dL_met_95 : decode cL_met 95 = .ok (.iinc 9 1, 3) := by decide +kernel
theorem dL_met_98 : decode cL_met 98 = .ok (.goto (-50), 3) := by decide +kernel
theorem dL_met_101 : decode cL_met 101 = .ok (.iload_n 2, 1) := by decide +kernel
theorem dL_met_102 : decode cL_met 102 = .ok (.iload 8, 2) := by decide +kernel
theorem dL_met_104 : decode cL_met 104 = .ok (.ifCond .eq 7, 3) := by decide +kernel
theorem dL_met_107 : decode cL_met 107 = .ok (.iconst 1, 1) := by decide +kernel
theorem dL_met_108 : decode cL_met 108 = .ok (.goto 4, 3) := by decide +kernel
theorem dL_met_111 : decode cL_met 111 = .ok (.iconst 0, 1) := by decide +kernel
theorem dL_met_112 : decode cL_met 112 = .ok (.iadd, 1) := by decide +kernel
theorem dL_met_113 : decode cL_met 113 = .ok (.istore_n 2, 1) := by decide +kernel
theorem dL_met_114 : decode cL_met 114 = .ok (.iinc 5 1, 3) := by decide +kernel
theorem dL_met_117 : decode cL_met 117 = .ok (.goto (-94), 3) := by decide +kernel
theorem dL_met_120 : decode cL_met 120 = .ok (.iinc 4 1, 3) := by decide +kernel
theorem dL_met_123 : decode cL_met 123 = .ok (.goto (-109), 3) := by decide +kernel
theorem dL_met_126 : decode cL_met 126 = .ok (.iinc 3 1, 3) := by decide +kernel
theorem dL_met_129 : decode cL_met 129 = .ok (.goto (-125), 3) := by decide +kernel
theorem dL_met_132 : decode cL_met 132 = .ok (.iload_n 2, 1) := by decide +kernel
theorem dL_met_133 : decode cL_met 133 = .ok (.ireturn, 1) := by decide +kernel
