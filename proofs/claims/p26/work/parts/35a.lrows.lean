theorem dL_run_0 : decode cL_run 0 = .ok (.bipush 42, 2) := by decide +kernel
theorem dL_run_2 : decode cL_run 2 = .ok (.istore 5, 2) := by decide +kernel
theorem dL_run_4 : decode cL_run 4 = .ok (.iload 5, 2) := by decide +kernel
theorem dL_run_6 : decode cL_run 6 = .ok (.bipush 54, 2) := by decide +kernel
theorem dL_run_8 : decode cL_run 8 = .ok (.if_icmp .ge 15, 3) := by decide +kernel
theorem dL_run_11 : decode cL_run 11 = .ok (.aload 4, 2) := by decide +kernel
theorem dL_run_13 : decode cL_run 13 = .ok (.iload 5, 2) := by decide +kernel
theorem dL_run_15 : decode cL_run 15 = .ok (.iconst (-1), 1) := by decide +kernel
theorem dL_run_16 : decode cL_run 16 = .ok (.iastore, 1) := by decide +kernel
theorem dL_run_17 : decode cL_run 17 = .ok (.iinc 5 1, 3) := by decide +kernel
theorem dL_run_20 : decode cL_run 20 = .ok (.goto (-16), 3) := by decide +kernel
theorem dL_run_23 : decode cL_run 23 = .ok (.iconst 0, 1) := by decide +kernel
theorem dL_run_24 : decode cL_run 24 = .ok (.istore 5, 2) := by decide +kernel
theorem dL_run_26 : decode cL_run 26 = .ok (.iload 5, 2) := by decide +kernel
theorem dL_run_28 : decode cL_run 28 = .ok (.aload_n 0, 1) := by decide +kernel
theorem dL_run_29 : decode cL_run 29 = .ok (.iconst 1, 1) := by decide +kernel
theorem dL_run_30 : decode cL_run 30 = .ok (.iaload, 1) := by decide +kernel
theorem dL_run_31 : decode cL_run 31 = .ok (.if_icmp .ge 482, 3) := by decide +kernel
theorem dL_run_34 : decode cL_run 34 = .ok (.aload_n 2, 1) := by decide +kernel
theorem dL_run_35 : decode cL_run 35 = .ok (.iconst 4, 1) := by decide +kernel
theorem dL_run_36 : decode cL_run 36 = .ok (.iload 5, 2) := by decide +kernel
theorem dL_run_38 : decode cL_run 38 = .ok (.imul, 1) := by decide +kernel
theorem dL_run_39 : decode cL_run 39 = .ok (.iaload, 1) := by decide +kernel
theorem dL_run_40 : decode cL_run 40 = .ok (.istore 6, 2) := by decide +kernel
theorem dL_run_42 : decode cL_run 42 = .ok (.aload_n 2, 1) := by decide +kernel
theorem dL_run_43 : decode cL_run 43 = .ok (.iconst 4, 1) := by decide +kernel
theorem dL_run_44 : decode cL_run 44 = .ok (.iload 5, 2) := by decide +kernel
theorem dL_run_46 : decode cL_run 46 = .ok (.imul, 1) := by decide +kernel
theorem dL_run_47 : decode cL_run 47 = .ok (.iconst 1, 1) := by decide +kernel
theorem dL_run_48 : decode cL_run 48 = .ok (.iadd, 1) := by decide +kernel
theorem dL_run_49 : decode cL_run 49 = .ok (.iaload, 1) := by decide +kernel
theorem dL_run_50 : decode cL_run 50 = .ok (.istore 7, 2) := by decide +kernel
theorem dL_run_52 : decode cL_run 52 = .ok (.aload_n 3, 1) := by decide +kernel
theorem dL_run_53 : decode cL_run 53 = .ok (.iload 6, 2) := by decide +kernel
theorem dL_run_55 : decode cL_run 55 = .ok (.iaload, 1) := by decide +kernel
theorem dL_run_56 : decode cL_run 56 = .ok (.istore 8, 2) := by decide +kernel
theorem dL_run_58 : decode cL_run 58 = .ok (.iload 8, 2) := by decide +kernel
theorem dL_run_60 : decode cL_run 60 = .ok (.iconst 1, 1) := by decide +kernel
theorem dL_run_61 : decode cL_run 61 = .ok (.iand, 1) := by decide +kernel
theorem dL_run_62 : decode cL_run 62 = .ok (.ifCond .ne 20, 3) := by decide +kernel
theorem dL_run_65 : decode cL_run 65 = .ok (.iload 7, 2) := by decide +kernel
theorem dL_run_67 : decode cL_run 67 = .ok (.ifCond .gt 11, 3) := by decide +kernel
theorem dL_run_70 : decode cL_run 70 = .ok (.iload 8, 2) := by decide +kernel
theorem dL_run_72 : decode cL_run 72 = .ok (.bipush 8, 2) := by decide +kernel
theorem dL_run_74 : decode cL_run 74 = .ok (.iand, 1) := by decide +kernel
theorem dL_run_75 : decode cL_run 75 = .ok (.ifCond .ne 7, 3) := by decide +kernel
theorem dL_run_78 : decode cL_run 78 = .ok (.iconst 1, 1) := by decide +kernel
theorem dL_run_79 : decode cL_run 79 = .ok (.goto 4, 3) := by decide +kernel
theorem dL_run_82 : decode cL_run 82 = .ok (.iconst 0, 1) := by decide +kernel
theorem dL_run_83 : decode cL_run 83 = .ok (.istore 9, 2) := by decide +kernel
theorem dL_run_85 : decode cL_run 85 = .ok (.iload 7, 2) := by decide +kernel
theorem dL_run_87 : decode cL_run 87 = .ok (.ifCond .le 15, 3) := by decide +kernel
theorem dL_run_90 : decode cL_run 90 = .ok (.iload 8, 2) := by decide +kernel
theorem dL_run_92 : decode cL_run 92 = .ok (.bipush 16, 2) := by decide +kernel
theorem dL_run_94 : decode cL_run 94 = .ok (.iand, 1) := by decide +kernel
theorem dL_run_95 : decode cL_run 95 = .ok (.ifCond .le 7, 3) := by decide +kernel
theorem dL_run_98 : decode cL_run 98 = .ok (.iconst 1, 1) := by decide +kernel
theorem dL_run_99 : decode cL_run 99 = .ok (.goto 4, 3) := by decide +kernel
theorem dL_run_102 : decode cL_run 102 = .ok (.iconst 0, 1) := by decide +kernel
theorem dL_run_103 : decode cL_run 103 = .ok (.istore 10, 2) := by decide +kernel
theorem dL_run_105 : decode cL_run 105 = .ok (.iload 7, 2) := by decide +kernel
theorem dL_run_107 : decode cL_run 107 = .ok (.ifCond .ne 12, 3) := by decide +kernel
theorem dL_run_110 : decode cL_run 110 = .ok (.aload_n 1, 1) := by decide +kernel
theorem dL_run_111 : decode cL_run 111 = .ok (.iconst 4, 1) := by decide +kernel
theorem dL_run_112 : decode cL_run 112 = .ok (.iload 6, 2) := by decide +kernel
theorem dL_run_114 : decode cL_run 114 = .ok (.iadd, 1) := by decide +kernel
theorem dL_run_115 : decode cL_run 115 = .ok (.iaload, 1) := by decide +kernel
theorem dL_run_116 : decode cL_run 116 = .ok (.goto 5, 3) := by decide +kernel
theorem dL_run_119 : decode cL_run 119 = .ok (.iload 7, 2) := by decide +kernel
theorem dL_run_121 : decode cL_run 121 = .ok (.istore 11, 2) := by decide +kernel
theorem dL_run_123 : decode cL_run 123 = .ok (.aload_n 1, 1) := by decide +kernel
theorem dL_run_124 : decode cL_run 124 = .ok (.bipush 8, 2) := by decide +kernel
theorem dL_run_126 : decode cL_run 126 = .ok (.iload 6, 2) := by decide +kernel
theorem dL_run_128 : decode cL_run 128 = .ok (.iadd, 1) := by decide +kernel
theorem dL_run_129 : decode cL_run 129 = .ok (.iaload, 1) := by decide +kernel
theorem dL_run_130 : decode cL_run 130 = .ok (.ifCond .ne 12, 3) := by decide +kernel
theorem dL_run_133 : decode cL_run 133 = .ok (.iload 7, 2) := by decide +kernel
theorem dL_run_135 : decode cL_run 135 = .ok (.ifCond .le 7, 3) := by decide +kernel
theorem dL_run_138 : decode cL_run 138 = .ok (.iconst 1, 1) := by decide +kernel
theorem dL_run_139 : decode cL_run 139 = .ok (.goto 31, 3) := by decide +kernel
theorem dL_run_142 : decode cL_run 142 = .ok (.iload 11, 2) := by decide +kernel
theorem dL_run_144 : decode cL_run 144 = .ok (.ifCond .ne 7, 3) := by decide +kernel
theorem dL_run_147 : decode cL_run 147 = .ok (.iconst 2, 1) := by decide +kernel
theorem dL_run_148 : decode cL_run 148 = .ok (.goto 22, 3) := by decide +kernel
theorem dL_run_151 : decode cL_run 151 = .ok (.aload_n 1, 1) := by decide +kernel
theorem dL_run_152 : decode cL_run 152 = .ok (.iload 6, 2) := by decide +kernel
theorem dL_run_154 : decode cL_run 154 = .ok (.iaload, 1) := by decide +kernel
theorem dL_run_155 : decode cL_run 155 = .ok (.iload 11, 2) := by decide +kernel
theorem dL_run_157 : decode cL_run 157 = .ok (.iconst 1, 1) := by decide +kernel
theorem dL_run_158 : decode cL_run 158 = .ok (.isub, 1) := by decide +kernel
theorem dL_run_159 : decode cL_run 159 = .ok (.ishr, 1) := by decide +kernel
theorem dL_run_160 : decode cL_run 160 = .ok (.iconst 1, 1) := by decide +kernel
theorem dL_run_161 : decode cL_run 161 = .ok (.iand, 1) := by decide +kernel
theorem dL_run_162 : decode cL_run 162 = .ok (.ifCond .ne 7, 3) := by decide +kernel
theorem dL_run_165 : decode cL_run 165 = .ok (.iconst 3, 1) := by decide +kernel
theorem dL_run_166 : decode cL_run 166 = .ok (.goto 4, 3) := by decide +kernel
theorem dL_run_169 : decode cL_run 169 = .ok (.iconst 0, 1) := by decide +kernel
theorem dL_run_170 : decode cL_run 170 = .ok (.istore 12, 2) := by decide +kernel
theorem dL_run_172 : decode cL_run 172 = .ok (.iload 10, 2) := by decide +kernel
theorem dL_run_174 : decode cL_run 174 = .ok (.ifCond .eq 7, 3) := by decide +kernel
theorem dL_run_177 : decode cL_run 177 = .ok (.iconst 0, 1) := by decide +kernel
