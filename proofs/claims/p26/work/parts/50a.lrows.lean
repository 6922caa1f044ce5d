theorem dL_acts_0 : decode cL_acts 0 = .ok (.iload_n 2, 1) := by decide +kernel
theorem dL_acts_1 : decode cL_acts 1 = .ok (.bipush 30, 2) := by decide +kernel
theorem dL_acts_3 : decode cL_acts 3 = .ok (.invokestatic 76, 3) := by decide +kernel
theorem dL_acts_6 : decode cL_acts 6 = .ok (.ifCond .ne 9, 3) := by decide +kernel
theorem dL_acts_9 : decode cL_acts 9 = .ok (.aload_n 3, 1) := by decide +kernel
theorem dL_acts_10 : decode cL_acts 10 = .ok (.iconst 0, 1) := by decide +kernel
theorem dL_acts_11 : decode cL_acts 11 = .ok (.iaload, 1) := by decide +kernel
theorem dL_acts_12 : decode cL_acts 12 = .ok (.goto 10, 3) := by decide +kernel
theorem dL_acts_15 : decode cL_acts 15 = .ok (.iload_n 2, 1) := by decide +kernel
theorem dL_acts_16 : decode cL_acts 16 = .ok (.aload_n 3, 1) := by decide +kernel
theorem dL_acts_17 : decode cL_acts 17 = .ok (.iconst 0, 1) := by decide +kernel
theorem dL_acts_18 : decode cL_acts 18 = .ok (.iaload, 1) := by decide +kernel
theorem dL_acts_19 : decode cL_acts 19 = .ok (.invokestatic 76, 3) := by decide +kernel
theorem dL_acts_22 : decode cL_acts 22 = .ok (.istore 6, 2) := by decide +kernel
theorem dL_acts_24 : decode cL_acts 24 = .ok (.iload 6, 2) := by decide +kernel
theorem dL_acts_26 : decode cL_acts 26 = .ok (.aload_n 3, 1) := by decide +kernel
theorem dL_acts_27 : decode cL_acts 27 = .ok (.iconst 0, 1) := by decide +kernel
theorem dL_acts_28 : decode cL_acts 28 = .ok (.iaload, 1) := by decide +kernel
theorem dL_acts_29 : decode cL_acts 29 = .ok (.if_icmp .ge 7, 3) := by decide +kernel
theorem dL_acts_32 : decode cL_acts 32 = .ok (.iconst 1, 1) := by decide +kernel
theorem dL_acts_33 : decode cL_acts 33 = .ok (.goto 4, 3) := by decide +kernel
theorem dL_acts_36 : decode cL_acts 36 = .ok (.iconst 0, 1) := by decide +kernel
theorem dL_acts_37 : decode cL_acts 37 = .ok (.istore 7, 2) := by decide +kernel
theorem dL_acts_39 : decode cL_acts 39 = .ok (.iload_n 1, 1) := by decide +kernel
theorem dL_acts_40 : decode cL_acts 40 = .ok (.ifCond .ne 167, 3) := by decide +kernel
theorem dL_acts_43 : decode cL_acts 43 = .ok (.iload_n 2, 1) := by decide +kernel
theorem dL_acts_44 : decode cL_acts 44 = .ok (.iconst 3, 1) := by decide +kernel
theorem dL_acts_45 : decode cL_acts 45 = .ok (.ishr, 1) := by decide +kernel
theorem dL_acts_46 : decode cL_acts 46 = .ok (.bipush 9, 2) := by decide +kernel
theorem dL_acts_48 : decode cL_acts 48 = .ok (.invokestatic 76, 3) := by decide +kernel
theorem dL_acts_51 : decode cL_acts 51 = .ok (.ifCond .ne 16, 3) := by decide +kernel
theorem dL_acts_54 : decode cL_acts 54 = .ok (.iload_n 2, 1) := by decide +kernel
theorem dL_acts_55 : decode cL_acts 55 = .ok (.iconst 2, 1) := by decide +kernel
theorem dL_acts_56 : decode cL_acts 56 = .ok (.invokestatic 76, 3) := by decide +kernel
theorem dL_acts_59 : decode cL_acts 59 = .ok (.bipush 6, 2) := by decide +kernel
theorem dL_acts_61 : decode cL_acts 61 = .ok (.imul, 1) := by decide +kernel
theorem dL_acts_62 : decode cL_acts 62 = .ok (.iconst 1, 1) := by decide +kernel
theorem dL_acts_63 : decode cL_acts 63 = .ok (.iadd, 1) := by decide +kernel
theorem dL_acts_64 : decode cL_acts 64 = .ok (.goto 12, 3) := by decide +kernel
theorem dL_acts_67 : decode cL_acts 67 = .ok (.iconst 2, 1) := by decide +kernel
theorem dL_acts_68 : decode cL_acts 68 = .ok (.iload_n 2, 1) := by decide +kernel
theorem dL_acts_69 : decode cL_acts 69 = .ok (.iconst 3, 1) := by decide +kernel
theorem dL_acts_70 : decode cL_acts 70 = .ok (.ishr, 1) := by decide +kernel
theorem dL_acts_71 : decode cL_acts 71 = .ok (.iconst 3, 1) := by decide +kernel
theorem dL_acts_72 : decode cL_acts 72 = .ok (.invokestatic 76, 3) := by decide +kernel
theorem dL_acts_75 : decode cL_acts 75 = .ok (.iadd, 1) := by decide +kernel
theorem dL_acts_76 : decode cL_acts 76 = .ok (.istore 8, 2) := by decide +kernel
theorem dL_acts_78 : decode cL_acts 78 = .ok (.iload 8, 2) := by decide +kernel
theorem dL_acts_80 : decode cL_acts 80 = .ok (.iconst 1, 1) := by decide +kernel
theorem dL_acts_81 : decode cL_acts 81 = .ok (.if_icmp .le 14, 3) := by decide +kernel
theorem dL_acts_84 : decode cL_acts 84 = .ok (.iload 8, 2) := by decide +kernel
theorem dL_acts_86 : decode cL_acts 86 = .ok (.bipush 7, 2) := by decide +kernel
theorem dL_acts_88 : decode cL_acts 88 = .ok (.if_icmp .ge 7, 3) := by decide +kernel
theorem dL_acts_91 : decode cL_acts 91 = .ok (.iconst 1, 1) := by decide +kernel
theorem dL_acts_92 : decode cL_acts 92 = .ok (.goto 4, 3) := by decide +kernel
theorem dL_acts_95 : decode cL_acts 95 = .ok (.iconst 0, 1) := by decide +kernel
theorem dL_acts_96 : decode cL_acts 96 = .ok (.istore 9, 2) := by decide +kernel
theorem dL_acts_98 : decode cL_acts 98 = .ok (.iconst 0, 1) := by decide +kernel
theorem dL_acts_99 : decode cL_acts 99 = .ok (.istore 10, 2) := by decide +kernel
theorem dL_acts_101 : decode cL_acts 101 = .ok (.iload 10, 2) := by decide +kernel
theorem dL_acts_103 : decode cL_acts 103 = .ok (.iconst 4, 1) := by decide +kernel
theorem dL_acts_104 : decode cL_acts 104 = .ok (.if_icmp .ge 46, 3) := by decide +kernel
theorem dL_acts_107 : decode cL_acts 107 = .ok (.iload 9, 2) := by decide +kernel
theorem dL_acts_109 : decode cL_acts 109 = .ok (.ifCond .eq 41, 3) := by decide +kernel
theorem dL_acts_112 : decode cL_acts 112 = .ok (.aload 4, 2) := by decide +kernel
theorem dL_acts_114 : decode cL_acts 114 = .ok (.iload 10, 2) := by decide +kernel
theorem dL_acts_116 : decode cL_acts 116 = .ok (.iconst 1, 1) := by decide +kernel
theorem dL_acts_117 : decode cL_acts 117 = .ok (.iastore, 1) := by decide +kernel
theorem dL_acts_118 : decode cL_acts 118 = .ok (.aload 4, 2) := by decide +kernel
theorem dL_acts_120 : decode cL_acts 120 = .ok (.iconst 4, 1) := by decide +kernel
theorem dL_acts_121 : decode cL_acts 121 = .ok (.iload 10, 2) := by decide +kernel
theorem dL_acts_123 : decode cL_acts 123 = .ok (.iadd, 1) := by decide +kernel
theorem dL_acts_124 : decode cL_acts 124 = .ok (.iconst 1, 1) := by decide +kernel
theorem dL_acts_125 : decode cL_acts 125 = .ok (.iastore, 1) := by decide +kernel
theorem dL_acts_126 : decode cL_acts 126 = .ok (.aload 4, 2) := by decide +kernel
theorem dL_acts_128 : decode cL_acts 128 = .ok (.bipush 8, 2) := by decide +kernel
theorem dL_acts_130 : decode cL_acts 130 = .ok (.iload 10, 2) := by decide +kernel
theorem dL_acts_132 : decode cL_acts 132 = .ok (.iadd, 1) := by decide +kernel
theorem dL_acts_133 : decode cL_acts 133 = .ok (.iconst 0, 1) := by decide +kernel
theorem dL_acts_134 : decode cL_acts 134 = .ok (.iastore, 1) := by decide +kernel
theorem dL_acts_135 : decode cL_acts 135 = .ok (.aload 4, 2) := by decide +kernel
theorem dL_acts_137 : decode cL_acts 137 = .ok (.bipush 12, 2) := by decide +kernel
theorem dL_acts_139 : decode cL_acts 139 = .ok (.iload 10, 2) := by decide +kernel
theorem dL_acts_141 : decode cL_acts 141 = .ok (.iadd, 1) := by decide +kernel
theorem dL_acts_142 : decode cL_acts 142 = .ok (.iconst 0, 1) := by decide +kernel
theorem dL_acts_143 : decode cL_acts 143 = .ok (.iastore, 1) := by decide +kernel
theorem dL_acts_144 : decode cL_acts 144 = .ok (.iinc 10 1, 3) := by decide +kernel
theorem dL_acts_147 : decode cL_acts 147 = .ok (.goto (-46), 3) := by decide +kernel
theorem dL_acts_150 : decode cL_acts 150 = .ok (.aload_n 3, 1) := by decide +kernel
theorem dL_acts_151 : decode cL_acts 151 = .ok (.iconst 0, 1) := by decide +kernel
theorem dL_acts_152 : decode cL_acts 152 = .ok (.iload 9, 2) := by decide +kernel
theorem dL_acts_154 : decode cL_acts 154 = .ok (.ifCond .eq 8, 3) := by decide +kernel
theorem dL_acts_157 : decode cL_acts 157 = .ok (.iload 8, 2) := by decide +kernel
theorem dL_acts_159 : decode cL_acts 159 = .ok (.goto 6, 3) := by decide +kernel
theorem dL_acts_162 : decode cL_acts 162 = .ok (.aload_n 3, 1) := by decide +kernel
theorem dL_acts_163 : decode cL_acts 163 = .ok (.iconst 0, 1) := by decide +kernel
theorem dL_acts_164 : decode cL_acts 164 = .ok (.iaload, 1) := by decide +kernel
theorem dL_acts_165 : decode cL_acts 165 = .ok (.iastore, 1) := by decide +kernel
theorem dL_acts_166 : decode cL_acts 166 = .ok (.aload_n 3, 1) := by decide +kernel
theorem dL_acts_167 : decode cL_acts 167 = .ok (.iconst 1, 1) := by decide +kernel
theorem dL_acts_168 : decode cL_acts 168 = .ok (.iload 9, 2) := by decide +kernel
theorem dL_acts_170 : decode cL_acts 170 = .ok (.ifCond .eq 7, 3) := by decide +kernel
theorem dL_acts_173 : decode cL_acts 173 = .ok (.iconst 0, 1) := by decide +kernel
theorem dL_acts_174 : decode cL_acts 174 = .ok (.goto 6, 3) := by decide +kernel
theorem dL_acts_177 : decode cL_acts 177 = .ok (.aload_n 3, 1) := by decide +kernel
theorem dL_acts_178 : decode cL_acts 178 = .ok (.iconst 1, 1) := by decide +kernel
theorem dL_acts_179 : decode cL_acts 179 = .ok (.iaload, 1) := by decide +kernel
theorem dL_acts_180 : decode cL_acts 180 = .ok (.iastore, 1) := by decide +kernel
theorem dL_acts_181 : decode cL_acts 181 = .ok (.aload_n 0, 1) := by decide +kernel
theorem dL_acts_182 : decode cL_acts 182 = .ok (.iload 8, 2) := by decide +kernel
theorem dL_acts_184 : decode cL_acts 184 = .ok (.invokestatic 79, 3) := by decide +kernel
theorem dL_acts_187 : decode cL_acts 187 = .ok (.iload 9, 2) := by decide +kernel
theorem dL_acts_189 : decode cL_acts 189 = .ok (.ifCond .eq 7, 3) := by decide +kernel
theorem dL_acts_192 : decode cL_acts 192 = .ok (.iconst 0, 1) := by decide +kernel
theorem dL_acts_193 : decode cL_acts 193 = .ok (.goto 5, 3) := by decide +kernel
theorem dL_acts_196 : decode cL_acts 196 = .ok (.bipush (-101), 2) := by decide +kernel
theorem dL_acts_198 : decode cL_acts 198 = .ok (.if_icmp .ne 7, 3) := by decide +kernel
theorem dL_acts_201 : decode cL_acts 201 = .ok (.iconst 1, 1) := by decide +kernel
theorem dL_acts_202 : decode cL_acts 202 = .ok (.goto 4, 3) := by decide +kernel
