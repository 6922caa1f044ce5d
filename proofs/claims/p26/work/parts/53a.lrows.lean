theorem dL_tells_0 : decode cL_tells 0 = .ok (.iconst 4, 1) := by decide +kernel
theorem dL_tells_1 : decode cL_tells 1 = .ok (.newarray .int, 2) := by decide +kernel
theorem dL_tells_3 : decode cL_tells 3 = .ok (.astore 5, 2) := by decide +kernel
theorem dL_tells_5 : decode cL_tells 5 = .ok (.iconst 4, 1) := by decide +kernel
theorem dL_tells_6 : decode cL_tells 6 = .ok (.newarray .int, 2) := by decide +kernel
theorem dL_tells_8 : decode cL_tells 8 = .ok (.astore 6, 2) := by decide +kernel
theorem dL_tells_10 : decode cL_tells 10 = .ok (.bipush 54, 2) := by decide +kernel
theorem dL_tells_12 : decode cL_tells 12 = .ok (.newarray .int, 2) := by decide +kernel
theorem dL_tells_14 : decode cL_tells 14 = .ok (.astore 7, 2) := by decide +kernel
theorem dL_tells_16 : decode cL_tells 16 = .ok (.bipush 54, 2) := by decide +kernel
theorem dL_tells_18 : decode cL_tells 18 = .ok (.newarray .int, 2) := by decide +kernel
theorem dL_tells_20 : decode cL_tells 20 = .ok (.astore 8, 2) := by decide +kernel
theorem dL_tells_22 : decode cL_tells 22 = .ok (.iconst 4, 1) := by decide +kernel
theorem dL_tells_23 : decode cL_tells 23 = .ok (.newarray .int, 2) := by decide +kernel
theorem dL_tells_25 : decode cL_tells 25 = .ok (.astore 9, 2) := by decide +kernel
theorem dL_tells_27 : decode cL_tells 27 = .ok (.iconst 0, 1) := by decide +kernel
theorem dL_tells_28 : decode cL_tells 28 = .ok (.istore 10, 2) := by decide +kernel
theorem dL_tells_30 : decode cL_tells 30 = .ok (.iload 10, 2) := by decide +kernel
theorem dL_tells_32 : decode cL_tells 32 = .ok (.iconst 4, 1) := by decide +kernel
theorem dL_tells_33 : decode cL_tells 33 = .ok (.if_icmp .ge 21, 3) := by decide +kernel
theorem dL_tells_36 : decode cL_tells 36 = .ok (.aload 6, 2) := by decide +kernel
theorem dL_tells_38 : decode cL_tells 38 = .ok (.iload 10, 2) := by decide +kernel
theorem dL_tells_40 : decode cL_tells 40 = .ok (.aload_n 2, 1) := by decide +kernel
theorem dL_tells_41 : decode cL_tells 41 = .ok (.bipush 12, 2) := by decide +kernel
theorem dL_tells_43 : decode cL_tells 43 = .ok (.iload 10, 2) := by decide +kernel
theorem dL_tells_45 : decode cL_tells 45 = .ok (.iadd, 1) := by decide +kernel
theorem dL_tells_46 : decode cL_tells 46 = .ok (.iaload, 1) := by decide +kernel
theorem dL_tells_47 : decode cL_tells 47 = .ok (.iastore, 1) := by decide +kernel
theorem dL_tells_48 : decode cL_tells 48 = .ok (.iinc 10 1, 3) := by decide +kernel
theorem dL_tells_51 : decode cL_tells 51 = .ok (.goto (-21), 3) := by decide +kernel
theorem dL_tells_54 : decode cL_tells 54 = .ok (.aload_n 1, 1) := by decide +kernel
theorem dL_tells_55 : decode cL_tells 55 = .ok (.aload_n 2, 1) := by decide +kernel
theorem dL_tells_56 : decode cL_tells 56 = .ok (.aload_n 3, 1) := by decide +kernel
theorem dL_tells_57 : decode cL_tells 57 = .ok (.aload 5, 2) := by decide +kernel
theorem dL_tells_59 : decode cL_tells 59 = .ok (.aload 7, 2) := by decide +kernel
theorem dL_tells_61 : decode cL_tells 61 = .ok (.invokestatic 11, 3) := by decide +kernel
theorem dL_tells_64 : decode cL_tells 64 = .ok (.aload_n 1, 1) := by decide +kernel
theorem dL_tells_65 : decode cL_tells 65 = .ok (.aload_n 2, 1) := by decide +kernel
theorem dL_tells_66 : decode cL_tells 66 = .ok (.aload_n 3, 1) := by decide +kernel
theorem dL_tells_67 : decode cL_tells 67 = .ok (.aload 6, 2) := by decide +kernel
theorem dL_tells_69 : decode cL_tells 69 = .ok (.aload 8, 2) := by decide +kernel
theorem dL_tells_71 : decode cL_tells 71 = .ok (.invokestatic 11, 3) := by decide +kernel
theorem dL_tells_74 : decode cL_tells 74 = .ok (.lconst 0, 1) := by decide +kernel
theorem dL_tells_75 : decode cL_tells 75 = .ok (.lstore 10, 2) := by decide +kernel
theorem dL_tells_77 : decode cL_tells 77 = .ok (.iconst 0, 1) := by decide +kernel
theorem dL_tells_78 : decode cL_tells 78 = .ok (.istore 12, 2) := by decide +kernel
theorem dL_tells_80 : decode cL_tells 80 = .ok (.iload 12, 2) := by decide +kernel
theorem dL_tells_82 : decode cL_tells 82 = .ok (.aload_n 1, 1) := by decide +kernel
theorem dL_tells_83 : decode cL_tells 83 = .ok (.iconst 1, 1) := by decide +kernel
theorem dL_tells_84 : decode cL_tells 84 = .ok (.iaload, 1) := by decide +kernel
theorem dL_tells_85 : decode cL_tells 85 = .ok (.if_icmp .gt 277, 3) := by decide +kernel
theorem dL_tells_88 : decode cL_tells 88 = .ok (.iload 12, 2) := by decide +kernel
theorem dL_tells_90 : decode cL_tells 90 = .ok (.aload_n 1, 1) := by decide +kernel
theorem dL_tells_91 : decode cL_tells 91 = .ok (.iconst 1, 1) := by decide +kernel
theorem dL_tells_92 : decode cL_tells 92 = .ok (.iaload, 1) := by decide +kernel
theorem dL_tells_93 : decode cL_tells 93 = .ok (.if_icmp .ge 7, 3) := by decide +kernel
theorem dL_tells_96 : decode cL_tells 96 = .ok (.iconst 1, 1) := by decide +kernel
theorem dL_tells_97 : decode cL_tells 97 = .ok (.goto 4, 3) := by decide +kernel
theorem dL_tells_100 : decode cL_tells 100 = .ok (.iconst 0, 1) := by decide +kernel
theorem dL_tells_101 : decode cL_tells 101 = .ok (.istore 13, 2) := by decide +kernel
theorem dL_tells_103 : decode cL_tells 103 = .ok (.iload 13, 2) := by decide +kernel
theorem dL_tells_105 : decode cL_tells 105 = .ok (.ifCond .eq 49, 3) := by decide +kernel
theorem dL_tells_108 : decode cL_tells 108 = .ok (.sipush 1000, 3) := by decide +kernel
theorem dL_tells_111 : decode cL_tells 111 = .ok (.aload_n 3, 1) := by decide +kernel
theorem dL_tells_112 : decode cL_tells 112 = .ok (.iconst 4, 1) := by decide +kernel
theorem dL_tells_113 : decode cL_tells 113 = .ok (.iload 12, 2) := by decide +kernel
theorem dL_tells_115 : decode cL_tells 115 = .ok (.imul, 1) := by decide +kernel
theorem dL_tells_116 : decode cL_tells 116 = .ok (.iaload, 1) := by decide +kernel
theorem dL_tells_117 : decode cL_tells 117 = .ok (.imul, 1) := by decide +kernel
theorem dL_tells_118 : decode cL_tells 118 = .ok (.bipush 100, 2) := by decide +kernel
theorem dL_tells_120 : decode cL_tells 120 = .ok (.aload_n 3, 1) := by decide +kernel
theorem dL_tells_121 : decode cL_tells 121 = .ok (.iconst 4, 1) := by decide +kernel
theorem dL_tells_122 : decode cL_tells 122 = .ok (.iload 12, 2) := by decide +kernel
theorem dL_tells_124 : decode cL_tells 124 = .ok (.imul, 1) := by decide +kernel
theorem dL_tells_125 : decode cL_tells 125 = .ok (.iconst 1, 1) := by decide +kernel
theorem dL_tells_126 : decode cL_tells 126 = .ok (.iadd, 1) := by decide +kernel
theorem dL_tells_127 : decode cL_tells 127 = .ok (.iaload, 1) := by decide +kernel
theorem dL_tells_128 : decode cL_tells 128 = .ok (.imul, 1) := by decide +kernel
theorem dL_tells_129 : decode cL_tells 129 = .ok (.iadd, 1) := by decide +kernel
theorem dL_tells_130 : decode cL_tells 130 = .ok (.bipush 10, 2) := by decide +kernel
theorem dL_tells_132 : decode cL_tells 132 = .ok (.aload_n 3, 1) := by decide +kernel
theorem dL_tells_133 : decode cL_tells 133 = .ok (.iconst 4, 1) := by decide +kernel
theorem dL_tells_134 : decode cL_tells 134 = .ok (.iload 12, 2) := by decide +kernel
theorem dL_tells_136 : decode cL_tells 136 = .ok (.imul, 1) := by decide +kernel
theorem dL_tells_137 : decode cL_tells 137 = .ok (.iconst 2, 1) := by decide +kernel
theorem dL_tells_138 : decode cL_tells 138 = .ok (.iadd, 1) := by decide +kernel
theorem dL_tells_139 : decode cL_tells 139 = .ok (.iaload, 1) := by decide +kernel
theorem dL_tells_140 : decode cL_tells 140 = .ok (.imul, 1) := by decide +kernel
theorem dL_tells_141 : decode cL_tells 141 = .ok (.iadd, 1) := by decide +kernel
theorem dL_tells_142 : decode cL_tells 142 = .ok (.aload_n 3, 1) := by decide +kernel
theorem dL_tells_143 : decode cL_tells 143 = .ok (.iconst 4, 1) := by decide +kernel
theorem dL_tells_144 : decode cL_tells 144 = .ok (.iload 12, 2) := by decide +kernel
theorem dL_tells_146 : decode cL_tells 146 = .ok (.imul, 1) := by decide +kernel
theorem dL_tells_147 : decode cL_tells 147 = .ok (.iconst 3, 1) := by decide +kernel
theorem dL_tells_148 : decode cL_tells 148 = .ok (.iadd, 1) := by decide +kernel
theorem dL_tells_149 : decode cL_tells 149 = .ok (.iaload, 1) := by decide +kernel
theorem dL_tells_150 : decode cL_tells 150 = .ok (.iadd, 1) := by decide +kernel
