set_option maxRecDepth 20000 in
theorem ggL_explain_L_run : GoodIn wsL_explain wsL_run := goodIn_r _ [5] (by decide +kernel) (by decide +kernel)
set_option maxRecDepth 20000 in
theorem gL_explain_L_run : GoodIn wsL_explain (va_wsS RL 11 yL_run wsL_run) := goodIn_app (goodIn_of _ (by decide +kernel)) ggL_explain_L_run
set_option maxRecDepth 20000 in
theorem ggL_explain_L_alike : GoodIn wsL_explain wsL_alike := goodIn_r _ [8] (by decide +kernel) (by decide +kernel)
set_option maxRecDepth 20000 in
theorem gL_explain_L_alike : GoodIn wsL_explain (va_wsS RL 17 yL_alike wsL_alike) := goodIn_app (goodIn_of _ (by decide +kernel)) ggL_explain_L_alike
theorem dL_explain_0 : decode cL_explain 0 = .ok (.iconst 4, 1) := by decide +kernel
theorem dL_explain_1 : decode cL_explain 1 = .ok (.newarray .int, 2) := by decide +kernel
theorem dL_explain_3 : decode cL_explain 3 = .ok (.astore 5, 2) := by decide +kernel
theorem dL_explain_5 : decode cL_explain 5 = .ok (.bipush 54, 2) := by decide +kernel
theorem dL_explain_7 : decode cL_explain 7 = .ok (.newarray .int, 2) := by decide +kernel
theorem dL_explain_9 : decode cL_explain 9 = .ok (.astore 6, 2) := by decide +kernel
theorem dL_explain_11 : decode cL_explain 11 = .ok (.aload 4, 2) := by decide +kernel
theorem dL_explain_13 : decode cL_explain 13 = .ok (.iconst 0, 1) := by decide +kernel
theorem dL_explain_14 : decode cL_explain 14 = .ok (.iconst (-1), 1) := by decide +kernel
theorem dL_explain_15 : decode cL_explain 15 = .ok (.iastore, 1) := by decide +kernel
theorem dL_explain_16 : decode cL_explain 16 = .ok (.aload 4, 2) := by decide +kernel
theorem dL_explain_18 : decode cL_explain 18 = .ok (.iconst 1, 1) := by decide +kernel
theorem dL_explain_19 : decode cL_explain 19 = .ok (.iconst (-1), 1) := by decide +kernel
theorem dL_explain_20 : decode cL_explain 20 = .ok (.iastore, 1) := by decide +kernel
theorem dL_explain_21 : decode cL_explain 21 = .ok (.aload 4, 2) := by decide +kernel
theorem dL_explain_23 : decode cL_explain 23 = .ok (.iconst 2, 1) := by decide +kernel
theorem dL_explain_24 : decode cL_explain 24 = .ok (.iconst (-1), 1) := by decide +kernel
theorem dL_explain_25 : decode cL_explain 25 = .ok (.iastore, 1) := by decide +kernel
theorem dL_explain_26 : decode cL_explain 26 = .ok (.aload 4, 2) := by decide +kernel
theorem dL_explain_28 : decode cL_explain 28 = .ok (.iconst 3, 1) := by decide +kernel
theorem dL_explain_29 : decode cL_explain 29 = .ok (.iconst 0, 1) := by decide +kernel
theorem dL_explain_30 : decode cL_explain 30 = .ok (.iastore, 1) := by decide +kernel
theorem dL_explain_31 : decode cL_explain 31 = .ok (.iconst 0, 1) := by decide +kernel
theorem dL_explain_32 : decode cL_explain 32 = .ok (.istore 7, 2) := by decide +kernel
theorem dL_explain_34 : decode cL_explain 34 = .ok (.iload 7, 2) := by decide +kernel
theorem dL_explain_36 : decode cL_explain 36 = .ok (.iconst 3, 1) := by decide +kernel
theorem dL_explain_37 : decode cL_explain 37 = .ok (.if_icmp .ge 242, 3) := by decide +kernel
theorem dL_explain_40 : decode cL_explain 40 = .ok (.aload 4, 2) := by decide +kernel
theorem dL_explain_42 : decode cL_explain 42 = .ok (.iconst 3, 1) := by decide +kernel
theorem dL_explain_43 : decode cL_explain 43 = .ok (.iaload, 1) := by decide +kernel
theorem dL_explain_44 : decode cL_explain 44 = .ok (.ifCond .ne 235, 3) := by decide +kernel
theorem dL_explain_47 : decode cL_explain 47 = .ok (.iconst 0, 1) := by decide +kernel
theorem dL_explain_48 : decode cL_explain 48 = .ok (.istore 8, 2) := by decide +kernel
theorem dL_explain_50 : decode cL_explain 50 = .ok (.iload 8, 2) := by decide +kernel
theorem dL_explain_52 : decode cL_explain 52 = .ok (.iload 7, 2) := by decide +kernel
theorem dL_explain_54 : decode cL_explain 54 = .ok (.ifCond .ne 7, 3) := by decide +kernel
theorem dL_explain_57 : decode cL_explain 57 = .ok (.iconst 1, 1) := by decide +kernel
theorem dL_explain_58 : decode cL_explain 58 = .ok (.goto 8, 3) := by decide +kernel
theorem dL_explain_61 : decode cL_explain 61 = .ok (.iconst 5, 1) := by decide +kernel
theorem dL_explain_62 : decode cL_explain 62 = .ok (.aload_n 0, 1) := by decide +kernel
theorem dL_explain_63 : decode cL_explain 63 = .ok (.iconst 0, 1) := by decide +kernel
theorem dL_explain_64 : decode cL_explain 64 = .ok (.iaload, 1) := by decide +kernel
theorem dL_explain_65 : decode cL_explain 65 = .ok (.imul, 1) := by decide +kernel
theorem dL_explain_66 : decode cL_explain 66 = .ok (.if_icmp .ge 207, 3) := by decide +kernel
theorem dL_explain_69 : decode cL_explain 69 = .ok (.iload 7, 2) := by decide +kernel
theorem dL_explain_71 : decode cL_explain 71 = .ok (.iconst 2, 1) := by decide +kernel
theorem dL_explain_72 : decode cL_explain 72 = .ok (.if_icmp .ge 8, 3) := by decide +kernel
theorem dL_explain_75 : decode cL_explain 75 = .ok (.iload 8, 2) := by decide +kernel
theorem dL_explain_77 : decode cL_explain 77 = .ok (.goto 7, 3) := by decide +kernel
theorem dL_explain_80 : decode cL_explain 80 = .ok (.iload 8, 2) := by decide +kernel
theorem dL_explain_82 : decode cL_explain 82 = .ok (.iconst 1, 1) := by decide +kernel
theorem dL_explain_83 : decode cL_explain 83 = .ok (.iadd, 1) := by decide +kernel
theorem dL_explain_84 : decode cL_explain 84 = .ok (.istore 9, 2) := by decide +kernel
theorem dL_explain_86 : decode cL_explain 86 = .ok (.iload 9, 2) := by decide +kernel
theorem dL_explain_88 : decode cL_explain 88 = .ok (.iload 7, 2) := by decide +kernel
theorem dL_explain_90 : decode cL_explain 90 = .ok (.iconst 2, 1) := by decide +kernel
theorem dL_explain_91 : decode cL_explain 91 = .ok (.if_icmp .ge 10, 3) := by decide +kernel
theorem dL_explain_94 : decode cL_explain 94 = .ok (.iload 8, 2) := by decide +kernel
theorem dL_explain_96 : decode cL_explain 96 = .ok (.iconst 1, 1) := by decide +kernel
theorem dL_explain_97 : decode cL_explain 97 = .ok (.iadd, 1) := by decide +kernel
theorem dL_explain_98 : decode cL_explain 98 = .ok (.goto 8, 3) := by decide +kernel
theorem dL_explain_101 : decode cL_explain 101 = .ok (.iconst 5, 1) := by decide +kernel
theorem dL_explain_102 : decode cL_explain 102 = .ok (.aload_n 0, 1) := by decide +kernel
theorem dL_explain_103 : decode cL_explain 103 = .ok (.iconst 0, 1) := by decide +kernel
theorem dL_explain_104 : decode cL_explain 104 = .ok (.iaload, 1) := by decide +kernel
theorem dL_explain_105 : decode cL_explain 105 = .ok (.imul, 1) := by decide +kernel
theorem dL_explain_106 : decode cL_explain 106 = .ok (.if_icmp .ge 161, 3) := by decide +kernel
theorem dL_explain_109 : decode cL_explain 109 = .ok (.iconst 0, 1) := by decide +kernel
theorem dL_explain_110 : decode cL_explain 110 = .ok (.istore 10, 2) := by decide +kernel
theorem dL_explain_112 : decode cL_explain 112 = .ok (.iload 10, 2) := by decide +kernel
theorem dL_explain_114 : decode cL_explain 114 = .ok (.iconst 4, 1) := by decide +kernel
theorem dL_explain_115 : decode cL_explain 115 = .ok (.if_icmp .ge 15, 3) := by decide +kernel
theorem dL_explain_118 : decode cL_explain 118 = .ok (.aload 5, 2) := by decide +kernel
theorem dL_explain_120 : decode cL_explain 120 = .ok (.iload 10, 2) := by decide +kernel
theorem dL_explain_122 : decode cL_explain 122 = .ok (.iconst 0, 1) := by decide +kernel
theorem dL_explain_123 : decode cL_explain 123 = .ok (.iastore, 1) := by decide +kernel
theorem dL_explain_124 : decode cL_explain 124 = .ok (.iinc 10 1, 3) := by decide +kernel
theorem dL_explain_127 : decode cL_explain 127 = .ok (.goto (-15), 3) := by decide +kernel
theorem dL_explain_130 : decode cL_explain 130 = .ok (.iload 7, 2) := by decide +kernel
theorem dL_explain_132 : decode cL_explain 132 = .ok (.ifCond .le 35, 3) := by decide +kernel
theorem dL_explain_135 : decode cL_explain 135 = .ok (.aload 5, 2) := by decide +kernel
theorem dL_explain_137 : decode cL_explain 137 = .ok (.iload 8, 2) := by decide +kernel
theorem dL_explain_139 : decode cL_explain 139 = .ok (.iconst 5, 1) := by decide +kernel
theorem dL_explain_140 : decode cL_explain 140 = .ok (.idiv, 1) := by decide +kernel
theorem dL_explain_141 : decode cL_explain 141 = .ok (.dup2, 1) := by decide +kernel
