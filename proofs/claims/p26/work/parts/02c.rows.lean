theorem dX7_fault_0 : decode cX7_fault 0 = .ok (.aload_n 0, 1) := by decide +kernel
theorem dX7_fault_1 : decode cX7_fault 1 = .ok (.iload_n 1, 1) := by decide +kernel
theorem dX7_fault_2 : decode cX7_fault 2 = .ok (.invokevirtual 73, 3) := by decide +kernel
theorem dX7_fault_5 : decode cX7_fault 5 = .ok (.iload_n 2, 1) := by decide +kernel
theorem dX7_fault_6 : decode cX7_fault 6 = .ok (.ifCond .lt 8, 3) := by decide +kernel
theorem dX7_fault_9 : decode cX7_fault 9 = .ok (.iload_n 2, 1) := by decide +kernel
theorem dX7_fault_10 : decode cX7_fault 10 = .ok (.iconst 5, 1) := by decide +kernel
theorem dX7_fault_11 : decode cX7_fault 11 = .ok (.if_icmp .lt 13, 3) := by decide +kernel
theorem dX7_fault_14 : decode cX7_fault 14 = .ok (.new 55, 3) := by decide +kernel
theorem dX7_fault_17 : decode cX7_fault 17 = .ok (.dup, 1) := by decide +kernel
theorem dX7_fault_18 : decode cX7_fault 18 = .ok (.ldc 98, 2) := by decide +kernel
theorem dX7_fault_20 : decode cX7_fault 20 = .ok (.invokespecial 59, 3) := by decide +kernel
theorem dX7_fault_23 : decode cX7_fault 23 = .ok (.athrow, 1) := by decide +kernel
theorem dX7_fault_24 : decode cX7_fault 24 = .ok (.iload_n 2, 1) := by decide +kernel
theorem dX7_fault_25 : decode cX7_fault 25 = .ok (.iload_n 1, 1) := by decide +kernel
theorem dX7_fault_26 : decode cX7_fault 26 = .ok (.invokestatic 100, 3) := by decide +kernel
theorem dX7_fault_29 : decode cX7_fault 29 = .ok (.istore_n 3, 1) := by decide +kernel
theorem dX7_fault_30 : decode cX7_fault 30 = .ok (.aload_n 0, 1) := by decide +kernel
theorem dX7_fault_31 : decode cX7_fault 31 = .ok (.dup, 1) := by decide +kernel
theorem dX7_fault_32 : decode cX7_fault 32 = .ok (.getfield 65, 3) := by decide +kernel
theorem dX7_fault_35 : decode cX7_fault 35 = .ok (.iload_n 3, 1) := by decide +kernel
theorem dX7_fault_36 : decode cX7_fault 36 = .ok (.ixor, 1) := by decide +kernel
theorem dX7_fault_37 : decode cX7_fault 37 = .ok (.putfield 65, 3) := by decide +kernel
theorem dX7_fault_40 : decode cX7_fault 40 = .ok (.aload_n 0, 1) := by decide +kernel
theorem dX7_fault_41 : decode cX7_fault 41 = .ok (.iconst 1, 1) := by decide +kernel
theorem dX7_fault_42 : decode cX7_fault 42 = .ok (.putfield 51, 3) := by decide +kernel
theorem dX7_fault_45 : decode cX7_fault 45 = .ok (.aload_n 0, 1) := by decide +kernel
theorem dX7_fault_46 : decode cX7_fault 46 = .ok (.getfield 65, 3) := by decide +kernel
theorem dX7_fault_49 : decode cX7_fault 49 = .ok (.iload_n 3, 1) := by decide +kernel
theorem dX7_fault_50 : decode cX7_fault 50 = .ok (.iand, 1) := by decide +kernel
theorem dX7_fault_51 : decode cX7_fault 51 = .ok (.ifCond .eq 7, 3) := by decide +kernel
theorem dX7_fault_54 : decode cX7_fault 54 = .ok (.iconst 1, 1) := by decide +kernel
theorem dX7_fault_55 : decode cX7_fault 55 = .ok (.goto 4, 3) := by decide +kernel
theorem dX7_fault_58 : decode cX7_fault 58 = .ok (.iconst 0, 1) := by decide +kernel
theorem dX7_fault_59 : decode cX7_fault 59 = .ok (.ireturn, 1) := by decide +kernel
set_option maxRecDepth 20000 in
theorem ggX7_add_X7_needPort : GoodIn wsX7_add wsX7_needPort := goodIn_ca (goodIn_r _ [11, 12, 13, 14, 15, 16, 17, 18, 19, 20, 41, 42, 43, 44, 45, 46, 47, 48, 49, 50, 51, 52] (by decide +kernel) (by decide +kernel)) (goodIn_sub (fun _ h => List.mem_cons_of_mem _ (List.mem_append_right _ h)) (by decide +kernel))
set_option maxRecDepth 20000 in
theorem gX7_add_X7_needPort : GoodIn wsX7_add (wsV RX7 73 RX7 yX7_needPort wsX7_needPort) := goodIn_app (goodIn_of _ (by decide +kernel)) ggX7_add_X7_needPort
set_option maxRecDepth 20000 in
theorem ggX7_add_X1_size : GoodIn wsX7_add wsX1_size := goodIn_r _ [25, 26, 53, 54] (by decide +kernel) (by decide +kernel)
set_option maxRecDepth 20000 in
theorem gX7_add_X1_size : GoodIn wsX7_add (wsV RX7 110 RX1 yX1_size wsX1_size) := goodIn_app (goodIn_of _ (by decide +kernel)) ggX7_add_X1_size
set_option maxRecDepth 20000 in
theorem ggX7_add_X7_frameOf : GoodIn wsX7_add wsX7_frameOf := goodIn_r _ [29] (by decide +kernel) (by decide +kernel)
set_option maxRecDepth 20000 in
theorem gX7_add_X7_frameOf : GoodIn wsX7_add (va_wsS RX7 118 yX7_frameOf wsX7_frameOf) := goodIn_app (goodIn_of _ (by decide +kernel)) ggX7_add_X7_frameOf
set_option maxRecDepth 20000 in
theorem ggX7_add_X1_append : GoodIn wsX7_add wsX1_append := goodIn_r _ [33, 26, 34, 35, 36, 37, 38, 39, 40, 53, 54, 55] (by decide +kernel) (by decide +kernel)
set_option maxRecDepth 20000 in
theorem gX7_add_X1_append : GoodIn wsX7_add (wsV RX7 122 RX1 yX1_append wsX1_append) := goodIn_app (goodIn_of _ (by decide +kernel)) ggX7_add_X1_append
theorem dX7_add_0 : decode cX7_add 0 = .ok (.aload_n 0, 1) := by decide +kernel
theorem dX7_add_1 : decode cX7_add 1 = .ok (.iload_n 1, 1) := by decide +kernel
theorem dX7_add_2 : decode cX7_add 2 = .ok (.invokevirtual 73, 3) := by decide +kernel
theorem dX7_add_5 : decode cX7_add 5 = .ok (.iload_n 2, 1) := by decide +kernel
theorem dX7_add_6 : decode cX7_add 6 = .ok (.ifCond .lt 8, 3) := by decide +kernel
theorem dX7_add_9 : decode cX7_add 9 = .ok (.iload_n 2, 1) := by decide +kernel
theorem dX7_add_10 : decode cX7_add 10 = .ok (.iconst 5, 1) := by decide +kernel
theorem dX7_add_11 : decode cX7_add 11 = .ok (.if_icmp .lt 13, 3) := by decide +kernel
theorem dX7_add_14 : decode cX7_add 14 = .ok (.new 55, 3) := by decide +kernel
theorem dX7_add_17 : decode cX7_add 17 = .ok (.dup, 1) := by decide +kernel
theorem dX7_add_18 : decode cX7_add 18 = .ok (.ldc 104, 2) := by decide +kernel
theorem dX7_add_20 : decode cX7_add 20 = .ok (.invokespecial 59, 3) := by decide +kernel
theorem dX7_add_23 : decode cX7_add 23 = .ok (.athrow, 1) := by decide +kernel
theorem dX7_add_24 : decode cX7_add 24 = .ok (.iload_n 3, 1) := by decide +kernel
theorem dX7_add_25 : decode cX7_add 25 = .ok (.ifCond .lt 8, 3) := by decide +kernel
theorem dX7_add_28 : decode cX7_add 28 = .ok (.iload_n 3, 1) := by decide +kernel
theorem dX7_add_29 : decode cX7_add 29 = .ok (.iconst 3, 1) := by decide +kernel
theorem dX7_add_30 : decode cX7_add 30 = .ok (.if_icmp .lt 13, 3) := by decide +kernel
theorem dX7_add_33 : decode cX7_add 33 = .ok (.new 55, 3) := by decide +kernel
theorem dX7_add_36 : decode cX7_add 36 = .ok (.dup, 1) := by decide +kernel
theorem dX7_add_37 : decode cX7_add 37 = .ok (.ldc 106, 2) := by decide +kernel
theorem dX7_add_39 : decode cX7_add 39 = .ok (.invokespecial 59, 3) := by decide +kernel
theorem dX7_add_42 : decode cX7_add 42 = .ok (.athrow, 1) := by decide +kernel
theorem dX7_add_43 : decode cX7_add 43 = .ok (.iload 4, 2) := by decide +kernel
theorem dX7_add_45 : decode cX7_add 45 = .ok (.ifCond .lt 9, 3) := by decide +kernel
theorem dX7_add_48 : decode cX7_add 48 = .ok (.iload 4, 2) := by decide +kernel
theorem dX7_add_50 : decode cX7_add 50 = .ok (.iconst 4, 1) := by decide +kernel
theorem dX7_add_51 : decode cX7_add 51 = .ok (.if_icmp .lt 13, 3) := by decide +kernel
theorem dX7_add_54 : decode cX7_add 54 = .ok (.new 55, 3) := by decide +kernel
theorem dX7_add_57 : decode cX7_add 57 = .ok (.dup, 1) := by decide +kernel
theorem dX7_add_58 : decode cX7_add 58 = .ok (.ldc 108, 2) := by decide +kernel
theorem dX7_add_60 : decode cX7_add 60 = .ok (.invokespecial 59, 3) := by decide +kernel
theorem dX7_add_63 : decode cX7_add 63 = .ok (.athrow, 1) := by decide +kernel
theorem dX7_add_64 : decode cX7_add 64 = .ok (.aload_n 0, 1) := by decide +kernel
theorem dX7_add_65 : decode cX7_add 65 = .ok (.getfield 19, 3) := by decide +kernel
theorem dX7_add_68 : decode cX7_add 68 = .ok (.invokevirtual 110, 3) := by decide +kernel
theorem dX7_add_71 : decode cX7_add 71 = .ok (.bipush 60, 2) := by decide +kernel
theorem dX7_add_73 : decode cX7_add 73 = .ok (.if_icmp .lt 13, 3) := by decide +kernel
theorem dX7_add_76 : decode cX7_add 76 = .ok (.new 113, 3) := by decide +kernel
theorem dX7_add_79 : decode cX7_add 79 = .ok (.dup, 1) := by decide +kernel
theorem dX7_add_80 : decode cX7_add 80 = .ok (.ldc 115, 2) := by decide +kernel
theorem dX7_add_82 : decode cX7_add 82 = .ok (.invokespecial 117, 3) := by decide +kernel
theorem dX7_add_85 : decode cX7_add 85 = .ok (.athrow, 1) := by decide +kernel
theorem dX7_add_86 : decode cX7_add 86 = .ok (.aload_n 0, 1) := by decide +kernel
theorem dX7_add_87 : decode cX7_add 87 = .ok (.getfield 19, 3) := by decide +kernel
theorem dX7_add_90 : decode cX7_add 90 = .ok (.iload_n 1, 1) := by decide +kernel
theorem dX7_add_91 : decode cX7_add 91 = .ok (.iload_n 2, 1) := by decide +kernel
theorem dX7_add_92 : decode cX7_add 92 = .ok (.iload_n 3, 1) := by decide +kernel
theorem dX7_add_93 : decode cX7_add 93 = .ok (.iload 4, 2) := by decide +kernel
theorem dX7_add_95 : decode cX7_add 95 = .ok (.invokestatic 118, 3) := by decide +kernel
theorem dX7_add_98 : decode cX7_add 98 = .ok (.invokevirtual 122, 3) := by decide +kernel
theorem dX7_add_101 : decode cX7_add 101 = .ok (.aload_n 0, 1) := by decide +kernel
theorem dX7_add_102 : decode cX7_add 102 = .ok (.iconst 1, 1) := by decide +kernel
theorem dX7_add_103 : decode cX7_add 103 = .ok (.putfield 51, 3) := by decide +kernel
theorem dX7_add_106 : decode cX7_add 106 = .ok (.aload_n 0, 1) := by decide +kernel
theorem dX7_add_107 : decode cX7_add 107 = .ok (.getfield 19, 3) := by decide +kernel
theorem dX7_add_110 : decode cX7_add 110 = .ok (.invokevirtual 110, 3) := by decide +kernel
theorem dX7_add_113 : decode cX7_add 113 = .ok (.iconst 1, 1) := by decide +kernel
theorem dX7_add_114 : decode cX7_add 114 = .ok (.isub, 1) := by decide +kernel
theorem dX7_add_115 : decode cX7_add 115 = .ok (.ireturn, 1) := by decide +kernel
set_option maxRecDepth 20000 in
theorem ggX7_clear_X1_cutTo : GoodIn wsX7_clear wsX1_cutTo := goodIn_r _ [7, 8, 17, 18] (by decide +kernel) (by decide +kernel)
set_option maxRecDepth 20000 in
theorem gX7_clear_X1_cutTo : GoodIn wsX7_clear (wsV RX7 62 RX1 yX1_cutTo wsX1_cutTo) := goodIn_app (goodIn_of _ (by decide +kernel)) ggX7_clear_X1_cutTo
theorem dX7_clear_0 : decode cX7_clear 0 = .ok (.aload_n 0, 1) := by decide +kernel
theorem dX7_clear_1 : decode cX7_clear 1 = .ok (.getfield 19, 3) := by decide +kernel
theorem dX7_clear_4 : decode cX7_clear 4 = .ok (.iconst 0, 1) := by decide +kernel
theorem dX7_clear_5 : decode cX7_clear 5 = .ok (.invokevirtual 62, 3) := by decide +kernel
theorem dX7_clear_8 : decode cX7_clear 8 = .ok (.aload_n 0, 1) := by decide +kernel
theorem dX7_clear_9 : decode cX7_clear 9 = .ok (.iconst 1, 1) := by decide +kernel
theorem dX7_clear_10 : decode cX7_clear 10 = .ok (.putfield 51, 3) := by decide +kernel
theorem dX7_clear_13 : decode cX7_clear 13 = .ok (.return_, 1) := by decide +kernel
set_option maxRecDepth 20000 in
theorem ggX7_frames_X1_size : GoodIn wsX7_frames wsX1_size := goodIn_r _ [6, 7, 16, 17] (by decide +kernel) (by decide +kernel)
set_option maxRecDepth 20000 in
theorem gX7_frames_X1_size : GoodIn wsX7_frames (wsV RX7 110 RX1 yX1_size wsX1_size) := goodIn_app (goodIn_of _ (by decide +kernel)) ggX7_frames_X1_size
theorem dX7_frames_0 : decode cX7_frames 0 = .ok (.aload_n 0, 1) := by decide +kernel
theorem dX7_frames_1 : decode cX7_frames 1 = .ok (.getfield 19, 3) := by decide +kernel
theorem dX7_frames_4 : decode cX7_frames 4 = .ok (.invokevirtual 110, 3) := by decide +kernel
theorem dX7_frames_7 : decode cX7_frames 7 = .ok (.ireturn, 1) := by decide +kernel
set_option maxRecDepth 20000 in
theorem ggX7_frameAt_X7_needFrame : GoodIn wsX7_frameAt wsX7_needFrame := goodIn_ca (goodIn_r _ [6, 7, 8, 1, 9, 10, 11, 12, 13, 14, 26, 27, 28, 29, 30, 31, 32, 33, 34, 35] (by decide +kernel) (by decide +kernel)) (goodIn_sub (fun _ h => List.mem_cons_of_mem _ (List.mem_append_right _ h)) (by decide +kernel))
set_option maxRecDepth 20000 in
theorem gX7_frameAt_X7_needFrame : GoodIn wsX7_frameAt (wsV RX7 144 RX7 yX7_needFrame wsX7_needFrame) := goodIn_app (goodIn_of _ (by decide +kernel)) ggX7_frameAt_X7_needFrame
set_option maxRecDepth 20000 in
theorem ggX7_frameAt_X1_frame : GoodIn wsX7_frameAt wsX1_frame := goodIn_r _ [18, 19, 20, 21, 22, 23, 24, 25, 34, 35, 36] (by decide +kernel) (by decide +kernel)
set_option maxRecDepth 20000 in
theorem gX7_frameAt_X1_frame : GoodIn wsX7_frameAt (wsV RX7 147 RX1 yX1_frame wsX1_frame) := goodIn_app (goodIn_of _ (by decide +kernel)) ggX7_frameAt_X1_frame
theorem dX7_frameAt_0 : decode cX7_frameAt 0 = .ok (.aload_n 0, 1) := by decide +kernel
theorem dX7_frameAt_1 : decode cX7_frameAt 1 = .ok (.iload_n 1, 1) := by decide +kernel
theorem dX7_frameAt_2 : decode cX7_frameAt 2 = .ok (.invokevirtual 144, 3) := by decide +kernel
theorem dX7_frameAt_5 : decode cX7_frameAt 5 = .ok (.aload_n 0, 1) := by decide +kernel
theorem dX7_frameAt_6 : decode cX7_frameAt 6 = .ok (.getfield 19, 3) := by decide +kernel
theorem dX7_frameAt_9 : decode cX7_frameAt 9 = .ok (.iload_n 1, 1) := by decide +kernel
theorem dX7_frameAt_10 : decode cX7_frameAt 10 = .ok (.invokevirtual 147, 3) := by decide +kernel
theorem dX7_frameAt_13 : decode cX7_frameAt 13 = .ok (.ireturn, 1) := by decide +kernel
set_option maxRecDepth 20000 in
theorem ggX7_pairs_X2_portCount : GoodIn wsX7_pairs wsX2_portCount := goodIn_r _ [7, 8, 22, 23, 24, 25] (by decide +kernel) (by decide +kernel)
set_option maxRecDepth 20000 in
theorem gX7_pairs_X2_portCount : GoodIn wsX7_pairs (wsV RX7 69 RX2 yX2_portCount wsX2_portCount) := goodIn_app (goodIn_of _ (by decide +kernel)) ggX7_pairs_X2_portCount
set_option maxRecDepth 20000 in
theorem ggX7_pairs_X3_countAll : GoodIn wsX7_pairs wsX3_countAll := goodIn_r _ [13] (by decide +kernel) (by decide +kernel)
set_option maxRecDepth 20000 in
theorem gX7_pairs_X3_countAll : GoodIn wsX7_pairs (wsV RX7 129 RX3 yX3_countAll wsX3_countAll) := goodIn_app (goodIn_of _ (by decide +kernel)) ggX7_pairs_X3_countAll
theorem dX7_pairs_0 : decode cX7_pairs 0 = .ok (.aload_n 0, 1) := by decide +kernel
theorem dX7_pairs_1 : decode cX7_pairs 1 = .ok (.getfield 26, 3) := by decide +kernel
theorem dX7_pairs_4 : decode cX7_pairs 4 = .ok (.aload_n 0, 1) := by decide +kernel
theorem dX7_pairs_5 : decode cX7_pairs 5 = .ok (.getfield 12, 3) := by decide +kernel
theorem dX7_pairs_8 : decode cX7_pairs 8 = .ok (.invokevirtual 69, 3) := by decide +kernel
theorem dX7_pairs_11 : decode cX7_pairs 11 = .ok (.invokevirtual 129, 3) := by decide +kernel
theorem dX7_pairs_14 : decode cX7_pairs 14 = .ok (.ireturn, 1) := by decide +kernel
set_option maxRecDepth 20000 in
theorem ggX7_pairsMet_X3_meetAll : GoodIn wsX7_pairsMet wsX3_meetAll := goodIn_r _ [7, 8, 9, 10, 11, 12, 13, 14, 15, 16, 17, 18, 19, 20, 21, 22, 23, 24, 25, 26, 27, 28, 29, 30, 31, 32, 33, 34, 35, 36, 6, 37, 38, 39, 40, 41, 42, 43, 44, 45, 46, 47, 48, 49, 50, 51, 52, 53, 54, 55, 56, 57, 77, 78, 79, 80] (by decide +kernel) (by decide +kernel)
set_option maxRecDepth 20000 in
theorem gX7_pairsMet_X3_meetAll : GoodIn wsX7_pairsMet (wsV RX7 125 RX3 yX3_meetAll wsX3_meetAll) := goodIn_app (goodIn_of _ (by decide +kernel)) ggX7_pairsMet_X3_meetAll
set_option maxRecDepth 20000 in
theorem ggX7_pairsMet_X3_countMet : GoodIn wsX7_pairsMet wsX3_countMet := goodIn_r _ [61, 8, 50, 31, 32, 12, 33, 14, 62, 63, 64, 65, 66, 67, 68, 77, 78] (by decide +kernel) (by decide +kernel)
set_option maxRecDepth 20000 in
theorem gX7_pairsMet_X3_countMet : GoodIn wsX7_pairsMet (wsV RX7 133 RX3 yX3_countMet wsX3_countMet) := goodIn_app (goodIn_of _ (by decide +kernel)) ggX7_pairsMet_X3_countMet
theorem dX7_pairsMet_0 : decode cX7_pairsMet 0 = .ok (.aload_n 0, 1) := by decide +kernel
theorem dX7_pairsMet_1 : decode cX7_pairsMet 1 = .ok (.getfield 26, 3) := by decide +kernel
theorem dX7_pairsMet_4 : decode cX7_pairsMet 4 = .ok (.aload_n 0, 1) := by decide +kernel
theorem dX7_pairsMet_5 : decode cX7_pairsMet 5 = .ok (.getfield 19, 3) := by decide +kernel
theorem dX7_pairsMet_8 : decode cX7_pairsMet 8 = .ok (.invokevirtual 125, 3) := by decide +kernel
theorem dX7_pairsMet_11 : decode cX7_pairsMet 11 = .ok (.aload_n 0, 1) := by decide +kernel
theorem dX7_pairsMet_12 : decode cX7_pairsMet 12 = .ok (.getfield 26, 3) := by decide +kernel
theorem dX7_pairsMet_15 : decode cX7_pairsMet 15 = .ok (.invokevirtual 133, 3) := by decide +kernel
theorem dX7_pairsMet_18 : decode cX7_pairsMet 18 = .ok (.ireturn, 1) := by decide +kernel
set_option maxRecDepth 20000 in
theorem ggX7_expected_X7_needFrame : GoodIn wsX7_expected wsX7_needFrame := goodIn_ca (goodIn_r _ [6, 7, 8, 9, 10, 11, 12, 13, 14, 15, 148, 149, 150, 151, 152, 153, 154, 155, 156, 157] (by decide +kernel) (by decide +kernel)) (goodIn_sub (fun _ h => List.mem_cons_of_mem _ (List.mem_append_right _ h)) (by decide +kernel))
set_option maxRecDepth 20000 in
theorem gX7_expected_X7_needFrame : GoodIn wsX7_expected (wsV RX7 144 RX7 yX7_needFrame wsX7_needFrame) := goodIn_app (goodIn_of _ (by decide +kernel)) ggX7_expected_X7_needFrame
set_option maxRecDepth 20000 in
theorem ggX7_expected_X7_settle : GoodIn wsX7_expected wsX7_settle := goodIn_r _ [19, 20, 1, 21, 9, 22, 23, 24, 25, 26, 27, 28, 29, 30, 31, 32, 33, 34, 35, 36, 37, 38, 39, 40, 41, 42, 43, 44, 45, 46, 47, 48, 49, 50, 51, 11, 12, 13, 14, 15, 52, 53, 54, 55, 56, 57, 58, 59, 60, 61, 62, 63, 64, 65, 66, 67, 68, 69, 70, 71, 72, 5, 73, 74, 75, 76, 77, 78, 79, 80, 81, 82, 83, 84, 85, 86, 87, 88, 89, 90, 91, 92, 93, 94, 95, 96, 97, 98, 99, 100, 101, 102, 103, 104, 105, 106, 107, 108, 109, 110, 111, 112, 113, 114, 115, 116, 117, 118, 119, 120, 121, 122, 123, 124, 125, 126, 127, 128, 129, 130, 131, 132, 133, 134, 135, 136, 137, 138, 139, 140, 141, 142, 148, 149, 150, 151, 152, 153, 154, 155, 158, 159, 160, 161, 162, 163, 164, 165, 166, 167, 156, 157, 168, 169, 170, 171, 172, 173, 174, 175, 176, 177] (by decide +kernel) (by decide +kernel)
set_option maxRecDepth 20000 in
theorem gX7_expected_X7_settle : GoodIn wsX7_expected (wsV RX7 150 RX7 yX7_settle wsX7_settle) := goodIn_app (goodIn_of _ (by decide +kernel)) ggX7_expected_X7_settle
set_option maxRecDepth 20000 in
theorem ggX7_expected_X5_exitsOf : GoodIn wsX7_expected wsX5_exitsOf := goodIn_r _ [146, 31, 147, 58, 59, 44, 60, 46, 158, 159, 160, 161, 167] (by decide +kernel) (by decide +kernel)
set_option maxRecDepth 20000 in
theorem gX7_expected_X5_exitsOf : GoodIn wsX7_expected (wsV RX7 153 RX5 yX5_exitsOf wsX5_exitsOf) := goodIn_app (goodIn_of _ (by decide +kernel)) ggX7_expected_X5_exitsOf
theorem dX7_expected_0 : decode cX7_expected 0 = .ok (.aload_n 0, 1) := by decide +kernel
theorem dX7_expected_1 : decode cX7_expected 1 = .ok (.iload_n 1, 1) := by decide +kernel
theorem dX7_expected_2 : decode cX7_expected 2 = .ok (.invokevirtual 144, 3) := by decide +kernel
theorem dX7_expected_5 : decode cX7_expected 5 = .ok (.aload_n 0, 1) := by decide +kernel
theorem dX7_expected_6 : decode cX7_expected 6 = .ok (.invokevirtual 150, 3) := by decide +kernel
theorem dX7_expected_9 : decode cX7_expected 9 = .ok (.aload_n 0, 1) := by decide +kernel
theorem dX7_expected_10 : decode cX7_expected 10 = .ok (.getfield 33, 3) := by decide +kernel
theorem dX7_expected_13 : decode cX7_expected 13 = .ok (.iload_n 1, 1) := by decide +kernel
theorem dX7_expected_14 : decode cX7_expected 14 = .ok (.invokevirtual 153, 3) := by decide +kernel
theorem dX7_expected_17 : decode cX7_expected 17 = .ok (.ireturn, 1) := by decide +kernel
set_option maxRecDepth 20000 in
theorem ggX7_expectedTagged_X7_needFrame : GoodIn wsX7_expectedTagged wsX7_needFrame := goodIn_ca (goodIn_r _ [6, 7, 8, 9, 10, 11, 12, 13, 14, 15, 148, 149, 150, 151, 152, 153, 154, 155, 156, 157] (by decide +kernel) (by decide +kernel)) (goodIn_sub (fun _ h => List.mem_cons_of_mem _ (List.mem_append_right _ h)) (by decide +kernel))
set_option maxRecDepth 20000 in
theorem gX7_expectedTagged_X7_needFrame : GoodIn wsX7_expectedTagged (wsV RX7 144 RX7 yX7_needFrame wsX7_needFrame) := goodIn_app (goodIn_of _ (by decide +kernel)) ggX7_expectedTagged_X7_needFrame
set_option maxRecDepth 20000 in
theorem ggX7_expectedTagged_X7_settle : GoodIn wsX7_expectedTagged wsX7_settle := goodIn_r _ [19, 20, 1, 21, 9, 22, 23, 24, 25, 26, 27, 28, 29, 30, 31, 32, 33, 34, 35, 36, 37, 38, 39, 40, 41, 42, 43, 44, 45, 46, 47, 48, 49, 50, 51, 11, 12, 13, 14, 15, 52, 53, 54, 55, 56, 57, 58, 59, 60, 61, 62, 63, 64, 65, 66, 67, 68, 69, 70, 71, 72, 5, 73, 74, 75, 76, 77, 78, 79, 80, 81, 82, 83, 84, 85, 86, 87, 88, 89, 90, 91, 92, 93, 94, 95, 96, 97, 98, 99, 100, 101, 102, 103, 104, 105, 106, 107, 108, 109, 110, 111, 112, 113, 114, 115, 116, 117, 118, 119, 120, 121, 122, 123, 124, 125, 126, 127, 128, 129, 130, 131, 132, 133, 134, 135, 136, 137, 138, 139, 140, 141, 142, 148, 149, 150, 151, 152, 153, 154, 155, 158, 159, 160, 161, 162, 163, 164, 165, 166, 167, 156, 157, 168, 169, 170, 171, 172, 173, 174, 175, 176, 177] (by decide +kernel) (by decide +kernel)
set_option maxRecDepth 20000 in
theorem gX7_expectedTagged_X7_settle : GoodIn wsX7_expectedTagged (wsV RX7 150 RX7 yX7_settle wsX7_settle) := goodIn_app (goodIn_of _ (by decide +kernel)) ggX7_expectedTagged_X7_settle
set_option maxRecDepth 20000 in
theorem ggX7_expectedTagged_X5_taggedOf : GoodIn wsX7_expectedTagged wsX5_taggedOf := goodIn_r _ [146, 32, 147, 58, 59, 44, 60, 46, 158, 159, 160, 161, 167] (by decide +kernel) (by decide +kernel)
set_option maxRecDepth 20000 in
theorem gX7_expectedTagged_X5_taggedOf : GoodIn wsX7_expectedTagged (wsV RX7 156 RX5 yX5_taggedOf wsX5_taggedOf) := goodIn_app (goodIn_of _ (by decide +kernel)) ggX7_expectedTagged_X5_taggedOf
theorem dX7_expectedTagged_0 : decode cX7_expectedTagged 0 = .ok (.aload_n 0, 1) := by decide +kernel
theorem dX7_expectedTagged_1 : decode cX7_expectedTagged 1 = .ok (.iload_n 1, 1) := by decide +kernel
theorem dX7_expectedTagged_2 : decode cX7_expectedTagged 2 = .ok (.invokevirtual 144, 3) := by decide +kernel
theorem dX7_expectedTagged_5 : decode cX7_expectedTagged 5 = .ok (.aload_n 0, 1) := by decide +kernel
theorem dX7_expectedTagged_6 : decode cX7_expectedTagged 6 = .ok (.invokevirtual 150, 3) := by decide +kernel
theorem dX7_expectedTagged_9 : decode cX7_expectedTagged 9 = .ok (.aload_n 0, 1) := by decide +kernel
theorem dX7_expectedTagged_10 : decode cX7_expectedTagged 10 = .ok (.getfield 33, 3) := by decide +kernel
theorem dX7_expectedTagged_13 : decode cX7_expectedTagged 13 = .ok (.iload_n 1, 1) := by decide +kernel
theorem dX7_expectedTagged_14 : decode cX7_expectedTagged 14 = .ok (.invokevirtual 156, 3) := by decide +kernel
theorem dX7_expectedTagged_17 : decode cX7_expectedTagged 17 = .ok (.ireturn, 1) := by decide +kernel
set_option maxRecDepth 20000 in
theorem ggX7_reason_X7_needFrame : GoodIn wsX7_reason wsX7_needFrame := goodIn_ca (goodIn_r _ [6, 7, 8, 9, 10, 11, 12, 13, 14, 15, 148, 149, 150, 151, 152, 153, 154, 155, 156, 157] (by decide +kernel) (by decide +kernel)) (goodIn_sub (fun _ h => List.mem_cons_of_mem _ (List.mem_append_right _ h)) (by decide +kernel))
set_option maxRecDepth 20000 in
theorem gX7_reason_X7_needFrame : GoodIn wsX7_reason (wsV RX7 144 RX7 yX7_needFrame wsX7_needFrame) := goodIn_app (goodIn_of _ (by decide +kernel)) ggX7_reason_X7_needFrame
set_option maxRecDepth 20000 in
theorem ggX7_reason_X7_settle : GoodIn wsX7_reason wsX7_settle := goodIn_r _ [19, 20, 1, 21, 9, 22, 23, 24, 25, 26, 27, 28, 29, 30, 31, 32, 33, 34, 35, 36, 37, 38, 39, 40, 41, 42, 43, 44, 45, 46, 47, 48, 49, 50, 51, 11, 12, 13, 14, 15, 52, 53, 54, 55, 56, 57, 58, 59, 60, 61, 62, 63, 64, 65, 66, 67, 68, 69, 70, 71, 72, 5, 73, 74, 75, 76, 77, 78, 79, 80, 81, 82, 83, 84, 85, 86, 87, 88, 89, 90, 91, 92, 93, 94, 95, 96, 97, 98, 99, 100, 101, 102, 103, 104, 105, 106, 107, 108, 109, 110, 111, 112, 113, 114, 115, 116, 117, 118, 119, 120, 121, 122, 123, 124, 125, 126, 127, 128, 129, 130, 131, 132, 133, 134, 135, 136, 137, 138, 139, 140, 141, 142, 148, 149, 150, 151, 152, 153, 154, 155, 158, 159, 160, 161, 162, 163, 164, 165, 166, 167, 156, 157, 168, 169, 170, 171, 172, 173, 174, 175, 176, 177] (by decide +kernel) (by decide +kernel)
set_option maxRecDepth 20000 in
theorem gX7_reason_X7_settle : GoodIn wsX7_reason (wsV RX7 150 RX7 yX7_settle wsX7_settle) := goodIn_app (goodIn_of _ (by decide +kernel)) ggX7_reason_X7_settle
set_option maxRecDepth 20000 in
theorem ggX7_reason_X5_reasonOf : GoodIn wsX7_reason wsX5_reasonOf := goodIn_r _ [146, 33, 147, 58, 59, 44, 60, 46, 158, 159, 160, 161, 167] (by decide +kernel) (by decide +kernel)
set_option maxRecDepth 20000 in
theorem gX7_reason_X5_reasonOf : GoodIn wsX7_reason (wsV RX7 159 RX5 yX5_reasonOf wsX5_reasonOf) := goodIn_app (goodIn_of _ (by decide +kernel)) ggX7_reason_X5_reasonOf
theorem dX7_reason_0 : decode cX7_reason 0 = .ok (.aload_n 0, 1) := by decide +kernel
theorem dX7_reason_1 : decode cX7_reason 1 = .ok (.iload_n 1, 1) := by decide +kernel
theorem dX7_reason_2 : decode cX7_reason 2 = .ok (.invokevirtual 144, 3) := by decide +kernel
theorem dX7_reason_5 : decode cX7_reason 5 = .ok (.aload_n 0, 1) := by decide +kernel
theorem dX7_reason_6 : decode cX7_reason 6 = .ok (.invokevirtual 150, 3) := by decide +kernel
theorem dX7_reason_9 : decode cX7_reason 9 = .ok (.aload_n 0, 1) := by decide +kernel
theorem dX7_reason_10 : decode cX7_reason 10 = .ok (.getfield 33, 3) := by decide +kernel
theorem dX7_reason_13 : decode cX7_reason 13 = .ok (.iload_n 1, 1) := by decide +kernel
theorem dX7_reason_14 : decode cX7_reason 14 = .ok (.invokevirtual 159, 3) := by decide +kernel
theorem dX7_reason_17 : decode cX7_reason 17 = .ok (.ireturn, 1) := by decide +kernel
set_option maxRecDepth 20000 in
theorem ggX7_learned_X7_isNetwork : GoodIn wsX7_learned wsX7_isNetwork := goodIn_r _ [7] (by decide +kernel) (by decide +kernel)
set_option maxRecDepth 20000 in
theorem gX7_learned_X7_isNetwork : GoodIn wsX7_learned (va_wsS RX7 76 yX7_isNetwork wsX7_isNetwork) := goodIn_app (goodIn_of _ (by decide +kernel)) ggX7_learned_X7_isNetwork
set_option maxRecDepth 20000 in
theorem ggX7_learned_X7_settle : GoodIn wsX7_learned wsX7_settle := goodIn_r _ [11, 12, 3, 13, 14, 15, 16, 17, 18, 19, 20, 21, 22, 23, 24, 25, 26, 27, 28, 29, 30, 31, 32, 33, 34, 35, 36, 37, 38, 39, 40, 41, 42, 43, 44, 45, 46, 47, 48, 49, 50, 51, 52, 53, 54, 55, 56, 57, 58, 59, 60, 61, 62, 63, 64, 65, 66, 67, 68, 69, 70, 6, 71, 72, 73, 74, 75, 76, 77, 78, 79, 80, 81, 82, 83, 84, 85, 86, 87, 88, 89, 90, 91, 92, 93, 94, 95, 96, 97, 98, 99, 100, 101, 102, 103, 104, 105, 106, 107, 108, 109, 110, 111, 112, 113, 114, 115, 116, 117, 118, 119, 120, 121, 122, 123, 124, 125, 126, 127, 128, 129, 130, 131, 132, 133, 134, 135, 136, 137, 138, 139, 140, 149, 150, 151, 152, 153, 154, 155, 156, 157, 158, 159, 160, 161, 162, 163, 164, 165, 166, 167, 168, 169, 170, 171, 172, 173, 174, 175, 176, 177, 178] (by decide +kernel) (by decide +kernel)
set_option maxRecDepth 20000 in
theorem gX7_learned_X7_settle : GoodIn wsX7_learned (wsV RX7 150 RX7 yX7_settle wsX7_settle) := goodIn_app (goodIn_of _ (by decide +kernel)) ggX7_learned_X7_settle
set_option maxRecDepth 20000 in
theorem ggX7_learned_X5_placeOf : GoodIn wsX7_learned wsX5_placeOf := goodIn_r _ [144, 23, 145, 146, 147, 30, 148, 33, 102, 103, 104, 115, 56, 57, 37, 58, 39, 157, 158, 159, 160, 161, 162, 163, 164, 165, 166] (by decide +kernel) (by decide +kernel)
set_option maxRecDepth 20000 in
theorem gX7_learned_X5_placeOf : GoodIn wsX7_learned (wsV RX7 164 RX5 yX5_placeOf wsX5_placeOf) := goodIn_app (goodIn_of _ (by decide +kernel)) ggX7_learned_X5_placeOf
theorem dX7_learned_0 : decode cX7_learned 0 = .ok (.iload_n 1, 1) := by decide +kernel
theorem dX7_learned_1 : decode cX7_learned 1 = .ok (.invokestatic 76, 3) := by decide +kernel
theorem dX7_learned_4 : decode cX7_learned 4 = .ok (.ifCond .ne 13, 3) := by decide +kernel
theorem dX7_learned_7 : decode cX7_learned 7 = .ok (.new 55, 3) := by decide +kernel
theorem dX7_learned_10 : decode cX7_learned 10 = .ok (.dup, 1) := by decide +kernel
theorem dX7_learned_11 : decode cX7_learned 11 = .ok (.ldc 80, 2) := by decide +kernel
theorem dX7_learned_13 : decode cX7_learned 13 = .ok (.invokespecial 59, 3) := by decide +kernel
theorem dX7_learned_16 : decode cX7_learned 16 = .ok (.athrow, 1) := by decide +kernel
theorem dX7_learned_17 : decode cX7_learned 17 = .ok (.iload_n 2, 1) := by decide +kernel
theorem dX7_learned_18 : decode cX7_learned 18 = .ok (.ifCond .lt 8, 3) := by decide +kernel
theorem dX7_learned_21 : decode cX7_learned 21 = .ok (.iload_n 2, 1) := by decide +kernel
theorem dX7_learned_22 : decode cX7_learned 22 = .ok (.iconst 3, 1) := by decide +kernel
theorem dX7_learned_23 : decode cX7_learned 23 = .ok (.if_icmp .lt 13, 3) := by decide +kernel
theorem dX7_learned_26 : decode cX7_learned 26 = .ok (.new 55, 3) := by decide +kernel
theorem dX7_learned_29 : decode cX7_learned 29 = .ok (.dup, 1) := by decide +kernel
theorem dX7_learned_30 : decode cX7_learned 30 = .ok (.ldc 162, 2) := by decide +kernel
theorem dX7_learned_32 : decode cX7_learned 32 = .ok (.invokespecial 59, 3) := by decide +kernel
theorem dX7_learned_35 : decode cX7_learned 35 = .ok (.athrow, 1) := by decide +kernel
theorem dX7_learned_36 : decode cX7_learned 36 = .ok (.aload_n 0, 1) := by decide +kernel
theorem dX7_learned_37 : decode cX7_learned 37 = .ok (.invokevirtual 150, 3) := by decide +kernel
theorem dX7_learned_40 : decode cX7_learned 40 = .ok (.aload_n 0, 1) := by decide +kernel
theorem dX7_learned_41 : decode cX7_learned 41 = .ok (.getfield 33, 3) := by decide +kernel
theorem dX7_learned_44 : decode cX7_learned 44 = .ok (.iload_n 1, 1) := by decide +kernel
theorem dX7_learned_45 : decode cX7_learned 45 = .ok (.iload_n 2, 1) := by decide +kernel
theorem dX7_learned_46 : decode cX7_learned 46 = .ok (.invokevirtual 164, 3) := by decide +kernel
theorem dX7_learned_49 : decode cX7_learned 49 = .ok (.ireturn, 1) := by decide +kernel
set_option maxRecDepth 20000 in
theorem ggX7_seen_X7_needFrame : GoodIn wsX7_seen wsX7_needFrame := goodIn_ca (goodIn_r _ [6, 7, 8, 9, 10, 11, 12, 13, 14, 15, 148, 149, 150, 151, 152, 153, 154, 155, 156, 157] (by decide +kernel) (by decide +kernel)) (goodIn_sub (fun _ h => List.mem_cons_of_mem _ (List.mem_append_right _ h)) (by decide +kernel))
set_option maxRecDepth 20000 in
theorem gX7_seen_X7_needFrame : GoodIn wsX7_seen (wsV RX7 144 RX7 yX7_needFrame wsX7_needFrame) := goodIn_app (goodIn_of _ (by decide +kernel)) ggX7_seen_X7_needFrame
set_option maxRecDepth 20000 in
theorem ggX7_seen_X7_settle : GoodIn wsX7_seen wsX7_settle := goodIn_r _ [19, 20, 21, 22, 9, 1, 23, 24, 25, 26, 27, 28, 29, 30, 31, 32, 33, 34, 35, 36, 37, 38, 39, 40, 41, 42, 43, 44, 45, 46, 47, 48, 49, 50, 51, 11, 12, 13, 14, 15, 52, 53, 54, 55, 56, 57, 58, 59, 60, 61, 62, 63, 64, 65, 66, 67, 68, 69, 70, 71, 72, 5, 73, 74, 75, 76, 77, 78, 79, 80, 81, 82, 83, 84, 85, 86, 87, 88, 89, 90, 91, 92, 93, 94, 95, 96, 97, 98, 99, 100, 101, 102, 103, 104, 105, 106, 107, 108, 109, 110, 111, 112, 113, 114, 115, 116, 117, 118, 119, 120, 121, 122, 123, 124, 125, 126, 127, 128, 129, 130, 131, 132, 133, 134, 135, 136, 137, 138, 139, 140, 141, 142, 148, 149, 150, 151, 152, 153, 154, 155, 158, 159, 160, 161, 162, 163, 164, 165, 166, 167, 156, 157, 168, 169, 170, 171, 172, 173, 174, 175, 176, 177] (by decide +kernel) (by decide +kernel)
set_option maxRecDepth 20000 in
theorem gX7_seen_X7_settle : GoodIn wsX7_seen (wsV RX7 150 RX7 yX7_settle wsX7_settle) := goodIn_app (goodIn_of _ (by decide +kernel)) ggX7_seen_X7_settle
set_option maxRecDepth 20000 in
theorem ggX7_seen_X5_exitsOf : GoodIn wsX7_seen wsX5_exitsOf := goodIn_r _ [146, 31, 147, 58, 59, 44, 60, 46, 158, 159, 160, 161, 167] (by decide +kernel) (by decide +kernel)
set_option maxRecDepth 20000 in
theorem gX7_seen_X5_exitsOf : GoodIn wsX7_seen (wsV RX7 153 RX5 yX5_exitsOf wsX5_exitsOf) := goodIn_app (goodIn_of _ (by decide +kernel)) ggX7_seen_X5_exitsOf
theorem dX7_seen_0 : decode cX7_seen 0 = .ok (.aload_n 0, 1) := by decide +kernel
theorem dX7_seen_1 : decode cX7_seen 1 = .ok (.iload_n 1, 1) := by decide +kernel
theorem dX7_seen_2 : decode cX7_seen 2 = .ok (.invokevirtual 144, 3) := by decide +kernel
theorem dX7_seen_5 : decode cX7_seen 5 = .ok (.aload_n 0, 1) := by decide +kernel
theorem dX7_seen_6 : decode cX7_seen 6 = .ok (.invokevirtual 150, 3) := by decide +kernel
theorem dX7_seen_9 : decode cX7_seen 9 = .ok (.aload_n 0, 1) := by decide +kernel
theorem dX7_seen_10 : decode cX7_seen 10 = .ok (.getfield 37, 3) := by decide +kernel
theorem dX7_seen_13 : decode cX7_seen 13 = .ok (.iload_n 1, 1) := by decide +kernel
theorem dX7_seen_14 : decode cX7_seen 14 = .ok (.invokevirtual 153, 3) := by decide +kernel
theorem dX7_seen_17 : decode cX7_seen 17 = .ok (.ireturn, 1) := by decide +kernel
set_option maxRecDepth 20000 in
theorem ggX7_seenTagged_X7_needFrame : GoodIn wsX7_seenTagged wsX7_needFrame := goodIn_ca (goodIn_r _ [6, 7, 8, 9, 10, 11, 12, 13, 14, 15, 148, 149, 150, 151, 152, 153, 154, 155, 156, 157] (by decide +kernel) (by decide +kernel)) (goodIn_sub (fun _ h => List.mem_cons_of_mem _ (List.mem_append_right _ h)) (by decide +kernel))
set_option maxRecDepth 20000 in
theorem gX7_seenTagged_X7_needFrame : GoodIn wsX7_seenTagged (wsV RX7 144 RX7 yX7_needFrame wsX7_needFrame) := goodIn_app (goodIn_of _ (by decide +kernel)) ggX7_seenTagged_X7_needFrame
set_option maxRecDepth 20000 in
theorem ggX7_seenTagged_X7_settle : GoodIn wsX7_seenTagged wsX7_settle := goodIn_r _ [19, 20, 21, 22, 9, 1, 23, 24, 25, 26, 27, 28, 29, 30, 31, 32, 33, 34, 35, 36, 37, 38, 39, 40, 41, 42, 43, 44, 45, 46, 47, 48, 49, 50, 51, 11, 12, 13, 14, 15, 52, 53, 54, 55, 56, 57, 58, 59, 60, 61, 62, 63, 64, 65, 66, 67, 68, 69, 70, 71, 72, 5, 73, 74, 75, 76, 77, 78, 79, 80, 81, 82, 83, 84, 85, 86, 87, 88, 89, 90, 91, 92, 93, 94, 95, 96, 97, 98, 99, 100, 101, 102, 103, 104, 105, 106, 107, 108, 109, 110, 111, 112, 113, 114, 115, 116, 117, 118, 119, 120, 121, 122, 123, 124, 125, 126, 127, 128, 129, 130, 131, 132, 133, 134, 135, 136, 137, 138, 139, 140, 141, 142, 148, 149, 150, 151, 152, 153, 154, 155, 158, 159, 160, 161, 162, 163, 164, 165, 166, 167, 156, 157, 168, 169, 170, 171, 172, 173, 174, 175, 176, 177] (by decide +kernel) (by decide +kernel)
set_option maxRecDepth 20000 in
theorem gX7_seenTagged_X7_settle : GoodIn wsX7_seenTagged (wsV RX7 150 RX7 yX7_settle wsX7_settle) := goodIn_app (goodIn_of _ (by decide +kernel)) ggX7_seenTagged_X7_settle
set_option maxRecDepth 20000 in
theorem ggX7_seenTagged_X5_taggedOf : GoodIn wsX7_seenTagged wsX5_taggedOf := goodIn_r _ [146, 32, 147, 58, 59, 44, 60, 46, 158, 159, 160, 161, 167] (by decide +kernel) (by decide +kernel)
set_option maxRecDepth 20000 in
theorem gX7_seenTagged_X5_taggedOf : GoodIn wsX7_seenTagged (wsV RX7 156 RX5 yX5_taggedOf wsX5_taggedOf) := goodIn_app (goodIn_of _ (by decide +kernel)) ggX7_seenTagged_X5_taggedOf
theorem dX7_seenTagged_0 : decode cX7_seenTagged 0 = .ok (.aload_n 0, 1) := by decide +kernel
theorem dX7_seenTagged_1 : decode cX7_seenTagged 1 = .ok (.iload_n 1, 1) := by decide +kernel
theorem dX7_seenTagged_2 : decode cX7_seenTagged 2 = .ok (.invokevirtual 144, 3) := by decide +kernel
theorem dX7_seenTagged_5 : decode cX7_seenTagged 5 = .ok (.aload_n 0, 1) := by decide +kernel
theorem dX7_seenTagged_6 : decode cX7_seenTagged 6 = .ok (.invokevirtual 150, 3) := by decide +kernel
theorem dX7_seenTagged_9 : decode cX7_seenTagged 9 = .ok (.aload_n 0, 1) := by decide +kernel
theorem dX7_seenTagged_10 : decode cX7_seenTagged 10 = .ok (.getfield 37, 3) := by decide +kernel
theorem dX7_seenTagged_13 : decode cX7_seenTagged 13 = .ok (.iload_n 1, 1) := by decide +kernel
theorem dX7_seenTagged_14 : decode cX7_seenTagged 14 = .ok (.invokevirtual 156, 3) := by decide +kernel
theorem dX7_seenTagged_17 : decode cX7_seenTagged 17 = .ok (.ireturn, 1) := by decide +kernel
set_option maxRecDepth 20000 in
theorem ggX7_differing_X7_settle : GoodIn wsX7_differing wsX7_settle := goodIn_r _ [6, 7, 8, 9, 1, 10, 11, 12, 13, 14, 15, 16, 17, 18, 19, 20, 21, 22, 23, 24, 25, 26, 27, 28, 29, 30, 31, 32, 33, 34, 35, 36, 37, 38, 39, 40, 41, 42, 43, 44, 45, 46, 47, 48, 49, 50, 51, 52, 53, 54, 55, 56, 57, 58, 59, 60, 61, 62, 63, 64, 65, 5, 66, 67, 68, 69, 70, 71, 72, 73, 74, 75, 76, 77, 78, 79, 80, 81, 82, 83, 84, 85, 86, 87, 88, 89, 90, 91, 92, 93, 94, 95, 96, 97, 98, 99, 100, 101, 102, 103, 104, 105, 106, 107, 108, 109, 110, 111, 112, 113, 114, 115, 116, 117, 118, 119, 120, 121, 122, 123, 124, 125, 126, 127, 128, 129, 130, 131, 132, 133, 134, 135, 150, 151, 152, 153, 154, 155, 156, 157, 158, 159, 160, 161, 162, 163, 164, 165, 166, 167, 168, 169, 170, 171, 172, 173, 174, 175, 176, 177, 178, 179] (by decide +kernel) (by decide +kernel)
set_option maxRecDepth 20000 in
theorem gX7_differing_X7_settle : GoodIn wsX7_differing (wsV RX7 150 RX7 yX7_settle wsX7_settle) := goodIn_app (goodIn_of _ (by decide +kernel)) ggX7_differing_X7_settle
set_option maxRecDepth 20000 in
theorem ggX7_differing_X1_size : GoodIn wsX7_differing wsX1_size := goodIn_r _ [43, 44, 168, 169] (by decide +kernel) (by decide +kernel)
set_option maxRecDepth 20000 in
theorem gX7_differing_X1_size : GoodIn wsX7_differing (wsV RX7 110 RX1 yX1_size wsX1_size) := goodIn_app (goodIn_of _ (by decide +kernel)) ggX7_differing_X1_size
set_option maxRecDepth 20000 in
theorem ggX7_differing_X7_portsThatDiffer : GoodIn wsX7_differing wsX7_portsThatDiffer := goodIn_r _ [140, 8, 10, 141, 142, 143, 16, 144, 19, 145, 51, 52, 32, 53, 34, 146, 147, 148, 149, 20, 150, 151, 152, 153, 154, 155, 156, 157, 158, 159, 160, 161, 167] (by decide +kernel) (by decide +kernel)
set_option maxRecDepth 20000 in
theorem gX7_differing_X7_portsThatDiffer : GoodIn wsX7_differing (wsV RX7 167 RX7 yX7_portsThatDiffer wsX7_portsThatDiffer) := goodIn_app (goodIn_of _ (by decide +kernel)) ggX7_differing_X7_portsThatDiffer
theorem dX7_differing_0 : decode cX7_differing 0 = .ok (.aload_n 0, 1) := by decide +kernel
theorem dX7_differing_1 : decode cX7_differing 1 = .ok (.invokevirtual 150, 3) := by decide +kernel
theorem dX7_differing_4 : decode cX7_differing 4 = .ok (.lconst 0, 1) := by decide +kernel
theorem dX7_differing_5 : decode cX7_differing 5 = .ok (.lstore_n 1, 1) := by decide +kernel
theorem dX7_differing_6 : decode cX7_differing 6 = .ok (.iconst 0, 1) := by decide +kernel
theorem dX7_differing_7 : decode cX7_differing 7 = .ok (.istore_n 3, 1) := by decide +kernel
theorem dX7_differing_8 : decode cX7_differing 8 = .ok (.iload_n 3, 1) := by decide +kernel
theorem dX7_differing_9 : decode cX7_differing 9 = .ok (.aload_n 0, 1) := by decide +kernel
theorem dX7_differing_10 : decode cX7_differing 10 = .ok (.getfield 19, 3) := by decide +kernel
theorem dX7_differing_13 : decode cX7_differing 13 = .ok (.invokevirtual 110, 3) := by decide +kernel
theorem dX7_differing_16 : decode cX7_differing 16 = .ok (.if_icmp .ge 23, 3) := by decide +kernel
theorem dX7_differing_19 : decode cX7_differing 19 = .ok (.aload_n 0, 1) := by decide +kernel
theorem dX7_differing_20 : decode cX7_differing 20 = .ok (.iload_n 3, 1) := by decide +kernel
theorem dX7_differing_21 : decode cX7_differing 21 = .ok (.invokevirtual 167, 3) := by decide +kernel
theorem dX7_differing_24 : decode cX7_differing 24 = .ok (.ifCond .eq 9, 3) := by decide +kernel
theorem dX7_differing_27 : decode cX7_differing 27 = .ok (.lload_n 1, 1) := by decide +kernel
theorem dX7_differing_28 : decode cX7_differing 28 = .ok (.lconst 1, 1) := by decide +kernel
theorem dX7_differing_29 : decode cX7_differing 29 = .ok (.iload_n 3, 1) := by decide +kernel
theorem dX7_differing_30 : decode cX7_differing 30 = .ok (.lshl, 1) := by decide +kernel
theorem dX7_differing_31 : decode cX7_differing 31 = .ok (.lor, 1) := by decide +kernel
theorem dX7_differing_32 : decode cX7_differing 32 = .ok (.lstore_n 1, 1) := by decide +kernel
theorem dX7_differing_33 : decode cX7_differing 33 = .ok (.iinc 3 1, 3) := by decide +kernel
theorem dX7_differing_36 : decode cX7_differing 36 = .ok (.goto (-28), 3) := by decide +kernel
theorem dX7_differing_39 : decode cX7_differing 39 = .ok (.lload_n 1, 1) := by decide +kernel
theorem dX7_differing_40 : decode cX7_differing 40 = .ok (.lreturn, 1) := by decide +kernel
set_option maxRecDepth 20000 in
theorem ggX7_differencesAt_X7_needPort : GoodIn wsX7_differencesAt wsX7_needPort := goodIn_ca (goodIn_r _ [6, 7, 8, 9, 10, 11, 12, 13, 14, 15, 161, 162, 163, 164, 165, 166, 167, 168, 169, 170, 171, 172] (by decide +kernel) (by decide +kernel)) (goodIn_sub (fun _ h => List.mem_cons_of_mem _ (List.mem_append_right _ h)) (by decide +kernel))
set_option maxRecDepth 20000 in
theorem gX7_differencesAt_X7_needPort : GoodIn wsX7_differencesAt (wsV RX7 73 RX7 yX7_needPort wsX7_needPort) := goodIn_app (goodIn_of _ (by decide +kernel)) ggX7_differencesAt_X7_needPort
set_option maxRecDepth 20000 in
theorem ggX7_differencesAt_X7_settle : GoodIn wsX7_differencesAt wsX7_settle := goodIn_r _ [19, 20, 21, 9, 1, 22, 23, 24, 25, 26, 27, 28, 29, 30, 31, 32, 33, 34, 35, 36, 37, 38, 39, 40, 41, 42, 43, 44, 45, 46, 47, 48, 49, 50, 51, 52, 53, 54, 55, 56, 57, 58, 59, 60, 61, 62, 63, 64, 65, 66, 67, 68, 69, 70, 71, 72, 73, 74, 75, 76, 77, 5, 78, 79, 80, 81, 82, 83, 84, 85, 86, 87, 88, 89, 90, 91, 13, 92, 93, 94, 95, 96, 97, 98, 99, 100, 101, 102, 103, 104, 105, 106, 107, 108, 109, 110, 111, 112, 113, 114, 115, 116, 117, 118, 119, 120, 121, 122, 123, 124, 125, 126, 127, 128, 129, 130, 131, 132, 133, 134, 135, 136, 137, 138, 139, 140, 141, 142, 143, 144, 145, 146, 161, 162, 163, 164, 165, 166, 167, 168, 173, 174, 175, 176, 177, 178, 179, 180, 181, 182, 183, 184, 169, 170, 171, 172, 185, 186, 187, 188, 189, 190] (by decide +kernel) (by decide +kernel)
set_option maxRecDepth 20000 in
theorem gX7_differencesAt_X7_settle : GoodIn wsX7_differencesAt (wsV RX7 150 RX7 yX7_settle wsX7_settle) := goodIn_app (goodIn_of _ (by decide +kernel)) ggX7_differencesAt_X7_settle
set_option maxRecDepth 20000 in
theorem ggX7_differencesAt_X1_size : GoodIn wsX7_differencesAt wsX1_size := goodIn_r _ [55, 56, 183, 184] (by decide +kernel) (by decide +kernel)
set_option maxRecDepth 20000 in
theorem gX7_differencesAt_X1_size : GoodIn wsX7_differencesAt (wsV RX7 110 RX1 yX1_size wsX1_size) := goodIn_app (goodIn_of _ (by decide +kernel)) ggX7_differencesAt_X1_size
set_option maxRecDepth 20000 in
theorem ggX7_differencesAt_X7_portsThatDiffer : GoodIn wsX7_differencesAt wsX7_portsThatDiffer := goodIn_r _ [151, 21, 22, 152, 153, 154, 28, 155, 31, 156, 63, 64, 44, 65, 46, 157, 158, 159, 160, 32, 161, 162, 163, 164, 165, 166, 167, 168, 173, 174, 175, 176, 182] (by decide +kernel) (by decide +kernel)
set_option maxRecDepth 20000 in
theorem gX7_differencesAt_X7_portsThatDiffer : GoodIn wsX7_differencesAt (wsV RX7 167 RX7 yX7_portsThatDiffer wsX7_portsThatDiffer) := goodIn_app (goodIn_of _ (by decide +kernel)) ggX7_differencesAt_X7_portsThatDiffer
theorem dX7_differencesAt_0 : decode cX7_differencesAt 0 = .ok (.aload_n 0, 1) := by decide +kernel
theorem dX7_differencesAt_1 : decode cX7_differencesAt 1 = .ok (.iload_n 1, 1) := by decide +kernel
theorem dX7_differencesAt_2 : decode cX7_differencesAt 2 = .ok (.invokevirtual 73, 3) := by decide +kernel
theorem dX7_differencesAt_5 : decode cX7_differencesAt 5 = .ok (.aload_n 0, 1) := by decide +kernel
theorem dX7_differencesAt_6 : decode cX7_differencesAt 6 = .ok (.invokevirtual 150, 3) := by decide +kernel
theorem dX7_differencesAt_9 : decode cX7_differencesAt 9 = .ok (.iconst 0, 1) := by decide +kernel
theorem dX7_differencesAt_10 : decode cX7_differencesAt 10 = .ok (.istore_n 2, 1) := by decide +kernel
theorem dX7_differencesAt_11 : decode cX7_differencesAt 11 = .ok (.iconst 0, 1) := by decide +kernel
theorem dX7_differencesAt_12 : decode cX7_differencesAt 12 = .ok (.istore_n 3, 1) := by decide +kernel
theorem dX7_differencesAt_13 : decode cX7_differencesAt 13 = .ok (.iload_n 3, 1) := by decide +kernel
theorem dX7_differencesAt_14 : decode cX7_differencesAt 14 = .ok (.aload_n 0, 1) := by decide +kernel
theorem dX7_differencesAt_15 : decode cX7_differencesAt 15 = .ok (.getfield 19, 3) := by decide +kernel
theorem dX7_differencesAt_18 : decode cX7_differencesAt 18 = .ok (.invokevirtual 110, 3) := by decide +kernel
theorem dX7_differencesAt_21 : decode cX7_differencesAt 21 = .ok (.if_icmp .ge 21, 3) := by decide +kernel
theorem dX7_differencesAt_24 : decode cX7_differencesAt 24 = .ok (.iload_n 2, 1) := by decide +kernel
theorem dX7_differencesAt_25 : decode cX7_differencesAt 25 = .ok (.aload_n 0, 1) := by decide +kernel
theorem dX7_differencesAt_26 : decode cX7_differencesAt 26 = .ok (.iload_n 3, 1) := by decide +kernel
theorem dX7_differencesAt_27 : decode cX7_differencesAt 27 = .ok (.invokevirtual 167, 3) := by decide +kernel
theorem dX7_differencesAt_30 : decode cX7_differencesAt 30 = .ok (.iload_n 1, 1) := by decide +kernel
theorem dX7_differencesAt_31 : decode cX7_differencesAt 31 = .ok (.ishr, 1) := by decide +kernel
theorem dX7_differencesAt_32 : decode cX7_differencesAt 32 = .ok (.iconst 1, 1) := by decide +kernel
theorem dX7_differencesAt_33 : decode cX7_differencesAt 33 = .ok (.iand, 1) := by decide +kernel
theorem dX7_differencesAt_34 : decode cX7_differencesAt 34 = .ok (.iadd, 1) := by decide +kernel
theorem dX7_differencesAt_35 : decode cX7_differencesAt 35 = .ok (.istore_n 2, 1) := by decide +kernel
theorem dX7_differencesAt_36 : decode cX7_differencesAt 36 = .ok (.iinc 3 1, 3) := by decide +kernel
theorem dX7_differencesAt_39 : decode cX7_differencesAt 39 = .ok (.goto (-26), 3) := by decide +kernel
theorem dX7_differencesAt_42 : decode cX7_differencesAt 42 = .ok (.iload_n 2, 1) := by decide +kernel
theorem dX7_differencesAt_43 : decode cX7_differencesAt 43 = .ok (.ireturn, 1) := by decide +kernel
set_option maxRecDepth 20000 in
theorem ggX7_blame_X7_settle : GoodIn wsX7_blame wsX7_settle := goodIn_r _ [9, 10, 11, 2, 3, 4, 12, 1, 13, 14, 15, 16, 17, 18, 19, 20, 21, 22, 23, 24, 25, 26, 27, 28, 29, 30, 31, 32, 33, 34, 35, 36, 37, 38, 39, 40, 41, 42, 43, 44, 45, 46, 47, 48, 49, 50, 51, 52, 53, 54, 55, 56, 57, 58, 59, 60, 61, 62, 63, 64, 65, 8, 66, 67, 68, 69, 70, 71, 72, 73, 74, 75, 76, 77, 78, 79, 80, 81, 82, 83, 84, 85, 86, 87, 88, 89, 90, 91, 92, 93, 94, 95, 96, 97, 98, 99, 100, 101, 102, 103, 104, 105, 106, 107, 108, 109, 110, 111, 112, 113, 114, 115, 116, 117, 118, 119, 120, 121, 122, 123, 124, 125, 126, 127, 128, 129, 130, 131, 132, 133, 134, 135, 192, 193, 194, 195, 196, 197, 198, 199, 200, 201, 202, 203, 204, 205, 206, 207, 208, 209, 210, 211, 212, 213, 214, 215, 216, 217, 218, 219, 220, 221] (by decide +kernel) (by decide +kernel)
set_option maxRecDepth 20000 in
theorem gX7_blame_X7_settle : GoodIn wsX7_blame (wsV RX7 150 RX7 yX7_settle wsX7_settle) := goodIn_app (goodIn_of _ (by decide +kernel)) ggX7_blame_X7_settle
set_option maxRecDepth 20000 in
theorem ggX7_blame_X6_findFewest : GoodIn wsX7_blame wsX6_findFewest := goodIn_r _ [139, 135, 140, 141, 142, 143, 144, 133, 145, 146, 147, 148, 149, 150, 151, 23, 24, 25, 26, 27, 28, 29, 30, 31, 32, 33, 34, 35, 36, 37, 38, 152, 40, 41, 42, 43, 44, 153, 46, 47, 48, 49, 50, 51, 52, 53, 154, 55, 56, 57, 58, 59, 60, 61, 62, 63, 64, 65, 8, 66, 67, 68, 69, 70, 71, 72, 73, 74, 75, 76, 77, 78, 79, 80, 81, 82, 83, 84, 85, 86, 87, 88, 89, 90, 91, 92, 93, 94, 95, 96, 97, 98, 99, 100, 101, 102, 103, 104, 105, 106, 107, 108, 109, 110, 111, 112, 113, 114, 115, 116, 155, 118, 119, 120, 156, 157, 158, 16, 159, 19, 160, 161, 123, 124, 125, 162, 163, 164, 165, 20, 166, 167, 168, 169, 170, 171, 172, 173, 174, 175, 176, 177, 178, 179, 180, 181, 182, 183, 184, 185, 186, 187, 216, 217, 218, 219, 220, 221, 204, 205, 206, 207, 208, 209, 210, 211, 212, 213, 214, 215, 200, 201, 202, 203] (by decide +kernel) (by decide +kernel)
set_option maxRecDepth 20000 in
theorem gX7_blame_X6_findFewest : GoodIn wsX7_blame (wsV RX7 170 RX6 yX6_findFewest wsX6_findFewest) := goodIn_app (goodIn_of _ (by decide +kernel)) ggX7_blame_X6_findFewest
set_option maxRecDepth 20000 in
theorem ggX7_blame_X6_fewest : GoodIn wsX7_blame wsX6_fewest := goodIn_r _ [191, 141, 216, 217, 218, 219, 220, 221] (by decide +kernel) (by decide +kernel)
set_option maxRecDepth 20000 in
theorem gX7_blame_X6_fewest : GoodIn wsX7_blame (wsV RX7 174 RX6 yX6_fewest wsX6_fewest) := goodIn_app (goodIn_of _ (by decide +kernel)) ggX7_blame_X6_fewest
theorem dX7_blame_0 : decode cX7_blame 0 = .ok (.aload_n 0, 1) := by decide +kernel
theorem dX7_blame_1 : decode cX7_blame 1 = .ok (.invokevirtual 150, 3) := by decide +kernel
theorem dX7_blame_4 : decode cX7_blame 4 = .ok (.aload_n 0, 1) := by decide +kernel
theorem dX7_blame_5 : decode cX7_blame 5 = .ok (.getfield 43, 3) := by decide +kernel
theorem dX7_blame_8 : decode cX7_blame 8 = .ok (.aload_n 0, 1) := by decide +kernel
theorem dX7_blame_9 : decode cX7_blame 9 = .ok (.getfield 12, 3) := by decide +kernel
theorem dX7_blame_12 : decode cX7_blame 12 = .ok (.aload_n 0, 1) := by decide +kernel
theorem dX7_blame_13 : decode cX7_blame 13 = .ok (.getfield 19, 3) := by decide +kernel
theorem dX7_blame_16 : decode cX7_blame 16 = .ok (.aload_n 0, 1) := by decide +kernel
theorem dX7_blame_17 : decode cX7_blame 17 = .ok (.getfield 37, 3) := by decide +kernel
theorem dX7_blame_20 : decode cX7_blame 20 = .ok (.invokevirtual 170, 3) := by decide +kernel
theorem dX7_blame_23 : decode cX7_blame 23 = .ok (.aload_n 0, 1) := by decide +kernel
theorem dX7_blame_24 : decode cX7_blame 24 = .ok (.getfield 43, 3) := by decide +kernel
theorem dX7_blame_27 : decode cX7_blame 27 = .ok (.invokevirtual 174, 3) := by decide +kernel
theorem dX7_blame_30 : decode cX7_blame 30 = .ok (.ireturn, 1) := by decide +kernel
set_option maxRecDepth 20000 in
theorem ggX7_blamed_X7_settle : GoodIn wsX7_blamed wsX7_settle := goodIn_r _ [11, 12, 13, 4, 5, 6, 14, 3, 15, 16, 17, 18, 19, 20, 21, 22, 23, 24, 25, 26, 27, 28, 29, 30, 31, 32, 33, 34, 35, 36, 37, 38, 39, 40, 41, 42, 43, 44, 45, 46, 47, 48, 49, 50, 51, 52, 53, 54, 55, 56, 57, 58, 59, 60, 61, 62, 63, 64, 65, 66, 67, 10, 68, 69, 70, 71, 72, 73, 74, 75, 76, 77, 78, 79, 80, 81, 82, 83, 84, 85, 86, 87, 88, 89, 90, 91, 92, 93, 94, 95, 96, 97, 98, 99, 100, 101, 102, 103, 104, 105, 106, 107, 108, 109, 110, 111, 112, 113, 114, 115, 116, 117, 118, 119, 120, 121, 122, 123, 124, 125, 126, 127, 128, 129, 130, 131, 132, 133, 134, 135, 136, 137, 201, 202, 203, 204, 205, 206, 207, 208, 209, 210, 211, 212, 213, 214, 215, 216, 217, 218, 219, 220, 221, 222, 223, 224, 225, 226, 227, 228, 229, 230] (by decide +kernel) (by decide +kernel)
set_option maxRecDepth 20000 in
theorem gX7_blamed_X7_settle : GoodIn wsX7_blamed (wsV RX7 150 RX7 yX7_settle wsX7_settle) := goodIn_app (goodIn_of _ (by decide +kernel)) ggX7_blamed_X7_settle
set_option maxRecDepth 20000 in
theorem ggX7_blamed_X6_findFewest : GoodIn wsX7_blamed wsX6_findFewest := goodIn_r _ [141, 137, 142, 143, 144, 145, 146, 135, 147, 148, 149, 150, 151, 152, 153, 25, 26, 27, 28, 29, 30, 31, 32, 33, 34, 35, 36, 37, 38, 39, 40, 154, 42, 43, 44, 45, 46, 155, 48, 49, 50, 51, 52, 53, 54, 55, 156, 57, 58, 59, 60, 61, 62, 63, 64, 65, 66, 67, 10, 68, 69, 70, 71, 72, 73, 74, 75, 76, 77, 78, 79, 80, 81, 82, 83, 84, 85, 86, 87, 88, 89, 90, 91, 92, 93, 94, 95, 96, 97, 98, 99, 100, 101, 102, 103, 104, 105, 106, 107, 108, 109, 110, 111, 112, 113, 114, 115, 116, 117, 118, 157, 120, 121, 122, 158, 159, 160, 18, 161, 21, 162, 163, 125, 126, 127, 164, 165, 166, 167, 22, 168, 169, 170, 171, 172, 173, 174, 175, 176, 177, 178, 179, 180, 181, 182, 183, 184, 185, 186, 187, 188, 189, 225, 226, 227, 228, 229, 230, 213, 214, 215, 216, 217, 218, 219, 220, 221, 222, 223, 224, 209, 210, 211, 212] (by decide +kernel) (by decide +kernel)
set_option maxRecDepth 20000 in
theorem gX7_blamed_X6_findFewest : GoodIn wsX7_blamed (wsV RX7 170 RX6 yX6_findFewest wsX6_findFewest) := goodIn_app (goodIn_of _ (by decide +kernel)) ggX7_blamed_X6_findFewest
set_option maxRecDepth 20000 in
theorem ggX7_blamed_X6_fewest : GoodIn wsX7_blamed wsX6_fewest := goodIn_r _ [193, 143, 225, 226, 227, 228, 229, 230] (by decide +kernel) (by decide +kernel)
set_option maxRecDepth 20000 in
theorem gX7_blamed_X6_fewest : GoodIn wsX7_blamed (wsV RX7 174 RX6 yX6_fewest wsX6_fewest) := goodIn_app (goodIn_of _ (by decide +kernel)) ggX7_blamed_X6_fewest
set_option maxRecDepth 20000 in
theorem ggX7_blamed_X6_culprit : GoodIn wsX7_blamed wsX6_culprit := goodIn_r _ [197, 172, 173, 198, 199, 135, 200, 225, 226, 227, 228, 229, 230] (by decide +kernel) (by decide +kernel)
set_option maxRecDepth 20000 in
theorem gX7_blamed_X6_culprit : GoodIn wsX7_blamed (wsV RX7 182 RX6 yX6_culprit wsX6_culprit) := goodIn_app (goodIn_of _ (by decide +kernel)) ggX7_blamed_X6_culprit
theorem dX7_blamed_0 : decode cX7_blamed 0 = .ok (.aload_n 0, 1) := by decide +kernel
theorem dX7_blamed_1 : decode cX7_blamed 1 = .ok (.invokevirtual 150, 3) := by decide +kernel
theorem dX7_blamed_4 : decode cX7_blamed 4 = .ok (.aload_n 0, 1) := by decide +kernel
theorem dX7_blamed_5 : decode cX7_blamed 5 = .ok (.getfield 43, 3) := by decide +kernel
theorem dX7_blamed_8 : decode cX7_blamed 8 = .ok (.aload_n 0, 1) := by decide +kernel
theorem dX7_blamed_9 : decode cX7_blamed 9 = .ok (.getfield 12, 3) := by decide +kernel
theorem dX7_blamed_12 : decode cX7_blamed 12 = .ok (.aload_n 0, 1) := by decide +kernel
theorem dX7_blamed_13 : decode cX7_blamed 13 = .ok (.getfield 19, 3) := by decide +kernel
theorem dX7_blamed_16 : decode cX7_blamed 16 = .ok (.aload_n 0, 1) := by decide +kernel
theorem dX7_blamed_17 : decode cX7_blamed 17 = .ok (.getfield 37, 3) := by decide +kernel
theorem dX7_blamed_20 : decode cX7_blamed 20 = .ok (.invokevirtual 170, 3) := by decide +kernel
theorem dX7_blamed_23 : decode cX7_blamed 23 = .ok (.iload_n 1, 1) := by decide +kernel
theorem dX7_blamed_24 : decode cX7_blamed 24 = .ok (.ifCond .lt 14, 3) := by decide +kernel
theorem dX7_blamed_27 : decode cX7_blamed 27 = .ok (.iload_n 1, 1) := by decide +kernel
theorem dX7_blamed_28 : decode cX7_blamed 28 = .ok (.aload_n 0, 1) := by decide +kernel
theorem dX7_blamed_29 : decode cX7_blamed 29 = .ok (.getfield 43, 3) := by decide +kernel
theorem dX7_blamed_32 : decode cX7_blamed 32 = .ok (.invokevirtual 174, 3) := by decide +kernel
theorem dX7_blamed_35 : decode cX7_blamed 35 = .ok (.if_icmp .lt 13, 3) := by decide +kernel
theorem dX7_blamed_38 : decode cX7_blamed 38 = .ok (.new 177, 3) := by decide +kernel
theorem dX7_blamed_41 : decode cX7_blamed 41 = .ok (.dup, 1) := by decide +kernel
theorem dX7_blamed_42 : decode cX7_blamed 42 = .ok (.ldc 179, 2) := by decide +kernel
theorem dX7_blamed_44 : decode cX7_blamed 44 = .ok (.invokespecial 181, 3) := by decide +kernel
theorem dX7_blamed_47 : decode cX7_blamed 47 = .ok (.athrow, 1) := by decide +kernel
theorem dX7_blamed_48 : decode cX7_blamed 48 = .ok (.aload_n 0, 1) := by decide +kernel
theorem dX7_blamed_49 : decode cX7_blamed 49 = .ok (.getfield 43, 3) := by decide +kernel
theorem dX7_blamed_52 : decode cX7_blamed 52 = .ok (.iload_n 1, 1) := by decide +kernel
theorem dX7_blamed_53 : decode cX7_blamed 53 = .ok (.invokevirtual 182, 3) := by decide +kernel
theorem dX7_blamed_56 : decode cX7_blamed 56 = .ok (.ireturn, 1) := by decide +kernel
set_option maxRecDepth 20000 in
theorem ggX7_explanations_X7_settle : GoodIn wsX7_explanations wsX7_settle := goodIn_r _ [9, 10, 11, 2, 3, 4, 12, 1, 13, 14, 15, 16, 17, 18, 19, 20, 21, 22, 23, 24, 25, 26, 27, 28, 29, 30, 31, 32, 33, 34, 35, 36, 37, 38, 39, 40, 41, 42, 43, 44, 45, 46, 47, 48, 49, 50, 51, 52, 53, 54, 55, 56, 57, 58, 59, 60, 61, 62, 63, 64, 65, 8, 66, 67, 68, 69, 70, 71, 72, 73, 74, 75, 76, 77, 78, 79, 80, 81, 82, 83, 84, 85, 86, 87, 88, 89, 90, 91, 92, 93, 94, 95, 96, 97, 98, 99, 100, 101, 102, 103, 104, 105, 106, 107, 108, 109, 110, 111, 112, 113, 114, 115, 116, 117, 118, 119, 120, 121, 122, 123, 124, 125, 126, 127, 128, 129, 130, 131, 132, 133, 134, 135, 192, 193, 194, 195, 196, 197, 198, 199, 200, 201, 202, 203, 204, 205, 206, 207, 208, 209, 210, 211, 212, 213, 214, 215, 216, 217, 218, 219, 220, 221] (by decide +kernel) (by decide +kernel)
set_option maxRecDepth 20000 in
theorem gX7_explanations_X7_settle : GoodIn wsX7_explanations (wsV RX7 150 RX7 yX7_settle wsX7_settle) := goodIn_app (goodIn_of _ (by decide +kernel)) ggX7_explanations_X7_settle
set_option maxRecDepth 20000 in
theorem ggX7_explanations_X6_findFewest : GoodIn wsX7_explanations wsX6_findFewest := goodIn_r _ [139, 135, 140, 141, 142, 143, 144, 133, 145, 146, 147, 148, 149, 150, 151, 23, 24, 25, 26, 27, 28, 29, 30, 31, 32, 33, 34, 35, 36, 37, 38, 152, 40, 41, 42, 43, 44, 153, 46, 47, 48, 49, 50, 51, 52, 53, 154, 55, 56, 57, 58, 59, 60, 61, 62, 63, 64, 65, 8, 66, 67, 68, 69, 70, 71, 72, 73, 74, 75, 76, 77, 78, 79, 80, 81, 82, 83, 84, 85, 86, 87, 88, 89, 90, 91, 92, 93, 94, 95, 96, 97, 98, 99, 100, 101, 102, 103, 104, 105, 106, 107, 108, 109, 110, 111, 112, 113, 114, 115, 116, 155, 118, 119, 120, 156, 157, 158, 16, 159, 19, 160, 161, 123, 124, 125, 162, 163, 164, 165, 20, 166, 167, 168, 169, 170, 171, 172, 173, 174, 175, 176, 177, 178, 179, 180, 181, 182, 183, 184, 185, 186, 187, 216, 217, 218, 219, 220, 221, 204, 205, 206, 207, 208, 209, 210, 211, 212, 213, 214, 215, 200, 201, 202, 203] (by decide +kernel) (by decide +kernel)
set_option maxRecDepth 20000 in
theorem gX7_explanations_X6_findFewest : GoodIn wsX7_explanations (wsV RX7 170 RX6 yX6_findFewest wsX6_findFewest) := goodIn_app (goodIn_of _ (by decide +kernel)) ggX7_explanations_X6_findFewest
set_option maxRecDepth 20000 in
theorem ggX7_explanations_X6_count : GoodIn wsX7_explanations wsX6_count := goodIn_r _ [191, 140, 216, 217, 218, 219, 220, 221] (by decide +kernel) (by decide +kernel)
set_option maxRecDepth 20000 in
theorem gX7_explanations_X6_count : GoodIn wsX7_explanations (wsV RX7 185 RX6 yX6_count wsX6_count) := goodIn_app (goodIn_of _ (by decide +kernel)) ggX7_explanations_X6_count
theorem dX7_explanations_0 : decode cX7_explanations 0 = .ok (.aload_n 0, 1) := by decide +kernel
theorem dX7_explanations_1 : decode cX7_explanations 1 = .ok (.invokevirtual 150, 3) := by decide +kernel
theorem dX7_explanations_4 : decode cX7_explanations 4 = .ok (.aload_n 0, 1) := by decide +kernel
theorem dX7_explanations_5 : decode cX7_explanations 5 = .ok (.getfield 43, 3) := by decide +kernel
theorem dX7_explanations_8 : decode cX7_explanations 8 = .ok (.aload_n 0, 1) := by decide +kernel
theorem dX7_explanations_9 : decode cX7_explanations 9 = .ok (.getfield 12, 3) := by decide +kernel
theorem dX7_explanations_12 : decode cX7_explanations 12 = .ok (.aload_n 0, 1) := by decide +kernel
theorem dX7_explanations_13 : decode cX7_explanations 13 = .ok (.getfield 19, 3) := by decide +kernel
theorem dX7_explanations_16 : decode cX7_explanations 16 = .ok (.aload_n 0, 1) := by decide +kernel
theorem dX7_explanations_17 : decode cX7_explanations 17 = .ok (.getfield 37, 3) := by decide +kernel
theorem dX7_explanations_20 : decode cX7_explanations 20 = .ok (.invokevirtual 170, 3) := by decide +kernel
theorem dX7_explanations_23 : decode cX7_explanations 23 = .ok (.aload_n 0, 1) := by decide +kernel
theorem dX7_explanations_24 : decode cX7_explanations 24 = .ok (.getfield 43, 3) := by decide +kernel
theorem dX7_explanations_27 : decode cX7_explanations 27 = .ok (.invokevirtual 185, 3) := by decide +kernel
theorem dX7_explanations_30 : decode cX7_explanations 30 = .ok (.ireturn, 1) := by decide +kernel
set_option maxRecDepth 20000 in
theorem ggX7_needPort_X2_portCount : GoodIn wsX7_needPort wsX2_portCount := goodIn_r _ [8, 9, 18, 19, 20, 21] (by decide +kernel) (by decide +kernel)
set_option maxRecDepth 20000 in
theorem gX7_needPort_X2_portCount : GoodIn wsX7_needPort (wsV RX7 69 RX2 yX2_portCount wsX2_portCount) := goodIn_app (goodIn_of _ (by decide +kernel)) ggX7_needPort_X2_portCount
theorem dX7_needPort_0 : decode cX7_needPort 0 = .ok (.iload_n 1, 1) := by decide +kernel
theorem dX7_needPort_1 : decode cX7_needPort 1 = .ok (.ifCond .lt 14, 3) := by decide +kernel
theorem dX7_needPort_4 : decode cX7_needPort 4 = .ok (.iload_n 1, 1) := by decide +kernel
theorem dX7_needPort_5 : decode cX7_needPort 5 = .ok (.aload_n 0, 1) := by decide +kernel
theorem dX7_needPort_6 : decode cX7_needPort 6 = .ok (.getfield 12, 3) := by decide +kernel
theorem dX7_needPort_9 : decode cX7_needPort 9 = .ok (.invokevirtual 69, 3) := by decide +kernel
theorem dX7_needPort_12 : decode cX7_needPort 12 = .ok (.if_icmp .lt 13, 3) := by decide +kernel
theorem dX7_needPort_15 : decode cX7_needPort 15 = .ok (.new 177, 3) := by decide +kernel
theorem dX7_needPort_18 : decode cX7_needPort 18 = .ok (.dup, 1) := by decide +kernel
theorem dX7_needPort_19 : decode cX7_needPort 19 = .ok (.ldc 188, 2) := by decide +kernel
theorem dX7_needPort_21 : decode cX7_needPort 21 = .ok (.invokespecial 181, 3) := by decide +kernel
theorem dX7_needPort_24 : decode cX7_needPort 24 = .ok (.athrow, 1) := by decide +kernel
theorem dX7_needPort_25 : decode cX7_needPort 25 = .ok (.return_, 1) := by decide +kernel
set_option maxRecDepth 20000 in
theorem ggX7_needFrame_X1_size : GoodIn wsX7_needFrame wsX1_size := goodIn_r _ [8, 9, 18, 19] (by decide +kernel) (by decide +kernel)
set_option maxRecDepth 20000 in
theorem gX7_needFrame_X1_size : GoodIn wsX7_needFrame (wsV RX7 110 RX1 yX1_size wsX1_size) := goodIn_app (goodIn_of _ (by decide +kernel)) ggX7_needFrame_X1_size
theorem dX7_needFrame_0 : decode cX7_needFrame 0 = .ok (.iload_n 1, 1) := by decide +kernel
theorem dX7_needFrame_1 : decode cX7_needFrame 1 = .ok (.ifCond .lt 14, 3) := by decide +kernel
theorem dX7_needFrame_4 : decode cX7_needFrame 4 = .ok (.iload_n 1, 1) := by decide +kernel
theorem dX7_needFrame_5 : decode cX7_needFrame 5 = .ok (.aload_n 0, 1) := by decide +kernel
theorem dX7_needFrame_6 : decode cX7_needFrame 6 = .ok (.getfield 19, 3) := by decide +kernel
theorem dX7_needFrame_9 : decode cX7_needFrame 9 = .ok (.invokevirtual 110, 3) := by decide +kernel
theorem dX7_needFrame_12 : decode cX7_needFrame 12 = .ok (.if_icmp .lt 13, 3) := by decide +kernel
theorem dX7_needFrame_15 : decode cX7_needFrame 15 = .ok (.new 177, 3) := by decide +kernel
theorem dX7_needFrame_18 : decode cX7_needFrame 18 = .ok (.dup, 1) := by decide +kernel
theorem dX7_needFrame_19 : decode cX7_needFrame 19 = .ok (.ldc 190, 2) := by decide +kernel
theorem dX7_needFrame_21 : decode cX7_needFrame 21 = .ok (.invokespecial 181, 3) := by decide +kernel
theorem dX7_needFrame_24 : decode cX7_needFrame 24 = .ok (.athrow, 1) := by decide +kernel
theorem dX7_needFrame_25 : decode cX7_needFrame 25 = .ok (.return_, 1) := by decide +kernel
set_option maxRecDepth 20000 in
theorem ggX7_settle_X5_runAll : GoodIn wsX7_settle wsX5_runAll := goodIn_r _ [12, 13, 14, 15, 16, 17, 18, 19, 20, 21, 22, 23, 24, 25, 26, 27, 28, 29, 30, 31, 32, 33, 34, 35, 36, 37, 38, 39, 40, 41, 42, 43, 44, 45, 46, 47, 48, 49, 50, 51, 52, 53, 54, 55, 56, 57, 58, 59, 60, 61, 62, 63, 64, 65, 66, 67, 68, 69, 70, 71, 72, 73, 74, 75, 76, 77, 78, 79, 80, 81, 82, 83, 84, 85, 86, 87, 88, 89, 90, 91, 92, 93, 94, 95, 96, 97, 98, 99, 100, 101, 102, 103, 104, 105, 106, 107, 108, 109, 110, 111, 112, 113, 114, 115, 116, 117, 118, 119, 120, 121, 122, 123, 124, 125, 140, 141, 142, 143, 144, 145, 146, 147, 148, 149, 150, 151, 152, 153, 154, 155] (by decide +kernel) (by decide +kernel)
set_option maxRecDepth 20000 in
theorem gX7_settle_X5_runAll : GoodIn wsX7_settle (wsV RX7 192 RX5 yX5_runAll wsX5_runAll) := goodIn_app (goodIn_of _ (by decide +kernel)) ggX7_settle_X5_runAll
set_option maxRecDepth 20000 in
theorem ggX7_settle_X6_forget : GoodIn wsX7_settle wsX6_forget := goodIn_r _ [130, 131, 156, 157, 158, 159, 160, 161] (by decide +kernel) (by decide +kernel)
set_option maxRecDepth 20000 in
theorem gX7_settle_X6_forget : GoodIn wsX7_settle (wsV RX7 196 RX6 yX6_forget wsX6_forget) := goodIn_app (goodIn_of _ (by decide +kernel)) ggX7_settle_X6_forget
theorem dX7_settle_0 : decode cX7_settle 0 = .ok (.aload_n 0, 1) := by decide +kernel
theorem dX7_settle_1 : decode cX7_settle 1 = .ok (.getfield 51, 3) := by decide +kernel
theorem dX7_settle_4 : decode cX7_settle 4 = .ok (.ifCond .eq 50, 3) := by decide +kernel
theorem dX7_settle_7 : decode cX7_settle 7 = .ok (.aload_n 0, 1) := by decide +kernel
theorem dX7_settle_8 : decode cX7_settle 8 = .ok (.getfield 33, 3) := by decide +kernel
theorem dX7_settle_11 : decode cX7_settle 11 = .ok (.aload_n 0, 1) := by decide +kernel
theorem dX7_settle_12 : decode cX7_settle 12 = .ok (.getfield 12, 3) := by decide +kernel
theorem dX7_settle_15 : decode cX7_settle 15 = .ok (.aload_n 0, 1) := by decide +kernel
theorem dX7_settle_16 : decode cX7_settle 16 = .ok (.getfield 19, 3) := by decide +kernel
theorem dX7_settle_19 : decode cX7_settle 19 = .ok (.iconst 0, 1) := by decide +kernel
theorem dX7_settle_20 : decode cX7_settle 20 = .ok (.invokevirtual 192, 3) := by decide +kernel
theorem dX7_settle_23 : decode cX7_settle 23 = .ok (.aload_n 0, 1) := by decide +kernel
theorem dX7_settle_24 : decode cX7_settle 24 = .ok (.getfield 37, 3) := by decide +kernel
theorem dX7_settle_27 : decode cX7_settle 27 = .ok (.aload_n 0, 1) := by decide +kernel
theorem dX7_settle_28 : decode cX7_settle 28 = .ok (.getfield 12, 3) := by decide +kernel
theorem dX7_settle_31 : decode cX7_settle 31 = .ok (.aload_n 0, 1) := by decide +kernel
theorem dX7_settle_32 : decode cX7_settle 32 = .ok (.getfield 19, 3) := by decide +kernel
theorem dX7_settle_35 : decode cX7_settle 35 = .ok (.aload_n 0, 1) := by decide +kernel
theorem dX7_settle_36 : decode cX7_settle 36 = .ok (.getfield 65, 3) := by decide +kernel
theorem dX7_settle_39 : decode cX7_settle 39 = .ok (.invokevirtual 192, 3) := by decide +kernel
theorem dX7_settle_42 : decode cX7_settle 42 = .ok (.aload_n 0, 1) := by decide +kernel
theorem dX7_settle_43 : decode cX7_settle 43 = .ok (.getfield 43, 3) := by decide +kernel
theorem dX7_settle_46 : decode cX7_settle 46 = .ok (.invokevirtual 196, 3) := by decide +kernel
theorem dX7_settle_49 : decode cX7_settle 49 = .ok (.aload_n 0, 1) := by decide +kernel
theorem dX7_settle_50 : decode cX7_settle 50 = .ok (.iconst 0, 1) := by decide +kernel
theorem dX7_settle_51 : decode cX7_settle 51 = .ok (.putfield 51, 3) := by decide +kernel
theorem dX7_settle_54 : decode cX7_settle 54 = .ok (.return_, 1) := by decide +kernel
set_option maxRecDepth 20000 in
theorem ggX7_portsThatDiffer_X5_exitsOf : GoodIn wsX7_portsThatDiffer wsX5_exitsOf := goodIn_r _ [7, 8, 9, 10, 11, 12, 13, 14, 28, 29, 30, 31, 32] (by decide +kernel) (by decide +kernel)
set_option maxRecDepth 20000 in
theorem gX7_portsThatDiffer_X5_exitsOf : GoodIn wsX7_portsThatDiffer (wsV RX7 153 RX5 yX5_exitsOf wsX5_exitsOf) := goodIn_app (goodIn_of _ (by decide +kernel)) ggX7_portsThatDiffer_X5_exitsOf
set_option maxRecDepth 20000 in
theorem ggX7_portsThatDiffer_X5_taggedOf : GoodIn wsX7_portsThatDiffer wsX5_taggedOf := goodIn_r _ [18, 19, 9, 10, 11, 12, 13, 14, 28, 29, 30, 31, 32] (by decide +kernel) (by decide +kernel)
set_option maxRecDepth 20000 in
theorem gX7_portsThatDiffer_X5_taggedOf : GoodIn wsX7_portsThatDiffer (wsV RX7 156 RX5 yX5_taggedOf wsX5_taggedOf) := goodIn_app (goodIn_of _ (by decide +kernel)) ggX7_portsThatDiffer_X5_taggedOf
theorem dX7_portsThatDiffer_0 : decode cX7_portsThatDiffer 0 = .ok (.aload_n 0, 1) := by decide +kernel
theorem dX7_portsThatDiffer_1 : decode cX7_portsThatDiffer 1 = .ok (.getfield 33, 3) := by decide +kernel
theorem dX7_portsThatDiffer_4 : decode cX7_portsThatDiffer 4 = .ok (.iload_n 1, 1) := by decide +kernel
theorem dX7_portsThatDiffer_5 : decode cX7_portsThatDiffer 5 = .ok (.invokevirtual 153, 3) := by decide +kernel
theorem dX7_portsThatDiffer_8 : decode cX7_portsThatDiffer 8 = .ok (.aload_n 0, 1) := by decide +kernel
theorem dX7_portsThatDiffer_9 : decode cX7_portsThatDiffer 9 = .ok (.getfield 37, 3) := by decide +kernel
theorem dX7_portsThatDiffer_12 : decode cX7_portsThatDiffer 12 = .ok (.iload_n 1, 1) := by decide +kernel
theorem dX7_portsThatDiffer_13 : decode cX7_portsThatDiffer 13 = .ok (.invokevirtual 153, 3) := by decide +kernel
theorem dX7_portsThatDiffer_16 : decode cX7_portsThatDiffer 16 = .ok (.ixor, 1) := by decide +kernel
theorem dX7_portsThatDiffer_17 : decode cX7_portsThatDiffer 17 = .ok (.aload_n 0, 1) := by decide +kernel
theorem dX7_portsThatDiffer_18 : decode cX7_portsThatDiffer 18 = .ok (.getfield 33, 3) := by decide +kernel
theorem dX7_portsThatDiffer_21 : decode cX7_portsThatDiffer 21 = .ok (.iload_n 1, 1) := by decide +kernel
theorem dX7_portsThatDiffer_22 : decode cX7_portsThatDiffer 22 = .ok (.invokevirtual 156, 3) := by decide +kernel
theorem dX7_portsThatDiffer_25 : decode cX7_portsThatDiffer 25 = .ok (.aload_n 0, 1) := by decide +kernel
theorem dX7_portsThatDiffer_26 : decode cX7_portsThatDiffer 26 = .ok (.getfield 37, 3) := by decide +kernel
theorem dX7_portsThatDiffer_29 : decode cX7_portsThatDiffer 29 = .ok (.iload_n 1, 1) := by decide +kernel
theorem dX7_portsThatDiffer_30 : decode cX7_portsThatDiffer 30 = .ok (.invokevirtual 156, 3) := by decide +kernel
theorem dX7_portsThatDiffer_33 : decode cX7_portsThatDiffer 33 = .ok (.ixor, 1) := by decide +kernel
theorem dX7_portsThatDiffer_34 : decode cX7_portsThatDiffer 34 = .ok (.ior, 1) := by decide +kernel
theorem dX7_portsThatDiffer_35 : decode cX7_portsThatDiffer 35 = .ok (.ireturn, 1) := by decide +kernel
theorem dX7_isNetwork_0 : decode cX7_isNetwork 0 = .ok (.iload_n 0, 1) := by decide +kernel
theorem dX7_isNetwork_1 : decode cX7_isNetwork 1 = .ok (.iconst 1, 1) := by decide +kernel
theorem dX7_isNetwork_2 : decode cX7_isNetwork 2 = .ok (.if_icmp .lt 12, 3) := by decide +kernel
theorem dX7_isNetwork_5 : decode cX7_isNetwork 5 = .ok (.iload_n 0, 1) := by decide +kernel
theorem dX7_isNetwork_6 : decode cX7_isNetwork 6 = .ok (.iconst 4, 1) := by decide +kernel
theorem dX7_isNetwork_7 : decode cX7_isNetwork 7 = .ok (.if_icmp .gt 7, 3) := by decide +kernel
theorem dX7_isNetwork_10 : decode cX7_isNetwork 10 = .ok (.iconst 1, 1) := by decide +kernel
theorem dX7_isNetwork_11 : decode cX7_isNetwork 11 = .ok (.goto 4, 3) := by decide +kernel
theorem dX7_isNetwork_14 : decode cX7_isNetwork 14 = .ok (.iconst 0, 1) := by decide +kernel
theorem dX7_isNetwork_15 : decode cX7_isNetwork 15 = .ok (.ireturn, 1) := by decide +kernel
theorem dX7_hasNetwork_0 : decode cX7_hasNetwork 0 = .ok (.iload_n 0, 1) := by decide +kernel
theorem dX7_hasNetwork_1 : decode cX7_hasNetwork 1 = .ok (.iload_n 1, 1) := by decide +kernel
theorem dX7_hasNetwork_2 : decode cX7_hasNetwork 2 = .ok (.iconst 1, 1) := by decide +kernel
theorem dX7_hasNetwork_3 : decode cX7_hasNetwork 3 = .ok (.isub, 1) := by decide +kernel
theorem dX7_hasNetwork_4 : decode cX7_hasNetwork 4 = .ok (.ishr, 1) := by decide +kernel
theorem dX7_hasNetwork_5 : decode cX7_hasNetwork 5 = .ok (.iconst 1, 1) := by decide +kernel
theorem dX7_hasNetwork_6 : decode cX7_hasNetwork 6 = .ok (.iand, 1) := by decide +kernel
theorem dX7_hasNetwork_7 : decode cX7_hasNetwork 7 = .ok (.ifCond .eq 7, 3) := by decide +kernel
theorem dX7_hasNetwork_10 : decode cX7_hasNetwork 10 = .ok (.iconst 1, 1) := by decide +kernel
theorem dX7_hasNetwork_11 : decode cX7_hasNetwork 11 = .ok (.goto 4, 3) := by decide +kernel
theorem dX7_hasNetwork_14 : decode cX7_hasNetwork 14 = .ok (.iconst 0, 1) := by decide +kernel
theorem dX7_hasNetwork_15 : decode cX7_hasNetwork 15 = .ok (.ireturn, 1) := by decide +kernel
theorem dX7_cellOf_0 : decode cX7_cellOf 0 = .ok (.iconst 1, 1) := by decide +kernel
theorem dX7_cellOf_1 : decode cX7_cellOf 1 = .ok (.bipush 6, 2) := by decide +kernel
theorem dX7_cellOf_3 : decode cX7_cellOf 3 = .ok (.iload_n 0, 1) := by decide +kernel
theorem dX7_cellOf_4 : decode cX7_cellOf 4 = .ok (.imul, 1) := by decide +kernel
theorem dX7_cellOf_5 : decode cX7_cellOf 5 = .ok (.iload_n 1, 1) := by decide +kernel
theorem dX7_cellOf_6 : decode cX7_cellOf 6 = .ok (.iadd, 1) := by decide +kernel
theorem dX7_cellOf_7 : decode cX7_cellOf 7 = .ok (.ishl, 1) := by decide +kernel
theorem dX7_cellOf_8 : decode cX7_cellOf 8 = .ok (.ireturn, 1) := by decide +kernel
theorem dX7_portsIn_0 : decode cX7_portsIn 0 = .ok (.iload_n 0, 1) := by decide +kernel
theorem dX7_portsIn_1 : decode cX7_portsIn 1 = .ok (.bipush 6, 2) := by decide +kernel
theorem dX7_portsIn_3 : decode cX7_portsIn 3 = .ok (.iload_n 1, 1) := by decide +kernel
theorem dX7_portsIn_4 : decode cX7_portsIn 4 = .ok (.imul, 1) := by decide +kernel
theorem dX7_portsIn_5 : decode cX7_portsIn 5 = .ok (.ishr, 1) := by decide +kernel
theorem dX7_portsIn_6 : decode cX7_portsIn 6 = .ok (.bipush 63, 2) := by decide +kernel
theorem dX7_portsIn_8 : decode cX7_portsIn 8 = .ok (.iand, 1) := by decide +kernel
theorem dX7_portsIn_9 : decode cX7_portsIn 9 = .ok (.ireturn, 1) := by decide +kernel
theorem dX7_frameOf_0 : decode cX7_frameOf 0 = .ok (.sipush 1000, 3) := by decide +kernel
theorem dX7_frameOf_3 : decode cX7_frameOf 3 = .ok (.iload_n 0, 1) := by decide +kernel
theorem dX7_frameOf_4 : decode cX7_frameOf 4 = .ok (.imul, 1) := by decide +kernel
theorem dX7_frameOf_5 : decode cX7_frameOf 5 = .ok (.bipush 100, 2) := by decide +kernel
theorem dX7_frameOf_7 : decode cX7_frameOf 7 = .ok (.iload_n 1, 1) := by decide +kernel
theorem dX7_frameOf_8 : decode cX7_frameOf 8 = .ok (.imul, 1) := by decide +kernel
theorem dX7_frameOf_9 : decode cX7_frameOf 9 = .ok (.iadd, 1) := by decide +kernel
theorem dX7_frameOf_10 : decode cX7_frameOf 10 = .ok (.bipush 10, 2) := by decide +kernel
theorem dX7_frameOf_12 : decode cX7_frameOf 12 = .ok (.iload_n 2, 1) := by decide +kernel
theorem dX7_frameOf_13 : decode cX7_frameOf 13 = .ok (.imul, 1) := by decide +kernel
theorem dX7_frameOf_14 : decode cX7_frameOf 14 = .ok (.iadd, 1) := by decide +kernel
theorem dX7_frameOf_15 : decode cX7_frameOf 15 = .ok (.iload_n 3, 1) := by decide +kernel
theorem dX7_frameOf_16 : decode cX7_frameOf 16 = .ok (.iadd, 1) := by decide +kernel
theorem dX7_frameOf_17 : decode cX7_frameOf 17 = .ok (.ireturn, 1) := by decide +kernel
theorem dX7_portOf_0 : decode cX7_portOf 0 = .ok (.iload_n 0, 1) := by decide +kernel
theorem dX7_portOf_1 : decode cX7_portOf 1 = .ok (.sipush 1000, 3) := by decide +kernel
theorem dX7_portOf_4 : decode cX7_portOf 4 = .ok (.idiv, 1) := by decide +kernel
theorem dX7_portOf_5 : decode cX7_portOf 5 = .ok (.ireturn, 1) := by decide +kernel
theorem dX7_tagOf_0 : decode cX7_tagOf 0 = .ok (.iload_n 0, 1) := by decide +kernel
theorem dX7_tagOf_1 : decode cX7_tagOf 1 = .ok (.bipush 100, 2) := by decide +kernel
theorem dX7_tagOf_3 : decode cX7_tagOf 3 = .ok (.idiv, 1) := by decide +kernel
theorem dX7_tagOf_4 : decode cX7_tagOf 4 = .ok (.bipush 10, 2) := by decide +kernel
theorem dX7_tagOf_6 : decode cX7_tagOf 6 = .ok (.irem, 1) := by decide +kernel
theorem dX7_tagOf_7 : decode cX7_tagOf 7 = .ok (.ireturn, 1) := by decide +kernel
theorem dX7_sourceOf_0 : decode cX7_sourceOf 0 = .ok (.iload_n 0, 1) := by decide +kernel
theorem dX7_sourceOf_1 : decode cX7_sourceOf 1 = .ok (.bipush 10, 2) := by decide +kernel
theorem dX7_sourceOf_3 : decode cX7_sourceOf 3 = .ok (.idiv, 1) := by decide +kernel
theorem dX7_sourceOf_4 : decode cX7_sourceOf 4 = .ok (.bipush 10, 2) := by decide +kernel
theorem dX7_sourceOf_6 : decode cX7_sourceOf 6 = .ok (.irem, 1) := by decide +kernel
theorem dX7_sourceOf_7 : decode cX7_sourceOf 7 = .ok (.ireturn, 1) := by decide +kernel
theorem dX7_destinationOf_0 : decode cX7_destinationOf 0 = .ok (.iload_n 0, 1) := by decide +kernel
theorem dX7_destinationOf_1 : decode cX7_destinationOf 1 = .ok (.bipush 10, 2) := by decide +kernel
theorem dX7_destinationOf_3 : decode cX7_destinationOf 3 = .ok (.irem, 1) := by decide +kernel
theorem dX7_destinationOf_4 : decode cX7_destinationOf 4 = .ok (.ireturn, 1) := by decide +kernel
theorem dJ6_bitCount_0f7a4_0 : decode cJ6_bitCount_0f7a4 0 = .ok (.iload_n 0, 1) := by decide +kernel
theorem dJ6_bitCount_0f7a4_1 : decode cJ6_bitCount_0f7a4 1 = .ok (.iload_n 0, 1) := by decide +kernel
theorem dJ6_bitCount_0f7a4_2 : decode cJ6_bitCount_0f7a4 2 = .ok (.iconst 1, 1) := by decide +kernel
theorem dJ6_bitCount_0f7a4_3 : decode cJ6_bitCount_0f7a4 3 = .ok (.iushr, 1) := by decide +kernel
theorem dJ6_bitCount_0f7a4_4 : decode cJ6_bitCount_0f7a4 4 = .ok (.ldc_w 265, 3) := by decide +kernel
theorem dJ6_bitCount_0f7a4_7 : decode cJ6_bitCount_0f7a4 7 = .ok (.iand, 1) := by decide +kernel
theorem dJ6_bitCount_0f7a4_8 : decode cJ6_bitCount_0f7a4 8 = .ok (.isub, 1) := by decide +kernel
theorem dJ6_bitCount_0f7a4_9 : decode cJ6_bitCount_0f7a4 9 = .ok (.istore_n 0, 1) := by decide +kernel
theorem dJ6_bitCount_0f7a4_10 : decode cJ6_bitCount_0f7a4 10 = .ok (.iload_n 0, 1) := by decide +kernel
theorem dJ6_bitCount_0f7a4_11 : decode cJ6_bitCount_0f7a4 11 = .ok (.ldc_w 266, 3) := by decide +kernel
theorem dJ6_bitCount_0f7a4_14 : decode cJ6_bitCount_0f7a4 14 = .ok (.iand, 1) := by decide +kernel
theorem dJ6_bitCount_0f7a4_15 : decode cJ6_bitCount_0f7a4 15 = .ok (.iload_n 0, 1) := by decide +kernel
theorem dJ6_bitCount_0f7a4_16 : decode cJ6_bitCount_0f7a4 16 = .ok (.iconst 2, 1) := by decide +kernel
theorem dJ6_bitCount_0f7a4_17 : decode cJ6_bitCount_0f7a4 17 = .ok (.iushr, 1) := by decide +kernel
theorem dJ6_bitCount_0f7a4_18 : decode cJ6_bitCount_0f7a4 18 = .ok (.ldc_w 266, 3) := by decide +kernel
theorem dJ6_bitCount_0f7a4_21 : decode cJ6_bitCount_0f7a4 21 = .ok (.iand, 1) := by decide +kernel
theorem dJ6_bitCount_0f7a4_22 : decode cJ6_bitCount_0f7a4 22 = .ok (.iadd, 1) := by decide +kernel
theorem dJ6_bitCount_0f7a4_23 : decode cJ6_bitCount_0f7a4 23 = .ok (.istore_n 0, 1) := by decide +kernel
theorem dJ6_bitCount_0f7a4_24 : decode cJ6_bitCount_0f7a4 24 = .ok (.iload_n 0, 1) := by decide +kernel
theorem dJ6_bitCount_0f7a4_25 : decode cJ6_bitCount_0f7a4 25 = .ok (.iload_n 0, 1) := by decide +kernel
theorem dJ6_bitCount_0f7a4_26 : decode cJ6_bitCount_0f7a4 26 = .ok (.iconst 4, 1) := by decide +kernel
theorem dJ6_bitCount_0f7a4_27 : decode cJ6_bitCount_0f7a4 27 = .ok (.iushr, 1) := by decide +kernel
theorem dJ6_bitCount_0f7a4_28 : decode cJ6_bitCount_0f7a4 28 = .ok (.iadd, 1) := by decide +kernel
theorem dJ6_bitCount_0f7a4_29 : decode cJ6_bitCount_0f7a4 29 = .ok (.ldc_w 267, 3) := by decide +kernel
theorem dJ6_bitCount_0f7a4_32 : decode cJ6_bitCount_0f7a4 32 = .ok (.iand, 1) := by decide +kernel
theorem dJ6_bitCount_0f7a4_33 : decode cJ6_bitCount_0f7a4 33 = .ok (.istore_n 0, 1) := by decide +kernel
theorem dJ6_bitCount_0f7a4_34 : decode cJ6_bitCount_0f7a4 34 = .ok (.iload_n 0, 1) := by decide +kernel
theorem dJ6_bitCount_0f7a4_35 : decode cJ6_bitCount_0f7a4 35 = .ok (.iload_n 0, 1) := by decide +kernel
theorem dJ6_bitCount_0f7a4_36 : decode cJ6_bitCount_0f7a4 36 = .ok (.bipush 8, 2) := by decide +kernel
theorem dJ6_bitCount_0f7a4_38 : decode cJ6_bitCount_0f7a4 38 = .ok (.iushr, 1) := by decide +kernel
theorem dJ6_bitCount_0f7a4_39 : decode cJ6_bitCount_0f7a4 39 = .ok (.iadd, 1) := by decide +kernel
theorem dJ6_bitCount_0f7a4_40 : decode cJ6_bitCount_0f7a4 40 = .ok (.istore_n 0, 1) := by decide +kernel
theorem dJ6_bitCount_0f7a4_41 : decode cJ6_bitCount_0f7a4 41 = .ok (.iload_n 0, 1) := by decide +kernel
theorem dJ6_bitCount_0f7a4_42 : decode cJ6_bitCount_0f7a4 42 = .ok (.iload_n 0, 1) := by decide +kernel
theorem dJ6_bitCount_0f7a4_43 : decode cJ6_bitCount_0f7a4 43 = .ok (.bipush 16, 2) := by decide +kernel
theorem dJ6_bitCount_0f7a4_45 : decode cJ6_bitCount_0f7a4 45 = .ok (.iushr, 1) := by decide +kernel
theorem dJ6_bitCount_0f7a4_46 : decode cJ6_bitCount_0f7a4 46 = .ok (.iadd, 1) := by decide +kernel
theorem dJ6_bitCount_0f7a4_47 : decode cJ6_bitCount_0f7a4 47 = .ok (.istore_n 0, 1) := by decide +kernel
theorem dJ6_bitCount_0f7a4_48 : decode cJ6_bitCount_0f7a4 48 = .ok (.iload_n 0, 1) := by decide +kernel
theorem dJ6_bitCount_0f7a4_49 : decode cJ6_bitCount_0f7a4 49 = .ok (.bipush 63, 2) := by decide +kernel
theorem dJ6_bitCount_0f7a4_51 : decode cJ6_bitCount_0f7a4 51 = .ok (.iand, 1) := by decide +kernel
theorem dJ6_bitCount_0f7a4_52 : decode cJ6_bitCount_0f7a4 52 = .ok (.ireturn, 1) := by decide +kernel
theorem dJ7_fill_53178_0 : decode cJ7_fill_53178 0 = .ok (.iconst 0, 1) := by decide +kernel
theorem dJ7_fill_53178_1 : decode cJ7_fill_53178 1 = .ok (.istore_n 2, 1) := by decide +kernel
theorem dJ7_fill_53178_2 : decode cJ7_fill_53178 2 = .ok (.aload_n 0, 1) := by decide +kernel
theorem dJ7_fill_53178_3 : decode cJ7_fill_53178 3 = .ok (.arraylength, 1) := by decide +kernel
theorem dJ7_fill_53178_4 : decode cJ7_fill_53178 4 = .ok (.istore_n 3, 1) := by decide +kernel
theorem dJ7_fill_53178_5 : decode cJ7_fill_53178 5 = .ok (.iload_n 2, 1) := by decide +kernel
theorem dJ7_fill_53178_6 : decode cJ7_fill_53178 6 = .ok (.iload_n 3, 1) := by decide +kernel
theorem dJ7_fill_53178_7 : decode cJ7_fill_53178 7 = .ok (.if_icmp .ge 13, 3) := by decide +kernel
theorem dJ7_fill_53178_10 : decode cJ7_fill_53178 10 = .ok (.aload_n 0, 1) := by decide +kernel
theorem dJ7_fill_53178_11 : decode cJ7_fill_53178 11 = .ok (.iload_n 2, 1) := by decide +kernel
theorem dJ7_fill_53178_12 : decode cJ7_fill_53178 12 = .ok (.iload_n 1, 1) := by decide +kernel
theorem dJ7_fill_53178_13 : decode cJ7_fill_53178 13 = .ok (.iastore, 1) := by decide +kernel
theorem dJ7_fill_53178_14 : decode cJ7_fill_53178 14 = .ok (.iinc 2 1, 3) := by decide +kernel
theorem dJ7_fill_53178_17 : decode cJ7_fill_53178 17 = .ok (.goto (-12), 3) := by decide +kernel
theorem dJ7_fill_53178_20 : decode cJ7_fill_53178 20 = .ok (.return_, 1) := by decide +kernel
