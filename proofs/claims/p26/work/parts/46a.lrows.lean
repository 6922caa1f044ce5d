set_option maxRecDepth 20000 in
theorem ggL_begun_X7_begin : GoodIn wsL_begun wsX7_begin := goodIn_ca (goodIn_r _ [6, 7, 8, 9, 10, 11, 12, 13, 14, 15, 16, 17, 18, 19, 20, 21, 22, 23, 24, 25, 26, 27, 28, 29, 30, 5, 31, 32, 33, 34, 35, 36, 37, 38, 39, 40, 41, 42, 43, 44, 45, 46, 47, 48, 49, 50, 51, 52, 53] (by decide +kernel) (by decide +kernel)) (goodIn_sub (fun _ h => List.mem_cons_of_mem _ (List.mem_append_right _ h)) (by decide +kernel))
set_option maxRecDepth 20000 in
theorem gL_begun_X7_begin : GoodIn wsL_begun (wsV RL 21 RX7 yX7_begin wsX7_begin) := goodIn_app (goodIn_of _ (by decide +kernel)) ggL_begun_X7_begin
theorem dL_begun_0 : decode cL_begun 0 = .ok (.aload_n 0, 1) := by decide +kernel
theorem dL_begun_1 : decode cL_begun 1 = .ok (.iload_n 1, 1) := by decide +kernel
theorem dL_begun_2 : decode cL_begun 2 = .ok (.invokevirtual 21, 3) := by decide +kernel
theorem dL_begun_5 : decode cL_begun 5 = .ok (.iconst 0, 1) := by decide +kernel
theorem dL_begun_6 : decode cL_begun 6 = .ok (.ireturn, 1) := by decide +kernel
theorem dL_begun_7 : decode cL_begun 7 = .ok (.astore_n 2, 1) := by decide +kernel
theorem dL_begun_8 : decode cL_begun 8 = .ok (.bipush (-101), 2) := by decide +kernel
theorem dL_begun_10 : decode cL_begun 10 = .ok (.ireturn, 1) := by decide +kernel
set_option maxRecDepth 20000 in
theorem ggL_access_X7_access : GoodIn wsL_access wsX7_access := goodIn_ca (goodIn_ca (goodIn_r _ [7, 8, 9, 10, 11, 12, 13, 14, 6, 15, 16, 17, 18, 19, 20, 21, 22, 23, 24, 25, 26, 27, 28, 29, 30, 31, 32, 33, 34, 35, 36, 37, 38, 39, 40, 41, 42, 43, 44, 45, 46, 47, 48, 49, 50, 51, 52, 53] (by decide +kernel) (by decide +kernel)) (goodIn_sub (fun _ h => List.mem_cons_of_mem _ (List.mem_append_left _ (List.mem_append_right _ h))) (by decide +kernel))) (goodIn_sub (fun _ h => List.mem_cons_of_mem _ (List.mem_append_right _ h)) (by decide +kernel))
set_option maxRecDepth 20000 in
theorem gL_access_X7_access : GoodIn wsL_access (wsV RL 27 RX7 yX7_access wsX7_access) := goodIn_app (goodIn_of _ (by decide +kernel)) ggL_access_X7_access
theorem dL_access_0 : decode cL_access 0 = .ok (.aload_n 0, 1) := by decide +kernel
theorem dL_access_1 : decode cL_access 1 = .ok (.iload_n 1, 1) := by decide +kernel
theorem dL_access_2 : decode cL_access 2 = .ok (.iload_n 2, 1) := by decide +kernel
theorem dL_access_3 : decode cL_access 3 = .ok (.invokevirtual 27, 3) := by decide +kernel
theorem dL_access_6 : decode cL_access 6 = .ok (.iconst 0, 1) := by decide +kernel
theorem dL_access_7 : decode cL_access 7 = .ok (.ireturn, 1) := by decide +kernel
theorem dL_access_8 : decode cL_access 8 = .ok (.astore_n 3, 1) := by decide +kernel
theorem dL_access_9 : decode cL_access 9 = .ok (.bipush (-101), 2) := by decide +kernel
theorem dL_access_11 : decode cL_access 11 = .ok (.ireturn, 1) := by decide +kernel
theorem dL_access_12 : decode cL_access 12 = .ok (.astore_n 3, 1) := by decide +kernel
theorem dL_access_13 : decode cL_access 13 = .ok (.bipush (-102), 2) := by decide +kernel
theorem dL_access_15 : decode cL_access 15 = .ok (.ireturn, 1) := by decide +kernel
set_option maxRecDepth 20000 in
theorem ggL_trunk_X7_trunk : GoodIn wsL_trunk wsX7_trunk := goodIn_ca (goodIn_ca (goodIn_r _ [7, 8, 9, 10, 11, 12, 13, 14, 6, 15, 16, 17, 18, 19, 20, 21, 22, 23, 24, 25, 26, 27, 28, 29, 30, 31, 32, 33, 34, 35, 36, 37, 38, 39, 40, 41, 42, 43, 44, 45, 46, 47, 48, 49, 50] (by decide +kernel) (by decide +kernel)) (goodIn_sub (fun _ h => List.mem_cons_of_mem _ (List.mem_append_left _ (List.mem_append_right _ h))) (by decide +kernel))) (goodIn_sub (fun _ h => List.mem_cons_of_mem _ (List.mem_append_right _ h)) (by decide +kernel))
set_option maxRecDepth 20000 in
theorem gL_trunk_X7_trunk : GoodIn wsL_trunk (wsV RL 33 RX7 yX7_trunk wsX7_trunk) := goodIn_app (goodIn_of _ (by decide +kernel)) ggL_trunk_X7_trunk
theorem dL_trunk_0 : decode cL_trunk 0 = .ok (.aload_n 0, 1) := by decide +kernel
theorem dL_trunk_1 : decode cL_trunk 1 = .ok (.iload_n 1, 1) := by decide +kernel
theorem dL_trunk_2 : decode cL_trunk 2 = .ok (.iload_n 2, 1) := by decide +kernel
theorem dL_trunk_3 : decode cL_trunk 3 = .ok (.iload_n 3, 1) := by decide +kernel
theorem dL_trunk_4 : decode cL_trunk 4 = .ok (.invokevirtual 33, 3) := by decide +kernel
theorem dL_trunk_7 : decode cL_trunk 7 = .ok (.iconst 0, 1) := by decide +kernel
theorem dL_trunk_8 : decode cL_trunk 8 = .ok (.ireturn, 1) := by decide +kernel
theorem dL_trunk_9 : decode cL_trunk 9 = .ok (.astore 4, 2) := by decide +kernel
theorem dL_trunk_11 : decode cL_trunk 11 = .ok (.bipush (-101), 2) := by decide +kernel
theorem dL_trunk_13 : decode cL_trunk 13 = .ok (.ireturn, 1) := by decide +kernel
theorem dL_trunk_14 : decode cL_trunk 14 = .ok (.astore 4, 2) := by decide +kernel
theorem dL_trunk_16 : decode cL_trunk 16 = .ok (.bipush (-102), 2) := by decide +kernel
theorem dL_trunk_18 : decode cL_trunk 18 = .ok (.ireturn, 1) := by decide +kernel
set_option maxRecDepth 20000 in
theorem ggL_fault_X7_fault : GoodIn wsL_fault wsX7_fault := goodIn_ca (goodIn_ca (goodIn_r _ [7, 8, 9, 10, 11, 12, 13, 14, 6, 15, 16, 17, 18, 19, 20, 21, 22, 23, 24, 25, 26, 27, 28, 29, 30, 31, 32, 33, 34, 35, 36, 37, 38, 39] (by decide +kernel) (by decide +kernel)) (goodIn_sub (fun _ h => List.mem_cons_of_mem _ (List.mem_append_left _ (List.mem_append_right _ h))) (by decide +kernel))) (goodIn_sub (fun _ h => List.mem_cons_of_mem _ (List.mem_append_right _ h)) (by decide +kernel))
set_option maxRecDepth 20000 in
theorem gL_fault_X7_fault : GoodIn wsL_fault (wsV RL 37 RX7 yX7_fault wsX7_fault) := goodIn_app (goodIn_of _ (by decide +kernel)) ggL_fault_X7_fault
theorem dL_fault_0 : decode cL_fault 0 = .ok (.aload_n 0, 1) := by decide +kernel
theorem dL_fault_1 : decode cL_fault 1 = .ok (.iload_n 1, 1) := by decide +kernel
theorem dL_fault_2 : decode cL_fault 2 = .ok (.iload_n 2, 1) := by decide +kernel
theorem dL_fault_3 : decode cL_fault 3 = .ok (.invokevirtual 37, 3) := by decide +kernel
theorem dL_fault_6 : decode cL_fault 6 = .ok (.ifCond .eq 7, 3) := by decide +kernel
theorem dL_fault_9 : decode cL_fault 9 = .ok (.iconst 1, 1) := by decide +kernel
theorem dL_fault_10 : decode cL_fault 10 = .ok (.goto 4, 3) := by decide +kernel
theorem dL_fault_13 : decode cL_fault 13 = .ok (.iconst 0, 1) := by decide +kernel
theorem dL_fault_14 : decode cL_fault 14 = .ok (.ireturn, 1) := by decide +kernel
theorem dL_fault_15 : decode cL_fault 15 = .ok (.astore_n 3, 1) := by decide +kernel
theorem dL_fault_16 : decode cL_fault 16 = .ok (.bipush (-101), 2) := by decide +kernel
theorem dL_fault_18 : decode cL_fault 18 = .ok (.ireturn, 1) := by decide +kernel
theorem dL_fault_19 : decode cL_fault 19 = .ok (.astore_n 3, 1) := by decide +kernel
theorem dL_fault_20 : decode cL_fault 20 = .ok (.bipush (-102), 2) := by decide +kernel
theorem dL_fault_22 : decode cL_fault 22 = .ok (.ireturn, 1) := by decide +kernel
set_option maxRecDepth 20000 in
theorem ggL_added_X7_add : GoodIn wsL_added wsX7_add := goodIn_ca (goodIn_ca (goodIn_ca (goodIn_r _ [8, 9, 10, 11, 12, 13, 14, 15, 16, 17, 7, 18, 19, 20, 21, 22, 23, 24, 25, 26, 27, 28, 29, 30, 31, 32, 33, 34, 35, 36, 37, 38, 39, 40, 41, 42, 43, 44, 45, 46, 47, 48, 49, 50, 51, 52, 53, 54, 55, 56, 57, 58, 59, 60, 61, 62] (by decide +kernel) (by decide +kernel)) (goodIn_sub (fun _ h => List.mem_cons_of_mem _ (List.mem_append_left _ (List.mem_append_left _ (List.mem_append_right _ h)))) (by decide +kernel))) (goodIn_sub (fun _ h => List.mem_cons_of_mem _ (List.mem_append_left _ (List.mem_append_right _ h))) (by decide +kernel))) (goodIn_sub (fun _ h => List.mem_cons_of_mem _ (List.mem_append_right _ h)) (by decide +kernel))
set_option maxRecDepth 20000 in
theorem gL_added_X7_add : GoodIn wsL_added (wsV RL 41 RX7 yX7_add wsX7_add) := goodIn_app (goodIn_of _ (by decide +kernel)) ggL_added_X7_add
theorem dL_added_0 : decode cL_added 0 = .ok (.aload_n 0, 1) := by decide +kernel
theorem dL_added_1 : decode cL_added 1 = .ok (.iload_n 1, 1) := by decide +kernel
theorem dL_added_2 : decode cL_added 2 = .ok (.iload_n 2, 1) := by decide +kernel
theorem dL_added_3 : decode cL_added 3 = .ok (.iload_n 3, 1) := by decide +kernel
theorem dL_added_4 : decode cL_added 4 = .ok (.iload 4, 2) := by decide +kernel
theorem dL_added_6 : decode cL_added 6 = .ok (.invokevirtual 41, 3) := by decide +kernel
theorem dL_added_9 : decode cL_added 9 = .ok (.ireturn, 1) := by decide +kernel
theorem dL_added_10 : decode cL_added 10 = .ok (.astore 5, 2) := by decide +kernel
theorem dL_added_12 : decode cL_added 12 = .ok (.bipush (-101), 2) := by decide +kernel
theorem dL_added_14 : decode cL_added 14 = .ok (.ireturn, 1) := by decide +kernel
theorem dL_added_15 : decode cL_added 15 = .ok (.astore 5, 2) := by decide +kernel
theorem dL_added_17 : decode cL_added 17 = .ok (.bipush (-102), 2) := by decide +kernel
theorem dL_added_19 : decode cL_added 19 = .ok (.ireturn, 1) := by decide +kernel
theorem dL_added_20 : decode cL_added 20 = .ok (.astore 5, 2) := by decide +kernel
theorem dL_added_22 : decode cL_added 22 = .ok (.bipush (-103), 2) := by decide +kernel
theorem dL_added_24 : decode cL_added 24 = .ok (.ireturn, 1) := by decide +kernel
set_option maxRecDepth 20000 in
theorem ggL_learned_X7_learned : GoodIn wsL_learned wsX7_learned := goodIn_ca (goodIn_r _ [6, 7, 8, 9, 10, 11, 5, 12, 13, 14, 15, 16, 17, 18, 19, 20, 21, 22, 23, 24, 25, 26, 27, 28, 29, 30, 31, 32, 33, 34, 35, 36, 37, 38, 39, 40, 41, 42, 43, 44, 45, 46, 47, 48, 49, 50, 51, 52, 53, 54, 55, 56, 57, 58, 59, 60, 61, 62, 63, 64, 65, 66, 67, 68, 69, 70, 71, 72, 73, 74, 75, 76, 77, 78, 79, 80, 81, 82, 83, 84, 85, 86, 87, 88, 89, 90, 91, 92, 93, 94, 95, 96, 97, 98, 99, 100, 101, 102, 103, 104, 105, 106, 107, 108, 109, 110, 111, 112, 113, 114, 115, 116, 117, 118, 119, 120, 121, 122, 123, 124, 125, 126, 127, 128, 129, 130, 131, 132, 133, 134, 135, 136, 137, 138, 139, 140, 141, 142, 143, 144, 145, 146, 147, 148, 149, 150, 151, 152, 153, 154, 155, 156, 157, 158, 159, 160, 161, 162, 163, 164, 165, 166, 167, 168, 169, 170, 171, 172, 173, 174, 175, 176, 177, 178, 179, 180, 181, 182, 183] (by decide +kernel) (by decide +kernel)) (goodIn_sub (fun _ h => List.mem_cons_of_mem _ (List.mem_append_right _ h)) (by decide +kernel))
set_option maxRecDepth 20000 in
theorem gL_learned_X7_learned : GoodIn wsL_learned (wsV RL 47 RX7 yX7_learned wsX7_learned) := goodIn_app (goodIn_of _ (by decide +kernel)) ggL_learned_X7_learned
theorem dL_learned_0 : decode cL_learned 0 = .ok (.aload_n 0, 1) := by decide +kernel
theorem dL_learned_1 : decode cL_learned 1 = .ok (.iload_n 1, 1) := by decide +kernel
theorem dL_learned_2 : decode cL_learned 2 = .ok (.iload_n 2, 1) := by decide +kernel
theorem dL_learned_3 : decode cL_learned 3 = .ok (.invokevirtual 47, 3) := by decide +kernel
theorem dL_learned_6 : decode cL_learned 6 = .ok (.ireturn, 1) := by decide +kernel
theorem dL_learned_7 : decode cL_learned 7 = .ok (.astore_n 3, 1) := by decide +kernel
theorem dL_learned_8 : decode cL_learned 8 = .ok (.bipush (-101), 2) := by decide +kernel
theorem dL_learned_10 : decode cL_learned 10 = .ok (.ireturn, 1) := by decide +kernel
set_option maxRecDepth 20000 in
theorem ggL_of_X7_frameAt : GoodIn wsL_of wsX7_frameAt := goodIn_ca (goodIn_r _ [6, 7, 8, 9, 10, 5, 11, 12, 13, 14, 15, 16, 17, 18, 19, 20, 21, 22, 23, 24, 25, 26, 27, 28, 29, 30, 255, 256, 257, 258, 259, 260, 261, 262, 263, 264, 265] (by decide +kernel) (by decide +kernel)) (goodIn_sub (fun _ h => List.mem_cons_of_mem _ (List.mem_append_right _ h)) (by decide +kernel))
set_option maxRecDepth 20000 in
theorem gL_of_X7_frameAt : GoodIn wsL_of (wsV RL 51 RX7 yX7_frameAt wsX7_frameAt) := goodIn_app (goodIn_of _ (by decide +kernel)) ggL_of_X7_frameAt
set_option maxRecDepth 20000 in
theorem ggL_of_X7_expected : GoodIn wsL_of wsX7_expected := goodIn_ca (goodIn_r _ [34, 35, 8, 9, 10, 5, 11, 12, 13, 7, 14, 15, 16, 17, 18, 19, 36, 37, 38, 39, 40, 41, 42, 43, 44, 45, 46, 47, 48, 49, 50, 51, 52, 53, 54, 55, 56, 57, 58, 59, 60, 61, 62, 63, 28, 64, 30, 65, 66, 67, 68, 69, 70, 21, 22, 23, 24, 25, 26, 27, 29, 71, 72, 73, 74, 75, 76, 77, 78, 79, 80, 81, 82, 83, 84, 85, 86, 87, 88, 89, 90, 91, 92, 93, 94, 95, 96, 97, 98, 99, 100, 101, 102, 103, 104, 105, 106, 107, 108, 109, 110, 111, 112, 113, 114, 115, 116, 117, 118, 119, 120, 121, 122, 123, 124, 125, 126, 127, 128, 129, 130, 131, 132, 133, 134, 135, 136, 137, 138, 139, 140, 141, 142, 143, 144, 145, 146, 147, 148, 149, 150, 151, 152, 153, 154, 155, 156, 157, 255, 256, 257, 258, 259, 260, 261, 262, 263, 264, 266, 267, 268, 269, 270, 271, 272, 273, 274, 265, 275, 276, 277, 278, 279, 280, 281, 282, 283, 284] (by decide +kernel) (by decide +kernel)) (goodIn_sub (fun _ h => List.mem_cons_of_mem _ (List.mem_append_right _ h)) (by decide +kernel))
set_option maxRecDepth 20000 in
theorem gL_of_X7_expected : GoodIn wsL_of (wsV RL 55 RX7 yX7_expected wsX7_expected) := goodIn_app (goodIn_of _ (by decide +kernel)) ggL_of_X7_expected
set_option maxRecDepth 20000 in
theorem ggL_of_X7_expectedTagged : GoodIn wsL_of wsX7_expectedTagged := goodIn_ca (goodIn_r _ [161, 35, 8, 9, 10, 5, 11, 12, 13, 7, 14, 15, 16, 17, 18, 19, 36, 37, 38, 39, 40, 41, 42, 43, 44, 45, 46, 47, 48, 49, 50, 51, 52, 53, 54, 55, 56, 57, 58, 59, 60, 61, 62, 63, 28, 64, 30, 65, 66, 67, 68, 69, 70, 21, 22, 23, 24, 25, 26, 27, 29, 71, 72, 73, 74, 75, 76, 77, 78, 79, 80, 81, 82, 83, 84, 85, 86, 87, 88, 89, 90, 91, 92, 93, 94, 95, 96, 97, 98, 99, 100, 101, 102, 103, 104, 105, 106, 107, 108, 109, 110, 111, 112, 113, 114, 115, 116, 117, 118, 119, 120, 121, 122, 123, 124, 125, 126, 127, 128, 129, 130, 131, 132, 133, 134, 135, 136, 137, 138, 139, 140, 141, 142, 143, 144, 145, 146, 147, 148, 149, 150, 151, 152, 162, 163, 164, 165, 157, 255, 256, 257, 258, 259, 260, 261, 262, 263, 264, 266, 267, 268, 269, 270, 271, 272, 273, 274, 265, 275, 276, 277, 278, 279, 280, 281, 282, 283, 284] (by decide +kernel) (by decide +kernel)) (goodIn_sub (fun _ h => List.mem_cons_of_mem _ (List.mem_append_right _ h)) (by decide +kernel))
set_option maxRecDepth 20000 in
theorem gL_of_X7_expectedTagged : GoodIn wsL_of (wsV RL 58 RX7 yX7_expectedTagged wsX7_expectedTagged) := goodIn_app (goodIn_of _ (by decide +kernel)) ggL_of_X7_expectedTagged
set_option maxRecDepth 20000 in
theorem ggL_of_X7_reason : GoodIn wsL_of wsX7_reason := goodIn_ca (goodIn_r _ [169, 35, 8, 9, 10, 5, 11, 12, 13, 7, 14, 15, 16, 17, 18, 19, 36, 37, 38, 39, 40, 41, 42, 43, 44, 45, 46, 47, 48, 49, 50, 51, 52, 53, 54, 55, 56, 57, 58, 59, 60, 61, 62, 63, 28, 64, 30, 65, 66, 67, 68, 69, 70, 21, 22, 23, 24, 25, 26, 27, 29, 71, 72, 73, 74, 75, 76, 77, 78, 79, 80, 81, 82, 83, 84, 85, 86, 87, 88, 89, 90, 91, 92, 93, 94, 95, 96, 97, 98, 99, 100, 101, 102, 103, 104, 105, 106, 107, 108, 109, 110, 111, 112, 113, 114, 115, 116, 117, 118, 119, 120, 121, 122, 123, 124, 125, 126, 127, 128, 129, 130, 131, 132, 133, 134, 135, 136, 137, 138, 139, 140, 141, 142, 143, 144, 145, 146, 147, 148, 149, 150, 151, 152, 170, 171, 172, 173, 157, 255, 256, 257, 258, 259, 260, 261, 262, 263, 264, 266, 267, 268, 269, 270, 271, 272, 273, 274, 265, 275, 276, 277, 278, 279, 280, 281, 282, 283, 284] (by decide +kernel) (by decide +kernel)) (goodIn_sub (fun _ h => List.mem_cons_of_mem _ (List.mem_append_right _ h)) (by decide +kernel))
set_option maxRecDepth 20000 in
theorem gL_of_X7_reason : GoodIn wsL_of (wsV RL 61 RX7 yX7_reason wsX7_reason) := goodIn_app (goodIn_of _ (by decide +kernel)) ggL_of_X7_reason
set_option maxRecDepth 20000 in
theorem ggL_of_X7_seen : GoodIn wsL_of wsX7_seen := goodIn_ca (goodIn_r _ [177, 42, 8, 9, 10, 5, 11, 12, 13, 7, 14, 15, 16, 17, 18, 19, 36, 37, 38, 39, 40, 35, 41, 43, 44, 45, 46, 47, 48, 49, 50, 51, 52, 53, 54, 55, 56, 57, 58, 59, 60, 61, 62, 63, 28, 64, 30, 65, 66, 67, 68, 69, 70, 21, 22, 23, 24, 25, 26, 27, 29, 71, 72, 73, 74, 75, 76, 77, 78, 79, 80, 81, 82, 83, 84, 85, 86, 87, 88, 89, 90, 91, 92, 93, 94, 95, 96, 97, 98, 99, 100, 101, 102, 103, 104, 105, 106, 107, 108, 109, 110, 111, 112, 113, 114, 115, 116, 117, 118, 119, 120, 121, 122, 123, 124, 125, 126, 127, 128, 129, 130, 131, 132, 133, 134, 135, 136, 137, 138, 139, 140, 141, 142, 143, 144, 145, 146, 147, 148, 149, 150, 151, 152, 153, 154, 155, 156, 157, 255, 256, 257, 258, 259, 260, 261, 262, 263, 264, 266, 267, 268, 269, 270, 271, 272, 273, 274, 265, 275, 276, 277, 278, 279, 280, 281, 282, 283, 284] (by decide +kernel) (by decide +kernel)) (goodIn_sub (fun _ h => List.mem_cons_of_mem _ (List.mem_append_right _ h)) (by decide +kernel))
set_option maxRecDepth 20000 in
theorem gL_of_X7_seen : GoodIn wsL_of (wsV RL 64 RX7 yX7_seen wsX7_seen) := goodIn_app (goodIn_of _ (by decide +kernel)) ggL_of_X7_seen
set_option maxRecDepth 20000 in
theorem ggL_of_X7_seenTagged : GoodIn wsL_of wsX7_seenTagged := goodIn_ca (goodIn_r _ [181, 42, 8, 9, 10, 5, 11, 12, 13, 7, 14, 15, 16, 17, 18, 19, 36, 37, 38, 39, 40, 35, 41, 43, 44, 45, 46, 47, 48, 49, 50, 51, 52, 53, 54, 55, 56, 57, 58, 59, 60, 61, 62, 63, 28, 64, 30, 65, 66, 67, 68, 69, 70, 21, 22, 23, 24, 25, 26, 27, 29, 71, 72, 73, 74, 75, 76, 77, 78, 79, 80, 81, 82, 83, 84, 85, 86, 87, 88, 89, 90, 91, 92, 93, 94, 95, 96, 97, 98, 99, 100, 101, 102, 103, 104, 105, 106, 107, 108, 109, 110, 111, 112, 113, 114, 115, 116, 117, 118, 119, 120, 121, 122, 123, 124, 125, 126, 127, 128, 129, 130, 131, 132, 133, 134, 135, 136, 137, 138, 139, 140, 141, 142, 143, 144, 145, 146, 147, 148, 149, 150, 151, 152, 162, 163, 164, 165, 157, 255, 256, 257, 258, 259, 260, 261, 262, 263, 264, 266, 267, 268, 269, 270, 271, 272, 273, 274, 265, 275, 276, 277, 278, 279, 280, 281, 282, 283, 284] (by decide +kernel) (by decide +kernel)) (goodIn_sub (fun _ h => List.mem_cons_of_mem _ (List.mem_append_right _ h)) (by decide +kernel))
set_option maxRecDepth 20000 in
theorem gL_of_X7_seenTagged : GoodIn wsL_of (wsV RL 67 RX7 yX7_seenTagged wsX7_seenTagged) := goodIn_app (goodIn_of _ (by decide +kernel)) ggL_of_X7_seenTagged
set_option maxRecDepth 20000 in
theorem ggL_of_X7_differencesAt : GoodIn wsL_of wsX7_differencesAt := goodIn_ca (goodIn_r _ [185, 7, 186, 187, 188, 5, 189, 12, 13, 41, 190, 191, 192, 97, 193, 194, 36, 37, 38, 39, 40, 35, 42, 43, 44, 45, 46, 47, 48, 49, 50, 51, 52, 53, 54, 55, 56, 57, 58, 59, 60, 61, 62, 63, 28, 64, 30, 65, 66, 67, 68, 69, 15, 16, 17, 18, 19, 70, 21, 22, 23, 24, 25, 26, 27, 29, 71, 72, 73, 74, 75, 76, 77, 78, 79, 80, 81, 82, 83, 84, 85, 86, 87, 88, 89, 90, 91, 92, 93, 94, 95, 96, 98, 99, 100, 101, 102, 103, 104, 105, 106, 107, 108, 109, 110, 111, 112, 113, 114, 115, 116, 117, 118, 119, 120, 121, 122, 123, 124, 125, 126, 127, 128, 129, 130, 131, 132, 133, 134, 135, 136, 137, 138, 139, 140, 141, 142, 143, 144, 145, 146, 147, 148, 149, 150, 151, 152, 14, 195, 196, 197, 198, 153, 154, 155, 156, 157, 162, 163, 164, 165, 255, 256, 257, 258, 259, 260, 261, 262, 275, 276, 277, 278, 266, 267, 268, 269, 270, 271, 272, 273, 274, 265, 263, 264, 279, 280, 281, 282, 283, 284] (by decide +kernel) (by decide +kernel)) (goodIn_sub (fun _ h => List.mem_cons_of_mem _ (List.mem_append_right _ h)) (by decide +kernel))
set_option maxRecDepth 20000 in
theorem gL_of_X7_differencesAt : GoodIn wsL_of (wsV RL 70 RX7 yX7_differencesAt wsX7_differencesAt) := goodIn_app (goodIn_of _ (by decide +kernel)) ggL_of_X7_differencesAt
set_option maxRecDepth 20000 in
theorem ggL_of_X7_blamed : GoodIn wsL_of wsX7_blamed := goodIn_ca (goodIn_r _ [202, 12, 13, 44, 41, 7, 42, 36, 37, 38, 5, 39, 40, 35, 43, 45, 46, 47, 48, 49, 50, 51, 52, 53, 54, 55, 56, 57, 58, 59, 60, 61, 62, 63, 28, 64, 30, 65, 66, 67, 68, 69, 15, 16, 17, 18, 19, 70, 21, 22, 23, 24, 25, 26, 27, 29, 71, 72, 73, 74, 75, 76, 77, 78, 79, 80, 81, 82, 83, 84, 85, 86, 87, 88, 89, 90, 91, 92, 93, 94, 95, 96, 97, 98, 99, 100, 101, 102, 103, 104, 105, 106, 107, 108, 109, 110, 111, 112, 113, 114, 115, 116, 117, 118, 119, 120, 121, 122, 123, 124, 125, 126, 127, 128, 129, 130, 131, 132, 133, 134, 135, 136, 137, 138, 139, 140, 141, 142, 143, 144, 145, 146, 147, 148, 149, 150, 151, 152, 203, 204, 205, 206, 207, 208, 209, 210, 211, 212, 213, 214, 215, 216, 217, 218, 219, 220, 221, 222, 223, 154, 155, 156, 157, 224, 225, 163, 164, 165, 226, 227, 228, 229, 230, 231, 232, 233, 234, 235, 236, 191, 192, 193, 194, 237, 238, 239, 240, 241, 242, 243, 244, 245, 246, 247, 248, 249, 250, 251, 252, 253, 254, 255, 256, 257, 258, 259, 260, 261, 262, 266, 267, 268, 269, 270, 271, 272, 273, 274, 265, 263, 264, 275, 276, 277, 278, 279, 280, 281, 282, 283, 284] (by decide +kernel) (by decide +kernel)) (goodIn_sub (fun _ h => List.mem_cons_of_mem _ (List.mem_append_right _ h)) (by decide +kernel))
set_option maxRecDepth 20000 in
theorem gL_of_X7_blamed : GoodIn wsL_of (wsV RL 73 RX7 yX7_blamed wsX7_blamed) := goodIn_app (goodIn_of _ (by decide +kernel)) ggL_of_X7_blamed
theorem dL_of_0 : decode cL_of 0 = .ok (.iload_n 1, 1) := by decide +kernel
theorem dL_of_1 : decode cL_of 1 = .ok (.ifCond .ne 11, 3) := by decide +kernel
theorem dL_of_4 : decode cL_of 4 = .ok (.aload_n 0, 1) := by decide +kernel
theorem dL_of_5 : decode cL_of 5 = .ok (.iload_n 2, 1) := by decide +kernel
theorem dL_of_6 : decode cL_of 6 = .ok (.invokevirtual 51, 3) := by decide +kernel
theorem dL_of_9 : decode cL_of 9 = .ok (.goto 87, 3) := by decide +kernel
theorem dL_of_12 : decode cL_of 12 = .ok (.iload_n 1, 1) := by decide +kernel
theorem dL_of_13 : decode cL_of 13 = .ok (.iconst 1, 1) := by decide +kernel
theorem dL_of_14 : decode cL_of 14 = .ok (.if_icmp .ne 11, 3) := by decide +kernel
theorem dL_of_17 : decode cL_of 17 = .ok (.aload_n 0, 1) := by decide +kernel
theorem dL_of_18 : decode cL_of 18 = .ok (.iload_n 2, 1) := by decide +kernel
theorem dL_of_19 : decode cL_of 19 = .ok (.invokevirtual 55, 3) := by decide +kernel
theorem dL_of_22 : decode cL_of 22 = .ok (.goto 74, 3) := by decide +kernel
theorem dL_of_25 : decode cL_of 25 = .ok (.iload_n 1, 1) := by decide +kernel
theorem dL_of_26 : decode cL_of 26 = .ok (.iconst 2, 1) := by decide +kernel
theorem dL_of_27 : decode cL_of 27 = .ok (.if_icmp .ne 11, 3) := by decide +kernel
theorem dL_of_30 : decode cL_of 30 = .ok (.aload_n 0, 1) := by decide +kernel
theorem dL_of_31 : decode cL_of 31 = .ok (.iload_n 2, 1) := by decide +kernel
theorem dL_of_32 : decode cL_of 32 = .ok (.invokevirtual 58, 3) := by decide +kernel
theorem dL_of_35 : decode cL_of 35 = .ok (.goto 61, 3) := by decide +kernel
theorem dL_of_38 : decode cL_of 38 = .ok (.iload_n 1, 1) := by decide +kernel
theorem dL_of_39 : decode cL_of 39 = .ok (.iconst 3, 1) := by decide +kernel
theorem dL_of_40 : decode cL_of 40 = .ok (.if_icmp .ne 11, 3) := by decide +kernel
theorem dL_of_43 : decode cL_of 43 = .ok (.aload_n 0, 1) := by decide +kernel
theorem dL_of_44 : decode cL_of 44 = .ok (.iload_n 2, 1) := by decide +kernel
theorem dL_of_45 : decode cL_of 45 = .ok (.invokevirtual 61, 3) := by decide +kernel
theorem dL_of_48 : decode cL_of 48 = .ok (.goto 48, 3) := by decide +kernel
theorem dL_of_51 : decode cL_of 51 = .ok (.iload_n 1, 1) := by decide +kernel
theorem dL_of_52 : decode cL_of 52 = .ok (.iconst 4, 1) := by decide +kernel
theorem dL_of_53 : decode cL_of 53 = .ok (.if_icmp .ne 11, 3) := by decide +kernel
theorem dL_of_56 : decode cL_of 56 = .ok (.aload_n 0, 1) := by decide +kernel
theorem dL_of_57 : decode cL_of 57 = .ok (.iload_n 2, 1) := by decide +kernel
theorem dL_of_58 : decode cL_of 58 = .ok (.invokevirtual 64, 3) := by decide +kernel
theorem dL_of_61 : decode cL_of 61 = .ok (.goto 35, 3) := by decide +kernel
theorem dL_of_64 : decode cL_of 64 = .ok (.iload_n 1, 1) := by decide +kernel
theorem dL_of_65 : decode cL_of 65 = .ok (.iconst 5, 1) := by decide +kernel
theorem dL_of_66 : decode cL_of 66 = .ok (.if_icmp .ne 11, 3) := by decide +kernel
theorem dL_of_69 : decode cL_of 69 = .ok (.aload_n 0, 1) := by decide +kernel
theorem dL_of_70 : decode cL_of 70 = .ok (.iload_n 2, 1) := by decide +kernel
theorem dL_of_71 : decode cL_of 71 = .ok (.invokevirtual 67, 3) := by decide +kernel
theorem dL_of_74 : decode cL_of 74 = .ok (.goto 22, 3) := by decide +kernel
theorem dL_of_77 : decode cL_of 77 = .ok (.iload_n 1, 1) := by decide +kernel
theorem dL_of_78 : decode cL_of 78 = .ok (.bipush 6, 2) := by decide +kernel
theorem dL_of_80 : decode cL_of 80 = .ok (.if_icmp .ne 11, 3) := by decide +kernel
theorem dL_of_83 : decode cL_of 83 = .ok (.aload_n 0, 1) := by decide +kernel
theorem dL_of_84 : decode cL_of 84 = .ok (.iload_n 2, 1) := by decide +kernel
theorem dL_of_85 : decode cL_of 85 = .ok (.invokevirtual 70, 3) := by decide +kernel
theorem dL_of_88 : decode cL_of 88 = .ok (.goto 8, 3) := by decide +kernel
theorem dL_of_91 : decode cL_of 91 = .ok (.aload_n 0, 1) := by decide +kernel
theorem dL_of_92 : decode cL_of 92 = .ok (.iload_n 2, 1) := by decide +kernel
theorem dL_of_93 : decode cL_of 93 = .ok (.invokevirtual 73, 3) := by decide +kernel
theorem dL_of_96 : decode cL_of 96 = .ok (.ireturn, 1) := by decide +kernel
theorem dL_of_97 : decode cL_of 97 = .ok (.astore_n 3, 1) := by decide +kernel
theorem dL_of_98 : decode cL_of 98 = .ok (.bipush (-101), 2) := by decide +kernel
theorem dL_of_100 : decode cL_of 100 = .ok (.ireturn, 1) := by decide +kernel
