set_option maxRecDepth 20000 in
theorem ggL_begin_X7_begin : GoodIn wsL_begin wsX7_begin := goodIn_ca (goodIn_r _ [6, 7, 8, 9, 10, 11, 12, 13, 14, 15, 16, 17, 18, 19, 20, 21, 22, 23, 24, 25, 26, 27, 28, 29, 30, 5, 31, 32, 33, 34, 35, 36, 37, 38, 39, 40, 41, 42, 43, 44, 45, 46, 47, 48, 49, 50, 51, 52, 53] (by decide +kernel) (by decide +kernel)) (goodIn_sub (fun _ h => List.mem_cons_of_mem _ (List.mem_append_right _ h)) (by decide +kernel))
set_option maxRecDepth 20000 in
theorem gL_begin_X7_begin : GoodIn wsL_begin (wsV RL 7 RX7 yX7_begin wsX7_begin) := goodIn_app (goodIn_of _ (by decide +kernel)) ggL_begin_X7_begin
theorem dL_begin_0 : decode cL_begin 0 = .ok (.aload_n 0, 1) := by decide +kernel
theorem dL_begin_1 : decode cL_begin 1 = .ok (.iload_n 1, 1) := by decide +kernel
theorem dL_begin_2 : decode cL_begin 2 = .ok (.invokevirtual 7, 3) := by decide +kernel
theorem dL_begin_5 : decode cL_begin 5 = .ok (.goto 6, 3) := by decide +kernel
theorem dL_begin_8 : decode cL_begin 8 = .ok (.astore_n 2, 1) := by decide +kernel
theorem dL_begin_9 : decode cL_begin 9 = .ok (.iconst 1, 1) := by decide +kernel
theorem dL_begin_10 : decode cL_begin 10 = .ok (.ireturn, 1) := by decide +kernel
theorem dL_begin_11 : decode cL_begin 11 = .ok (.iconst 0, 1) := by decide +kernel
theorem dL_begin_12 : decode cL_begin 12 = .ok (.ireturn, 1) := by decide +kernel
set_option maxRecDepth 20000 in
theorem ggL_access_X7_access : GoodIn wsL_access wsX7_access := goodIn_ca (goodIn_ca (goodIn_r _ [7, 8, 9, 10, 11, 12, 13, 14, 6, 15, 16, 17, 18, 19, 20, 21, 22, 23, 24, 25, 26, 27, 28, 29, 30, 31, 32, 33, 34, 35, 36, 37, 38, 39, 40, 41, 42, 43, 44, 45, 46, 47, 48, 49, 50, 51, 52, 53] (by decide +kernel) (by decide +kernel)) (goodIn_sub (fun _ h => List.mem_cons_of_mem _ (List.mem_append_left _ (List.mem_append_right _ h))) (by decide +kernel))) (goodIn_sub (fun _ h => List.mem_cons_of_mem _ (List.mem_append_right _ h)) (by decide +kernel))
set_option maxRecDepth 20000 in
theorem gL_access_X7_access : GoodIn wsL_access (wsV RL 15 RX7 yX7_access wsX7_access) := goodIn_app (goodIn_of _ (by decide +kernel)) ggL_access_X7_access
theorem dL_access_0 : decode cL_access 0 = .ok (.aload_n 0, 1) := by decide +kernel
theorem dL_access_1 : decode cL_access 1 = .ok (.iload_n 1, 1) := by decide +kernel
theorem dL_access_2 : decode cL_access 2 = .ok (.iload_n 2, 1) := by decide +kernel
theorem dL_access_3 : decode cL_access 3 = .ok (.invokevirtual 15, 3) := by decide +kernel
theorem dL_access_6 : decode cL_access 6 = .ok (.goto 9, 3) := by decide +kernel
theorem dL_access_9 : decode cL_access 9 = .ok (.astore_n 3, 1) := by decide +kernel
theorem dL_access_10 : decode cL_access 10 = .ok (.iconst 1, 1) := by decide +kernel
theorem dL_access_11 : decode cL_access 11 = .ok (.ireturn, 1) := by decide +kernel
theorem dL_access_12 : decode cL_access 12 = .ok (.astore_n 3, 1) := by decide +kernel
theorem dL_access_13 : decode cL_access 13 = .ok (.iconst 2, 1) := by decide +kernel
theorem dL_access_14 : decode cL_access 14 = .ok (.ireturn, 1) := by decide +kernel
theorem dL_access_15 : decode cL_access 15 = .ok (.iconst 0, 1) := by decide +kernel
theorem dL_access_16 : decode cL_access 16 = .ok (.ireturn, 1) := by decide +kernel
set_option maxRecDepth 20000 in
theorem ggL_trunk_X7_trunk : GoodIn wsL_trunk wsX7_trunk := goodIn_ca (goodIn_ca (goodIn_r _ [7, 8, 9, 10, 11, 12, 13, 14, 6, 15, 16, 17, 18, 19, 20, 21, 22, 23, 24, 25, 26, 27, 28, 29, 30, 31, 32, 33, 34, 35, 36, 37, 38, 39, 40, 41, 42, 43, 44, 45, 46, 47, 48, 49, 50] (by decide +kernel) (by decide +kernel)) (goodIn_sub (fun _ h => List.mem_cons_of_mem _ (List.mem_append_left _ (List.mem_append_right _ h))) (by decide +kernel))) (goodIn_sub (fun _ h => List.mem_cons_of_mem _ (List.mem_append_right _ h)) (by decide +kernel))
set_option maxRecDepth 20000 in
theorem gL_trunk_X7_trunk : GoodIn wsL_trunk (wsV RL 21 RX7 yX7_trunk wsX7_trunk) := goodIn_app (goodIn_of _ (by decide +kernel)) ggL_trunk_X7_trunk
theorem dL_trunk_0 : decode cL_trunk 0 = .ok (.aload_n 0, 1) := by decide +kernel
theorem dL_trunk_1 : decode cL_trunk 1 = .ok (.iload_n 1, 1) := by decide +kernel
theorem dL_trunk_2 : decode cL_trunk 2 = .ok (.iload_n 2, 1) := by decide +kernel
theorem dL_trunk_3 : decode cL_trunk 3 = .ok (.iload_n 3, 1) := by decide +kernel
theorem dL_trunk_4 : decode cL_trunk 4 = .ok (.invokevirtual 21, 3) := by decide +kernel
theorem dL_trunk_7 : decode cL_trunk 7 = .ok (.goto 11, 3) := by decide +kernel
theorem dL_trunk_10 : decode cL_trunk 10 = .ok (.astore 4, 2) := by decide +kernel
theorem dL_trunk_12 : decode cL_trunk 12 = .ok (.iconst 1, 1) := by decide +kernel
theorem dL_trunk_13 : decode cL_trunk 13 = .ok (.ireturn, 1) := by decide +kernel
theorem dL_trunk_14 : decode cL_trunk 14 = .ok (.astore 4, 2) := by decide +kernel
theorem dL_trunk_16 : decode cL_trunk 16 = .ok (.iconst 2, 1) := by decide +kernel
theorem dL_trunk_17 : decode cL_trunk 17 = .ok (.ireturn, 1) := by decide +kernel
theorem dL_trunk_18 : decode cL_trunk 18 = .ok (.iconst 0, 1) := by decide +kernel
theorem dL_trunk_19 : decode cL_trunk 19 = .ok (.ireturn, 1) := by decide +kernel
set_option maxRecDepth 20000 in
theorem ggL_fault_X7_fault : GoodIn wsL_fault wsX7_fault := goodIn_ca (goodIn_ca (goodIn_r _ [7, 8, 9, 10, 11, 12, 13, 14, 6, 15, 16, 17, 18, 19, 20, 21, 22, 23, 24, 25, 26, 27, 28, 29, 30, 31, 32, 33, 34, 35, 36, 37, 38, 39] (by decide +kernel) (by decide +kernel)) (goodIn_sub (fun _ h => List.mem_cons_of_mem _ (List.mem_append_left _ (List.mem_append_right _ h))) (by decide +kernel))) (goodIn_sub (fun _ h => List.mem_cons_of_mem _ (List.mem_append_right _ h)) (by decide +kernel))
set_option maxRecDepth 20000 in
theorem gL_fault_X7_fault : GoodIn wsL_fault (wsV RL 25 RX7 yX7_fault wsX7_fault) := goodIn_app (goodIn_of _ (by decide +kernel)) ggL_fault_X7_fault
theorem dL_fault_0 : decode cL_fault 0 = .ok (.aload_n 3, 1) := by decide +kernel
theorem dL_fault_1 : decode cL_fault 1 = .ok (.iconst 0, 1) := by decide +kernel
theorem dL_fault_2 : decode cL_fault 2 = .ok (.aload_n 0, 1) := by decide +kernel
theorem dL_fault_3 : decode cL_fault 3 = .ok (.iload_n 1, 1) := by decide +kernel
theorem dL_fault_4 : decode cL_fault 4 = .ok (.iload_n 2, 1) := by decide +kernel
theorem dL_fault_5 : decode cL_fault 5 = .ok (.invokevirtual 25, 3) := by decide +kernel
theorem dL_fault_8 : decode cL_fault 8 = .ok (.ifCond .eq 7, 3) := by decide +kernel
theorem dL_fault_11 : decode cL_fault 11 = .ok (.lconst 1, 1) := by decide +kernel
theorem dL_fault_12 : decode cL_fault 12 = .ok (.goto 4, 3) := by decide +kernel
theorem dL_fault_15 : decode cL_fault 15 = .ok (.lconst 0, 1) := by decide +kernel
theorem dL_fault_16 : decode cL_fault 16 = .ok (.lastore, 1) := by decide +kernel
theorem dL_fault_17 : decode cL_fault 17 = .ok (.goto 11, 3) := by decide +kernel
theorem dL_fault_20 : decode cL_fault 20 = .ok (.astore 4, 2) := by decide +kernel
theorem dL_fault_22 : decode cL_fault 22 = .ok (.iconst 1, 1) := by decide +kernel
theorem dL_fault_23 : decode cL_fault 23 = .ok (.ireturn, 1) := by decide +kernel
theorem dL_fault_24 : decode cL_fault 24 = .ok (.astore 4, 2) := by decide +kernel
theorem dL_fault_26 : decode cL_fault 26 = .ok (.iconst 2, 1) := by decide +kernel
theorem dL_fault_27 : decode cL_fault 27 = .ok (.ireturn, 1) := by decide +kernel
theorem dL_fault_28 : decode cL_fault 28 = .ok (.iconst 0, 1) := by decide +kernel
theorem dL_fault_29 : decode cL_fault 29 = .ok (.ireturn, 1) := by decide +kernel
set_option maxRecDepth 20000 in
theorem ggL_add_X7_add : GoodIn wsL_add wsX7_add := goodIn_ca (goodIn_ca (goodIn_ca (goodIn_r _ [8, 9, 10, 11, 12, 13, 14, 15, 16, 17, 7, 18, 19, 20, 21, 22, 23, 24, 25, 26, 27, 28, 29, 30, 31, 32, 33, 34, 35, 36, 37, 38, 39, 40, 41, 42, 43, 44, 45, 46, 47, 48, 49, 50, 51, 52, 53, 54, 55, 56, 57, 58, 59, 60, 61, 62] (by decide +kernel) (by decide +kernel)) (goodIn_sub (fun _ h => List.mem_cons_of_mem _ (List.mem_append_left _ (List.mem_append_left _ (List.mem_append_right _ h)))) (by decide +kernel))) (goodIn_sub (fun _ h => List.mem_cons_of_mem _ (List.mem_append_left _ (List.mem_append_right _ h))) (by decide +kernel))) (goodIn_sub (fun _ h => List.mem_cons_of_mem _ (List.mem_append_right _ h)) (by decide +kernel))
set_option maxRecDepth 20000 in
theorem gL_add_X7_add : GoodIn wsL_add (wsV RL 29 RX7 yX7_add wsX7_add) := goodIn_app (goodIn_of _ (by decide +kernel)) ggL_add_X7_add
theorem dL_add_0 : decode cL_add 0 = .ok (.aload 5, 2) := by decide +kernel
theorem dL_add_2 : decode cL_add 2 = .ok (.iconst 0, 1) := by decide +kernel
theorem dL_add_3 : decode cL_add 3 = .ok (.aload_n 0, 1) := by decide +kernel
theorem dL_add_4 : decode cL_add 4 = .ok (.iload_n 1, 1) := by decide +kernel
theorem dL_add_5 : decode cL_add 5 = .ok (.iload_n 2, 1) := by decide +kernel
theorem dL_add_6 : decode cL_add 6 = .ok (.iload_n 3, 1) := by decide +kernel
theorem dL_add_7 : decode cL_add 7 = .ok (.iload 4, 2) := by decide +kernel
theorem dL_add_9 : decode cL_add 9 = .ok (.invokevirtual 29, 3) := by decide +kernel
theorem dL_add_12 : decode cL_add 12 = .ok (.i2l, 1) := by decide +kernel
theorem dL_add_13 : decode cL_add 13 = .ok (.lastore, 1) := by decide +kernel
theorem dL_add_14 : decode cL_add 14 = .ok (.goto 15, 3) := by decide +kernel
theorem dL_add_17 : decode cL_add 17 = .ok (.astore 6, 2) := by decide +kernel
theorem dL_add_19 : decode cL_add 19 = .ok (.iconst 1, 1) := by decide +kernel
theorem dL_add_20 : decode cL_add 20 = .ok (.ireturn, 1) := by decide +kernel
theorem dL_add_21 : decode cL_add 21 = .ok (.astore 6, 2) := by decide +kernel
theorem dL_add_23 : decode cL_add 23 = .ok (.iconst 2, 1) := by decide +kernel
theorem dL_add_24 : decode cL_add 24 = .ok (.ireturn, 1) := by decide +kernel
theorem dL_add_25 : decode cL_add 25 = .ok (.astore 6, 2) := by decide +kernel
theorem dL_add_27 : decode cL_add 27 = .ok (.iconst 3, 1) := by decide +kernel
theorem dL_add_28 : decode cL_add 28 = .ok (.ireturn, 1) := by decide +kernel
theorem dL_add_29 : decode cL_add 29 = .ok (.iconst 0, 1) := by decide +kernel
theorem dL_add_30 : decode cL_add 30 = .ok (.ireturn, 1) := by decide +kernel
set_option maxRecDepth 20000 in
theorem ggL_cover_X7_cover : GoodIn wsL_cover wsX7_cover := goodIn_ca (goodIn_r _ [6, 7, 8, 9, 10, 11, 12, 13, 14, 15, 16, 17, 18, 19, 20, 21, 22, 23, 24, 25, 26, 27, 28, 29, 30, 31, 32, 33, 34, 35, 36, 37, 38, 39, 40, 41, 42, 43, 44, 45, 46, 47, 48, 49, 50, 51, 52, 5, 53, 54, 55, 56, 57, 58, 59, 60, 61, 62, 63, 64, 65, 66, 67, 68, 69, 70, 71, 72, 73, 74, 75, 76, 77, 78, 79, 80, 81, 82, 83, 84, 85, 86, 87, 88, 89, 90, 91, 92, 93, 94, 95, 96, 97, 98, 99, 100, 101, 102, 103, 104, 105, 106, 107, 108, 109, 110, 111, 112, 113, 114, 115, 116, 117, 118, 119, 120, 121, 122, 123, 124, 125, 126, 127, 128] (by decide +kernel) (by decide +kernel)) (goodIn_sub (fun _ h => List.mem_cons_of_mem _ (List.mem_append_right _ h)) (by decide +kernel))
set_option maxRecDepth 20000 in
theorem gL_cover_X7_cover : GoodIn wsL_cover (wsV RL 35 RX7 yX7_cover wsX7_cover) := goodIn_app (goodIn_of _ (by decide +kernel)) ggL_cover_X7_cover
theorem dL_cover_0 : decode cL_cover 0 = .ok (.aload_n 1, 1) := by decide +kernel
theorem dL_cover_1 : decode cL_cover 1 = .ok (.iconst 0, 1) := by decide +kernel
theorem dL_cover_2 : decode cL_cover 2 = .ok (.aload_n 0, 1) := by decide +kernel
theorem dL_cover_3 : decode cL_cover 3 = .ok (.invokevirtual 35, 3) := by decide +kernel
theorem dL_cover_6 : decode cL_cover 6 = .ok (.i2l, 1) := by decide +kernel
theorem dL_cover_7 : decode cL_cover 7 = .ok (.lastore, 1) := by decide +kernel
theorem dL_cover_8 : decode cL_cover 8 = .ok (.goto 6, 3) := by decide +kernel
theorem dL_cover_11 : decode cL_cover 11 = .ok (.astore_n 2, 1) := by decide +kernel
theorem dL_cover_12 : decode cL_cover 12 = .ok (.iconst 1, 1) := by decide +kernel
theorem dL_cover_13 : decode cL_cover 13 = .ok (.ireturn, 1) := by decide +kernel
theorem dL_cover_14 : decode cL_cover 14 = .ok (.iconst 0, 1) := by decide +kernel
theorem dL_cover_15 : decode cL_cover 15 = .ok (.ireturn, 1) := by decide +kernel
set_option maxRecDepth 20000 in
theorem ggL_frameAt_X7_frameAt : GoodIn wsL_frameAt wsX7_frameAt := goodIn_ca (goodIn_r _ [6, 7, 8, 9, 10, 5, 11, 12, 13, 14, 15, 16, 17, 18, 19, 20, 21, 22, 23, 24, 25, 26, 27, 28, 29, 30, 31, 32, 33, 34, 35, 36, 37, 38, 39, 40, 41] (by decide +kernel) (by decide +kernel)) (goodIn_sub (fun _ h => List.mem_cons_of_mem _ (List.mem_append_right _ h)) (by decide +kernel))
set_option maxRecDepth 20000 in
theorem gL_frameAt_X7_frameAt : GoodIn wsL_frameAt (wsV RL 39 RX7 yX7_frameAt wsX7_frameAt) := goodIn_app (goodIn_of _ (by decide +kernel)) ggL_frameAt_X7_frameAt
theorem dL_frameAt_0 : decode cL_frameAt 0 = .ok (.aload_n 2, 1) := by decide +kernel
theorem dL_frameAt_1 : decode cL_frameAt 1 = .ok (.iconst 0, 1) := by decide +kernel
theorem dL_frameAt_2 : decode cL_frameAt 2 = .ok (.aload_n 0, 1) := by decide +kernel
theorem dL_frameAt_3 : decode cL_frameAt 3 = .ok (.iload_n 1, 1) := by decide +kernel
theorem dL_frameAt_4 : decode cL_frameAt 4 = .ok (.invokevirtual 39, 3) := by decide +kernel
theorem dL_frameAt_7 : decode cL_frameAt 7 = .ok (.i2l, 1) := by decide +kernel
theorem dL_frameAt_8 : decode cL_frameAt 8 = .ok (.lastore, 1) := by decide +kernel
theorem dL_frameAt_9 : decode cL_frameAt 9 = .ok (.goto 6, 3) := by decide +kernel
theorem dL_frameAt_12 : decode cL_frameAt 12 = .ok (.astore_n 3, 1) := by decide +kernel
theorem dL_frameAt_13 : decode cL_frameAt 13 = .ok (.iconst 1, 1) := by decide +kernel
theorem dL_frameAt_14 : decode cL_frameAt 14 = .ok (.ireturn, 1) := by decide +kernel
theorem dL_frameAt_15 : decode cL_frameAt 15 = .ok (.iconst 0, 1) := by decide +kernel
theorem dL_frameAt_16 : decode cL_frameAt 16 = .ok (.ireturn, 1) := by decide +kernel
set_option maxRecDepth 20000 in
theorem ggL_expected_X7_expected : GoodIn wsL_expected wsX7_expected := goodIn_ca (goodIn_r _ [6, 7, 8, 9, 10, 5, 11, 12, 13, 14, 15, 16, 17, 18, 19, 20, 21, 22, 23, 24, 25, 26, 27, 28, 29, 30, 31, 32, 33, 34, 35, 36, 37, 38, 39, 40, 41, 42, 43, 44, 45, 46, 47, 48, 49, 50, 51, 52, 53, 54, 55, 56, 57, 58, 59, 60, 61, 62, 63, 64, 65, 66, 67, 68, 69, 70, 71, 72, 73, 74, 75, 76, 77, 78, 79, 80, 81, 82, 83, 84, 85, 86, 87, 88, 89, 90, 91, 92, 93, 94, 95, 96, 97, 98, 99, 100, 101, 102, 103, 104, 105, 106, 107, 108, 109, 110, 111, 112, 113, 114, 115, 116, 117, 118, 119, 120, 121, 122, 123, 124, 125, 126, 127, 128, 129, 130, 131, 132, 133, 134, 135, 136, 137, 138, 139, 140, 141, 142, 143, 144, 145, 146, 147, 148, 149, 150, 151, 152, 153, 154, 155, 156, 157, 158, 159, 160, 161, 162, 163, 164, 165, 166, 167, 168, 169, 170, 171, 172, 173, 174, 175, 176, 177, 178, 179, 180, 181, 182] (by decide +kernel) (by decide +kernel)) (goodIn_sub (fun _ h => List.mem_cons_of_mem _ (List.mem_append_right _ h)) (by decide +kernel))
set_option maxRecDepth 20000 in
theorem gL_expected_X7_expected : GoodIn wsL_expected (wsV RL 43 RX7 yX7_expected wsX7_expected) := goodIn_app (goodIn_of _ (by decide +kernel)) ggL_expected_X7_expected
theorem dL_expected_0 : decode cL_expected 0 = .ok (.aload_n 2, 1) := by decide +kernel
theorem dL_expected_1 : decode cL_expected 1 = .ok (.iconst 0, 1) := by decide +kernel
theorem dL_expected_2 : decode cL_expected 2 = .ok (.aload_n 0, 1) := by decide +kernel
theorem dL_expected_3 : decode cL_expected 3 = .ok (.iload_n 1, 1) := by decide +kernel
theorem dL_expected_4 : decode cL_expected 4 = .ok (.invokevirtual 43, 3) := by decide +kernel
theorem dL_expected_7 : decode cL_expected 7 = .ok (.i2l, 1) := by decide +kernel
theorem dL_expected_8 : decode cL_expected 8 = .ok (.lastore, 1) := by decide +kernel
theorem dL_expected_9 : decode cL_expected 9 = .ok (.goto 6, 3) := by decide +kernel
theorem dL_expected_12 : decode cL_expected 12 = .ok (.astore_n 3, 1) := by decide +kernel
theorem dL_expected_13 : decode cL_expected 13 = .ok (.iconst 1, 1) := by decide +kernel
theorem dL_expected_14 : decode cL_expected 14 = .ok (.ireturn, 1) := by decide +kernel
theorem dL_expected_15 : decode cL_expected 15 = .ok (.iconst 0, 1) := by decide +kernel
theorem dL_expected_16 : decode cL_expected 16 = .ok (.ireturn, 1) := by decide +kernel
set_option maxRecDepth 20000 in
theorem ggL_expectedTagged_X7_expectedTagged : GoodIn wsL_expectedTagged wsX7_expectedTagged := goodIn_ca (goodIn_r _ [6, 7, 8, 9, 10, 5, 11, 12, 13, 14, 15, 16, 17, 18, 19, 20, 21, 22, 23, 24, 25, 26, 27, 28, 29, 30, 31, 32, 33, 34, 35, 36, 37, 38, 39, 40, 41, 42, 43, 44, 45, 46, 47, 48, 49, 50, 51, 52, 53, 54, 55, 56, 57, 58, 59, 60, 61, 62, 63, 64, 65, 66, 67, 68, 69, 70, 71, 72, 73, 74, 75, 76, 77, 78, 79, 80, 81, 82, 83, 84, 85, 86, 87, 88, 89, 90, 91, 92, 93, 94, 95, 96, 97, 98, 99, 100, 101, 102, 103, 104, 105, 106, 107, 108, 109, 110, 111, 112, 113, 114, 115, 116, 117, 118, 119, 120, 121, 122, 123, 124, 125, 126, 127, 128, 129, 130, 131, 132, 133, 134, 135, 136, 137, 138, 139, 140, 141, 142, 143, 144, 145, 146, 147, 148, 149, 150, 151, 152, 153, 154, 155, 156, 157, 158, 159, 160, 161, 162, 163, 164, 165, 166, 167, 168, 169, 170, 171, 172, 173, 174, 175, 176, 177, 178, 179, 180, 181, 182] (by decide +kernel) (by decide +kernel)) (goodIn_sub (fun _ h => List.mem_cons_of_mem _ (List.mem_append_right _ h)) (by decide +kernel))
set_option maxRecDepth 20000 in
theorem gL_expectedTagged_X7_expectedTagged : GoodIn wsL_expectedTagged (wsV RL 46 RX7 yX7_expectedTagged wsX7_expectedTagged) := goodIn_app (goodIn_of _ (by decide +kernel)) ggL_expectedTagged_X7_expectedTagged
theorem dL_expectedTagged_0 : decode cL_expectedTagged 0 = .ok (.aload_n 2, 1) := by decide +kernel
theorem dL_expectedTagged_1 : decode cL_expectedTagged 1 = .ok (.iconst 0, 1) := by decide +kernel
theorem dL_expectedTagged_2 : decode cL_expectedTagged 2 = .ok (.aload_n 0, 1) := by decide +kernel
theorem dL_expectedTagged_3 : decode cL_expectedTagged 3 = .ok (.iload_n 1, 1) := by decide +kernel
theorem dL_expectedTagged_4 : decode cL_expectedTagged 4 = .ok (.invokevirtual 46, 3) := by decide +kernel
theorem dL_expectedTagged_7 : decode cL_expectedTagged 7 = .ok (.i2l, 1) := by decide +kernel
theorem dL_expectedTagged_8 : decode cL_expectedTagged 8 = .ok (.lastore, 1) := by decide +kernel
theorem dL_expectedTagged_9 : decode cL_expectedTagged 9 = .ok (.goto 6, 3) := by decide +kernel
theorem dL_expectedTagged_12 : decode cL_expectedTagged 12 = .ok (.astore_n 3, 1) := by decide +kernel
theorem dL_expectedTagged_13 : decode cL_expectedTagged 13 = .ok (.iconst 1, 1) := by decide +kernel
theorem dL_expectedTagged_14 : decode cL_expectedTagged 14 = .ok (.ireturn, 1) := by decide +kernel
theorem dL_expectedTagged_15 : decode cL_expectedTagged 15 = .ok (.iconst 0, 1) := by decide +kernel
theorem dL_expectedTagged_16 : decode cL_expectedTagged 16 = .ok (.ireturn, 1) := by decide +kernel
set_option maxRecDepth 20000 in
theorem ggL_reason_X7_reason : GoodIn wsL_reason wsX7_reason := goodIn_ca (goodIn_r _ [6, 7, 8, 9, 10, 5, 11, 12, 13, 14, 15, 16, 17, 18, 19, 20, 21, 22, 23, 24, 25, 26, 27, 28, 29, 30, 31, 32, 33, 34, 35, 36, 37, 38, 39, 40, 41, 42, 43, 44, 45, 46, 47, 48, 49, 50, 51, 52, 53, 54, 55, 56, 57, 58, 59, 60, 61, 62, 63, 64, 65, 66, 67, 68, 69, 70, 71, 72, 73, 74, 75, 76, 77, 78, 79, 80, 81, 82, 83, 84, 85, 86, 87, 88, 89, 90, 91, 92, 93, 94, 95, 96, 97, 98, 99, 100, 101, 102, 103, 104, 105, 106, 107, 108, 109, 110, 111, 112, 113, 114, 115, 116, 117, 118, 119, 120, 121, 122, 123, 124, 125, 126, 127, 128, 129, 130, 131, 132, 133, 134, 135, 136, 137, 138, 139, 140, 141, 142, 143, 144, 145, 146, 147, 148, 149, 150, 151, 152, 153, 154, 155, 156, 157, 158, 159, 160, 161, 162, 163, 164, 165, 166, 167, 168, 169, 170, 171, 172, 173, 174, 175, 176, 177, 178, 179, 180, 181, 182] (by decide +kernel) (by decide +kernel)) (goodIn_sub (fun _ h => List.mem_cons_of_mem _ (List.mem_append_right _ h)) (by decide +kernel))
set_option maxRecDepth 20000 in
theorem gL_reason_X7_reason : GoodIn wsL_reason (wsV RL 49 RX7 yX7_reason wsX7_reason) := goodIn_app (goodIn_of _ (by decide +kernel)) ggL_reason_X7_reason
theorem dL_reason_0 : decode cL_reason 0 = .ok (.aload_n 2, 1) := by decide +kernel
theorem dL_reason_1 : decode cL_reason 1 = .ok (.iconst 0, 1) := by decide +kernel
theorem dL_reason_2 : decode cL_reason 2 = .ok (.aload_n 0, 1) := by decide +kernel
theorem dL_reason_3 : decode cL_reason 3 = .ok (.iload_n 1, 1) := by decide +kernel
theorem dL_reason_4 : decode cL_reason 4 = .ok (.invokevirtual 49, 3) := by decide +kernel
theorem dL_reason_7 : decode cL_reason 7 = .ok (.i2l, 1) := by decide +kernel
theorem dL_reason_8 : decode cL_reason 8 = .ok (.lastore, 1) := by decide +kernel
theorem dL_reason_9 : decode cL_reason 9 = .ok (.goto 6, 3) := by decide +kernel
theorem dL_reason_12 : decode cL_reason 12 = .ok (.astore_n 3, 1) := by decide +kernel
theorem dL_reason_13 : decode cL_reason 13 = .ok (.iconst 1, 1) := by decide +kernel
theorem dL_reason_14 : decode cL_reason 14 = .ok (.ireturn, 1) := by decide +kernel
theorem dL_reason_15 : decode cL_reason 15 = .ok (.iconst 0, 1) := by decide +kernel
theorem dL_reason_16 : decode cL_reason 16 = .ok (.ireturn, 1) := by decide +kernel
set_option maxRecDepth 20000 in
theorem ggL_learned_X7_learned : GoodIn wsL_learned wsX7_learned := goodIn_ca (goodIn_r _ [6, 7, 8, 9, 10, 11, 5, 12, 13, 14, 15, 16, 17, 18, 19, 20, 21, 22, 23, 24, 25, 26, 27, 28, 29, 30, 31, 32, 33, 34, 35, 36, 37, 38, 39, 40, 41, 42, 43, 44, 45, 46, 47, 48, 49, 50, 51, 52, 53, 54, 55, 56, 57, 58, 59, 60, 61, 62, 63, 64, 65, 66, 67, 68, 69, 70, 71, 72, 73, 74, 75, 76, 77, 78, 79, 80, 81, 82, 83, 84, 85, 86, 87, 88, 89, 90, 91, 92, 93, 94, 95, 96, 97, 98, 99, 100, 101, 102, 103, 104, 105, 106, 107, 108, 109, 110, 111, 112, 113, 114, 115, 116, 117, 118, 119, 120, 121, 122, 123, 124, 125, 126, 127, 128, 129, 130, 131, 132, 133, 134, 135, 136, 137, 138, 139, 140, 141, 142, 143, 144, 145, 146, 147, 148, 149, 150, 151, 152, 153, 154, 155, 156, 157, 158, 159, 160, 161, 162, 163, 164, 165, 166, 167, 168, 169, 170, 171, 172, 173, 174, 175, 176, 177, 178, 179, 180, 181, 182, 183] (by decide +kernel) (by decide +kernel)) (goodIn_sub (fun _ h => List.mem_cons_of_mem _ (List.mem_append_right _ h)) (by decide +kernel))
set_option maxRecDepth 20000 in
theorem gL_learned_X7_learned : GoodIn wsL_learned (wsV RL 52 RX7 yX7_learned wsX7_learned) := goodIn_app (goodIn_of _ (by decide +kernel)) ggL_learned_X7_learned
theorem dL_learned_0 : decode cL_learned 0 = .ok (.aload_n 3, 1) := by decide +kernel
theorem dL_learned_1 : decode cL_learned 1 = .ok (.iconst 0, 1) := by decide +kernel
theorem dL_learned_2 : decode cL_learned 2 = .ok (.aload_n 0, 1) := by decide +kernel
theorem dL_learned_3 : decode cL_learned 3 = .ok (.iload_n 1, 1) := by decide +kernel
theorem dL_learned_4 : decode cL_learned 4 = .ok (.iload_n 2, 1) := by decide +kernel
theorem dL_learned_5 : decode cL_learned 5 = .ok (.invokevirtual 52, 3) := by decide +kernel
theorem dL_learned_8 : decode cL_learned 8 = .ok (.i2l, 1) := by decide +kernel
theorem dL_learned_9 : decode cL_learned 9 = .ok (.lastore, 1) := by decide +kernel
theorem dL_learned_10 : decode cL_learned 10 = .ok (.goto 7, 3) := by decide +kernel
theorem dL_learned_13 : decode cL_learned 13 = .ok (.astore 4, 2) := by decide +kernel
theorem dL_learned_15 : decode cL_learned 15 = .ok (.iconst 1, 1) := by decide +kernel
theorem dL_learned_16 : decode cL_learned 16 = .ok (.ireturn, 1) := by decide +kernel
theorem dL_learned_17 : decode cL_learned 17 = .ok (.iconst 0, 1) := by decide +kernel
theorem dL_learned_18 : decode cL_learned 18 = .ok (.ireturn, 1) := by decide +kernel
set_option maxRecDepth 20000 in
theorem ggL_seen_X7_seen : GoodIn wsL_seen wsX7_seen := goodIn_ca (goodIn_r _ [6, 7, 8, 9, 10, 5, 11, 12, 13, 14, 15, 16, 17, 18, 19, 20, 21, 22, 23, 24, 25, 26, 27, 28, 29, 30, 31, 32, 33, 34, 35, 36, 37, 38, 39, 40, 41, 42, 43, 44, 45, 46, 47, 48, 49, 50, 51, 52, 53, 54, 55, 56, 57, 58, 59, 60, 61, 62, 63, 64, 65, 66, 67, 68, 69, 70, 71, 72, 73, 74, 75, 76, 77, 78, 79, 80, 81, 82, 83, 84, 85, 86, 87, 88, 89, 90, 91, 92, 93, 94, 95, 96, 97, 98, 99, 100, 101, 102, 103, 104, 105, 106, 107, 108, 109, 110, 111, 112, 113, 114, 115, 116, 117, 118, 119, 120, 121, 122, 123, 124, 125, 126, 127, 128, 129, 130, 131, 132, 133, 134, 135, 136, 137, 138, 139, 140, 141, 142, 143, 144, 145, 146, 147, 148, 149, 150, 151, 152, 153, 154, 155, 156, 157, 158, 159, 160, 161, 162, 163, 164, 165, 166, 167, 168, 169, 170, 171, 172, 173, 174, 175, 176, 177, 178, 179, 180, 181, 182] (by decide +kernel) (by decide +kernel)) (goodIn_sub (fun _ h => List.mem_cons_of_mem _ (List.mem_append_right _ h)) (by decide +kernel))
set_option maxRecDepth 20000 in
theorem gL_seen_X7_seen : GoodIn wsL_seen (wsV RL 56 RX7 yX7_seen wsX7_seen) := goodIn_app (goodIn_of _ (by decide +kernel)) ggL_seen_X7_seen
theorem dL_seen_0 : decode cL_seen 0 = .ok (.aload_n 2, 1) := by decide +kernel
theorem dL_seen_1 : decode cL_seen 1 = .ok (.iconst 0, 1) := by decide +kernel
theorem dL_seen_2 : decode cL_seen 2 = .ok (.aload_n 0, 1) := by decide +kernel
theorem dL_seen_3 : decode cL_seen 3 = .ok (.iload_n 1, 1) := by decide +kernel
theorem dL_seen_4 : decode cL_seen 4 = .ok (.invokevirtual 56, 3) := by decide +kernel
theorem dL_seen_7 : decode cL_seen 7 = .ok (.i2l, 1) := by decide +kernel
theorem dL_seen_8 : decode cL_seen 8 = .ok (.lastore, 1) := by decide +kernel
theorem dL_seen_9 : decode cL_seen 9 = .ok (.goto 6, 3) := by decide +kernel
theorem dL_seen_12 : decode cL_seen 12 = .ok (.astore_n 3, 1) := by decide +kernel
theorem dL_seen_13 : decode cL_seen 13 = .ok (.iconst 1, 1) := by decide +kernel
theorem dL_seen_14 : decode cL_seen 14 = .ok (.ireturn, 1) := by decide +kernel
theorem dL_seen_15 : decode cL_seen 15 = .ok (.iconst 0, 1) := by decide +kernel
theorem dL_seen_16 : decode cL_seen 16 = .ok (.ireturn, 1) := by decide +kernel
set_option maxRecDepth 20000 in
theorem ggL_seenTagged_X7_seenTagged : GoodIn wsL_seenTagged wsX7_seenTagged := goodIn_ca (goodIn_r _ [6, 7, 8, 9, 10, 5, 11, 12, 13, 14, 15, 16, 17, 18, 19, 20, 21, 22, 23, 24, 25, 26, 27, 28, 29, 30, 31, 32, 33, 34, 35, 36, 37, 38, 39, 40, 41, 42, 43, 44, 45, 46, 47, 48, 49, 50, 51, 52, 53, 54, 55, 56, 57, 58, 59, 60, 61, 62, 63, 64, 65, 66, 67, 68, 69, 70, 71, 72, 73, 74, 75, 76, 77, 78, 79, 80, 81, 82, 83, 84, 85, 86, 87, 88, 89, 90, 91, 92, 93, 94, 95, 96, 97, 98, 99, 100, 101, 102, 103, 104, 105, 106, 107, 108, 109, 110, 111, 112, 113, 114, 115, 116, 117, 118, 119, 120, 121, 122, 123, 124, 125, 126, 127, 128, 129, 130, 131, 132, 133, 134, 135, 136, 137, 138, 139, 140, 141, 142, 143, 144, 145, 146, 147, 148, 149, 150, 151, 152, 153, 154, 155, 156, 157, 158, 159, 160, 161, 162, 163, 164, 165, 166, 167, 168, 169, 170, 171, 172, 173, 174, 175, 176, 177, 178, 179, 180, 181, 182] (by decide +kernel) (by decide +kernel)) (goodIn_sub (fun _ h => List.mem_cons_of_mem _ (List.mem_append_right _ h)) (by decide +kernel))
set_option maxRecDepth 20000 in
theorem gL_seenTagged_X7_seenTagged : GoodIn wsL_seenTagged (wsV RL 59 RX7 yX7_seenTagged wsX7_seenTagged) := goodIn_app (goodIn_of _ (by decide +kernel)) ggL_seenTagged_X7_seenTagged
theorem dL_seenTagged_0 : decode cL_seenTagged 0 = .ok (.aload_n 2, 1) := by decide +kernel
theorem dL_seenTagged_1 : decode cL_seenTagged 1 = .ok (.iconst 0, 1) := by decide +kernel
theorem dL_seenTagged_2 : decode cL_seenTagged 2 = .ok (.aload_n 0, 1) := by decide +kernel
theorem dL_seenTagged_3 : decode cL_seenTagged 3 = .ok (.iload_n 1, 1) := by decide +kernel
theorem dL_seenTagged_4 : decode cL_seenTagged 4 = .ok (.invokevirtual 59, 3) := by decide +kernel
theorem dL_seenTagged_7 : decode cL_seenTagged 7 = .ok (.i2l, 1) := by decide +kernel
theorem dL_seenTagged_8 : decode cL_seenTagged 8 = .ok (.lastore, 1) := by decide +kernel
theorem dL_seenTagged_9 : decode cL_seenTagged 9 = .ok (.goto 6, 3) := by decide +kernel
theorem dL_seenTagged_12 : decode cL_seenTagged 12 = .ok (.astore_n 3, 1) := by decide +kernel
theorem dL_seenTagged_13 : decode cL_seenTagged 13 = .ok (.iconst 1, 1) := by decide +kernel
theorem dL_seenTagged_14 : decode cL_seenTagged 14 = .ok (.ireturn, 1) := by decide +kernel
theorem dL_seenTagged_15 : decode cL_seenTagged 15 = .ok (.iconst 0, 1) := by decide +kernel
theorem dL_seenTagged_16 : decode cL_seenTagged 16 = .ok (.ireturn, 1) := by decide +kernel
set_option maxRecDepth 20000 in
theorem ggL_differencesAt_X7_differencesAt : GoodIn wsL_differencesAt wsX7_differencesAt := goodIn_ca (goodIn_r _ [6, 7, 8, 9, 10, 5, 11, 12, 13, 14, 15, 16, 17, 18, 19, 20, 21, 22, 23, 24, 25, 26, 27, 28, 29, 30, 31, 32, 33, 34, 35, 36, 37, 38, 39, 40, 41, 42, 43, 44, 45, 46, 47, 48, 49, 50, 51, 52, 53, 54, 55, 56, 57, 58, 59, 60, 61, 62, 63, 64, 65, 66, 67, 68, 69, 70, 71, 72, 73, 74, 75, 76, 77, 78, 79, 80, 81, 82, 83, 84, 85, 86, 87, 88, 89, 90, 91, 92, 93, 94, 95, 96, 97, 98, 99, 100, 101, 102, 103, 104, 105, 106, 107, 108, 109, 110, 111, 112, 113, 114, 115, 116, 117, 118, 119, 120, 121, 122, 123, 124, 125, 126, 127, 128, 129, 130, 131, 132, 133, 134, 135, 136, 137, 138, 139, 140, 141, 142, 143, 144, 145, 146, 147, 148, 149, 150, 151, 152, 153, 154, 155, 156, 157, 158, 159, 160, 161, 162, 163, 164, 165, 166, 167, 168, 169, 170, 171, 172, 173, 174, 175, 176, 177, 178, 179, 180, 181, 182, 183, 184, 185, 186, 187, 188, 189, 190, 191, 192, 193, 194, 195] (by decide +kernel) (by decide +kernel)) (goodIn_sub (fun _ h => List.mem_cons_of_mem _ (List.mem_append_right _ h)) (by decide +kernel))
set_option maxRecDepth 20000 in
theorem gL_differencesAt_X7_differencesAt : GoodIn wsL_differencesAt (wsV RL 62 RX7 yX7_differencesAt wsX7_differencesAt) := goodIn_app (goodIn_of _ (by decide +kernel)) ggL_differencesAt_X7_differencesAt
theorem dL_differencesAt_0 : decode cL_differencesAt 0 = .ok (.aload_n 2, 1) := by decide +kernel
theorem dL_differencesAt_1 : decode cL_differencesAt 1 = .ok (.iconst 0, 1) := by decide +kernel
theorem dL_differencesAt_2 : decode cL_differencesAt 2 = .ok (.aload_n 0, 1) := by decide +kernel
theorem dL_differencesAt_3 : decode cL_differencesAt 3 = .ok (.iload_n 1, 1) := by decide +kernel
theorem dL_differencesAt_4 : decode cL_differencesAt 4 = .ok (.invokevirtual 62, 3) := by decide +kernel
theorem dL_differencesAt_7 : decode cL_differencesAt 7 = .ok (.i2l, 1) := by decide +kernel
theorem dL_differencesAt_8 : decode cL_differencesAt 8 = .ok (.lastore, 1) := by decide +kernel
theorem dL_differencesAt_9 : decode cL_differencesAt 9 = .ok (.goto 6, 3) := by decide +kernel
theorem dL_differencesAt_12 : decode cL_differencesAt 12 = .ok (.astore_n 3, 1) := by decide +kernel
theorem dL_differencesAt_13 : decode cL_differencesAt 13 = .ok (.iconst 1, 1) := by decide +kernel
theorem dL_differencesAt_14 : decode cL_differencesAt 14 = .ok (.ireturn, 1) := by decide +kernel
theorem dL_differencesAt_15 : decode cL_differencesAt 15 = .ok (.iconst 0, 1) := by decide +kernel
theorem dL_differencesAt_16 : decode cL_differencesAt 16 = .ok (.ireturn, 1) := by decide +kernel
set_option maxRecDepth 20000 in
theorem ggL_blamed_X7_blamed : GoodIn wsL_blamed wsX7_blamed := goodIn_ca (goodIn_r _ [6, 7, 8, 9, 10, 11, 12, 13, 14, 15, 5, 16, 17, 18, 19, 20, 21, 22, 23, 24, 25, 26, 27, 28, 29, 30, 31, 32, 33, 34, 35, 36, 37, 38, 39, 40, 41, 42, 43, 44, 45, 46, 47, 48, 49, 50, 51, 52, 53, 54, 55, 56, 57, 58, 59, 60, 61, 62, 63, 64, 65, 66, 67, 68, 69, 70, 71, 72, 73, 74, 75, 76, 77, 78, 79, 80, 81, 82, 83, 84, 85, 86, 87, 88, 89, 90, 91, 92, 93, 94, 95, 96, 97, 98, 99, 100, 101, 102, 103, 104, 105, 106, 107, 108, 109, 110, 111, 112, 113, 114, 115, 116, 117, 118, 119, 120, 121, 122, 123, 124, 125, 126, 127, 128, 129, 130, 131, 132, 133, 134, 135, 136, 137, 138, 139, 140, 141, 142, 143, 144, 145, 146, 147, 148, 149, 150, 151, 152, 153, 154, 155, 156, 157, 158, 159, 160, 161, 162, 163, 164, 165, 166, 167, 168, 169, 170, 171, 172, 173, 174, 175, 176, 177, 178, 179, 180, 181, 182, 183, 184, 185, 186, 187, 188, 189, 190, 191, 192, 193, 194, 195, 196, 197, 198, 199, 200, 201, 202, 203, 204, 205, 206, 207, 208, 209, 210, 211, 212, 213, 214, 215, 216, 217, 218, 219, 220, 221, 222, 223, 224, 225, 226, 227, 228, 229, 230, 231, 232, 233, 234, 235] (by decide +kernel) (by decide +kernel)) (goodIn_sub (fun _ h => List.mem_cons_of_mem _ (List.mem_append_right _ h)) (by decide +kernel))
set_option maxRecDepth 20000 in
theorem gL_blamed_X7_blamed : GoodIn wsL_blamed (wsV RL 65 RX7 yX7_blamed wsX7_blamed) := goodIn_app (goodIn_of _ (by decide +kernel)) ggL_blamed_X7_blamed
theorem dL_blamed_0 : decode cL_blamed 0 = .ok (.aload_n 2, 1) := by decide +kernel
theorem dL_blamed_1 : decode cL_blamed 1 = .ok (.iconst 0, 1) := by decide +kernel
theorem dL_blamed_2 : decode cL_blamed 2 = .ok (.aload_n 0, 1) := by decide +kernel
theorem dL_blamed_3 : decode cL_blamed 3 = .ok (.iload_n 1, 1) := by decide +kernel
theorem dL_blamed_4 : decode cL_blamed 4 = .ok (.invokevirtual 65, 3) := by decide +kernel
theorem dL_blamed_7 : decode cL_blamed 7 = .ok (.i2l, 1) := by decide +kernel
theorem dL_blamed_8 : decode cL_blamed 8 = .ok (.lastore, 1) := by decide +kernel
theorem dL_blamed_9 : decode cL_blamed 9 = .ok (.goto 6, 3) := by decide +kernel
theorem dL_blamed_12 : decode cL_blamed 12 = .ok (.astore_n 3, 1) := by decide +kernel
theorem dL_blamed_13 : decode cL_blamed 13 = .ok (.iconst 1, 1) := by decide +kernel
theorem dL_blamed_14 : decode cL_blamed 14 = .ok (.ireturn, 1) := by decide +kernel
theorem dL_blamed_15 : decode cL_blamed 15 = .ok (.iconst 0, 1) := by decide +kernel
theorem dL_blamed_16 : decode cL_blamed 16 = .ok (.ireturn, 1) := by decide +kernel
