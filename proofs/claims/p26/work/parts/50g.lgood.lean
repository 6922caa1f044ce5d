set_option maxRecDepth 20000 in
theorem ggL_acts_L_some : GoodIn wsL_acts wsL_some := goodIn_r _ [4] (by decide +kernel) (by decide +kernel)
set_option maxRecDepth 20000 in
theorem gL_acts_L_some : GoodIn wsL_acts (va_wsS RL 76 yL_some wsL_some) := goodIn_app (goodIn_of _ (by decide +kernel)) ggL_acts_L_some
set_option maxRecDepth 20000 in
theorem ggL_acts_L_begun : GoodIn wsL_acts wsL_begun := goodIn_ca (goodIn_r _ [7, 8, 9, 10, 11, 12, 13, 14, 15, 16, 17, 18, 19, 20, 21, 22, 23, 24, 25, 26, 27, 28, 29, 30, 31, 32, 33, 34, 35, 36, 37, 38, 39, 40, 41, 42, 43, 44, 45, 46, 118, 119, 120, 121, 122, 123, 124, 125, 126, 127, 128, 129, 130, 131] (by decide +kernel) (by decide +kernel)) (goodIn_sub (fun _ h => List.mem_cons_of_mem _ (List.mem_append_left _ (List.mem_append_left _ (List.mem_append_right _ h)))) (by decide +kernel))
set_option maxRecDepth 20000 in
theorem gL_acts_L_begun : GoodIn wsL_acts (va_wsS RL 79 yL_begun wsL_begun) := goodIn_app (goodIn_of _ (by decide +kernel)) ggL_acts_L_begun
set_option maxRecDepth 20000 in
theorem ggL_acts_L_access : GoodIn wsL_acts wsL_access := goodIn_ca (goodIn_ca (goodIn_r _ [49, 50, 8, 51, 52, 53, 12, 54, 14, 15, 16, 19, 55, 56, 57, 58, 59, 60, 61, 62, 63, 23, 64, 25, 65, 66, 67, 68, 30, 31, 32, 26, 33, 34, 35, 36, 27, 28, 37, 38, 39, 40, 118, 119, 120, 121, 122, 123, 124, 125, 126, 127, 128, 129] (by decide +kernel) (by decide +kernel)) (goodIn_sub (fun _ h => List.mem_cons_of_mem _ (List.mem_append_left _ (List.mem_append_left _ (List.mem_append_right _ h)))) (by decide +kernel))) (goodIn_sub (fun _ h => List.mem_cons_of_mem _ (List.mem_append_left _ (List.mem_append_right _ h))) (by decide +kernel))
set_option maxRecDepth 20000 in
theorem gL_acts_L_access : GoodIn wsL_acts (va_wsS RL 83 yL_access wsL_access) := goodIn_app (goodIn_of _ (by decide +kernel)) ggL_acts_L_access
set_option maxRecDepth 20000 in
theorem ggL_acts_L_trunk : GoodIn wsL_acts wsL_trunk := goodIn_ca (goodIn_ca (goodIn_r _ [71, 50, 8, 72, 73, 74, 12, 75, 14, 15, 16, 19, 55, 56, 57, 58, 59, 60, 61, 62, 63, 23, 64, 25, 65, 66, 67, 76, 39, 40, 77, 34, 35, 36, 26, 27, 28, 37, 38, 118, 119, 120, 121, 122, 123, 124, 125, 126, 127, 128, 129] (by decide +kernel) (by decide +kernel)) (goodIn_sub (fun _ h => List.mem_cons_of_mem _ (List.mem_append_left _ (List.mem_append_left _ (List.mem_append_right _ h)))) (by decide +kernel))) (goodIn_sub (fun _ h => List.mem_cons_of_mem _ (List.mem_append_left _ (List.mem_append_right _ h))) (by decide +kernel))
set_option maxRecDepth 20000 in
theorem gL_acts_L_trunk : GoodIn wsL_acts (va_wsS RL 86 yL_trunk wsL_trunk) := goodIn_app (goodIn_of _ (by decide +kernel)) ggL_acts_L_trunk
set_option maxRecDepth 20000 in
theorem ggL_acts_L_fault : GoodIn wsL_acts wsL_fault := goodIn_ca (goodIn_ca (goodIn_r _ [80, 50, 8, 81, 82, 83, 12, 84, 14, 15, 18, 19, 55, 56, 57, 58, 59, 60, 16, 61, 62, 63, 23, 64, 25, 85, 37, 38, 118, 119, 120, 121, 122, 123, 124, 125, 126, 127, 128, 129] (by decide +kernel) (by decide +kernel)) (goodIn_sub (fun _ h => List.mem_cons_of_mem _ (List.mem_append_left _ (List.mem_append_left _ (List.mem_append_right _ h)))) (by decide +kernel))) (goodIn_sub (fun _ h => List.mem_cons_of_mem _ (List.mem_append_left _ (List.mem_append_right _ h))) (by decide +kernel))
set_option maxRecDepth 20000 in
theorem gL_acts_L_fault : GoodIn wsL_acts (va_wsS RL 89 yL_fault wsL_fault) := goodIn_app (goodIn_of _ (by decide +kernel)) ggL_acts_L_fault
set_option maxRecDepth 20000 in
theorem ggL_acts_X7_clear : GoodIn wsL_acts wsX7_clear := goodIn_r _ [89, 17, 19, 41, 42, 43, 44, 45, 46, 118, 119, 120, 121, 122, 123, 124, 125, 130, 131] (by decide +kernel) (by decide +kernel)
set_option maxRecDepth 20000 in
theorem gL_acts_X7_clear : GoodIn wsL_acts (wsV RL 91 RX7 yX7_clear wsX7_clear) := goodIn_app (goodIn_of _ (by decide +kernel)) ggL_acts_X7_clear
set_option maxRecDepth 20000 in
theorem ggL_acts_L_added : GoodIn wsL_acts wsL_added := goodIn_ca (goodIn_ca (goodIn_ca (goodIn_r _ [92, 50, 8, 93, 94, 95, 96, 12, 97, 14, 15, 98, 99, 17, 19, 55, 56, 57, 58, 59, 60, 16, 61, 62, 63, 23, 64, 25, 100, 101, 102, 44, 103, 46, 104, 105, 106, 107, 108, 109, 110, 111, 112, 113, 114, 115, 116, 117, 118, 119, 120, 121, 122, 123, 124, 125, 126, 127, 128, 129, 130, 131, 132] (by decide +kernel) (by decide +kernel)) (goodIn_sub (fun _ h => List.mem_cons_of_mem _ (List.mem_append_left _ (List.mem_append_left _ (List.mem_append_right _ h)))) (by decide +kernel))) (goodIn_sub (fun _ h => List.mem_cons_of_mem _ (List.mem_append_right _ h)) (by decide +kernel))) (goodIn_sub (fun _ h => List.mem_cons_of_mem _ (List.mem_append_left _ (List.mem_append_right _ h))) (by decide +kernel))
set_option maxRecDepth 20000 in
theorem gL_acts_L_added : GoodIn wsL_acts (va_wsS RL 94 yL_added wsL_added) := goodIn_app (goodIn_of _ (by decide +kernel)) ggL_acts_L_added
