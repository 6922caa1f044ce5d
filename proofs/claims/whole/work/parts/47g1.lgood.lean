set_option maxRecDepth 20000 in
theorem ggL_law_X8_ports : GoodIn wsL_law wsX8_ports := goodIn_r _ [172, 156, 125, 742, 743, 744, 745, 746, 747, 748, 749, 750, 751, 752, 753, 754, 755, 756, 757, 758, 759, 760, 761, 762, 763] (by decide +kernel) (by decide +kernel)
set_option maxRecDepth 20000 in
theorem gL_law_X8_ports : GoodIn wsL_law (wsV RL 84 RX8 yX8_ports wsX8_ports) := goodIn_app (goodIn_of _ (by decide +kernel)) ggL_law_X8_ports
set_option maxRecDepth 20000 in
theorem ggL_law_L_access : GoodIn wsL_law wsL_access := goodIn_ca (goodIn_ca (goodIn_r _ [175, 176, 135, 177, 178, 179, 2, 180, 140, 141, 16, 34, 181, 182, 183, 184, 185, 186, 165, 166, 167, 15, 168, 84, 187, 188, 189, 190, 89, 90, 91, 85, 92, 93, 94, 95, 86, 87, 96, 97, 98, 99, 734, 735, 736, 737, 738, 739, 740, 741, 764, 765, 766, 767] (by decide +kernel) (by decide +kernel)) (goodIn_sub (fun _ h => List.mem_append_left _ (List.mem_append_left _ (List.mem_append_right _ h))) (by decide +kernel))) (goodIn_sub (fun _ h => List.mem_append_left _ (List.mem_append_right _ h)) (by decide +kernel))
set_option maxRecDepth 20000 in
theorem gL_law_L_access : GoodIn wsL_law (va_wsS RL 85 yL_access wsL_access) := goodIn_app (goodIn_of _ (by decide +kernel)) ggL_law_L_access
set_option maxRecDepth 20000 in
theorem ggL_law_X8_access : GoodIn wsL_law wsX8_access := goodIn_r _ [194, 195, 196, 197, 5, 198, 125, 199, 200, 201, 202, 156, 127, 128, 129, 130, 106, 104, 107, 742, 743, 744, 745, 746, 747, 748, 749, 750, 751, 752, 753, 754, 755, 756, 757, 758, 759, 760, 761, 762, 763] (by decide +kernel) (by decide +kernel)
set_option maxRecDepth 20000 in
theorem gL_law_X8_access : GoodIn wsL_law (wsV RL 88 RX8 yX8_access wsX8_access) := goodIn_app (goodIn_of _ (by decide +kernel)) ggL_law_X8_access
set_option maxRecDepth 20000 in
theorem ggL_law_L_trunk : GoodIn wsL_law wsL_trunk := goodIn_ca (goodIn_ca (goodIn_r _ [205, 176, 135, 206, 207, 208, 2, 209, 140, 141, 16, 34, 181, 182, 183, 184, 185, 186, 165, 166, 167, 15, 168, 84, 187, 188, 189, 210, 98, 99, 211, 93, 94, 95, 85, 86, 87, 96, 97, 734, 735, 736, 737, 738, 739, 740, 741, 764, 765, 766, 767] (by decide +kernel) (by decide +kernel)) (goodIn_sub (fun _ h => List.mem_append_left _ (List.mem_append_left _ (List.mem_append_right _ h))) (by decide +kernel))) (goodIn_sub (fun _ h => List.mem_append_left _ (List.mem_append_right _ h)) (by decide +kernel))
set_option maxRecDepth 20000 in
theorem gL_law_L_trunk : GoodIn wsL_law (va_wsS RL 89 yL_trunk wsL_trunk) := goodIn_app (goodIn_of _ (by decide +kernel)) ggL_law_L_trunk
set_option maxRecDepth 20000 in
theorem ggL_law_X8_trunk : GoodIn wsL_law wsX8_trunk := goodIn_r _ [215, 106, 104, 107, 195, 196, 197, 5, 198, 125, 199, 200, 201, 202, 156, 742, 743, 744, 745, 746, 747, 748, 749, 750, 751, 752, 753, 754, 755, 756, 757, 758, 759, 760, 761, 762, 763] (by decide +kernel) (by decide +kernel)
set_option maxRecDepth 20000 in
theorem gL_law_X8_trunk : GoodIn wsL_law (wsV RL 92 RX8 yX8_trunk wsX8_trunk) := goodIn_app (goodIn_of _ (by decide +kernel)) ggL_law_X8_trunk
set_option maxRecDepth 20000 in
theorem ggL_law_L_fault : GoodIn wsL_law wsL_fault := goodIn_ca (goodIn_ca (goodIn_r _ [218, 176, 135, 219, 220, 221, 2, 222, 140, 141, 142, 34, 181, 182, 183, 184, 185, 186, 16, 165, 166, 167, 15, 168, 84, 223, 96, 97, 734, 735, 736, 737, 738, 739, 740, 741, 764, 765, 766, 767] (by decide +kernel) (by decide +kernel)) (goodIn_sub (fun _ h => List.mem_append_left _ (List.mem_append_left _ (List.mem_append_right _ h))) (by decide +kernel))) (goodIn_sub (fun _ h => List.mem_append_left _ (List.mem_append_right _ h)) (by decide +kernel))
set_option maxRecDepth 20000 in
theorem gL_law_L_fault : GoodIn wsL_law (va_wsS RL 93 yL_fault wsL_fault) := goodIn_app (goodIn_of _ (by decide +kernel)) ggL_law_L_fault
