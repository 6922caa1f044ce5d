set_option maxRecDepth 20000 in
theorem ggL_law_X8_clear : GoodIn wsL_law wsX8_clear := goodIn_r _ [378, 156, 126, 742, 743, 744, 745, 746, 747, 748, 749, 750, 751, 752, 753, 754, 755, 756, 757, 758, 759, 760, 761, 762, 763] (by decide +kernel) (by decide +kernel)
set_option maxRecDepth 20000 in
theorem gL_law_X8_clear : GoodIn wsL_law (wsV RL 108 RX8 yX8_clear wsX8_clear) := goodIn_app (goodIn_of _ (by decide +kernel)) ggL_law_X8_clear
set_option maxRecDepth 20000 in
theorem ggL_law_X7_frames : GoodIn wsL_law wsX7_frames := goodIn_r _ [382, 20, 241, 242, 243, 19, 244, 147, 734, 735, 736, 737, 738, 739, 740, 741, 768, 769] (by decide +kernel) (by decide +kernel)
set_option maxRecDepth 20000 in
theorem gL_law_X7_frames : GoodIn wsL_law (wsV RL 109 RX7 yX7_frames wsX7_frames) := goodIn_app (goodIn_of _ (by decide +kernel)) ggL_law_X7_frames
set_option maxRecDepth 20000 in
theorem ggL_law_X8_frames : GoodIn wsL_law wsX8_frames := goodIn_r _ [386, 156, 126, 742, 743, 744, 745, 746, 747, 748, 749, 750, 751, 752, 753, 754, 755, 756, 757, 758, 759, 760, 761, 762, 763] (by decide +kernel) (by decide +kernel)
set_option maxRecDepth 20000 in
theorem gL_law_X8_frames : GoodIn wsL_law (wsV RL 112 RX8 yX8_frames wsX8_frames) := goodIn_app (goodIn_of _ (by decide +kernel)) ggL_law_X8_frames
set_option maxRecDepth 20000 in
theorem ggL_law_L_frameAt : GoodIn wsL_law wsL_frameAt := goodIn_ca (goodIn_r _ [389, 176, 390, 391, 392, 2, 393, 20, 394, 395, 396, 397, 185, 186, 241, 242, 243, 19, 244, 147, 398, 289, 290, 291, 44, 292, 293, 294, 43, 295, 50, 734, 735, 736, 737, 738, 739, 740, 741, 768, 769, 781] (by decide +kernel) (by decide +kernel)) (goodIn_sub (fun _ h => List.mem_append_left _ (List.mem_append_right _ h)) (by decide +kernel))
set_option maxRecDepth 20000 in
theorem gL_law_L_frameAt : GoodIn wsL_law (va_wsS RL 113 yL_frameAt wsL_frameAt) := goodIn_app (goodIn_of _ (by decide +kernel)) ggL_law_L_frameAt
set_option maxRecDepth 20000 in
theorem ggL_law_X8_frameAt : GoodIn wsL_law wsX8_frameAt := goodIn_r _ [402, 109, 110, 111, 112, 403, 404, 405, 5, 406, 126, 152, 153, 154, 155, 156, 742, 743, 744, 745, 746, 747, 748, 749, 750, 751, 752, 753, 754, 755, 756, 757, 758, 759, 760, 761, 762, 763] (by decide +kernel) (by decide +kernel)
set_option maxRecDepth 20000 in
theorem gL_law_X8_frameAt : GoodIn wsL_law (wsV RL 116 RX8 yX8_frameAt wsX8_frameAt) := goodIn_app (goodIn_of _ (by decide +kernel)) ggL_law_X8_frameAt
set_option maxRecDepth 20000 in
theorem ggL_law_X7_pairs : GoodIn wsL_law wsX7_pairs := goodIn_r _ [410, 24, 16, 165, 166, 167, 15, 168, 84, 316, 317, 318, 23, 319, 734, 735, 736, 737, 738, 739, 740, 741, 764, 765, 766, 767] (by decide +kernel) (by decide +kernel)
set_option maxRecDepth 20000 in
theorem gL_law_X7_pairs : GoodIn wsL_law (wsV RL 117 RX7 yX7_pairs wsX7_pairs) := goodIn_app (goodIn_of _ (by decide +kernel)) ggL_law_X7_pairs
set_option maxRecDepth 20000 in
theorem ggL_law_X8_pairs : GoodIn wsL_law wsX8_pairs := goodIn_r _ [414, 156, 367, 368, 369, 5, 370, 125, 742, 743, 744, 745, 746, 747, 748, 749, 750, 751, 752, 753, 754, 755, 756, 757, 758, 759, 760, 761, 762, 763] (by decide +kernel) (by decide +kernel)
