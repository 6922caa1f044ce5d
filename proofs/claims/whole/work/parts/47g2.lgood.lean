set_option maxRecDepth 20000 in
theorem ggL_law_X8_fault : GoodIn wsL_law wsX8_fault := goodIn_r _ [227, 108, 195, 196, 197, 5, 198, 125, 199, 200, 201, 202, 156, 228, 229, 230, 742, 743, 744, 745, 746, 747, 748, 749, 750, 751, 752, 753, 754, 755, 756, 757, 758, 759, 760, 761, 762, 763] (by decide +kernel) (by decide +kernel)
set_option maxRecDepth 20000 in
theorem gL_law_X8_fault : GoodIn wsL_law (wsV RL 96 RX8 yX8_fault wsX8_fault) := goodIn_app (goodIn_of _ (by decide +kernel)) ggL_law_X8_fault
set_option maxRecDepth 20000 in
theorem ggL_law_L_add : GoodIn wsL_law wsL_add := goodIn_ca (goodIn_ca (goodIn_ca (goodIn_r _ [233, 176, 135, 234, 235, 236, 237, 2, 238, 140, 141, 239, 240, 20, 34, 181, 182, 183, 184, 185, 186, 16, 165, 166, 167, 15, 168, 84, 241, 242, 243, 19, 244, 147, 245, 246, 247, 248, 249, 250, 251, 44, 252, 253, 254, 43, 255, 50, 734, 735, 736, 737, 738, 739, 740, 741, 764, 765, 766, 767, 768, 769, 781] (by decide +kernel) (by decide +kernel)) (goodIn_sub (fun _ h => List.mem_append_left _ (List.mem_append_left _ (List.mem_append_right _ h))) (by decide +kernel))) (goodIn_sub (fun _ h => List.mem_append_right _ h) (by decide +kernel))) (goodIn_sub (fun _ h => List.mem_append_left _ (List.mem_append_right _ h)) (by decide +kernel))
set_option maxRecDepth 20000 in
theorem gL_law_L_add : GoodIn wsL_law (va_wsS RL 97 yL_add wsL_add) := goodIn_app (goodIn_of _ (by decide +kernel)) ggL_law_L_add
set_option maxRecDepth 20000 in
theorem ggL_law_X8_add : GoodIn wsL_law wsX8_add := goodIn_r _ [259, 126, 195, 196, 197, 5, 198, 125, 260, 261, 262, 263, 156, 264, 265, 266, 267, 109, 110, 111, 112, 742, 743, 744, 745, 746, 747, 748, 749, 750, 751, 752, 753, 754, 755, 756, 757, 758, 759, 760, 761, 762, 763] (by decide +kernel) (by decide +kernel)
set_option maxRecDepth 20000 in
theorem gL_law_X8_add : GoodIn wsL_law (wsV RL 100 RX8 yX8_add wsX8_add) := goodIn_app (goodIn_of _ (by decide +kernel)) ggL_law_X8_add
set_option maxRecDepth 20000 in
theorem ggL_law_L_cover : GoodIn wsL_law wsL_cover := goodIn_ca (goodIn_r _ [270, 234, 271, 272, 273, 2, 274, 239, 240, 20, 24, 16, 34, 241, 242, 243, 19, 244, 147, 275, 276, 277, 23, 278, 55, 279, 280, 281, 43, 282, 50, 283, 284, 285, 286, 287, 288, 289, 290, 291, 44, 292, 293, 294, 295, 296, 297, 298, 299, 300, 301, 302, 303, 304, 305, 306, 307, 308, 309, 310, 311, 312, 313, 314, 315, 253, 254, 255, 165, 166, 167, 15, 168, 84, 316, 317, 318, 319, 320, 321, 322, 323, 324, 325, 326, 327, 328, 329, 330, 331, 332, 333, 334, 335, 336, 337, 338, 246, 247, 339, 340, 341, 342, 248, 249, 250, 251, 252, 343, 143, 144, 145, 146, 734, 735, 736, 737, 738, 739, 740, 741, 768, 769, 770, 781, 764, 765, 766, 767] (by decide +kernel) (by decide +kernel)) (goodIn_sub (fun _ h => List.mem_append_right _ h) (by decide +kernel))
set_option maxRecDepth 20000 in
theorem gL_law_L_cover : GoodIn wsL_law (va_wsS RL 101 yL_cover wsL_cover) := goodIn_app (goodIn_of _ (by decide +kernel)) ggL_law_L_cover
set_option maxRecDepth 20000 in
theorem ggL_law_X8_cover : GoodIn wsL_law wsX8_cover := goodIn_r _ [347, 126, 156, 348, 349, 350, 5, 351, 125, 352, 353, 354, 355, 120, 109, 110, 111, 112, 356, 357, 358, 359, 360, 361, 362, 264, 265, 266, 267, 363, 364, 365, 366, 367, 368, 369, 370, 152, 153, 154, 155, 742, 743, 744, 745, 746, 747, 748, 749, 750, 751, 752, 753, 754, 755, 756, 757, 758, 759, 760, 761, 762, 763] (by decide +kernel) (by decide +kernel)
set_option maxRecDepth 20000 in
theorem gL_law_X8_cover : GoodIn wsL_law (wsV RL 104 RX8 yX8_cover wsX8_cover) := goodIn_app (goodIn_of _ (by decide +kernel)) ggL_law_X8_cover
set_option maxRecDepth 20000 in
theorem ggL_law_X7_clear : GoodIn wsL_law wsX7_clear := goodIn_r _ [374, 20, 34, 143, 144, 145, 19, 146, 147, 734, 735, 736, 737, 738, 739, 740, 741, 768, 769] (by decide +kernel) (by decide +kernel)
set_option maxRecDepth 20000 in
theorem gL_law_X7_clear : GoodIn wsL_law (wsV RL 105 RX7 yX7_clear wsX7_clear) := goodIn_app (goodIn_of _ (by decide +kernel)) ggL_law_X7_clear
