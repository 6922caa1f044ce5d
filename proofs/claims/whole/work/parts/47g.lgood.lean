set_option maxRecDepth 20000 in
theorem ggL_law_X7_init : GoodIn wsL_law wsX7_init := goodIn_r _ [9, 10, 11, 12, 13, 14, 15, 16, 17, 18, 19, 20, 21, 22, 23, 24, 25, 26, 27, 28, 29, 30, 31, 32, 33, 34, 35, 36, 37, 38, 39, 40, 41, 42, 43, 44, 45, 46, 47, 48, 49, 50, 51, 52, 53, 54, 55, 56, 57, 58, 59, 60, 61, 62, 63, 64, 65, 66, 67, 68, 69, 70, 71, 72, 73, 74, 75, 76, 77, 78, 79, 80, 81, 82, 83, 84, 85, 86, 87, 88, 89, 90, 91, 92, 93, 94, 95, 96, 2, 97, 98, 99, 764, 765, 766, 767, 734, 735, 736, 737, 738, 739, 740, 741, 768, 769, 770, 771, 772, 773, 774, 775, 776, 777, 778, 779, 780, 781, 782, 783, 784, 785, 786] (by decide +kernel) (by decide +kernel)
set_option maxRecDepth 20000 in
theorem gL_law_X7_init : GoodIn wsL_law (wsX7_init) := ggL_law_X7_init
set_option maxRecDepth 20000 in
theorem ggL_law_X8_init : GoodIn wsL_law wsX8_init := goodIn_r _ [102, 103, 11, 12, 49, 104, 105, 106, 107, 108, 109, 110, 111, 112, 113, 114, 115, 116, 117, 118, 119, 120, 121, 122, 123, 5, 124, 125, 126, 127, 128, 129, 130, 742, 743, 744, 745, 746, 747, 748, 749, 750, 751, 752, 753, 754, 755, 756, 757, 758, 759, 760, 761, 762, 763] (by decide +kernel) (by decide +kernel)
set_option maxRecDepth 20000 in
theorem gL_law_X8_init : GoodIn wsL_law (wsX8_init) := ggL_law_X8_init
set_option maxRecDepth 20000 in
theorem ggL_law_L_begin : GoodIn wsL_law wsL_begin := goodIn_ca (goodIn_r _ [134, 135, 136, 137, 138, 2, 139, 140, 141, 16, 20, 142, 34, 80, 81, 82, 15, 83, 84, 85, 86, 87, 88, 89, 90, 91, 92, 93, 94, 95, 96, 97, 98, 99, 143, 144, 145, 19, 146, 147, 734, 735, 736, 737, 738, 739, 740, 741, 764, 765, 766, 767, 768, 769] (by decide +kernel) (by decide +kernel)) (goodIn_sub (fun _ h => List.mem_append_left _ (List.mem_append_left _ (List.mem_append_right _ h))) (by decide +kernel))
set_option maxRecDepth 20000 in
theorem gL_law_L_begin : GoodIn wsL_law (va_wsS RL 72 yL_begin wsL_begin) := goodIn_app (goodIn_of _ (by decide +kernel)) ggL_law_L_begin
set_option maxRecDepth 20000 in
theorem ggL_law_X8_begin : GoodIn wsL_law wsX8_begin := goodIn_r _ [151, 152, 153, 154, 5, 155, 156, 121, 122, 123, 124, 125, 126, 108, 127, 128, 129, 130, 106, 104, 107, 742, 743, 744, 745, 746, 747, 748, 749, 750, 751, 752, 753, 754, 755, 756, 757, 758, 759, 760, 761, 762, 763] (by decide +kernel) (by decide +kernel)
set_option maxRecDepth 20000 in
theorem gL_law_X8_begin : GoodIn wsL_law (wsV RL 77 RX8 yX8_begin wsX8_begin) := goodIn_app (goodIn_of _ (by decide +kernel)) ggL_law_X8_begin
set_option maxRecDepth 20000 in
theorem ggL_law_X8_thrown : GoodIn wsL_law wsX8_thrown := goodIn_r _ [160, 156, 742, 743, 744, 745, 746, 747, 748, 749, 750, 751, 752, 753, 754, 755, 756, 757, 758, 759, 760, 761, 762, 763] (by decide +kernel) (by decide +kernel)
set_option maxRecDepth 20000 in
theorem gL_law_X8_thrown : GoodIn wsL_law (wsV RL 78 RX8 yX8_thrown wsX8_thrown) := goodIn_app (goodIn_of _ (by decide +kernel)) ggL_law_X8_thrown
set_option maxRecDepth 20000 in
theorem ggL_law_X7_ports : GoodIn wsL_law wsX7_ports := goodIn_r _ [164, 16, 165, 166, 167, 15, 168, 84, 734, 735, 736, 737, 738, 739, 740, 741, 764, 765, 766, 767] (by decide +kernel) (by decide +kernel)
set_option maxRecDepth 20000 in
theorem gL_law_X7_ports : GoodIn wsL_law (wsV RL 81 RX7 yX7_ports wsX7_ports) := goodIn_app (goodIn_of _ (by decide +kernel)) ggL_law_X7_ports
set_option maxRecDepth 20000 in
theorem ggL_law_X8_ports : GoodIn wsL_law wsX8_ports := goodIn_r _ [172, 156, 125, 742, 743, 744, 745, 746, 747, 748, 749, 750, 751, 752, 753, 754, 755, 756, 757, 758, 759, 760, 761, 762, 763] (by decide +kernel) (by decide +kernel)
set_option maxRecDepth 20000 in
theorem gL_law_X8_ports : GoodIn wsL_law (wsV RL 84 RX8 yX8_ports wsX8_ports) := goodIn_app (goodIn_of _ (by decide +kernel)) ggL_law_X8_ports
set_option maxRecDepth 20000 in
theorem ggL_law_L_access : GoodIn wsL_law wsL_access := goodIn_ca (goodIn_ca (goodIn_r _ [175, 176, 135, 177, 178, 179, 2, 180, 140, 141, 16, 34, 181, 182, 183, 184, 185, 186, 165, 166, 167, 15, 168, 84, 187, 188, 189, 190, 89, 90, 91, 85, 92, 93, 94, 95, 86, 87, 96, 97, 98, 99, 734, 735, 736, 737, 738, 739, 740, 741, 764, 765, 766, 767] (by decide +kernel) (by decide +kernel)) (goodIn_sub (fun _ h => List.mem_append_left _ (List.mem_append_left _ (List.mem_append_right _ h))) (by decide +kernel))) (goodIn_sub (fun _ h => List.mem_append_left _ (List.mem_append_right _ h)) (by decide +kernel))
set_option maxRecDepth 20000 in
theorem gL_law_L_access : GoodIn wsL_law (va_wsS RL 85 yL_access wsL_access) := goodIn_app (goodIn_of _ (by decide +kernel)) ggL_law_L_access
set_option maxRecDepth 20000 in
theorem ggL_law_X8_access : GoodIn wsL_law wsX8_access := goodIn_r _ [194, 195, 196, 197, 5, 198, 125, 199, 200, 201, 202, 156, 127, 128, 129, 130, 106, 104, 107, 742, 743, 744, 745, 746, 747, 748, 749, 750, 751, 752, 753, 754, 755, 756, 757, 758, 759, 760, 761, 762, 763] (by decide +kernel) (by decide +kernel)
set_option maxRecDepth 20000 in
theorem gL_law_X8_access : GoodIn wsL_law (wsV RL 88 RX8 yX8_access wsX8_access) := goodIn_app (goodIn_of _ (by decide +kernel)) ggL_law_X8_access
set_option maxRecDepth 20000 in
theorem ggL_law_L_trunk : GoodIn wsL_law wsL_trunk := goodIn_ca (goodIn_ca (goodIn_r _ [205, 176, 135, 206, 207, 208, 2, 209, 140, 141, 16, 34, 181, 182, 183, 184, 185, 186, 165, 166, 167, 15, 168, 84, 187, 188, 189, 210, 98, 99, 211, 93, 94, 95, 85, 86, 87, 96, 97, 734, 735, 736, 737, 738, 739, 740, 741, 764, 765, 766, 767] (by decide +kernel) (by decide +kernel)) (goodIn_sub (fun _ h => List.mem_append_left _ (List.mem_append_left _ (List.mem_append_right _ h))) (by decide +kernel))) (goodIn_sub (fun _ h => List.mem_append_left _ (List.mem_append_right _ h)) (by decide +kernel))
set_option maxRecDepth 20000 in
theorem gL_law_L_trunk : GoodIn wsL_law (va_wsS RL 89 yL_trunk wsL_trunk) := goodIn_app (goodIn_of _ (by decide +kernel)) ggL_law_L_trunk
set_option maxRecDepth 20000 in
theorem ggL_law_X8_trunk : GoodIn wsL_law wsX8_trunk := goodIn_r _ [215, 106, 104, 107, 195, 196, 197, 5, 198, 125, 199, 200, 201, 202, 156, 742, 743, 744, 745, 746, 747, 748, 749, 750, 751, 752, 753, 754, 755, 756, 757, 758, 759, 760, 761, 762, 763] (by decide +kernel) (by decide +kernel)
set_option maxRecDepth 20000 in
theorem gL_law_X8_trunk : GoodIn wsL_law (wsV RL 92 RX8 yX8_trunk wsX8_trunk) := goodIn_app (goodIn_of _ (by decide +kernel)) ggL_law_X8_trunk
set_option maxRecDepth 20000 in
theorem ggL_law_L_fault : GoodIn wsL_law wsL_fault := goodIn_ca (goodIn_ca (goodIn_r _ [218, 176, 135, 219, 220, 221, 2, 222, 140, 141, 142, 34, 181, 182, 183, 184, 185, 186, 16, 165, 166, 167, 15, 168, 84, 223, 96, 97, 734, 735, 736, 737, 738, 739, 740, 741, 764, 765, 766, 767] (by decide +kernel) (by decide +kernel)) (goodIn_sub (fun _ h => List.mem_append_left _ (List.mem_append_left _ (List.mem_append_right _ h))) (by decide +kernel))) (goodIn_sub (fun _ h => List.mem_append_left _ (List.mem_append_right _ h)) (by decide +kernel))
set_option maxRecDepth 20000 in
theorem gL_law_L_fault : GoodIn wsL_law (va_wsS RL 93 yL_fault wsL_fault) := goodIn_app (goodIn_of _ (by decide +kernel)) ggL_law_L_fault
set_option maxRecDepth 20000 in
theorem ggL_law_X8_fault : GoodIn wsL_law wsX8_fault := goodIn_r _ [227, 108, 195, 196, 197, 5, 198, 125, 199, 200, 201, 202, 156, 228, 229, 230, 742, 743, 744, 745, 746, 747, 748, 749, 750, 751, 752, 753, 754, 755, 756, 757, 758, 759, 760, 761, 762, 763] (by decide +kernel) (by decide +kernel)
set_option maxRecDepth 20000 in
theorem gL_law_X8_fault : GoodIn wsL_law (wsV RL 96 RX8 yX8_fault wsX8_fault) := goodIn_app (goodIn_of _ (by decide +kernel)) ggL_law_X8_fault
set_option maxRecDepth 20000 in
theorem ggL_law_L_add : GoodIn wsL_law wsL_add := goodIn_ca (goodIn_ca (goodIn_ca (goodIn_r _ [233, 176, 135, 234, 235, 236, 237, 2, 238, 140, 141, 239, 240, 20, 34, 181, 182, 183, 184, 185, 186, 16, 165, 166, 167, 15, 168, 84, 241, 242, 243, 19, 244, 147, 245, 246, 247, 248, 249, 250, 251, 44, 252, 253, 254, 43, 255, 50, 734, 735, 736, 737, 738, 739, 740, 741, 764, 765, 766, 767, 768, 769, 781] (by decide +kernel) (by decide +kernel)) (goodIn_sub (fun _ h => List.mem_append_left _ (List.mem_append_left _ (List.mem_append_right _ h))) (by decide +kernel))) (goodIn_sub (fun _ h => List.mem_append_right _ h) (by decide +kernel))) (goodIn_sub (fun _ h => List.mem_append_left _ (List.mem_append_right _ h)) (by decide +kernel))
set_option maxRecDepth 20000 in
theorem gL_law_L_add : GoodIn wsL_law (va_wsS RL 97 yL_add wsL_add) := goodIn_app (goodIn_of _ (by decide +kernel)) ggL_law_L_add
set_option maxRecDepth 20000 in
theorem ggL_law_X8_add : GoodIn wsL_law wsX8_add := goodIn_r _ [259, 126, 195, 196, 197, 5, 198, 125, 260, 261, 262, 263, 156, 264, 265, 266, 267, 109, 110, 111, 112, 742, 743, 744, 745, 746, 747, 748, 749, 750, 751, 752, 753, 754, 755, 756, 757, 758, 759, 760, 761, 762, 763] (by decide +kernel) (by decide +kernel)
set_option maxRecDepth 20000 in
theorem gL_law_X8_add : GoodIn wsL_law (wsV RL 100 RX8 yX8_add wsX8_add) := goodIn_app (goodIn_of _ (by decide +kernel)) ggL_law_X8_add
set_option maxRecDepth 20000 in
theorem ggL_law_L_cover : GoodIn wsL_law wsL_cover := goodIn_ca (goodIn_r _ [270, 234, 271, 272, 273, 2, 274, 239, 240, 20, 24, 16, 34, 241, 242, 243, 19, 244, 147, 275, 276, 277, 23, 278, 55, 279, 280, 281, 43, 282, 50, 283, 284, 285, 286, 287, 288, 289, 290, 291, 44, 292, 293, 294, 295, 296, 297, 298, 299, 300, 301, 302, 303, 304, 305, 306, 307, 308, 309, 310, 311, 312, 313, 314, 315, 253, 254, 255, 165, 166, 167, 15, 168, 84, 316, 317, 318, 319, 320, 321, 322, 323, 324, 325, 326, 327, 328, 329, 330, 331, 332, 333, 334, 335, 336, 337, 338, 246, 247, 339, 340, 341, 342, 248, 249, 250, 251, 252, 343, 143, 144, 145, 146, 734, 735, 736, 737, 738, 739, 740, 741, 768, 769, 770, 781, 764, 765, 766, 767] (by decide +kernel) (by decide +kernel)) (goodIn_sub (fun _ h => List.mem_append_right _ h) (by decide +kernel))
set_option maxRecDepth 20000 in
theorem gL_law_L_cover : GoodIn wsL_law (va_wsS RL 101 yL_cover wsL_cover) := goodIn_app (goodIn_of _ (by decide +kernel)) ggL_law_L_cover
set_option maxRecDepth 20000 in
theorem ggL_law_X8_cover : GoodIn wsL_law wsX8_cover := goodIn_r _ [347, 126, 156, 348, 349, 350, 5, 351, 125, 352, 353, 354, 355, 120, 109, 110, 111, 112, 356, 357, 358, 359, 360, 361, 362, 264, 265, 266, 267, 363, 364, 365, 366, 367, 368, 369, 370, 152, 153, 154, 155, 742, 743, 744, 745, 746, 747, 748, 749, 750, 751, 752, 753, 754, 755, 756, 757, 758, 759, 760, 761, 762, 763] (by decide +kernel) (by decide +kernel)
set_option maxRecDepth 20000 in
theorem gL_law_X8_cover : GoodIn wsL_law (wsV RL 104 RX8 yX8_cover wsX8_cover) := goodIn_app (goodIn_of _ (by decide +kernel)) ggL_law_X8_cover
set_option maxRecDepth 20000 in
theorem ggL_law_X7_clear : GoodIn wsL_law wsX7_clear := goodIn_r _ [374, 20, 34, 143, 144, 145, 19, 146, 147, 734, 735, 736, 737, 738, 739, 740, 741, 768, 769] (by decide +kernel) (by decide +kernel)
set_option maxRecDepth 20000 in
theorem gL_law_X7_clear : GoodIn wsL_law (wsV RL 105 RX7 yX7_clear wsX7_clear) := goodIn_app (goodIn_of _ (by decide +kernel)) ggL_law_X7_clear
set_option maxRecDepth 20000 in
theorem ggL_law_X8_clear : GoodIn wsL_law wsX8_clear := goodIn_r _ [378, 156, 126, 742, 743, 744, 745, 746, 747, 748, 749, 750, 751, 752, 753, 754, 755, 756, 757, 758, 759, 760, 761, 762, 763] (by decide +kernel) (by decide +kernel)
set_option maxRecDepth 20000 in
theorem gL_law_X8_clear : GoodIn wsL_law (wsV RL 108 RX8 yX8_clear wsX8_clear) := goodIn_app (goodIn_of _ (by decide +kernel)) ggL_law_X8_clear
set_option maxRecDepth 20000 in
theorem ggL_law_X7_frames : GoodIn wsL_law wsX7_frames := goodIn_r _ [382, 20, 241, 242, 243, 19, 244, 147, 734, 735, 736, 737, 738, 739, 740, 741, 768, 769] (by decide +kernel) (by decide +kernel)
set_option maxRecDepth 20000 in
theorem gL_law_X7_frames : GoodIn wsL_law (wsV RL 109 RX7 yX7_frames wsX7_frames) := goodIn_app (goodIn_of _ (by decide +kernel)) ggL_law_X7_frames
set_option maxRecDepth 20000 in
theorem ggL_law_X8_frames : GoodIn wsL_law wsX8_frames := goodIn_r _ [386, 156, 126, 742, 743, 744, 745, 746, 747, 748, 749, 750, 751, 752, 753, 754, 755, 756, 757, 758, 759, 760, 761, 762, 763] (by decide +kernel) (by decide +kernel)
set_option maxRecDepth 20000 in
theorem gL_law_X8_frames : GoodIn wsL_law (wsV RL 112 RX8 yX8_frames wsX8_frames) := goodIn_app (goodIn_of _ (by decide +kernel)) ggL_law_X8_frames
set_option maxRecDepth 20000 in
theorem ggL_law_L_frameAt : GoodIn wsL_law wsL_frameAt := goodIn_ca (goodIn_r _ [389, 176, 390, 391, 392, 2, 393, 20, 394, 395, 396, 397, 185, 186, 241, 242, 243, 19, 244, 147, 398, 289, 290, 291, 44, 292, 293, 294, 43, 295, 50, 734, 735, 736, 737, 738, 739, 740, 741, 768, 769, 781] (by decide +kernel) (by decide +kernel)) (goodIn_sub (fun _ h => List.mem_append_left _ (List.mem_append_right _ h)) (by decide +kernel))
set_option maxRecDepth 20000 in
theorem gL_law_L_frameAt : GoodIn wsL_law (va_wsS RL 113 yL_frameAt wsL_frameAt) := goodIn_app (goodIn_of _ (by decide +kernel)) ggL_law_L_frameAt
set_option maxRecDepth 20000 in
theorem ggL_law_X8_frameAt : GoodIn wsL_law wsX8_frameAt := goodIn_r _ [402, 109, 110, 111, 112, 403, 404, 405, 5, 406, 126, 152, 153, 154, 155, 156, 742, 743, 744, 745, 746, 747, 748, 749, 750, 751, 752, 753, 754, 755, 756, 757, 758, 759, 760, 761, 762, 763] (by decide +kernel) (by decide +kernel)
set_option maxRecDepth 20000 in
theorem gL_law_X8_frameAt : GoodIn wsL_law (wsV RL 116 RX8 yX8_frameAt wsX8_frameAt) := goodIn_app (goodIn_of _ (by decide +kernel)) ggL_law_X8_frameAt
set_option maxRecDepth 20000 in
theorem ggL_law_X7_pairs : GoodIn wsL_law wsX7_pairs := goodIn_r _ [410, 24, 16, 165, 166, 167, 15, 168, 84, 316, 317, 318, 23, 319, 734, 735, 736, 737, 738, 739, 740, 741, 764, 765, 766, 767] (by decide +kernel) (by decide +kernel)
set_option maxRecDepth 20000 in
theorem gL_law_X7_pairs : GoodIn wsL_law (wsV RL 117 RX7 yX7_pairs wsX7_pairs) := goodIn_app (goodIn_of _ (by decide +kernel)) ggL_law_X7_pairs
set_option maxRecDepth 20000 in
theorem ggL_law_X8_pairs : GoodIn wsL_law wsX8_pairs := goodIn_r _ [414, 156, 367, 368, 369, 5, 370, 125, 742, 743, 744, 745, 746, 747, 748, 749, 750, 751, 752, 753, 754, 755, 756, 757, 758, 759, 760, 761, 762, 763] (by decide +kernel) (by decide +kernel)
set_option maxRecDepth 20000 in
theorem gL_law_X8_pairs : GoodIn wsL_law (wsV RL 120 RX8 yX8_pairs wsX8_pairs) := goodIn_app (goodIn_of _ (by decide +kernel)) ggL_law_X8_pairs
set_option maxRecDepth 20000 in
theorem ggL_law_X7_pairsMet : GoodIn wsL_law wsX7_pairsMet := goodIn_r _ [418, 24, 20, 275, 276, 277, 23, 278, 55, 279, 280, 281, 43, 282, 50, 283, 284, 285, 286, 287, 242, 243, 19, 244, 147, 288, 289, 290, 291, 44, 292, 293, 294, 295, 296, 297, 298, 299, 300, 301, 302, 303, 2, 304, 305, 306, 307, 308, 309, 310, 311, 312, 313, 314, 315, 253, 254, 255, 320, 321, 322, 323, 324, 325, 326, 327, 328, 329, 330, 734, 735, 736, 737, 738, 739, 740, 741, 770, 781, 768, 769] (by decide +kernel) (by decide +kernel)
set_option maxRecDepth 20000 in
theorem gL_law_X7_pairsMet : GoodIn wsL_law (wsV RL 121 RX7 yX7_pairsMet wsX7_pairsMet) := goodIn_app (goodIn_of _ (by decide +kernel)) ggL_law_X7_pairsMet
set_option maxRecDepth 20000 in
theorem ggL_law_X8_pairsMet : GoodIn wsL_law wsX8_pairsMet := goodIn_r _ [422, 156, 352, 353, 354, 5, 355, 120, 126, 109, 110, 111, 112, 356, 357, 358, 363, 364, 365, 366, 742, 743, 744, 745, 746, 747, 748, 749, 750, 751, 752, 753, 754, 755, 756, 757, 758, 759, 760, 761, 762, 763] (by decide +kernel) (by decide +kernel)
set_option maxRecDepth 20000 in
theorem gL_law_X8_pairsMet : GoodIn wsL_law (wsV RL 124 RX8 yX8_pairsMet wsX8_pairsMet) := goodIn_app (goodIn_of _ (by decide +kernel)) ggL_law_X8_pairsMet
set_option maxRecDepth 20000 in
theorem ggL_law_L_expected : GoodIn wsL_law wsL_expected := goodIn_ca (goodIn_r _ [425, 176, 426, 427, 428, 2, 429, 28, 394, 395, 396, 397, 185, 186, 20, 241, 242, 243, 19, 244, 147, 430, 431, 432, 433, 34, 16, 29, 142, 33, 434, 435, 436, 27, 437, 63, 65, 66, 67, 438, 439, 440, 62, 441, 442, 72, 443, 280, 281, 43, 282, 50, 283, 284, 285, 286, 444, 445, 289, 290, 291, 44, 292, 293, 294, 295, 446, 447, 448, 449, 450, 451, 452, 453, 454, 455, 456, 303, 304, 457, 458, 459, 460, 305, 306, 461, 462, 463, 464, 465, 466, 467, 15, 468, 87, 469, 470, 471, 472, 85, 473, 474, 475, 476, 86, 96, 97, 307, 308, 477, 478, 479, 480, 253, 254, 255, 309, 310, 481, 482, 483, 484, 485, 486, 487, 488, 489, 490, 491, 492, 493, 494, 495, 496, 497, 498, 499, 500, 501, 502, 503, 504, 505, 506, 507, 32, 508, 509, 510, 511, 512, 513, 514, 734, 735, 736, 737, 738, 739, 740, 741, 768, 769, 771, 772, 773, 774, 782, 783, 784, 785, 786, 781, 764, 765, 766, 767, 775, 776, 777, 778, 779, 780] (by decide +kernel) (by decide +kernel)) (goodIn_sub (fun _ h => List.mem_append_left _ (List.mem_append_right _ h)) (by decide +kernel))
set_option maxRecDepth 20000 in
theorem gL_law_L_expected : GoodIn wsL_law (va_wsS RL 125 yL_expected wsL_expected) := goodIn_app (goodIn_of _ (by decide +kernel)) ggL_law_L_expected
set_option maxRecDepth 20000 in
theorem ggL_law_X8_expected : GoodIn wsL_law wsX8_expected := goodIn_r _ [518, 115, 519, 520, 521, 5, 522, 114, 523, 524, 525, 526, 113, 126, 109, 116, 117, 111, 112, 125, 104, 106, 107, 527, 528, 529, 530, 110, 228, 229, 230, 403, 404, 405, 406, 152, 153, 154, 155, 156, 742, 743, 744, 745, 746, 747, 748, 749, 750, 751, 752, 753, 754, 755, 756, 757, 758, 759, 760, 761, 762, 763] (by decide +kernel) (by decide +kernel)
set_option maxRecDepth 20000 in
theorem gL_law_X8_expected : GoodIn wsL_law (wsV RL 127 RX8 yX8_expected wsX8_expected) := goodIn_app (goodIn_of _ (by decide +kernel)) ggL_law_X8_expected
set_option maxRecDepth 20000 in
theorem ggL_law_L_expectedTagged : GoodIn wsL_law wsL_expectedTagged := goodIn_ca (goodIn_r _ [533, 176, 534, 535, 536, 2, 537, 28, 394, 395, 396, 397, 185, 186, 20, 241, 242, 243, 19, 244, 147, 430, 431, 432, 433, 34, 16, 29, 142, 33, 434, 435, 436, 27, 437, 63, 65, 66, 67, 438, 439, 440, 62, 441, 442, 72, 443, 280, 281, 43, 282, 50, 283, 284, 285, 286, 444, 445, 289, 290, 291, 44, 292, 293, 294, 295, 446, 447, 448, 449, 450, 451, 452, 453, 454, 455, 456, 303, 304, 457, 458, 459, 460, 305, 306, 461, 462, 463, 464, 465, 466, 467, 15, 468, 87, 469, 470, 471, 472, 85, 473, 474, 475, 476, 86, 96, 97, 307, 308, 477, 478, 479, 480, 253, 254, 255, 309, 310, 481, 482, 483, 484, 485, 486, 487, 488, 489, 490, 491, 492, 493, 494, 495, 496, 497, 498, 499, 500, 501, 502, 503, 504, 505, 506, 507, 32, 508, 509, 538, 539, 540, 541, 514, 734, 735, 736, 737, 738, 739, 740, 741, 768, 769, 771, 772, 773, 774, 782, 783, 784, 785, 786, 781, 764, 765, 766, 767, 775, 776, 777, 778, 779, 780] (by decide +kernel) (by decide +kernel)) (goodIn_sub (fun _ h => List.mem_append_left _ (List.mem_append_right _ h)) (by decide +kernel))
set_option maxRecDepth 20000 in
theorem gL_law_L_expectedTagged : GoodIn wsL_law (va_wsS RL 128 yL_expectedTagged wsL_expectedTagged) := goodIn_app (goodIn_of _ (by decide +kernel)) ggL_law_L_expectedTagged
set_option maxRecDepth 20000 in
theorem ggL_law_X8_expectedTagged : GoodIn wsL_law wsX8_expectedTagged := goodIn_r _ [545, 116, 519, 520, 521, 5, 522, 114, 523, 524, 525, 526, 113, 126, 109, 115, 117, 111, 112, 125, 104, 106, 107, 527, 528, 529, 530, 110, 228, 229, 230, 403, 404, 405, 406, 152, 153, 154, 155, 156, 742, 743, 744, 745, 746, 747, 748, 749, 750, 751, 752, 753, 754, 755, 756, 757, 758, 759, 760, 761, 762, 763] (by decide +kernel) (by decide +kernel)
set_option maxRecDepth 20000 in
theorem gL_law_X8_expectedTagged : GoodIn wsL_law (wsV RL 130 RX8 yX8_expectedTagged wsX8_expectedTagged) := goodIn_app (goodIn_of _ (by decide +kernel)) ggL_law_X8_expectedTagged
set_option maxRecDepth 20000 in
theorem ggL_law_L_reason : GoodIn wsL_law wsL_reason := goodIn_ca (goodIn_r _ [548, 176, 549, 550, 551, 2, 552, 28, 394, 395, 396, 397, 185, 186, 20, 241, 242, 243, 19, 244, 147, 430, 431, 432, 433, 34, 16, 29, 142, 33, 434, 435, 436, 27, 437, 63, 65, 66, 67, 438, 439, 440, 62, 441, 442, 72, 443, 280, 281, 43, 282, 50, 283, 284, 285, 286, 444, 445, 289, 290, 291, 44, 292, 293, 294, 295, 446, 447, 448, 449, 450, 451, 452, 453, 454, 455, 456, 303, 304, 457, 458, 459, 460, 305, 306, 461, 462, 463, 464, 465, 466, 467, 15, 468, 87, 469, 470, 471, 472, 85, 473, 474, 475, 476, 86, 96, 97, 307, 308, 477, 478, 479, 480, 253, 254, 255, 309, 310, 481, 482, 483, 484, 485, 486, 487, 488, 489, 490, 491, 492, 493, 494, 495, 496, 497, 498, 499, 500, 501, 502, 503, 504, 505, 506, 507, 32, 508, 509, 553, 554, 555, 556, 514, 734, 735, 736, 737, 738, 739, 740, 741, 768, 769, 771, 772, 773, 774, 782, 783, 784, 785, 786, 781, 764, 765, 766, 767, 775, 776, 777, 778, 779, 780] (by decide +kernel) (by decide +kernel)) (goodIn_sub (fun _ h => List.mem_append_left _ (List.mem_append_right _ h)) (by decide +kernel))
set_option maxRecDepth 20000 in
theorem gL_law_L_reason : GoodIn wsL_law (va_wsS RL 131 yL_reason wsL_reason) := goodIn_app (goodIn_of _ (by decide +kernel)) ggL_law_L_reason
set_option maxRecDepth 20000 in
theorem ggL_law_X8_reason : GoodIn wsL_law wsX8_reason := goodIn_r _ [560, 117, 519, 520, 521, 5, 522, 114, 523, 524, 525, 526, 113, 126, 109, 115, 116, 111, 112, 125, 104, 106, 107, 527, 528, 529, 530, 110, 228, 229, 230, 403, 404, 405, 406, 152, 153, 154, 155, 156, 742, 743, 744, 745, 746, 747, 748, 749, 750, 751, 752, 753, 754, 755, 756, 757, 758, 759, 760, 761, 762, 763] (by decide +kernel) (by decide +kernel)
set_option maxRecDepth 20000 in
theorem gL_law_X8_reason : GoodIn wsL_law (wsV RL 133 RX8 yX8_reason wsX8_reason) := goodIn_app (goodIn_of _ (by decide +kernel)) ggL_law_X8_reason
set_option maxRecDepth 20000 in
theorem ggL_law_L_learned : GoodIn wsL_law wsL_learned := goodIn_ca (goodIn_r _ [563, 135, 564, 565, 566, 2, 567, 140, 141, 28, 187, 188, 189, 430, 431, 432, 433, 34, 16, 20, 29, 142, 33, 434, 435, 436, 27, 437, 63, 65, 66, 67, 438, 439, 440, 62, 441, 442, 72, 443, 280, 281, 43, 282, 50, 283, 284, 285, 286, 444, 242, 243, 19, 244, 147, 445, 289, 290, 291, 44, 292, 293, 294, 295, 446, 447, 448, 449, 450, 451, 452, 453, 454, 455, 456, 303, 304, 457, 458, 459, 460, 305, 306, 461, 462, 463, 464, 465, 466, 467, 15, 468, 87, 469, 470, 471, 472, 85, 473, 474, 475, 476, 86, 96, 97, 307, 308, 477, 478, 479, 480, 253, 254, 255, 309, 310, 481, 482, 483, 484, 485, 486, 487, 488, 489, 490, 491, 492, 493, 494, 495, 496, 497, 498, 499, 500, 501, 502, 503, 504, 505, 506, 507, 32, 508, 509, 568, 569, 570, 571, 572, 573, 574, 575, 734, 735, 736, 737, 738, 739, 740, 741, 771, 772, 773, 774, 782, 783, 784, 785, 786, 781, 768, 769, 764, 765, 766, 767, 775, 776, 777, 778, 779, 780] (by decide +kernel) (by decide +kernel)) (goodIn_sub (fun _ h => List.mem_append_left _ (List.mem_append_left _ (List.mem_append_right _ h))) (by decide +kernel))
set_option maxRecDepth 20000 in
theorem gL_law_L_learned : GoodIn wsL_law (va_wsS RL 134 yL_learned wsL_learned) := goodIn_app (goodIn_of _ (by decide +kernel)) ggL_law_L_learned
set_option maxRecDepth 20000 in
theorem ggL_law_X8_learned : GoodIn wsL_law wsX8_learned := goodIn_r _ [579, 113, 519, 520, 521, 5, 522, 114, 523, 524, 525, 526, 126, 109, 115, 116, 117, 111, 112, 125, 104, 106, 107, 527, 528, 529, 530, 110, 228, 229, 230, 152, 153, 154, 155, 156, 742, 743, 744, 745, 746, 747, 748, 749, 750, 751, 752, 753, 754, 755, 756, 757, 758, 759, 760, 761, 762, 763] (by decide +kernel) (by decide +kernel)
set_option maxRecDepth 20000 in
theorem gL_law_X8_learned : GoodIn wsL_law (wsV RL 136 RX8 yX8_learned wsX8_learned) := goodIn_app (goodIn_of _ (by decide +kernel)) ggL_law_X8_learned
set_option maxRecDepth 20000 in
theorem ggL_law_L_seen : GoodIn wsL_law wsL_seen := goodIn_ca (goodIn_r _ [582, 176, 583, 584, 585, 2, 586, 29, 394, 395, 396, 397, 185, 186, 20, 241, 242, 243, 19, 244, 147, 430, 431, 432, 433, 34, 28, 16, 142, 33, 434, 435, 436, 27, 437, 63, 65, 66, 67, 438, 439, 440, 62, 441, 442, 72, 443, 280, 281, 43, 282, 50, 283, 284, 285, 286, 444, 445, 289, 290, 291, 44, 292, 293, 294, 295, 446, 447, 448, 449, 450, 451, 452, 453, 454, 455, 456, 303, 304, 457, 458, 459, 460, 305, 306, 461, 462, 463, 464, 465, 466, 467, 15, 468, 87, 469, 470, 471, 472, 85, 473, 474, 475, 476, 86, 96, 97, 307, 308, 477, 478, 479, 480, 253, 254, 255, 309, 310, 481, 482, 483, 484, 485, 486, 487, 488, 489, 490, 491, 492, 493, 494, 495, 496, 497, 498, 499, 500, 501, 502, 503, 504, 505, 506, 507, 32, 508, 509, 510, 511, 512, 513, 514, 734, 735, 736, 737, 738, 739, 740, 741, 768, 769, 771, 772, 773, 774, 782, 783, 784, 785, 786, 781, 764, 765, 766, 767, 775, 776, 777, 778, 779, 780] (by decide +kernel) (by decide +kernel)) (goodIn_sub (fun _ h => List.mem_append_left _ (List.mem_append_right _ h)) (by decide +kernel))
set_option maxRecDepth 20000 in
theorem gL_law_L_seen : GoodIn wsL_law (va_wsS RL 137 yL_seen wsL_seen) := goodIn_app (goodIn_of _ (by decide +kernel)) ggL_law_L_seen
set_option maxRecDepth 20000 in
theorem ggL_law_X8_seen : GoodIn wsL_law wsX8_seen := goodIn_r _ [590, 115, 591, 592, 593, 5, 594, 114, 108, 523, 524, 525, 526, 113, 126, 109, 116, 117, 111, 112, 125, 104, 106, 107, 527, 528, 529, 530, 110, 228, 229, 230, 403, 404, 405, 406, 152, 153, 154, 155, 156, 742, 743, 744, 745, 746, 747, 748, 749, 750, 751, 752, 753, 754, 755, 756, 757, 758, 759, 760, 761, 762, 763] (by decide +kernel) (by decide +kernel)
set_option maxRecDepth 20000 in
theorem gL_law_X8_seen : GoodIn wsL_law (wsV RL 139 RX8 yX8_seen wsX8_seen) := goodIn_app (goodIn_of _ (by decide +kernel)) ggL_law_X8_seen
set_option maxRecDepth 20000 in
theorem ggL_law_L_seenTagged : GoodIn wsL_law wsL_seenTagged := goodIn_ca (goodIn_r _ [597, 176, 598, 599, 600, 2, 601, 29, 394, 395, 396, 397, 185, 186, 20, 241, 242, 243, 19, 244, 147, 430, 431, 432, 433, 34, 28, 16, 142, 33, 434, 435, 436, 27, 437, 63, 65, 66, 67, 438, 439, 440, 62, 441, 442, 72, 443, 280, 281, 43, 282, 50, 283, 284, 285, 286, 444, 445, 289, 290, 291, 44, 292, 293, 294, 295, 446, 447, 448, 449, 450, 451, 452, 453, 454, 455, 456, 303, 304, 457, 458, 459, 460, 305, 306, 461, 462, 463, 464, 465, 466, 467, 15, 468, 87, 469, 470, 471, 472, 85, 473, 474, 475, 476, 86, 96, 97, 307, 308, 477, 478, 479, 480, 253, 254, 255, 309, 310, 481, 482, 483, 484, 485, 486, 487, 488, 489, 490, 491, 492, 493, 494, 495, 496, 497, 498, 499, 500, 501, 502, 503, 504, 505, 506, 507, 32, 508, 509, 538, 539, 540, 541, 514, 734, 735, 736, 737, 738, 739, 740, 741, 768, 769, 771, 772, 773, 774, 782, 783, 784, 785, 786, 781, 764, 765, 766, 767, 775, 776, 777, 778, 779, 780] (by decide +kernel) (by decide +kernel)) (goodIn_sub (fun _ h => List.mem_append_left _ (List.mem_append_right _ h)) (by decide +kernel))
set_option maxRecDepth 20000 in
theorem gL_law_L_seenTagged : GoodIn wsL_law (va_wsS RL 140 yL_seenTagged wsL_seenTagged) := goodIn_app (goodIn_of _ (by decide +kernel)) ggL_law_L_seenTagged
set_option maxRecDepth 20000 in
theorem ggL_law_X8_seenTagged : GoodIn wsL_law wsX8_seenTagged := goodIn_r _ [605, 116, 591, 592, 593, 5, 594, 114, 108, 523, 524, 525, 526, 113, 126, 109, 115, 117, 111, 112, 125, 104, 106, 107, 527, 528, 529, 530, 110, 228, 229, 230, 403, 404, 405, 406, 152, 153, 154, 155, 156, 742, 743, 744, 745, 746, 747, 748, 749, 750, 751, 752, 753, 754, 755, 756, 757, 758, 759, 760, 761, 762, 763] (by decide +kernel) (by decide +kernel)
set_option maxRecDepth 20000 in
theorem gL_law_X8_seenTagged : GoodIn wsL_law (wsV RL 142 RX8 yX8_seenTagged wsX8_seenTagged) := goodIn_app (goodIn_of _ (by decide +kernel)) ggL_law_X8_seenTagged
set_option maxRecDepth 20000 in
theorem ggL_law_X7_differing : GoodIn wsL_law wsX7_differing := goodIn_r _ [609, 20, 430, 431, 432, 2, 433, 34, 28, 16, 29, 142, 33, 434, 435, 436, 27, 437, 63, 65, 66, 67, 438, 439, 440, 62, 441, 442, 72, 443, 280, 281, 43, 282, 50, 283, 284, 285, 286, 444, 242, 243, 19, 244, 147, 445, 289, 290, 291, 44, 292, 293, 294, 295, 446, 447, 448, 449, 450, 451, 452, 453, 454, 455, 456, 303, 304, 457, 458, 459, 460, 305, 306, 461, 462, 463, 464, 465, 466, 467, 15, 468, 87, 469, 470, 471, 472, 85, 473, 474, 475, 476, 86, 96, 97, 307, 308, 477, 478, 479, 480, 253, 254, 255, 309, 310, 481, 482, 483, 484, 485, 486, 487, 488, 489, 490, 491, 492, 493, 494, 495, 496, 497, 498, 499, 500, 501, 502, 503, 504, 505, 506, 507, 32, 508, 509, 241, 610, 611, 612, 613, 510, 511, 512, 513, 514, 538, 539, 540, 541, 734, 735, 736, 737, 738, 739, 740, 741, 771, 772, 773, 774, 782, 783, 784, 785, 786, 781, 768, 769, 764, 765, 766, 767, 775, 776, 777, 778, 779, 780] (by decide +kernel) (by decide +kernel)
set_option maxRecDepth 20000 in
theorem gL_law_X7_differing : GoodIn wsL_law (wsV RL 143 RX7 yX7_differing wsX7_differing) := goodIn_app (goodIn_of _ (by decide +kernel)) ggL_law_X7_differing
set_option maxRecDepth 20000 in
theorem ggL_law_X8_differing : GoodIn wsL_law wsX8_differing := goodIn_r _ [617, 156, 126, 618, 619, 620, 5, 621, 118, 115, 119, 116, 591, 592, 593, 594, 114, 108, 523, 524, 525, 526, 113, 109, 117, 111, 112, 125, 104, 106, 107, 527, 528, 529, 530, 110, 228, 229, 230, 519, 520, 521, 522, 622, 623, 624, 625, 742, 743, 744, 745, 746, 747, 748, 749, 750, 751, 752, 753, 754, 755, 756, 757, 758, 759, 760, 761, 762, 763] (by decide +kernel) (by decide +kernel)
set_option maxRecDepth 20000 in
theorem gL_law_X8_differing : GoodIn wsL_law (wsV RL 147 RX8 yX8_differing wsX8_differing) := goodIn_app (goodIn_of _ (by decide +kernel)) ggL_law_X8_differing
set_option maxRecDepth 20000 in
theorem ggL_law_L_differencesAt : GoodIn wsL_law wsL_differencesAt := goodIn_ca (goodIn_r _ [628, 176, 629, 630, 631, 2, 632, 20, 181, 182, 183, 184, 185, 186, 16, 165, 166, 167, 15, 168, 84, 430, 431, 432, 433, 34, 28, 29, 142, 33, 434, 435, 436, 27, 437, 63, 65, 66, 67, 438, 439, 440, 62, 441, 442, 72, 443, 280, 281, 43, 282, 50, 283, 284, 285, 286, 444, 242, 243, 19, 244, 147, 445, 289, 290, 291, 44, 292, 293, 294, 295, 446, 447, 448, 449, 450, 451, 452, 453, 454, 455, 456, 303, 304, 457, 458, 459, 460, 305, 306, 461, 462, 463, 464, 465, 466, 467, 468, 87, 469, 470, 471, 472, 85, 473, 474, 475, 476, 86, 96, 97, 307, 308, 477, 478, 479, 480, 253, 254, 255, 309, 310, 481, 482, 483, 484, 485, 486, 487, 488, 489, 490, 491, 492, 493, 494, 495, 496, 497, 498, 499, 500, 501, 502, 503, 504, 505, 506, 507, 32, 508, 509, 241, 610, 611, 612, 613, 510, 511, 512, 513, 514, 538, 539, 540, 541, 734, 735, 736, 737, 738, 739, 740, 741, 764, 765, 766, 767, 771, 772, 773, 774, 782, 783, 784, 785, 786, 781, 768, 769, 775, 776, 777, 778, 779, 780] (by decide +kernel) (by decide +kernel)) (goodIn_sub (fun _ h => List.mem_append_left _ (List.mem_append_right _ h)) (by decide +kernel))
set_option maxRecDepth 20000 in
theorem gL_law_L_differencesAt : GoodIn wsL_law (va_wsS RL 148 yL_differencesAt wsL_differencesAt) := goodIn_app (goodIn_of _ (by decide +kernel)) ggL_law_L_differencesAt
set_option maxRecDepth 20000 in
theorem ggL_law_X8_differencesAt : GoodIn wsL_law wsX8_differencesAt := goodIn_r _ [636, 126, 115, 118, 116, 119, 195, 196, 197, 5, 198, 125, 152, 153, 154, 155, 156, 618, 619, 620, 621, 591, 592, 593, 594, 114, 108, 523, 524, 525, 526, 113, 109, 117, 111, 112, 104, 106, 107, 527, 528, 529, 530, 110, 228, 229, 230, 519, 520, 521, 522, 742, 743, 744, 745, 746, 747, 748, 749, 750, 751, 752, 753, 754, 755, 756, 757, 758, 759, 760, 761, 762, 763] (by decide +kernel) (by decide +kernel)
set_option maxRecDepth 20000 in
theorem gL_law_X8_differencesAt : GoodIn wsL_law (wsV RL 150 RX8 yX8_differencesAt wsX8_differencesAt) := goodIn_app (goodIn_of _ (by decide +kernel)) ggL_law_X8_differencesAt
set_option maxRecDepth 20000 in
theorem ggL_law_X7_blame : GoodIn wsL_law wsX7_blame := goodIn_r _ [640, 33, 16, 20, 29, 430, 431, 432, 2, 433, 34, 28, 142, 434, 435, 436, 27, 437, 63, 65, 66, 67, 438, 439, 440, 62, 441, 442, 72, 443, 280, 281, 43, 282, 50, 283, 284, 285, 286, 444, 242, 243, 19, 244, 147, 445, 289, 290, 291, 44, 292, 293, 294, 295, 446, 447, 448, 449, 450, 451, 452, 453, 454, 455, 456, 303, 304, 457, 458, 459, 460, 305, 306, 461, 462, 463, 464, 465, 466, 467, 15, 468, 87, 469, 470, 471, 472, 85, 473, 474, 475, 476, 86, 96, 97, 307, 308, 477, 478, 479, 480, 253, 254, 255, 309, 310, 481, 482, 483, 484, 485, 486, 487, 488, 489, 490, 491, 492, 493, 494, 495, 496, 497, 498, 499, 500, 501, 502, 503, 504, 505, 506, 507, 32, 508, 509, 641, 642, 643, 644, 645, 646, 647, 648, 649, 650, 651, 652, 653, 654, 79, 655, 656, 657, 658, 659, 660, 511, 512, 513, 514, 661, 662, 539, 540, 541, 663, 664, 665, 666, 667, 668, 669, 670, 671, 672, 673, 166, 167, 168, 84, 674, 675, 676, 677, 678, 679, 680, 681, 682, 683, 684, 734, 735, 736, 737, 738, 739, 740, 741, 771, 772, 773, 774, 782, 783, 784, 785, 786, 781, 768, 769, 764, 765, 766, 767, 775, 776, 777, 778, 779, 780] (by decide +kernel) (by decide +kernel)
set_option maxRecDepth 20000 in
theorem gL_law_X7_blame : GoodIn wsL_law (wsV RL 151 RX7 yX7_blame wsX7_blame) := goodIn_app (goodIn_of _ (by decide +kernel)) ggL_law_X7_blame
set_option maxRecDepth 20000 in
theorem ggL_law_X8_blame : GoodIn wsL_law wsX8_blame := goodIn_r _ [688, 156, 689, 690, 691, 5, 692, 693, 125, 618, 619, 620, 621, 126, 118, 115, 119, 116, 591, 592, 593, 594, 114, 108, 523, 524, 525, 526, 113, 109, 117, 111, 112, 104, 106, 107, 527, 528, 529, 530, 110, 228, 229, 230, 519, 520, 521, 522, 694, 695, 696, 697, 622, 623, 624, 625, 698, 699, 700, 701, 702, 703, 742, 743, 744, 745, 746, 747, 748, 749, 750, 751, 752, 753, 754, 755, 756, 757, 758, 759, 760, 761, 762, 763] (by decide +kernel) (by decide +kernel)
set_option maxRecDepth 20000 in
theorem gL_law_X8_blame : GoodIn wsL_law (wsV RL 154 RX8 yX8_blame wsX8_blame) := goodIn_app (goodIn_of _ (by decide +kernel)) ggL_law_X8_blame
set_option maxRecDepth 20000 in
theorem ggL_law_L_blamed : GoodIn wsL_law wsL_blamed := goodIn_ca (goodIn_r _ [706, 176, 707, 708, 709, 2, 710, 185, 186, 33, 16, 20, 29, 430, 431, 432, 433, 34, 28, 142, 434, 435, 436, 27, 437, 63, 65, 66, 67, 438, 439, 440, 62, 441, 442, 72, 443, 280, 281, 43, 282, 50, 283, 284, 285, 286, 444, 242, 243, 19, 244, 147, 445, 289, 290, 291, 44, 292, 293, 294, 295, 446, 447, 448, 449, 450, 451, 452, 453, 454, 455, 456, 303, 304, 457, 458, 459, 460, 305, 306, 461, 462, 463, 464, 465, 466, 467, 15, 468, 87, 469, 470, 471, 472, 85, 473, 474, 475, 476, 86, 96, 97, 307, 308, 477, 478, 479, 480, 253, 254, 255, 309, 310, 481, 482, 483, 484, 485, 486, 487, 488, 489, 490, 491, 492, 493, 494, 495, 496, 497, 498, 499, 500, 501, 502, 503, 504, 505, 506, 507, 32, 508, 509, 641, 642, 643, 644, 645, 646, 647, 648, 649, 650, 651, 652, 653, 654, 79, 655, 656, 657, 658, 659, 660, 511, 512, 513, 514, 661, 662, 539, 540, 541, 663, 664, 665, 666, 667, 668, 669, 670, 671, 672, 673, 166, 167, 168, 84, 674, 675, 676, 677, 678, 679, 680, 681, 682, 683, 684, 711, 712, 713, 714, 715, 716, 717, 734, 735, 736, 737, 738, 739, 740, 741, 771, 772, 773, 774, 782, 783, 784, 785, 786, 781, 768, 769, 764, 765, 766, 767, 775, 776, 777, 778, 779, 780] (by decide +kernel) (by decide +kernel)) (goodIn_sub (fun _ h => List.mem_append_left _ (List.mem_append_right _ h)) (by decide +kernel))
set_option maxRecDepth 20000 in
theorem gL_law_L_blamed : GoodIn wsL_law (va_wsS RL 155 yL_blamed wsL_blamed) := goodIn_app (goodIn_of _ (by decide +kernel)) ggL_law_L_blamed
set_option maxRecDepth 20000 in
theorem ggL_law_X8_blamed : GoodIn wsL_law wsX8_blamed := goodIn_r _ [721, 702, 703, 689, 690, 691, 5, 692, 693, 125, 618, 619, 620, 621, 126, 118, 115, 119, 116, 591, 592, 593, 594, 114, 108, 523, 524, 525, 526, 113, 109, 117, 111, 112, 104, 106, 107, 527, 528, 529, 530, 110, 228, 229, 230, 519, 520, 521, 522, 694, 695, 696, 697, 622, 623, 624, 625, 698, 699, 700, 701, 152, 153, 154, 155, 156, 742, 743, 744, 745, 746, 747, 748, 749, 750, 751, 752, 753, 754, 755, 756, 757, 758, 759, 760, 761, 762, 763] (by decide +kernel) (by decide +kernel)
set_option maxRecDepth 20000 in
theorem gL_law_X8_blamed : GoodIn wsL_law (wsV RL 157 RX8 yX8_blamed wsX8_blamed) := goodIn_app (goodIn_of _ (by decide +kernel)) ggL_law_X8_blamed
set_option maxRecDepth 20000 in
theorem ggL_law_X7_explanations : GoodIn wsL_law wsX7_explanations := goodIn_r _ [725, 33, 16, 20, 29, 430, 431, 432, 2, 433, 34, 28, 142, 434, 435, 436, 27, 437, 63, 65, 66, 67, 438, 439, 440, 62, 441, 442, 72, 443, 280, 281, 43, 282, 50, 283, 284, 285, 286, 444, 242, 243, 19, 244, 147, 445, 289, 290, 291, 44, 292, 293, 294, 295, 446, 447, 448, 449, 450, 451, 452, 453, 454, 455, 456, 303, 304, 457, 458, 459, 460, 305, 306, 461, 462, 463, 464, 465, 466, 467, 15, 468, 87, 469, 470, 471, 472, 85, 473, 474, 475, 476, 86, 96, 97, 307, 308, 477, 478, 479, 480, 253, 254, 255, 309, 310, 481, 482, 483, 484, 485, 486, 487, 488, 489, 490, 491, 492, 493, 494, 495, 496, 497, 498, 499, 500, 501, 502, 503, 504, 505, 506, 507, 32, 508, 509, 641, 642, 643, 644, 645, 646, 647, 648, 649, 650, 651, 652, 653, 654, 79, 655, 656, 657, 658, 659, 660, 511, 512, 513, 514, 661, 662, 539, 540, 541, 663, 664, 665, 666, 667, 668, 669, 670, 671, 672, 673, 166, 167, 168, 84, 674, 675, 676, 677, 678, 679, 680, 726, 727, 728, 729, 734, 735, 736, 737, 738, 739, 740, 741, 771, 772, 773, 774, 782, 783, 784, 785, 786, 781, 768, 769, 764, 765, 766, 767, 775, 776, 777, 778, 779, 780] (by decide +kernel) (by decide +kernel)
set_option maxRecDepth 20000 in
theorem gL_law_X7_explanations : GoodIn wsL_law (wsV RL 158 RX7 yX7_explanations wsX7_explanations) := goodIn_app (goodIn_of _ (by decide +kernel)) ggL_law_X7_explanations
set_option maxRecDepth 20000 in
theorem ggL_law_X8_explanations : GoodIn wsL_law wsX8_explanations := goodIn_r _ [733, 156, 693, 689, 690, 691, 5, 692, 125, 618, 619, 620, 621, 126, 118, 115, 119, 116, 591, 592, 593, 594, 114, 108, 523, 524, 525, 526, 113, 109, 117, 111, 112, 104, 106, 107, 527, 528, 529, 530, 110, 228, 229, 230, 519, 520, 521, 522, 694, 695, 696, 697, 622, 623, 624, 625, 698, 699, 700, 701, 702, 703, 742, 743, 744, 745, 746, 747, 748, 749, 750, 751, 752, 753, 754, 755, 756, 757, 758, 759, 760, 761, 762, 763] (by decide +kernel) (by decide +kernel)
set_option maxRecDepth 20000 in
theorem gL_law_X8_explanations : GoodIn wsL_law (wsV RL 161 RX8 yX8_explanations wsX8_explanations) := goodIn_app (goodIn_of _ (by decide +kernel)) ggL_law_X8_explanations
