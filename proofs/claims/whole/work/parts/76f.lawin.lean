set_option maxRecDepth 20000 in
theorem ggL_law_L_addWord : GoodIn wsL_law wsL_addWord := goodIn_ca (goodIn_r _ [299, 79, 300, 301, 302, 2, 303, 84, 85, 20, 304, 305, 306, 307, 19, 308, 43, 46, 47, 112, 113, 726, 727, 728, 753, 754, 755, 756, 757, 758] (by decide +kernel) (by decide +kernel)) (goodIn_sub (fun _ h => List.mem_append_left _ (List.mem_append_left _ (List.mem_append_right _ h))) (by decide +kernel))
set_option maxRecDepth 20000 in
theorem gL_law_L_addWord : GoodIn wsL_law (va_wsS RL 112 yL_addWord wsL_addWord) := goodIn_app (goodIn_of _ (by decide +kernel)) ggL_law_L_addWord
set_option maxRecDepth 20000 in
theorem ggL_law_X4_addWord : GoodIn wsL_law wsX4_addWord := goodIn_r _ [312, 266, 68, 69, 142, 143, 144, 5, 145, 146, 729, 730, 731, 732, 733, 734, 735, 736, 737, 738, 739, 740, 741, 742, 743] (by decide +kernel) (by decide +kernel)
set_option maxRecDepth 20000 in
theorem gL_law_X4_addWord : GoodIn wsL_law (wsV RL 114 RX4 yX4_addWord wsX4_addWord) := goodIn_app (goodIn_of _ (by decide +kernel)) ggL_law_X4_addWord
set_option maxRecDepth 20000 in
theorem ggL_law_L_give : GoodIn wsL_law wsL_give := goodIn_ca (goodIn_ca (goodIn_r _ [315, 154, 79, 316, 317, 318, 2, 319, 84, 85, 20, 320, 321, 322, 323, 163, 164, 324, 325, 326, 19, 327, 43, 159, 160, 161, 162, 16, 165, 102, 103, 15, 104, 30, 105, 106, 107, 91, 92, 328, 242, 243, 244, 245, 246, 247, 248, 46, 45, 118, 119, 329, 330, 331, 332, 333, 334, 335, 336, 112, 113, 726, 727, 728, 753, 754, 755, 756, 757, 758, 744, 745, 746, 747, 748, 749, 750, 751, 752] (by decide +kernel) (by decide +kernel)) (goodIn_sub (fun _ h => List.mem_append_left _ (List.mem_append_left _ (List.mem_append_right _ h))) (by decide +kernel))) (goodIn_sub (fun _ h => List.mem_append_left _ (List.mem_append_right _ h)) (by decide +kernel))
set_option maxRecDepth 20000 in
theorem gL_law_L_give : GoodIn wsL_law (va_wsS RL 115 yL_give wsL_give) := goodIn_app (goodIn_of _ (by decide +kernel)) ggL_law_L_give
set_option maxRecDepth 20000 in
theorem ggL_law_X4_give : GoodIn wsL_law wsX4_give := goodIn_r _ [340, 68, 67, 341, 342, 343, 5, 344, 266, 198, 199, 200, 194, 195, 196, 197, 141, 201, 202, 203, 267, 268, 269, 270, 142, 143, 144, 145, 146, 729, 730, 731, 732, 733, 734, 735, 736, 737, 738, 739, 740, 741, 742, 743] (by decide +kernel) (by decide +kernel)
set_option maxRecDepth 20000 in
theorem gL_law_X4_give : GoodIn wsL_law (wsV RL 117 RX4 yX4_give wsX4_give) := goodIn_app (goodIn_of _ (by decide +kernel)) ggL_law_X4_give
set_option maxRecDepth 20000 in
theorem ggL_law_L_take : GoodIn wsL_law wsL_take := goodIn_ca (goodIn_ca (goodIn_r _ [347, 154, 79, 348, 349, 350, 2, 351, 84, 85, 20, 320, 321, 322, 323, 163, 164, 324, 325, 326, 19, 327, 43, 159, 160, 161, 162, 16, 165, 102, 103, 15, 104, 30, 105, 106, 107, 91, 92, 328, 242, 243, 244, 245, 246, 247, 248, 46, 45, 118, 119, 329, 330, 331, 332, 352, 353, 354, 355, 44, 48, 356, 357, 358, 359, 47, 112, 113, 726, 727, 728, 753, 754, 755, 756, 757, 758, 744, 745, 746, 747, 748, 749, 750, 751, 752] (by decide +kernel) (by decide +kernel)) (goodIn_sub (fun _ h => List.mem_append_left _ (List.mem_append_left _ (List.mem_append_right _ h))) (by decide +kernel))) (goodIn_sub (fun _ h => List.mem_append_left _ (List.mem_append_right _ h)) (by decide +kernel))
set_option maxRecDepth 20000 in
theorem gL_law_L_take : GoodIn wsL_law (va_wsS RL 118 yL_take wsL_take) := goodIn_app (goodIn_of _ (by decide +kernel)) ggL_law_L_take
set_option maxRecDepth 20000 in
theorem ggL_law_X4_take : GoodIn wsL_law wsX4_take := goodIn_r _ [363, 68, 67, 69, 341, 342, 343, 5, 344, 266, 198, 199, 200, 194, 195, 196, 197, 141, 201, 202, 203, 267, 268, 269, 270, 364, 365, 366, 367, 368, 70, 142, 143, 144, 145, 146, 729, 730, 731, 732, 733, 734, 735, 736, 737, 738, 739, 740, 741, 742, 743] (by decide +kernel) (by decide +kernel)
set_option maxRecDepth 20000 in
theorem gL_law_X4_take : GoodIn wsL_law (wsV RL 120 RX4 yX4_take wsX4_take) := goodIn_app (goodIn_of _ (by decide +kernel)) ggL_law_X4_take
set_option maxRecDepth 20000 in
theorem ggL_law_L_lock : GoodIn wsL_law wsL_lock := goodIn_ca (goodIn_ca (goodIn_r _ [371, 154, 79, 372, 373, 374, 2, 375, 84, 85, 20, 320, 321, 322, 323, 163, 164, 324, 325, 326, 19, 327, 43, 328, 242, 243, 244, 245, 246, 247, 248, 46, 45, 118, 119, 376, 377, 378, 379, 47, 112, 113, 726, 727, 728, 753, 754, 755, 756, 757, 758] (by decide +kernel) (by decide +kernel)) (goodIn_sub (fun _ h => List.mem_append_left _ (List.mem_append_left _ (List.mem_append_right _ h))) (by decide +kernel))) (goodIn_sub (fun _ h => List.mem_append_left _ (List.mem_append_right _ h)) (by decide +kernel))
