set_option maxRecDepth 20000 in
theorem gL_law_L_lock : GoodIn wsL_law (va_wsS RL 121 yL_lock wsL_lock) := goodIn_app (goodIn_of _ (by decide +kernel)) ggL_law_L_lock
set_option maxRecDepth 20000 in
theorem ggL_law_X4_lock : GoodIn wsL_law wsX4_lock := goodIn_r _ [383, 69, 341, 342, 343, 5, 344, 266, 198, 199, 200, 267, 268, 269, 270, 68, 67, 142, 143, 144, 145, 146, 729, 730, 731, 732, 733, 734, 735, 736, 737, 738, 739, 740, 741, 742, 743] (by decide +kernel) (by decide +kernel)
set_option maxRecDepth 20000 in
theorem gL_law_X4_lock : GoodIn wsL_law (wsV RL 123 RX4 yX4_lock wsX4_lock) := goodIn_app (goodIn_of _ (by decide +kernel)) ggL_law_X4_lock
set_option maxRecDepth 20000 in
theorem ggL_law_L_say : GoodIn wsL_law wsL_say := goodIn_ca (goodIn_ca (goodIn_r _ [386, 154, 79, 387, 388, 389, 2, 390, 84, 85, 20, 391, 320, 321, 322, 323, 163, 164, 324, 325, 326, 19, 327, 43, 329, 330, 331, 332, 46, 118, 119, 392, 393, 394, 395, 48, 44, 112, 113, 726, 727, 728, 753, 754, 755, 756, 757, 758] (by decide +kernel) (by decide +kernel)) (goodIn_sub (fun _ h => List.mem_append_left _ (List.mem_append_left _ (List.mem_append_right _ h))) (by decide +kernel))) (goodIn_sub (fun _ h => List.mem_append_left _ (List.mem_append_right _ h)) (by decide +kernel))
set_option maxRecDepth 20000 in
theorem gL_law_L_say : GoodIn wsL_law (va_wsS RL 124 yL_say wsL_say) := goodIn_app (goodIn_of _ (by decide +kernel)) ggL_law_L_say
set_option maxRecDepth 20000 in
theorem ggL_law_X4_say : GoodIn wsL_law wsX4_say := goodIn_r _ [399, 368, 68, 70, 341, 342, 343, 5, 344, 266, 198, 199, 200, 142, 143, 144, 145, 146, 729, 730, 731, 732, 733, 734, 735, 736, 737, 738, 739, 740, 741, 742, 743] (by decide +kernel) (by decide +kernel)
set_option maxRecDepth 20000 in
theorem gL_law_X4_say : GoodIn wsL_law (wsV RL 126 RX4 yX4_say wsX4_say) := goodIn_app (goodIn_of _ (by decide +kernel)) ggL_law_X4_say
set_option maxRecDepth 20000 in
theorem ggL_law_X3_hush : GoodIn wsL_law wsX3_hush := goodIn_r _ [403, 20, 404, 405, 406, 19, 407, 44, 726, 727, 728, 753, 754, 755, 756, 757, 758] (by decide +kernel) (by decide +kernel)
set_option maxRecDepth 20000 in
theorem gL_law_X3_hush : GoodIn wsL_law (wsV RL 127 RX3 yX3_hush wsX3_hush) := goodIn_app (goodIn_of _ (by decide +kernel)) ggL_law_X3_hush
set_option maxRecDepth 20000 in
theorem ggL_law_X4_hush : GoodIn wsL_law wsX4_hush := goodIn_r _ [411, 146, 368, 729, 730, 731, 732, 733, 734, 735, 736, 737, 738, 739, 740, 741, 742, 743] (by decide +kernel) (by decide +kernel)
set_option maxRecDepth 20000 in
theorem gL_law_X4_hush : GoodIn wsL_law (wsV RL 130 RX4 yX4_hush wsX4_hush) := goodIn_app (goodIn_of _ (by decide +kernel)) ggL_law_X4_hush
set_option maxRecDepth 20000 in
theorem ggL_law_X3_senses : GoodIn wsL_law wsX3_senses := goodIn_r _ [415, 16, 416, 726, 727, 728, 744, 745, 746, 747, 748, 749, 750, 751, 752] (by decide +kernel) (by decide +kernel)
set_option maxRecDepth 20000 in
theorem gL_law_X3_senses : GoodIn wsL_law (wsV RL 131 RX3 yX3_senses wsX3_senses) := goodIn_app (goodIn_of _ (by decide +kernel)) ggL_law_X3_senses
set_option maxRecDepth 20000 in
theorem ggL_law_X4_senses : GoodIn wsL_law wsX4_senses := goodIn_r _ [420, 146, 141, 729, 730, 731, 732, 733, 734, 735, 736, 737, 738, 739, 740, 741, 742, 743] (by decide +kernel) (by decide +kernel)
