set_option maxRecDepth 20000 in
theorem gL_law_X4_senses : GoodIn wsL_law (wsV RL 134 RX4 yX4_senses wsX4_senses) := goodIn_app (goodIn_of _ (by decide +kernel)) ggL_law_X4_senses
set_option maxRecDepth 20000 in
theorem ggL_law_L_parents : GoodIn wsL_law wsL_parents := goodIn_ca (goodIn_r _ [423, 154, 424, 425, 426, 2, 427, 16, 159, 160, 161, 162, 163, 164, 165, 102, 103, 15, 104, 30, 105, 106, 107, 91, 92, 428, 429, 430, 431, 32, 118, 119, 726, 727, 728, 744, 745, 746, 747, 748, 749, 750, 751, 752] (by decide +kernel) (by decide +kernel)) (goodIn_sub (fun _ h => List.mem_append_left _ (List.mem_append_right _ h)) (by decide +kernel))
set_option maxRecDepth 20000 in
theorem gL_law_L_parents : GoodIn wsL_law (va_wsS RL 135 yL_parents wsL_parents) := goodIn_app (goodIn_of _ (by decide +kernel)) ggL_law_L_parents
set_option maxRecDepth 20000 in
theorem ggL_law_X4_parents : GoodIn wsL_law wsX4_parents := goodIn_r _ [435, 65, 194, 195, 196, 5, 197, 141, 198, 199, 200, 201, 202, 203, 142, 143, 144, 145, 146, 729, 730, 731, 732, 733, 734, 735, 736, 737, 738, 739, 740, 741, 742, 743] (by decide +kernel) (by decide +kernel)
set_option maxRecDepth 20000 in
theorem gL_law_X4_parents : GoodIn wsL_law (wsV RL 137 RX4 yX4_parents wsX4_parents) := goodIn_app (goodIn_of _ (by decide +kernel)) ggL_law_X4_parents
set_option maxRecDepth 20000 in
theorem ggL_law_L_above : GoodIn wsL_law wsL_above := goodIn_ca (goodIn_r _ [438, 154, 439, 440, 441, 2, 442, 16, 159, 160, 161, 162, 163, 164, 165, 102, 103, 15, 104, 30, 105, 106, 107, 91, 92, 443, 444, 445, 446, 34, 118, 119, 726, 727, 728, 744, 745, 746, 747, 748, 749, 750, 751, 752] (by decide +kernel) (by decide +kernel)) (goodIn_sub (fun _ h => List.mem_append_left _ (List.mem_append_right _ h)) (by decide +kernel))
set_option maxRecDepth 20000 in
theorem gL_law_L_above : GoodIn wsL_law (va_wsS RL 138 yL_above wsL_above) := goodIn_app (goodIn_of _ (by decide +kernel)) ggL_law_L_above
set_option maxRecDepth 20000 in
theorem ggL_law_X4_above : GoodIn wsL_law wsX4_above := goodIn_r _ [450, 194, 195, 196, 5, 197, 141, 198, 199, 200, 201, 202, 203, 142, 143, 144, 145, 146, 207, 208, 209, 210, 71, 65, 211, 212, 213, 214, 729, 730, 731, 732, 733, 734, 735, 736, 737, 738, 739, 740, 741, 742, 743] (by decide +kernel) (by decide +kernel)
set_option maxRecDepth 20000 in
theorem gL_law_X4_above : GoodIn wsL_law (wsV RL 140 RX4 yX4_above wsX4_above) := goodIn_app (goodIn_of _ (by decide +kernel)) ggL_law_X4_above
set_option maxRecDepth 20000 in
theorem ggL_law_L_below : GoodIn wsL_law wsL_below := goodIn_ca (goodIn_r _ [453, 154, 454, 455, 456, 2, 457, 16, 159, 160, 161, 162, 163, 164, 165, 102, 103, 15, 104, 30, 105, 106, 107, 91, 92, 458, 129, 130, 131, 34, 118, 119, 726, 727, 728, 744, 745, 746, 747, 748, 749, 750, 751, 752] (by decide +kernel) (by decide +kernel)) (goodIn_sub (fun _ h => List.mem_append_left _ (List.mem_append_right _ h)) (by decide +kernel))
set_option maxRecDepth 20000 in
theorem gL_law_L_below : GoodIn wsL_law (va_wsS RL 141 yL_below wsL_below) := goodIn_app (goodIn_of _ (by decide +kernel)) ggL_law_L_below
set_option maxRecDepth 20000 in
theorem ggL_law_X4_below : GoodIn wsL_law wsX4_below := goodIn_r _ [462, 194, 195, 196, 5, 197, 141, 198, 199, 200, 201, 202, 203, 142, 143, 144, 145, 146, 207, 208, 209, 210, 71, 65, 211, 212, 213, 214, 729, 730, 731, 732, 733, 734, 735, 736, 737, 738, 739, 740, 741, 742, 743] (by decide +kernel) (by decide +kernel)
set_option maxRecDepth 20000 in
theorem gL_law_X4_below : GoodIn wsL_law (wsV RL 143 RX4 yX4_below wsX4_below) := goodIn_app (goodIn_of _ (by decide +kernel)) ggL_law_X4_below
