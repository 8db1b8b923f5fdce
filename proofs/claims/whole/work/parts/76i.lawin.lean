set_option maxRecDepth 20000 in
theorem ggL_law_L_mass : GoodIn wsL_law wsL_mass := goodIn_ca (goodIn_r _ [465, 154, 466, 467, 468, 2, 469, 16, 159, 160, 161, 162, 163, 164, 165, 102, 103, 15, 104, 30, 105, 106, 107, 91, 92, 470, 471, 472, 473, 35, 118, 119, 726, 727, 728, 744, 745, 746, 747, 748, 749, 750, 751, 752] (by decide +kernel) (by decide +kernel)) (goodIn_sub (fun _ h => List.mem_append_left _ (List.mem_append_right _ h)) (by decide +kernel))
set_option maxRecDepth 20000 in
theorem gL_law_L_mass : GoodIn wsL_law (va_wsS RL 144 yL_mass wsL_mass) := goodIn_app (goodIn_of _ (by decide +kernel)) ggL_law_L_mass
set_option maxRecDepth 20000 in
theorem ggL_law_X4_mass : GoodIn wsL_law wsX4_mass := goodIn_r _ [477, 478, 479, 480, 5, 481, 194, 195, 196, 197, 141, 198, 199, 200, 201, 202, 203, 142, 143, 144, 145, 146, 207, 208, 209, 210, 71, 65, 482, 483, 484, 485, 66, 211, 212, 213, 214, 729, 730, 731, 732, 733, 734, 735, 736, 737, 738, 739, 740, 741, 742, 743] (by decide +kernel) (by decide +kernel)
set_option maxRecDepth 20000 in
theorem gL_law_X4_mass : GoodIn wsL_law (wsV RL 146 RX4 yX4_mass wsX4_mass) := goodIn_app (goodIn_of _ (by decide +kernel)) ggL_law_X4_mass
set_option maxRecDepth 20000 in
theorem ggL_law_L_massByWalks : GoodIn wsL_law wsL_massByWalks := goodIn_ca (goodIn_r _ [488, 154, 489, 490, 491, 2, 492, 16, 159, 160, 161, 162, 163, 164, 165, 102, 103, 15, 104, 30, 105, 106, 107, 91, 92, 493, 494, 495, 496, 38, 112, 113, 101, 497, 498, 499, 500, 33, 118, 119, 120, 121, 122, 123, 32, 726, 727, 728, 744, 745, 746, 747, 748, 749, 750, 751, 752] (by decide +kernel) (by decide +kernel)) (goodIn_sub (fun _ h => List.mem_append_left _ (List.mem_append_right _ h)) (by decide +kernel))
set_option maxRecDepth 20000 in
theorem gL_law_L_massByWalks : GoodIn wsL_law (va_wsS RL 147 yL_massByWalks wsL_massByWalks) := goodIn_app (goodIn_of _ (by decide +kernel)) ggL_law_L_massByWalks
set_option maxRecDepth 20000 in
theorem ggL_law_X4_massByWalks : GoodIn wsL_law wsX4_massByWalks := goodIn_r _ [481, 194, 195, 196, 5, 197, 141, 198, 199, 200, 201, 202, 203, 142, 143, 144, 145, 146, 207, 208, 209, 210, 71, 65, 482, 483, 484, 485, 66, 211, 212, 213, 214, 729, 730, 731, 732, 733, 734, 735, 736, 737, 738, 739, 740, 741, 742, 743] (by decide +kernel) (by decide +kernel)
set_option maxRecDepth 20000 in
theorem gL_law_X4_massByWalks : GoodIn wsL_law (wsV RL 149 RX4 yX4_massByWalks wsX4_massByWalks) := goodIn_app (goodIn_of _ (by decide +kernel)) ggL_law_X4_massByWalks
set_option maxRecDepth 20000 in
theorem ggL_law_L_depth : GoodIn wsL_law wsL_depth := goodIn_ca (goodIn_r _ [504, 154, 505, 506, 507, 2, 508, 16, 159, 160, 161, 162, 163, 164, 165, 102, 103, 15, 104, 30, 105, 106, 107, 91, 92, 509, 510, 511, 512, 36, 118, 119, 726, 727, 728, 744, 745, 746, 747, 748, 749, 750, 751, 752] (by decide +kernel) (by decide +kernel)) (goodIn_sub (fun _ h => List.mem_append_left _ (List.mem_append_right _ h)) (by decide +kernel))
set_option maxRecDepth 20000 in
theorem gL_law_L_depth : GoodIn wsL_law (va_wsS RL 150 yL_depth wsL_depth) := goodIn_app (goodIn_of _ (by decide +kernel)) ggL_law_L_depth
set_option maxRecDepth 20000 in
theorem ggL_law_X4_depth : GoodIn wsL_law wsX4_depth := goodIn_r _ [516, 194, 195, 196, 5, 197, 141, 198, 199, 200, 201, 202, 203, 142, 143, 144, 145, 146, 207, 208, 209, 210, 71, 65, 517, 518, 519, 520, 729, 730, 731, 732, 733, 734, 735, 736, 737, 738, 739, 740, 741, 742, 743] (by decide +kernel) (by decide +kernel)
set_option maxRecDepth 20000 in
theorem gL_law_X4_depth : GoodIn wsL_law (wsV RL 152 RX4 yX4_depth wsX4_depth) := goodIn_app (goodIn_of _ (by decide +kernel)) ggL_law_X4_depth
set_option maxRecDepth 20000 in
theorem ggL_law_L_shared : GoodIn wsL_law wsL_shared := goodIn_ca (goodIn_r _ [523, 154, 524, 525, 526, 2, 527, 16, 159, 160, 161, 162, 163, 164, 165, 102, 103, 15, 104, 30, 105, 106, 107, 91, 92, 528, 529, 530, 531, 34, 118, 119, 532, 533, 534, 535, 35, 36, 726, 727, 728, 744, 745, 746, 747, 748, 749, 750, 751, 752] (by decide +kernel) (by decide +kernel)) (goodIn_sub (fun _ h => List.mem_append_left _ (List.mem_append_right _ h)) (by decide +kernel))
