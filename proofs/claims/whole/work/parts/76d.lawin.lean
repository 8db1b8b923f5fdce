set_option maxRecDepth 20000 in
theorem ggL_law_X3_init : GoodIn wsL_law wsX3_init := goodIn_r _ [9, 10, 11, 12, 13, 14, 15, 16, 17, 18, 19, 20, 21, 22, 23, 24, 25, 26, 27, 28, 29, 30, 31, 32, 33, 34, 35, 36, 37, 38, 39, 40, 41, 42, 43, 44, 45, 46, 47, 48, 49, 50, 51, 52, 53, 54, 55, 56, 57, 58, 59, 60, 744, 745, 746, 747, 748, 749, 750, 751, 752, 726, 727, 728, 753, 754, 755, 756, 757, 758, 759, 760, 761, 762, 763, 764, 765, 766] (by decide +kernel) (by decide +kernel)
set_option maxRecDepth 20000 in
theorem gL_law_X3_init : GoodIn wsL_law (wsX3_init) := ggL_law_X3_init
set_option maxRecDepth 20000 in
theorem ggL_law_X4_init : GoodIn wsL_law wsX4_init := goodIn_r _ [63, 64, 11, 12, 31, 65, 66, 67, 68, 69, 70, 71, 72, 73, 74, 729, 730, 731, 732, 733, 734, 735, 736, 737, 738, 739, 740, 741, 742, 743] (by decide +kernel) (by decide +kernel)
set_option maxRecDepth 20000 in
theorem gL_law_X4_init : GoodIn wsL_law (wsX4_init) := ggL_law_X4_init
set_option maxRecDepth 20000 in
theorem ggL_law_L_addSense : GoodIn wsL_law wsL_addSense := goodIn_ca (goodIn_r _ [78, 79, 80, 81, 82, 2, 83, 84, 85, 16, 86, 87, 88, 89, 15, 90, 29, 30, 91, 92, 93, 94, 95, 96, 97, 98, 99, 100, 34, 36, 101, 102, 103, 104, 105, 106, 107, 108, 109, 110, 111, 37, 112, 113, 114, 115, 116, 117, 32, 118, 119, 120, 121, 122, 123, 124, 125, 126, 127, 35, 128, 129, 130, 131, 132, 133, 134, 135, 33, 726, 727, 728, 744, 745, 746, 747, 748, 749, 750, 751, 752] (by decide +kernel) (by decide +kernel)) (goodIn_sub (fun _ h => List.mem_append_left _ (List.mem_append_left _ (List.mem_append_right _ h))) (by decide +kernel))
set_option maxRecDepth 20000 in
theorem gL_law_L_addSense : GoodIn wsL_law (va_wsS RL 89 yL_addSense wsL_addSense) := goodIn_app (goodIn_of _ (by decide +kernel)) ggL_law_L_addSense
set_option maxRecDepth 20000 in
theorem ggL_law_X4_addSense : GoodIn wsL_law wsX4_addSense := goodIn_r _ [139, 140, 141, 65, 66, 142, 143, 144, 5, 145, 146, 729, 730, 731, 732, 733, 734, 735, 736, 737, 738, 739, 740, 741, 742, 743] (by decide +kernel) (by decide +kernel)
set_option maxRecDepth 20000 in
theorem gL_law_X4_addSense : GoodIn wsL_law (wsV RL 94 RX4 yX4_addSense wsX4_addSense) := goodIn_app (goodIn_of _ (by decide +kernel)) ggL_law_X4_addSense
set_option maxRecDepth 20000 in
theorem ggL_law_X4_thrown : GoodIn wsL_law wsX4_thrown := goodIn_r _ [150, 146, 729, 730, 731, 732, 733, 734, 735, 736, 737, 738, 739, 740, 741, 742, 743] (by decide +kernel) (by decide +kernel)
set_option maxRecDepth 20000 in
theorem gL_law_X4_thrown : GoodIn wsL_law (wsV RL 95 RX4 yX4_thrown wsX4_thrown) := goodIn_app (goodIn_of _ (by decide +kernel)) ggL_law_X4_thrown
set_option maxRecDepth 20000 in
theorem ggL_law_L_link : GoodIn wsL_law wsL_link := goodIn_ca (goodIn_ca (goodIn_r _ [153, 154, 79, 155, 156, 157, 2, 158, 84, 85, 16, 159, 160, 161, 162, 163, 164, 165, 102, 103, 15, 104, 30, 105, 106, 107, 91, 92, 166, 167, 168, 169, 32, 118, 119, 170, 171, 172, 173, 174, 175, 176, 177, 178, 179, 180, 181, 182, 183, 184, 34, 185, 186, 187, 188, 112, 113, 93, 94, 95, 96, 97, 98, 99, 100, 36, 101, 108, 109, 110, 111, 37, 114, 115, 116, 117, 120, 121, 122, 123, 124, 125, 126, 127, 35, 128, 129, 130, 131, 132, 133, 134, 135, 33, 189, 726, 727, 728, 744, 745, 746, 747, 748, 749, 750, 751, 752] (by decide +kernel) (by decide +kernel)) (goodIn_sub (fun _ h => List.mem_append_left _ (List.mem_append_left _ (List.mem_append_right _ h))) (by decide +kernel))) (goodIn_sub (fun _ h => List.mem_append_left _ (List.mem_append_right _ h)) (by decide +kernel))
set_option maxRecDepth 20000 in
theorem gL_law_L_link : GoodIn wsL_law (va_wsS RL 98 yL_link wsL_link) := goodIn_app (goodIn_of _ (by decide +kernel)) ggL_law_L_link
set_option maxRecDepth 20000 in
theorem ggL_law_X4_link : GoodIn wsL_law wsX4_link := goodIn_r _ [193, 65, 194, 195, 196, 5, 197, 141, 198, 199, 200, 201, 202, 203, 204, 205, 206, 207, 208, 209, 210, 71, 211, 212, 213, 214, 142, 143, 144, 145, 146, 729, 730, 731, 732, 733, 734, 735, 736, 737, 738, 739, 740, 741, 742, 743] (by decide +kernel) (by decide +kernel)
