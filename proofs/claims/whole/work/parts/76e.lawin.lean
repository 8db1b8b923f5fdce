set_option maxRecDepth 20000 in
theorem gL_law_X4_link : GoodIn wsL_law (wsV RL 101 RX4 yX4_link wsX4_link) := goodIn_app (goodIn_of _ (by decide +kernel)) ggL_law_X4_link
set_option maxRecDepth 20000 in
theorem ggL_law_L_unlink : GoodIn wsL_law wsL_unlink := goodIn_ca (goodIn_ca (goodIn_r _ [217, 154, 79, 218, 219, 220, 2, 221, 84, 85, 16, 159, 160, 161, 162, 163, 164, 165, 102, 103, 15, 104, 30, 105, 106, 107, 91, 92, 166, 167, 168, 169, 32, 118, 119, 222, 223, 224, 225, 112, 113, 93, 94, 95, 96, 97, 98, 99, 100, 34, 36, 101, 108, 109, 110, 111, 37, 114, 115, 116, 117, 120, 121, 122, 123, 124, 125, 126, 127, 35, 128, 129, 130, 131, 132, 133, 134, 135, 33, 189, 171, 172, 173, 174, 175, 176, 177, 178, 179, 180, 726, 727, 728, 744, 745, 746, 747, 748, 749, 750, 751, 752] (by decide +kernel) (by decide +kernel)) (goodIn_sub (fun _ h => List.mem_append_left _ (List.mem_append_left _ (List.mem_append_right _ h))) (by decide +kernel))) (goodIn_sub (fun _ h => List.mem_append_left _ (List.mem_append_right _ h)) (by decide +kernel))
set_option maxRecDepth 20000 in
theorem gL_law_L_unlink : GoodIn wsL_law (va_wsS RL 102 yL_unlink wsL_unlink) := goodIn_app (goodIn_of _ (by decide +kernel)) ggL_law_L_unlink
set_option maxRecDepth 20000 in
theorem ggL_law_X4_unlink : GoodIn wsL_law wsX4_unlink := goodIn_r _ [229, 65, 194, 195, 196, 5, 197, 141, 198, 199, 200, 201, 202, 203, 142, 143, 144, 145, 146, 204, 205, 206, 729, 730, 731, 732, 733, 734, 735, 736, 737, 738, 739, 740, 741, 742, 743] (by decide +kernel) (by decide +kernel)
set_option maxRecDepth 20000 in
theorem gL_law_X4_unlink : GoodIn wsL_law (wsV RL 104 RX4 yX4_unlink wsX4_unlink) := goodIn_app (goodIn_of _ (by decide +kernel)) ggL_law_X4_unlink
set_option maxRecDepth 20000 in
theorem ggL_law_L_remove : GoodIn wsL_law wsL_remove := goodIn_ca (goodIn_ca (goodIn_r _ [232, 154, 79, 233, 234, 235, 2, 236, 84, 85, 20, 16, 159, 160, 161, 162, 163, 164, 165, 102, 103, 15, 104, 30, 105, 106, 107, 91, 92, 237, 238, 239, 19, 240, 43, 241, 242, 243, 244, 245, 246, 247, 248, 46, 45, 118, 119, 249, 250, 251, 252, 253, 167, 168, 169, 32, 254, 255, 256, 257, 174, 175, 176, 177, 178, 179, 180, 258, 259, 260, 261, 33, 112, 113, 93, 94, 95, 96, 97, 98, 99, 100, 34, 36, 101, 108, 109, 110, 111, 37, 114, 115, 116, 117, 120, 121, 122, 123, 124, 125, 126, 127, 35, 128, 129, 130, 131, 132, 133, 134, 135, 726, 727, 728, 744, 745, 746, 747, 748, 749, 750, 751, 752, 753, 754, 755, 756, 757, 758] (by decide +kernel) (by decide +kernel)) (goodIn_sub (fun _ h => List.mem_append_left _ (List.mem_append_left _ (List.mem_append_right _ h))) (by decide +kernel))) (goodIn_sub (fun _ h => List.mem_append_left _ (List.mem_append_right _ h)) (by decide +kernel))
set_option maxRecDepth 20000 in
theorem gL_law_L_remove : GoodIn wsL_law (va_wsS RL 105 yL_remove wsL_remove) := goodIn_app (goodIn_of _ (by decide +kernel)) ggL_law_L_remove
set_option maxRecDepth 20000 in
theorem ggL_law_X4_remove : GoodIn wsL_law wsX4_remove := goodIn_r _ [265, 266, 65, 141, 66, 194, 195, 196, 5, 197, 198, 199, 200, 201, 202, 203, 267, 268, 269, 270, 68, 67, 271, 272, 273, 274, 275, 276, 277, 278, 204, 205, 206, 142, 143, 144, 145, 146, 729, 730, 731, 732, 733, 734, 735, 736, 737, 738, 739, 740, 741, 742, 743] (by decide +kernel) (by decide +kernel)
set_option maxRecDepth 20000 in
theorem gL_law_X4_remove : GoodIn wsL_law (wsV RL 108 RX4 yX4_remove wsX4_remove) := goodIn_app (goodIn_of _ (by decide +kernel)) ggL_law_X4_remove
set_option maxRecDepth 20000 in
theorem ggL_law_L_setCount : GoodIn wsL_law wsL_setCount := goodIn_ca (goodIn_ca (goodIn_r _ [281, 154, 282, 283, 284, 285, 2, 286, 287, 288, 16, 159, 160, 161, 162, 163, 164, 165, 102, 103, 15, 104, 30, 105, 106, 107, 91, 92, 289, 290, 291, 292, 33, 118, 119, 112, 113, 124, 125, 126, 127, 35, 128, 129, 130, 131, 34, 132, 133, 134, 135, 726, 727, 728, 744, 745, 746, 747, 748, 749, 750, 751, 752] (by decide +kernel) (by decide +kernel)) (goodIn_sub (fun _ h => List.mem_append_right _ h) (by decide +kernel))) (goodIn_sub (fun _ h => List.mem_append_left _ (List.mem_append_right _ h)) (by decide +kernel))
set_option maxRecDepth 20000 in
theorem gL_law_L_setCount : GoodIn wsL_law (va_wsS RL 109 yL_setCount wsL_setCount) := goodIn_app (goodIn_of _ (by decide +kernel)) ggL_law_L_setCount
set_option maxRecDepth 20000 in
theorem ggL_law_X4_setCount : GoodIn wsL_law wsX4_setCount := goodIn_r _ [296, 66, 194, 195, 196, 5, 197, 141, 198, 199, 200, 201, 202, 203, 142, 143, 144, 145, 146, 729, 730, 731, 732, 733, 734, 735, 736, 737, 738, 739, 740, 741, 742, 743] (by decide +kernel) (by decide +kernel)
set_option maxRecDepth 20000 in
theorem gL_law_X4_setCount : GoodIn wsL_law (wsV RL 111 RX4 yX4_setCount wsX4_setCount) := goodIn_app (goodIn_of _ (by decide +kernel)) ggL_law_X4_setCount
