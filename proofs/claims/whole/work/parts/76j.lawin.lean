set_option maxRecDepth 20000 in
theorem gL_law_L_shared : GoodIn wsL_law (va_wsS RL 153 yL_shared wsL_shared) := goodIn_app (goodIn_of _ (by decide +kernel)) ggL_law_L_shared
set_option maxRecDepth 20000 in
theorem ggL_law_X4_shared : GoodIn wsL_law wsX4_shared := goodIn_r _ [539, 194, 195, 196, 5, 197, 141, 198, 199, 200, 201, 202, 203, 142, 143, 144, 145, 146, 207, 208, 209, 210, 71, 65, 540, 541, 542, 543, 211, 212, 213, 214, 482, 483, 484, 485, 66, 517, 518, 519, 520, 729, 730, 731, 732, 733, 734, 735, 736, 737, 738, 739, 740, 741, 742, 743] (by decide +kernel) (by decide +kernel)
set_option maxRecDepth 20000 in
theorem gL_law_X4_shared : GoodIn wsL_law (wsV RL 155 RX4 yX4_shared wsX4_shared) := goodIn_app (goodIn_of _ (by decide +kernel)) ggL_law_X4_shared
set_option maxRecDepth 20000 in
theorem ggL_law_L_distance : GoodIn wsL_law wsL_distance := goodIn_ca (goodIn_r _ [546, 154, 547, 548, 549, 2, 550, 16, 159, 160, 161, 162, 163, 164, 165, 102, 103, 15, 104, 30, 105, 106, 107, 91, 92, 551, 552, 553, 554, 34, 37, 555, 556, 557, 558, 118, 119, 726, 727, 728, 744, 745, 746, 747, 748, 749, 750, 751, 752] (by decide +kernel) (by decide +kernel)) (goodIn_sub (fun _ h => List.mem_append_left _ (List.mem_append_right _ h)) (by decide +kernel))
set_option maxRecDepth 20000 in
theorem gL_law_L_distance : GoodIn wsL_law (va_wsS RL 156 yL_distance wsL_distance) := goodIn_app (goodIn_of _ (by decide +kernel)) ggL_law_L_distance
set_option maxRecDepth 20000 in
theorem ggL_law_X4_distance : GoodIn wsL_law wsX4_distance := goodIn_r _ [562, 194, 195, 196, 5, 197, 141, 198, 199, 200, 201, 202, 203, 142, 143, 144, 145, 146, 207, 208, 209, 210, 71, 65, 563, 564, 565, 566, 729, 730, 731, 732, 733, 734, 735, 736, 737, 738, 739, 740, 741, 742, 743] (by decide +kernel) (by decide +kernel)
set_option maxRecDepth 20000 in
theorem gL_law_X4_distance : GoodIn wsL_law (wsV RL 158 RX4 yX4_distance wsX4_distance) := goodIn_app (goodIn_of _ (by decide +kernel)) ggL_law_X4_distance
set_option maxRecDepth 20000 in
theorem ggL_law_L_likeness : GoodIn wsL_law wsL_likeness := goodIn_ca (goodIn_ca (goodIn_r _ [569, 154, 282, 570, 571, 572, 2, 573, 16, 159, 160, 161, 162, 163, 164, 165, 102, 103, 15, 104, 30, 105, 106, 107, 91, 92, 574, 575, 576, 577, 287, 288, 578, 579, 580, 581, 36, 555, 556, 557, 558, 35, 582, 529, 530, 531, 34, 118, 119, 532, 533, 534, 535, 583, 552, 553, 554, 37, 584, 585, 586, 132, 133, 134, 135, 33, 726, 727, 728, 744, 745, 746, 747, 748, 749, 750, 751, 752] (by decide +kernel) (by decide +kernel)) (goodIn_sub (fun _ h => List.mem_append_left _ (List.mem_append_right _ h)) (by decide +kernel))) (goodIn_sub (fun _ h => List.mem_append_right _ h) (by decide +kernel))
set_option maxRecDepth 20000 in
theorem gL_law_L_likeness : GoodIn wsL_law (va_wsS RL 159 yL_likeness wsL_likeness) := goodIn_app (goodIn_of _ (by decide +kernel)) ggL_law_L_likeness
set_option maxRecDepth 20000 in
theorem ggL_law_X4_likeness : GoodIn wsL_law wsX4_likeness := goodIn_r _ [590, 194, 195, 196, 5, 197, 141, 198, 199, 200, 201, 202, 203, 591, 592, 593, 142, 143, 144, 145, 146, 207, 208, 209, 210, 71, 65, 594, 595, 596, 597, 66, 540, 541, 542, 543, 211, 212, 213, 214, 482, 483, 484, 485, 517, 518, 519, 520, 563, 564, 565, 566, 729, 730, 731, 732, 733, 734, 735, 736, 737, 738, 739, 740, 741, 742, 743] (by decide +kernel) (by decide +kernel)
set_option maxRecDepth 20000 in
theorem gL_law_X4_likeness : GoodIn wsL_law (wsV RL 162 RX4 yX4_likeness wsX4_likeness) := goodIn_app (goodIn_of _ (by decide +kernel)) ggL_law_X4_likeness
set_option maxRecDepth 20000 in
theorem ggL_law_X3_choices : GoodIn wsL_law wsX3_choices := goodIn_r _ [601, 20, 391, 602, 603, 604, 19, 605, 48, 118, 2, 119, 606, 607, 608, 609, 47, 46, 726, 727, 728, 753, 754, 755, 756, 757, 758] (by decide +kernel) (by decide +kernel)
set_option maxRecDepth 20000 in
theorem gL_law_X3_choices : GoodIn wsL_law (wsV RL 163 RX3 yX3_choices wsX3_choices) := goodIn_app (goodIn_of _ (by decide +kernel)) ggL_law_X3_choices
