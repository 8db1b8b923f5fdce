set_option maxRecDepth 20000 in
theorem ggL_act_L_take : GoodIn wsL_act wsL_take := goodIn_ca (goodIn_ca (goodIn_r _ [218, 81, 9, 10, 219, 220, 221, 14, 222, 16, 17, 149, 199, 200, 201, 202, 93, 94, 203, 204, 205, 153, 206, 155, 89, 90, 91, 92, 18, 95, 40, 41, 23, 42, 26, 43, 44, 45, 27, 28, 207, 157, 158, 159, 160, 161, 162, 163, 164, 165, 58, 59, 208, 209, 210, 211, 223, 224, 225, 226, 227, 228, 229, 230, 231, 232, 191, 51, 52, 264, 265, 266, 276, 277, 278, 279, 280, 281, 267, 268, 269, 270, 271, 272, 273, 274, 275] (by decide +kernel) (by decide +kernel)) (goodIn_sub (fun _ h => List.mem_cons_of_mem _ (List.mem_append_left _ (List.mem_append_left _ (List.mem_append_right _ h)))) (by decide +kernel))) (goodIn_sub (fun _ h => List.mem_cons_of_mem _ (List.mem_append_right _ h)) (by decide +kernel))
set_option maxRecDepth 20000 in
theorem gL_act_L_take : GoodIn wsL_act (va_wsS RL 78 yL_take wsL_take) := goodIn_app (goodIn_of _ (by decide +kernel)) ggL_act_L_take
set_option maxRecDepth 20000 in
theorem ggL_act_L_lock : GoodIn wsL_act wsL_lock := goodIn_ca (goodIn_ca (goodIn_r _ [235, 81, 9, 10, 236, 237, 238, 14, 239, 16, 17, 149, 199, 200, 201, 202, 93, 94, 203, 204, 205, 153, 206, 155, 207, 157, 158, 159, 160, 161, 162, 163, 164, 165, 58, 59, 240, 241, 242, 243, 191, 51, 52, 264, 265, 266, 276, 277, 278, 279, 280, 281] (by decide +kernel) (by decide +kernel)) (goodIn_sub (fun _ h => List.mem_cons_of_mem _ (List.mem_append_left _ (List.mem_append_left _ (List.mem_append_right _ h)))) (by decide +kernel))) (goodIn_sub (fun _ h => List.mem_cons_of_mem _ (List.mem_append_right _ h)) (by decide +kernel))
set_option maxRecDepth 20000 in
theorem gL_act_L_lock : GoodIn wsL_act (va_wsS RL 80 yL_lock wsL_lock) := goodIn_app (goodIn_of _ (by decide +kernel)) ggL_act_L_lock
set_option maxRecDepth 20000 in
theorem ggL_act_L_say : GoodIn wsL_act wsL_say := goodIn_ca (goodIn_ca (goodIn_r _ [246, 81, 9, 10, 247, 248, 249, 14, 250, 16, 17, 149, 251, 199, 200, 201, 202, 93, 94, 203, 204, 205, 153, 206, 155, 208, 209, 210, 211, 164, 58, 59, 252, 253, 254, 255, 228, 227, 51, 52, 264, 265, 266, 276, 277, 278, 279, 280, 281] (by decide +kernel) (by decide +kernel)) (goodIn_sub (fun _ h => List.mem_cons_of_mem _ (List.mem_append_left _ (List.mem_append_left _ (List.mem_append_right _ h)))) (by decide +kernel))) (goodIn_sub (fun _ h => List.mem_cons_of_mem _ (List.mem_append_right _ h)) (by decide +kernel))
set_option maxRecDepth 20000 in
theorem gL_act_L_say : GoodIn wsL_act (va_wsS RL 82 yL_say wsL_say) := goodIn_app (goodIn_of _ (by decide +kernel)) ggL_act_L_say
set_option maxRecDepth 20000 in
theorem ggL_act_X3_hush : GoodIn wsL_act wsX3_hush := goodIn_r _ [259, 149, 260, 261, 262, 153, 263, 227, 264, 265, 266, 276, 277, 278, 279, 280, 281] (by decide +kernel) (by decide +kernel)
set_option maxRecDepth 20000 in
theorem gL_act_X3_hush : GoodIn wsL_act (wsV RL 84 RX3 yX3_hush wsX3_hush) := goodIn_app (goodIn_of _ (by decide +kernel)) ggL_act_X3_hush
set_option maxRecDepth 20000 in
theorem ggL_areAlike_X3_senses : GoodIn wsL_areAlike wsX3_senses := goodIn_r _ [5, 6, 7, 68, 69, 70, 71, 72, 73, 74, 75, 76, 77, 78, 79] (by decide +kernel) (by decide +kernel)
set_option maxRecDepth 20000 in
theorem gL_areAlike_X3_senses : GoodIn wsL_areAlike (wsV RL 87 RX3 yX3_senses wsX3_senses) := goodIn_app (goodIn_of _ (by decide +kernel)) ggL_areAlike_X3_senses
set_option maxRecDepth 20000 in
theorem ggL_areAlike_X3_choices : GoodIn wsL_areAlike wsX3_choices := goodIn_r _ [11, 12, 13, 14, 15, 16, 17, 18, 19, 20, 4, 21, 22, 23, 24, 25, 26, 27, 68, 69, 70, 80, 81, 82, 83, 84, 85] (by decide +kernel) (by decide +kernel)
set_option maxRecDepth 20000 in
theorem gL_areAlike_X3_choices : GoodIn wsL_areAlike (wsV RL 90 RX3 yX3_choices wsX3_choices) := goodIn_app (goodIn_of _ (by decide +kernel)) ggL_areAlike_X3_choices
set_option maxRecDepth 20000 in
theorem ggL_areAlike_L_mass : GoodIn wsL_areAlike wsL_mass := goodIn_ca (goodIn_r _ [31, 32, 33, 34, 35, 4, 36, 6, 37, 38, 39, 40, 41, 42, 43, 44, 45, 46, 47, 48, 49, 50, 51, 52, 53, 54, 55, 56, 57, 58, 20, 21, 68, 69, 70, 71, 72, 73, 74, 75, 76, 77, 78, 79] (by decide +kernel) (by decide +kernel)) (goodIn_sub (fun _ h => List.mem_cons_of_mem _ (List.mem_append_right _ h)) (by decide +kernel))
set_option maxRecDepth 20000 in
theorem gL_areAlike_L_mass : GoodIn wsL_areAlike (va_wsS RL 93 yL_mass wsL_mass) := goodIn_app (goodIn_of _ (by decide +kernel)) ggL_areAlike_L_mass
set_option maxRecDepth 20000 in
theorem ggL_areAlike_X3_parents : GoodIn wsL_areAlike wsX3_parents := goodIn_ca (goodIn_r _ [62, 6, 37, 38, 39, 4, 40, 41, 42, 43, 44, 45, 46, 47, 48, 49, 50, 51, 52, 53, 63, 64, 65, 66, 67, 20, 21, 68, 69, 70, 71, 72, 73, 74, 75, 76, 77, 78, 79] (by decide +kernel) (by decide +kernel)) (goodIn_sub (fun _ h => List.mem_cons_of_mem _ (List.mem_append_right _ h)) (by decide +kernel))
set_option maxRecDepth 20000 in
theorem gL_areAlike_X3_parents : GoodIn wsL_areAlike (wsV RL 95 RX3 yX3_parents wsX3_parents) := goodIn_app (goodIn_of _ (by decide +kernel)) ggL_areAlike_X3_parents
set_option maxRecDepth 20000 in
theorem ggL_isSenseSo_X3_parents : GoodIn wsL_isSenseSo wsX3_parents := goodIn_ca (goodIn_r _ [5, 6, 7, 8, 9, 4, 10, 11, 12, 13, 14, 15, 16, 17, 18, 19, 20, 21, 22, 23, 24, 25, 26, 27, 28, 29, 30, 96, 97, 98, 99, 100, 101, 102, 103, 104, 105, 106, 107] (by decide +kernel) (by decide +kernel)) (goodIn_sub (fun _ h => List.mem_cons_of_mem _ (List.mem_append_right _ h)) (by decide +kernel))
set_option maxRecDepth 20000 in
theorem gL_isSenseSo_X3_parents : GoodIn wsL_isSenseSo (wsV RL 95 RX3 yX3_parents wsX3_parents) := goodIn_app (goodIn_of _ (by decide +kernel)) ggL_isSenseSo_X3_parents
set_option maxRecDepth 20000 in
theorem ggL_isSenseSo_X3_above : GoodIn wsL_isSenseSo wsX3_above := goodIn_ca (goodIn_r _ [34, 6, 7, 8, 9, 4, 10, 11, 12, 13, 14, 15, 16, 17, 18, 19, 20, 21, 22, 23, 35, 36, 37, 38, 39, 29, 30, 96, 97, 98, 99, 100, 101, 102, 103, 104, 105, 106, 107] (by decide +kernel) (by decide +kernel)) (goodIn_sub (fun _ h => List.mem_cons_of_mem _ (List.mem_append_right _ h)) (by decide +kernel))
set_option maxRecDepth 20000 in
theorem gL_isSenseSo_X3_above : GoodIn wsL_isSenseSo (wsV RL 98 RX3 yX3_above wsX3_above) := goodIn_app (goodIn_of _ (by decide +kernel)) ggL_isSenseSo_X3_above
