set_option maxRecDepth 20000 in
theorem ggL_isSenseSo_X3_below : GoodIn wsL_isSenseSo wsX3_below := goodIn_ca (goodIn_r _ [43, 6, 7, 8, 9, 4, 10, 11, 12, 13, 14, 15, 16, 17, 18, 19, 20, 21, 22, 23, 44, 45, 46, 47, 39, 29, 30, 96, 97, 98, 99, 100, 101, 102, 103, 104, 105, 106, 107] (by decide +kernel) (by decide +kernel)) (goodIn_sub (fun _ h => List.mem_cons_of_mem _ (List.mem_append_right _ h)) (by decide +kernel))
set_option maxRecDepth 20000 in
theorem gL_isSenseSo_X3_below : GoodIn wsL_isSenseSo (wsV RL 101 RX3 yX3_below wsX3_below) := goodIn_app (goodIn_of _ (by decide +kernel)) ggL_isSenseSo_X3_below
set_option maxRecDepth 20000 in
theorem ggL_isSenseSo_L_bits : GoodIn wsL_isSenseSo wsL_bits := goodIn_r _ [51] (by decide +kernel) (by decide +kernel)
set_option maxRecDepth 20000 in
theorem gL_isSenseSo_L_bits : GoodIn wsL_isSenseSo (va_wsS RL 104 yL_bits wsL_bits) := goodIn_app (goodIn_of _ (by decide +kernel)) ggL_isSenseSo_L_bits
set_option maxRecDepth 20000 in
theorem ggL_isSenseSo_X3_senses : GoodIn wsL_isSenseSo wsX3_senses := goodIn_r _ [55, 6, 56, 96, 97, 98, 99, 100, 101, 102, 103, 104, 105, 106, 107] (by decide +kernel) (by decide +kernel)
set_option maxRecDepth 20000 in
theorem gL_isSenseSo_X3_senses : GoodIn wsL_isSenseSo (wsV RL 87 RX3 yX3_senses wsX3_senses) := goodIn_app (goodIn_of _ (by decide +kernel)) ggL_isSenseSo_X3_senses
set_option maxRecDepth 20000 in
theorem ggL_isSenseSo_X3_mass : GoodIn wsL_isSenseSo wsX3_mass := goodIn_ca (goodIn_r _ [60, 6, 7, 8, 9, 4, 10, 11, 12, 13, 14, 15, 16, 17, 18, 19, 20, 21, 22, 23, 61, 62, 63, 64, 65, 29, 30, 96, 97, 98, 99, 100, 101, 102, 103, 104, 105, 106, 107] (by decide +kernel) (by decide +kernel)) (goodIn_sub (fun _ h => List.mem_cons_of_mem _ (List.mem_append_right _ h)) (by decide +kernel))
set_option maxRecDepth 20000 in
theorem gL_isSenseSo_X3_mass : GoodIn wsL_isSenseSo (wsV RL 50 RX3 yX3_mass wsX3_mass) := goodIn_app (goodIn_of _ (by decide +kernel)) ggL_isSenseSo_X3_mass
set_option maxRecDepth 20000 in
theorem ggL_isSenseSo_X3_massByWalks : GoodIn wsL_isSenseSo wsX3_massByWalks := goodIn_ca (goodIn_r _ [69, 6, 7, 8, 9, 4, 10, 11, 12, 13, 14, 15, 16, 17, 18, 19, 20, 21, 22, 23, 70, 71, 72, 73, 74, 75, 76, 77, 78, 79, 80, 81, 82, 29, 30, 83, 84, 85, 86, 28, 96, 97, 98, 99, 100, 101, 102, 103, 104, 105, 106, 107] (by decide +kernel) (by decide +kernel)) (goodIn_sub (fun _ h => List.mem_cons_of_mem _ (List.mem_append_right _ h)) (by decide +kernel))
set_option maxRecDepth 20000 in
theorem gL_isSenseSo_X3_massByWalks : GoodIn wsL_isSenseSo (wsV RL 107 RX3 yX3_massByWalks wsX3_massByWalks) := goodIn_app (goodIn_of _ (by decide +kernel)) ggL_isSenseSo_X3_massByWalks
set_option maxRecDepth 20000 in
theorem ggL_isSenseSo_X3_depth : GoodIn wsL_isSenseSo wsX3_depth := goodIn_ca (goodIn_r _ [90, 6, 7, 8, 9, 4, 10, 11, 12, 13, 14, 15, 16, 17, 18, 19, 20, 21, 22, 23, 91, 92, 93, 94, 95, 29, 30, 96, 97, 98, 99, 100, 101, 102, 103, 104, 105, 106, 107] (by decide +kernel) (by decide +kernel)) (goodIn_sub (fun _ h => List.mem_cons_of_mem _ (List.mem_append_right _ h)) (by decide +kernel))
set_option maxRecDepth 20000 in
theorem gL_isSenseSo_X3_depth : GoodIn wsL_isSenseSo (wsV RL 110 RX3 yX3_depth wsX3_depth) := goodIn_app (goodIn_of _ (by decide +kernel)) ggL_isSenseSo_X3_depth
set_option maxRecDepth 20000 in
theorem ggL_arePairsSo_X3_shared : GoodIn wsL_arePairsSo wsX3_shared := goodIn_ca (goodIn_r _ [5, 6, 7, 8, 9, 4, 10, 11, 12, 13, 14, 15, 16, 17, 18, 19, 20, 21, 22, 23, 24, 25, 26, 27, 28, 29, 30, 31, 32, 33, 34, 35, 36, 90, 91, 92, 93, 94, 95, 96, 97, 98, 99, 100, 101] (by decide +kernel) (by decide +kernel)) (goodIn_sub (fun _ h => List.mem_cons_of_mem _ (List.mem_append_left _ (List.mem_append_right _ h))) (by decide +kernel))
set_option maxRecDepth 20000 in
theorem gL_arePairsSo_X3_shared : GoodIn wsL_arePairsSo (wsV RL 113 RX3 yX3_shared wsX3_shared) := goodIn_app (goodIn_of _ (by decide +kernel)) ggL_arePairsSo_X3_shared
set_option maxRecDepth 20000 in
theorem ggL_arePairsSo_X3_above : GoodIn wsL_arePairsSo wsX3_above := goodIn_ca (goodIn_r _ [40, 6, 7, 8, 9, 4, 10, 11, 12, 13, 14, 15, 16, 17, 18, 19, 20, 21, 22, 23, 41, 42, 43, 44, 28, 29, 30, 90, 91, 92, 93, 94, 95, 96, 97, 98, 99, 100, 101] (by decide +kernel) (by decide +kernel)) (goodIn_sub (fun _ h => List.mem_cons_of_mem _ (List.mem_append_left _ (List.mem_append_right _ h))) (by decide +kernel))
set_option maxRecDepth 20000 in
theorem gL_arePairsSo_X3_above : GoodIn wsL_arePairsSo (wsV RL 98 RX3 yX3_above wsX3_above) := goodIn_app (goodIn_of _ (by decide +kernel)) ggL_arePairsSo_X3_above
set_option maxRecDepth 20000 in
theorem ggL_arePairsSo_X3_distance : GoodIn wsL_arePairsSo wsX3_distance := goodIn_ca (goodIn_r _ [48, 6, 7, 8, 9, 4, 10, 11, 12, 13, 14, 15, 16, 17, 18, 19, 20, 21, 22, 23, 49, 50, 51, 52, 28, 53, 54, 55, 56, 57, 29, 30, 90, 91, 92, 93, 94, 95, 96, 97, 98, 99, 100, 101] (by decide +kernel) (by decide +kernel)) (goodIn_sub (fun _ h => List.mem_cons_of_mem _ (List.mem_append_left _ (List.mem_append_right _ h))) (by decide +kernel))
set_option maxRecDepth 20000 in
theorem gL_arePairsSo_X3_distance : GoodIn wsL_arePairsSo (wsV RL 116 RX3 yX3_distance wsX3_distance) := goodIn_app (goodIn_of _ (by decide +kernel)) ggL_arePairsSo_X3_distance
set_option maxRecDepth 20000 in
theorem ggL_arePairsSo_X3_mass : GoodIn wsL_arePairsSo wsX3_mass := goodIn_ca (goodIn_r _ [61, 6, 7, 8, 9, 4, 10, 11, 12, 13, 14, 15, 16, 17, 18, 19, 20, 21, 22, 23, 62, 63, 64, 65, 35, 29, 30, 90, 91, 92, 93, 94, 95, 96, 97, 98, 99, 100, 101] (by decide +kernel) (by decide +kernel)) (goodIn_sub (fun _ h => List.mem_cons_of_mem _ (List.mem_append_left _ (List.mem_append_right _ h))) (by decide +kernel))
set_option maxRecDepth 20000 in
theorem gL_arePairsSo_X3_mass : GoodIn wsL_arePairsSo (wsV RL 50 RX3 yX3_mass wsX3_mass) := goodIn_app (goodIn_of _ (by decide +kernel)) ggL_arePairsSo_X3_mass
