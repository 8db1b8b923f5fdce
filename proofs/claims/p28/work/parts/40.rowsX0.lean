theorem dX0_init_0 : decode cX0_init 0 = .ok (.aload_n 0, 1) := by decide +kernel
theorem dX0_init_1 : decode cX0_init 1 = .ok (.invokespecial 3, 3) := by decide +kernel
theorem dX0_init_4 : decode cX0_init 4 = .ok (.aload_n 0, 1) := by decide +kernel
theorem dX0_init_5 : decode cX0_init 5 = .ok (.iconst 0, 1) := by decide +kernel
theorem dX0_init_6 : decode cX0_init 6 = .ok (.putfield 9, 3) := by decide +kernel
theorem dX0_init_9 : decode cX0_init 9 = .ok (.aload_n 0, 1) := by decide +kernel
theorem dX0_init_10 : decode cX0_init 10 = .ok (.iconst (-1), 1) := by decide +kernel
theorem dX0_init_11 : decode cX0_init 11 = .ok (.putfield 15, 3) := by decide +kernel
theorem dX0_init_14 : decode cX0_init 14 = .ok (.aload_n 0, 1) := by decide +kernel
theorem dX0_init_15 : decode cX0_init 15 = .ok (.bipush 6, 2) := by decide +kernel
theorem dX0_init_17 : decode cX0_init 17 = .ok (.newarray .int, 2) := by decide +kernel
theorem dX0_init_19 : decode cX0_init 19 = .ok (.putfield 18, 3) := by decide +kernel
theorem dX0_init_22 : decode cX0_init 22 = .ok (.aload_n 0, 1) := by decide +kernel
theorem dX0_init_23 : decode cX0_init 23 = .ok (.bipush 30, 2) := by decide +kernel
theorem dX0_init_25 : decode cX0_init 25 = .ok (.newarray .int, 2) := by decide +kernel
theorem dX0_init_27 : decode cX0_init 27 = .ok (.putfield 22, 3) := by decide +kernel
theorem dX0_init_30 : decode cX0_init 30 = .ok (.aload_n 0, 1) := by decide +kernel
theorem dX0_init_31 : decode cX0_init 31 = .ok (.sipush 900, 3) := by decide +kernel
theorem dX0_init_34 : decode cX0_init 34 = .ok (.newarray .int, 2) := by decide +kernel
theorem dX0_init_36 : decode cX0_init 36 = .ok (.putfield 25, 3) := by decide +kernel
theorem dX0_init_39 : decode cX0_init 39 = .ok (.aload_n 0, 1) := by decide +kernel
theorem dX0_init_40 : decode cX0_init 40 = .ok (.bipush 7, 2) := by decide +kernel
theorem dX0_init_42 : decode cX0_init 42 = .ok (.newarray .int, 2) := by decide +kernel
theorem dX0_init_44 : decode cX0_init 44 = .ok (.putfield 28, 3) := by decide +kernel
theorem dX0_init_47 : decode cX0_init 47 = .ok (.aload_n 0, 1) := by decide +kernel
theorem dX0_init_48 : decode cX0_init 48 = .ok (.bipush 6, 2) := by decide +kernel
theorem dX0_init_50 : decode cX0_init 50 = .ok (.newarray .int, 2) := by decide +kernel
theorem dX0_init_52 : decode cX0_init 52 = .ok (.putfield 31, 3) := by decide +kernel
theorem dX0_init_55 : decode cX0_init 55 = .ok (.aload_n 0, 1) := by decide +kernel
theorem dX0_init_56 : decode cX0_init 56 = .ok (.bipush 6, 2) := by decide +kernel
theorem dX0_init_58 : decode cX0_init 58 = .ok (.newarray .int, 2) := by decide +kernel
theorem dX0_init_60 : decode cX0_init 60 = .ok (.putfield 34, 3) := by decide +kernel
theorem dX0_init_63 : decode cX0_init 63 = .ok (.return_, 1) := by decide +kernel
set_option maxRecDepth 20000 in
theorem ggX0_prepare_X0_layOut : GoodIn wsX0_prepare wsX0_layOut := goodIn_r _ [12, 13, 14, 15, 16, 17, 18, 19, 20, 21, 22, 23, 24, 25, 26, 27, 28, 29, 30, 31, 32, 33, 34, 35, 36, 81, 82, 83, 84, 85, 86, 87, 88, 89, 90, 91, 92, 93, 94] (by decide +kernel) (by decide +kernel)
set_option maxRecDepth 20000 in
theorem gX0_prepare_X0_layOut : GoodIn wsX0_prepare (wsV RX0 46 RX0 yX0_layOut wsX0_layOut) := goodIn_app (goodIn_of _ (by decide +kernel)) ggX0_prepare_X0_layOut
set_option maxRecDepth 20000 in
theorem ggX0_prepare_X3_put : GoodIn wsX0_prepare wsX3_put := goodIn_r _ [31] (by decide +kernel) (by decide +kernel)
set_option maxRecDepth 20000 in
theorem gX0_prepare_X3_put_n50 : GoodIn wsX0_prepare (wsX3_put) := ggX0_prepare_X3_put
set_option maxRecDepth 20000 in
theorem ggX0_prepare_X0_compare : GoodIn wsX0_prepare wsX0_compare := goodIn_r _ [40, 13, 14, 41, 42, 43, 5, 44, 21, 22, 23, 45, 46, 47, 48, 49, 50, 51, 4, 6, 52, 53, 54, 55, 56, 57, 58, 59, 60, 61, 62, 63, 64, 65, 66, 67, 68, 69, 70, 71, 72, 73, 74, 75, 76, 77, 78, 79, 80, 30, 31, 81, 82, 83, 84, 85, 86, 87, 88, 95, 96, 97, 98, 99, 100, 101, 102, 103] (by decide +kernel) (by decide +kernel)
set_option maxRecDepth 20000 in
theorem gX0_prepare_X0_compare : GoodIn wsX0_prepare (wsV RX0 54 RX0 yX0_compare wsX0_compare) := goodIn_app (goodIn_of _ (by decide +kernel)) ggX0_prepare_X0_compare
set_option maxRecDepth 20000 in
theorem ggX0_prepare_X3_at : GoodIn wsX0_prepare wsX3_at := goodIn_r _ [23] (by decide +kernel) (by decide +kernel)
set_option maxRecDepth 20000 in
theorem gX0_prepare_X3_at_n58 : GoodIn wsX0_prepare (wsX3_at) := ggX0_prepare_X3_at
theorem dX0_prepare_0 : decode cX0_prepare 0 = .ok (.aload_n 0, 1) := by decide +kernel
theorem dX0_prepare_1 : decode cX0_prepare 1 = .ok (.iconst 0, 1) := by decide +kernel
theorem dX0_prepare_2 : decode cX0_prepare 2 = .ok (.putfield 9, 3) := by decide +kernel
theorem dX0_prepare_5 : decode cX0_prepare 5 = .ok (.aload_n 1, 1) := by decide +kernel
theorem dX0_prepare_6 : decode cX0_prepare 6 = .ok (.ifnull 7, 3) := by decide +kernel
theorem dX0_prepare_9 : decode cX0_prepare 9 = .ok (.aload_n 2, 1) := by decide +kernel
theorem dX0_prepare_10 : decode cX0_prepare 10 = .ok (.ifnonnull 4, 3) := by decide +kernel
theorem dX0_prepare_13 : decode cX0_prepare 13 = .ok (.return_, 1) := by decide +kernel
theorem dX0_prepare_14 : decode cX0_prepare 14 = .ok (.aload_n 0, 1) := by decide +kernel
theorem dX0_prepare_15 : decode cX0_prepare 15 = .ok (.aload_n 2, 1) := by decide +kernel
theorem dX0_prepare_16 : decode cX0_prepare 16 = .ok (.getfield 37, 3) := by decide +kernel
theorem dX0_prepare_19 : decode cX0_prepare 19 = .ok (.bipush 6, 2) := by decide +kernel
theorem dX0_prepare_21 : decode cX0_prepare 21 = .ok (.invokestatic 40, 3) := by decide +kernel
theorem dX0_prepare_24 : decode cX0_prepare 24 = .ok (.putfield 9, 3) := by decide +kernel
theorem dX0_prepare_27 : decode cX0_prepare 27 = .ok (.iconst 0, 1) := by decide +kernel
theorem dX0_prepare_28 : decode cX0_prepare 28 = .ok (.istore 4, 2) := by decide +kernel
theorem dX0_prepare_30 : decode cX0_prepare 30 = .ok (.iload 4, 2) := by decide +kernel
theorem dX0_prepare_32 : decode cX0_prepare 32 = .ok (.aload_n 0, 1) := by decide +kernel
theorem dX0_prepare_33 : decode cX0_prepare 33 = .ok (.getfield 9, 3) := by decide +kernel
theorem dX0_prepare_36 : decode cX0_prepare 36 = .ok (.if_icmp .ge 16, 3) := by decide +kernel
theorem dX0_prepare_39 : decode cX0_prepare 39 = .ok (.aload_n 0, 1) := by decide +kernel
theorem dX0_prepare_40 : decode cX0_prepare 40 = .ok (.aload_n 2, 1) := by decide +kernel
theorem dX0_prepare_41 : decode cX0_prepare 41 = .ok (.iload 4, 2) := by decide +kernel
theorem dX0_prepare_43 : decode cX0_prepare 43 = .ok (.invokevirtual 46, 3) := by decide +kernel
theorem dX0_prepare_46 : decode cX0_prepare 46 = .ok (.iinc 4 1, 3) := by decide +kernel
theorem dX0_prepare_49 : decode cX0_prepare 49 = .ok (.goto (-19), 3) := by decide +kernel
theorem dX0_prepare_52 : decode cX0_prepare 52 = .ok (.aload_n 0, 1) := by decide +kernel
theorem dX0_prepare_53 : decode cX0_prepare 53 = .ok (.getfield 28, 3) := by decide +kernel
theorem dX0_prepare_56 : decode cX0_prepare 56 = .ok (.aload_n 0, 1) := by decide +kernel
theorem dX0_prepare_57 : decode cX0_prepare 57 = .ok (.getfield 9, 3) := by decide +kernel
theorem dX0_prepare_60 : decode cX0_prepare 60 = .ok (.iconst 0, 1) := by decide +kernel
theorem dX0_prepare_61 : decode cX0_prepare 61 = .ok (.invokestatic 50, 3) := by decide +kernel
theorem dX0_prepare_64 : decode cX0_prepare 64 = .ok (.aload_n 0, 1) := by decide +kernel
theorem dX0_prepare_65 : decode cX0_prepare 65 = .ok (.getfield 9, 3) := by decide +kernel
theorem dX0_prepare_68 : decode cX0_prepare 68 = .ok (.iconst 1, 1) := by decide +kernel
theorem dX0_prepare_69 : decode cX0_prepare 69 = .ok (.isub, 1) := by decide +kernel
theorem dX0_prepare_70 : decode cX0_prepare 70 = .ok (.istore 4, 2) := by decide +kernel
theorem dX0_prepare_72 : decode cX0_prepare 72 = .ok (.iload 4, 2) := by decide +kernel
theorem dX0_prepare_74 : decode cX0_prepare 74 = .ok (.ifCond .lt 66, 3) := by decide +kernel
theorem dX0_prepare_77 : decode cX0_prepare 77 = .ok (.iconst 0, 1) := by decide +kernel
theorem dX0_prepare_78 : decode cX0_prepare 78 = .ok (.istore 5, 2) := by decide +kernel
theorem dX0_prepare_80 : decode cX0_prepare 80 = .ok (.iconst 0, 1) := by decide +kernel
theorem dX0_prepare_81 : decode cX0_prepare 81 = .ok (.istore 6, 2) := by decide +kernel
theorem dX0_prepare_83 : decode cX0_prepare 83 = .ok (.iload 6, 2) := by decide +kernel
theorem dX0_prepare_85 : decode cX0_prepare 85 = .ok (.iload 4, 2) := by decide +kernel
theorem dX0_prepare_87 : decode cX0_prepare 87 = .ok (.if_icmp .ge 24, 3) := by decide +kernel
theorem dX0_prepare_90 : decode cX0_prepare 90 = .ok (.iload 5, 2) := by decide +kernel
theorem dX0_prepare_92 : decode cX0_prepare 92 = .ok (.aload_n 0, 1) := by decide +kernel
theorem dX0_prepare_93 : decode cX0_prepare 93 = .ok (.aload_n 1, 1) := by decide +kernel
theorem dX0_prepare_94 : decode cX0_prepare 94 = .ok (.iload 6, 2) := by decide +kernel
theorem dX0_prepare_96 : decode cX0_prepare 96 = .ok (.iload 4, 2) := by decide +kernel
theorem dX0_prepare_98 : decode cX0_prepare 98 = .ok (.iload_n 3, 1) := by decide +kernel
theorem dX0_prepare_99 : decode cX0_prepare 99 = .ok (.invokevirtual 54, 3) := by decide +kernel
theorem dX0_prepare_102 : decode cX0_prepare 102 = .ok (.iadd, 1) := by decide +kernel
theorem dX0_prepare_103 : decode cX0_prepare 103 = .ok (.istore 5, 2) := by decide +kernel
theorem dX0_prepare_105 : decode cX0_prepare 105 = .ok (.iinc 6 1, 3) := by decide +kernel
theorem dX0_prepare_108 : decode cX0_prepare 108 = .ok (.goto (-25), 3) := by decide +kernel
theorem dX0_prepare_111 : decode cX0_prepare 111 = .ok (.aload_n 0, 1) := by decide +kernel
theorem dX0_prepare_112 : decode cX0_prepare 112 = .ok (.getfield 28, 3) := by decide +kernel
theorem dX0_prepare_115 : decode cX0_prepare 115 = .ok (.iload 4, 2) := by decide +kernel
theorem dX0_prepare_117 : decode cX0_prepare 117 = .ok (.aload_n 0, 1) := by decide +kernel
theorem dX0_prepare_118 : decode cX0_prepare 118 = .ok (.getfield 28, 3) := by decide +kernel
theorem dX0_prepare_121 : decode cX0_prepare 121 = .ok (.iload 4, 2) := by decide +kernel
theorem dX0_prepare_123 : decode cX0_prepare 123 = .ok (.iconst 1, 1) := by decide +kernel
theorem dX0_prepare_124 : decode cX0_prepare 124 = .ok (.iadd, 1) := by decide +kernel
theorem dX0_prepare_125 : decode cX0_prepare 125 = .ok (.invokestatic 58, 3) := by decide +kernel
theorem dX0_prepare_128 : decode cX0_prepare 128 = .ok (.iload 5, 2) := by decide +kernel
theorem dX0_prepare_130 : decode cX0_prepare 130 = .ok (.iadd, 1) := by decide +kernel
theorem dX0_prepare_131 : decode cX0_prepare 131 = .ok (.invokestatic 50, 3) := by decide +kernel
theorem dX0_prepare_134 : decode cX0_prepare 134 = .ok (.iinc 4 (-1), 3) := by decide +kernel
theorem dX0_prepare_137 : decode cX0_prepare 137 = .ok (.goto (-65), 3) := by decide +kernel
theorem dX0_prepare_140 : decode cX0_prepare 140 = .ok (.return_, 1) := by decide +kernel
set_option maxRecDepth 20000 in
theorem ggX0_findBest_X0_seek : GoodIn wsX0_findBest wsX0_seek := goodIn_r _ [5, 6, 1, 7, 8, 9, 10, 11, 12, 13, 14, 15, 4, 16, 17, 18, 19, 20, 21, 22, 23, 24, 2, 3, 25, 26, 27, 28, 29, 30, 31, 32] (by decide +kernel) (by decide +kernel)
set_option maxRecDepth 20000 in
theorem gX0_findBest_X0_seek : GoodIn wsX0_findBest (va_wsS RX0 62 yX0_seek wsX0_seek) := goodIn_app (goodIn_of _ (by decide +kernel)) ggX0_findBest_X0_seek
theorem dX0_findBest_0 : decode cX0_findBest 0 = .ok (.aload_n 0, 1) := by decide +kernel
theorem dX0_findBest_1 : decode cX0_findBest 1 = .ok (.iconst (-1), 1) := by decide +kernel
theorem dX0_findBest_2 : decode cX0_findBest 2 = .ok (.putfield 15, 3) := by decide +kernel
theorem dX0_findBest_5 : decode cX0_findBest 5 = .ok (.aload_n 0, 1) := by decide +kernel
theorem dX0_findBest_6 : decode cX0_findBest 6 = .ok (.iconst 0, 1) := by decide +kernel
theorem dX0_findBest_7 : decode cX0_findBest 7 = .ok (.iconst 0, 1) := by decide +kernel
theorem dX0_findBest_8 : decode cX0_findBest 8 = .ok (.invokestatic 62, 3) := by decide +kernel
theorem dX0_findBest_11 : decode cX0_findBest 11 = .ok (.aload_n 0, 1) := by decide +kernel
theorem dX0_findBest_12 : decode cX0_findBest 12 = .ok (.getfield 15, 3) := by decide +kernel
theorem dX0_findBest_15 : decode cX0_findBest 15 = .ok (.ireturn, 1) := by decide +kernel
set_option maxRecDepth 20000 in
theorem ggX0_findGreatest_X0_greatest : GoodIn wsX0_findGreatest wsX0_greatest := goodIn_r _ [4, 5, 6, 7, 8, 9, 10, 11, 12, 13, 14, 15, 16, 17, 18, 19, 3, 20, 21, 1, 2, 22, 23, 24, 25, 26, 27, 28, 29] (by decide +kernel) (by decide +kernel)
set_option maxRecDepth 20000 in
theorem gX0_findGreatest_X0_greatest : GoodIn wsX0_findGreatest (va_wsS RX0 66 yX0_greatest wsX0_greatest) := goodIn_app (goodIn_of _ (by decide +kernel)) ggX0_findGreatest_X0_greatest
theorem dX0_findGreatest_0 : decode cX0_findGreatest 0 = .ok (.aload_n 0, 1) := by decide +kernel
theorem dX0_findGreatest_1 : decode cX0_findGreatest 1 = .ok (.iconst 0, 1) := by decide +kernel
theorem dX0_findGreatest_2 : decode cX0_findGreatest 2 = .ok (.iconst 0, 1) := by decide +kernel
theorem dX0_findGreatest_3 : decode cX0_findGreatest 3 = .ok (.invokestatic 66, 3) := by decide +kernel
theorem dX0_findGreatest_6 : decode cX0_findGreatest 6 = .ok (.ireturn, 1) := by decide +kernel
set_option maxRecDepth 20000 in
theorem ggX0_bestSense_X3_at : GoodIn wsX0_bestSense wsX3_at := goodIn_r _ [5] (by decide +kernel) (by decide +kernel)
set_option maxRecDepth 20000 in
theorem gX0_bestSense_X3_at_n58 : GoodIn wsX0_bestSense (wsX3_at) := ggX0_bestSense_X3_at
theorem dX0_bestSense_0 : decode cX0_bestSense 0 = .ok (.aload_n 0, 1) := by decide +kernel
theorem dX0_bestSense_1 : decode cX0_bestSense 1 = .ok (.getfield 22, 3) := by decide +kernel
theorem dX0_bestSense_4 : decode cX0_bestSense 4 = .ok (.aload_n 0, 1) := by decide +kernel
theorem dX0_bestSense_5 : decode cX0_bestSense 5 = .ok (.getfield 34, 3) := by decide +kernel
theorem dX0_bestSense_8 : decode cX0_bestSense 8 = .ok (.iload_n 1, 1) := by decide +kernel
theorem dX0_bestSense_9 : decode cX0_bestSense 9 = .ok (.invokestatic 58, 3) := by decide +kernel
theorem dX0_bestSense_12 : decode cX0_bestSense 12 = .ok (.invokestatic 58, 3) := by decide +kernel
theorem dX0_bestSense_15 : decode cX0_bestSense 15 = .ok (.ireturn, 1) := by decide +kernel
set_option maxRecDepth 20000 in
theorem ggX0_layOut_X2_wordAt : GoodIn wsX0_layOut wsX2_wordAt := goodIn_r _ [7, 8, 9, 10, 11, 33, 34, 35, 36, 37, 38] (by decide +kernel) (by decide +kernel)
set_option maxRecDepth 20000 in
theorem gX0_layOut_X2_wordAt : GoodIn wsX0_layOut (wsV RX0 70 RX2 yX2_wordAt wsX2_wordAt) := goodIn_app (goodIn_of _ (by decide +kernel)) ggX0_layOut_X2_wordAt
set_option maxRecDepth 20000 in
theorem ggX0_layOut_X2_optionCount : GoodIn wsX0_layOut wsX2_optionCount := goodIn_r _ [15, 16, 17, 9, 10, 11, 33, 34, 35, 36, 37, 38] (by decide +kernel) (by decide +kernel)
set_option maxRecDepth 20000 in
theorem gX0_layOut_X2_optionCount : GoodIn wsX0_layOut (wsV RX0 74 RX2 yX2_optionCount wsX2_optionCount) := goodIn_app (goodIn_of _ (by decide +kernel)) ggX0_layOut_X2_optionCount
set_option maxRecDepth 20000 in
theorem ggX0_layOut_X3_put : GoodIn wsX0_layOut wsX3_put := goodIn_r _ [19] (by decide +kernel) (by decide +kernel)
set_option maxRecDepth 20000 in
theorem gX0_layOut_X3_put_n50 : GoodIn wsX0_layOut (wsX3_put) := ggX0_layOut_X3_put
set_option maxRecDepth 20000 in
theorem ggX0_layOut_X2_option : GoodIn wsX0_layOut wsX2_option := goodIn_r _ [23, 16, 24, 9, 10, 11, 33, 34, 35, 36, 37, 38] (by decide +kernel) (by decide +kernel)
set_option maxRecDepth 20000 in
theorem gX0_layOut_X2_option : GoodIn wsX0_layOut (wsV RX0 77 RX2 yX2_option wsX2_option) := goodIn_app (goodIn_of _ (by decide +kernel)) ggX0_layOut_X2_option
theorem dX0_layOut_0 : decode cX0_layOut 0 = .ok (.aload_n 1, 1) := by decide +kernel
theorem dX0_layOut_1 : decode cX0_layOut 1 = .ok (.iload_n 2, 1) := by decide +kernel
theorem dX0_layOut_2 : decode cX0_layOut 2 = .ok (.invokevirtual 70, 3) := by decide +kernel
theorem dX0_layOut_5 : decode cX0_layOut 5 = .ok (.istore_n 3, 1) := by decide +kernel
theorem dX0_layOut_6 : decode cX0_layOut 6 = .ok (.aload_n 1, 1) := by decide +kernel
theorem dX0_layOut_7 : decode cX0_layOut 7 = .ok (.iload_n 3, 1) := by decide +kernel
theorem dX0_layOut_8 : decode cX0_layOut 8 = .ok (.invokevirtual 74, 3) := by decide +kernel
theorem dX0_layOut_11 : decode cX0_layOut 11 = .ok (.istore 4, 2) := by decide +kernel
theorem dX0_layOut_13 : decode cX0_layOut 13 = .ok (.aload_n 0, 1) := by decide +kernel
theorem dX0_layOut_14 : decode cX0_layOut 14 = .ok (.getfield 18, 3) := by decide +kernel
theorem dX0_layOut_17 : decode cX0_layOut 17 = .ok (.iload_n 2, 1) := by decide +kernel
theorem dX0_layOut_18 : decode cX0_layOut 18 = .ok (.iload 4, 2) := by decide +kernel
theorem dX0_layOut_20 : decode cX0_layOut 20 = .ok (.invokestatic 50, 3) := by decide +kernel
theorem dX0_layOut_23 : decode cX0_layOut 23 = .ok (.iconst 0, 1) := by decide +kernel
theorem dX0_layOut_24 : decode cX0_layOut 24 = .ok (.istore 5, 2) := by decide +kernel
theorem dX0_layOut_26 : decode cX0_layOut 26 = .ok (.iload 5, 2) := by decide +kernel
theorem dX0_layOut_28 : decode cX0_layOut 28 = .ok (.iload 4, 2) := by decide +kernel
theorem dX0_layOut_30 : decode cX0_layOut 30 = .ok (.if_icmp .ge 29, 3) := by decide +kernel
theorem dX0_layOut_33 : decode cX0_layOut 33 = .ok (.aload_n 0, 1) := by decide +kernel
theorem dX0_layOut_34 : decode cX0_layOut 34 = .ok (.getfield 22, 3) := by decide +kernel
theorem dX0_layOut_37 : decode cX0_layOut 37 = .ok (.iload_n 2, 1) := by decide +kernel
theorem dX0_layOut_38 : decode cX0_layOut 38 = .ok (.iconst 5, 1) := by decide +kernel
theorem dX0_layOut_39 : decode cX0_layOut 39 = .ok (.imul, 1) := by decide +kernel
theorem dX0_layOut_40 : decode cX0_layOut 40 = .ok (.iload 5, 2) := by decide +kernel
theorem dX0_layOut_42 : decode cX0_layOut 42 = .ok (.iadd, 1) := by decide +kernel
theorem dX0_layOut_43 : decode cX0_layOut 43 = .ok (.aload_n 1, 1) := by decide +kernel
theorem dX0_layOut_44 : decode cX0_layOut 44 = .ok (.iload_n 3, 1) := by decide +kernel
theorem dX0_layOut_45 : decode cX0_layOut 45 = .ok (.iload 5, 2) := by decide +kernel
theorem dX0_layOut_47 : decode cX0_layOut 47 = .ok (.invokevirtual 77, 3) := by decide +kernel
theorem dX0_layOut_50 : decode cX0_layOut 50 = .ok (.invokestatic 50, 3) := by decide +kernel
theorem dX0_layOut_53 : decode cX0_layOut 53 = .ok (.iinc 5 1, 3) := by decide +kernel
theorem dX0_layOut_56 : decode cX0_layOut 56 = .ok (.goto (-30), 3) := by decide +kernel
theorem dX0_layOut_59 : decode cX0_layOut 59 = .ok (.return_, 1) := by decide +kernel
set_option maxRecDepth 20000 in
theorem ggX0_compare_X3_at : GoodIn wsX0_compare wsX3_at := goodIn_r _ [10] (by decide +kernel) (by decide +kernel)
set_option maxRecDepth 20000 in
theorem gX0_compare_X3_at_n58 : GoodIn wsX0_compare (wsX3_at) := ggX0_compare_X3_at
set_option maxRecDepth 20000 in
theorem ggX0_compare_X1_alike : GoodIn wsX0_compare wsX1_alike := goodIn_r _ [15, 16, 17, 18, 6, 19, 20, 21, 22, 23, 24, 14, 25, 26, 8, 9, 10, 27, 28, 29, 30, 31, 32, 33, 34, 35, 36, 37, 38, 39, 40, 41, 42, 43, 44, 45, 46, 47, 48, 59, 60, 61, 62, 63, 64, 65, 66, 67] (by decide +kernel) (by decide +kernel)
set_option maxRecDepth 20000 in
theorem gX0_compare_X1_alike : GoodIn wsX0_compare (wsV RX0 80 RX1 yX1_alike wsX1_alike) := goodIn_app (goodIn_of _ (by decide +kernel)) ggX0_compare_X1_alike
set_option maxRecDepth 20000 in
theorem ggX0_compare_X3_put : GoodIn wsX0_compare wsX3_put := goodIn_r _ [50] (by decide +kernel) (by decide +kernel)
set_option maxRecDepth 20000 in
theorem gX0_compare_X3_put_n50 : GoodIn wsX0_compare (wsX3_put) := ggX0_compare_X3_put
theorem dX0_compare_0 : decode cX0_compare 0 = .ok (.iconst 0, 1) := by decide +kernel
theorem dX0_compare_1 : decode cX0_compare 1 = .ok (.istore 5, 2) := by decide +kernel
theorem dX0_compare_3 : decode cX0_compare 3 = .ok (.iload_n 2, 1) := by decide +kernel
theorem dX0_compare_4 : decode cX0_compare 4 = .ok (.iconst 5, 1) := by decide +kernel
theorem dX0_compare_5 : decode cX0_compare 5 = .ok (.imul, 1) := by decide +kernel
theorem dX0_compare_6 : decode cX0_compare 6 = .ok (.aload_n 0, 1) := by decide +kernel
theorem dX0_compare_7 : decode cX0_compare 7 = .ok (.getfield 18, 3) := by decide +kernel
theorem dX0_compare_10 : decode cX0_compare 10 = .ok (.iload_n 2, 1) := by decide +kernel
theorem dX0_compare_11 : decode cX0_compare 11 = .ok (.invokestatic 58, 3) := by decide +kernel
theorem dX0_compare_14 : decode cX0_compare 14 = .ok (.iadd, 1) := by decide +kernel
theorem dX0_compare_15 : decode cX0_compare 15 = .ok (.istore 6, 2) := by decide +kernel
theorem dX0_compare_17 : decode cX0_compare 17 = .ok (.iload_n 3, 1) := by decide +kernel
theorem dX0_compare_18 : decode cX0_compare 18 = .ok (.iconst 5, 1) := by decide +kernel
theorem dX0_compare_19 : decode cX0_compare 19 = .ok (.imul, 1) := by decide +kernel
theorem dX0_compare_20 : decode cX0_compare 20 = .ok (.aload_n 0, 1) := by decide +kernel
theorem dX0_compare_21 : decode cX0_compare 21 = .ok (.getfield 18, 3) := by decide +kernel
theorem dX0_compare_24 : decode cX0_compare 24 = .ok (.iload_n 3, 1) := by decide +kernel
theorem dX0_compare_25 : decode cX0_compare 25 = .ok (.invokestatic 58, 3) := by decide +kernel
theorem dX0_compare_28 : decode cX0_compare 28 = .ok (.iadd, 1) := by decide +kernel
theorem dX0_compare_29 : decode cX0_compare 29 = .ok (.istore 7, 2) := by decide +kernel
theorem dX0_compare_31 : decode cX0_compare 31 = .ok (.iload_n 2, 1) := by decide +kernel
theorem dX0_compare_32 : decode cX0_compare 32 = .ok (.iconst 5, 1) := by decide +kernel
theorem dX0_compare_33 : decode cX0_compare 33 = .ok (.imul, 1) := by decide +kernel
theorem dX0_compare_34 : decode cX0_compare 34 = .ok (.istore 8, 2) := by decide +kernel
theorem dX0_compare_36 : decode cX0_compare 36 = .ok (.iload 8, 2) := by decide +kernel
theorem dX0_compare_38 : decode cX0_compare 38 = .ok (.iload 6, 2) := by decide +kernel
theorem dX0_compare_40 : decode cX0_compare 40 = .ok (.if_icmp .ge 79, 3) := by decide +kernel
theorem dX0_compare_43 : decode cX0_compare 43 = .ok (.iload_n 3, 1) := by decide +kernel
theorem dX0_compare_44 : decode cX0_compare 44 = .ok (.iconst 5, 1) := by decide +kernel
theorem dX0_compare_45 : decode cX0_compare 45 = .ok (.imul, 1) := by decide +kernel
theorem dX0_compare_46 : decode cX0_compare 46 = .ok (.istore 9, 2) := by decide +kernel
theorem dX0_compare_48 : decode cX0_compare 48 = .ok (.iload 9, 2) := by decide +kernel
theorem dX0_compare_50 : decode cX0_compare 50 = .ok (.iload 7, 2) := by decide +kernel
theorem dX0_compare_52 : decode cX0_compare 52 = .ok (.if_icmp .ge 61, 3) := by decide +kernel
theorem dX0_compare_55 : decode cX0_compare 55 = .ok (.aload_n 1, 1) := by decide +kernel
theorem dX0_compare_56 : decode cX0_compare 56 = .ok (.aload_n 0, 1) := by decide +kernel
theorem dX0_compare_57 : decode cX0_compare 57 = .ok (.getfield 22, 3) := by decide +kernel
theorem dX0_compare_60 : decode cX0_compare 60 = .ok (.iload 8, 2) := by decide +kernel
theorem dX0_compare_62 : decode cX0_compare 62 = .ok (.invokestatic 58, 3) := by decide +kernel
theorem dX0_compare_65 : decode cX0_compare 65 = .ok (.aload_n 0, 1) := by decide +kernel
theorem dX0_compare_66 : decode cX0_compare 66 = .ok (.getfield 22, 3) := by decide +kernel
theorem dX0_compare_69 : decode cX0_compare 69 = .ok (.iload 9, 2) := by decide +kernel
theorem dX0_compare_71 : decode cX0_compare 71 = .ok (.invokestatic 58, 3) := by decide +kernel
theorem dX0_compare_74 : decode cX0_compare 74 = .ok (.iload 4, 2) := by decide +kernel
theorem dX0_compare_76 : decode cX0_compare 76 = .ok (.invokevirtual 80, 3) := by decide +kernel
theorem dX0_compare_79 : decode cX0_compare 79 = .ok (.istore 10, 2) := by decide +kernel
theorem dX0_compare_81 : decode cX0_compare 81 = .ok (.aload_n 0, 1) := by decide +kernel
theorem dX0_compare_82 : decode cX0_compare 82 = .ok (.getfield 25, 3) := by decide +kernel
theorem dX0_compare_85 : decode cX0_compare 85 = .ok (.iload 9, 2) := by decide +kernel
theorem dX0_compare_87 : decode cX0_compare 87 = .ok (.bipush 30, 2) := by decide +kernel
theorem dX0_compare_89 : decode cX0_compare 89 = .ok (.imul, 1) := by decide +kernel
theorem dX0_compare_90 : decode cX0_compare 90 = .ok (.iload 8, 2) := by decide +kernel
theorem dX0_compare_92 : decode cX0_compare 92 = .ok (.iadd, 1) := by decide +kernel
theorem dX0_compare_93 : decode cX0_compare 93 = .ok (.iload 10, 2) := by decide +kernel
theorem dX0_compare_95 : decode cX0_compare 95 = .ok (.invokestatic 50, 3) := by decide +kernel
theorem dX0_compare_98 : decode cX0_compare 98 = .ok (.iload 5, 2) := by decide +kernel
theorem dX0_compare_100 : decode cX0_compare 100 = .ok (.iload 10, 2) := by decide +kernel
theorem dX0_compare_102 : decode cX0_compare 102 = .ok (.invokestatic 85, 3) := by decide +kernel
theorem dX0_compare_105 : decode cX0_compare 105 = .ok (.istore 5, 2) := by decide +kernel
theorem dX0_compare_107 : decode cX0_compare 107 = .ok (.iinc 9 1, 3) := by decide +kernel
theorem dX0_compare_110 : decode cX0_compare 110 = .ok (.goto (-62), 3) := by decide +kernel
theorem dX0_compare_113 : decode cX0_compare 113 = .ok (.iinc 8 1, 3) := by decide +kernel
theorem dX0_compare_116 : decode cX0_compare 116 = .ok (.goto (-80), 3) := by decide +kernel
theorem dX0_compare_119 : decode cX0_compare 119 = .ok (.iload 5, 2) := by decide +kernel
theorem dX0_compare_121 : decode cX0_compare 121 = .ok (.ireturn, 1) := by decide +kernel
set_option maxRecDepth 20000 in
theorem ggX0_gain_X3_at : GoodIn wsX0_gain wsX3_at := goodIn_r _ [5] (by decide +kernel) (by decide +kernel)
set_option maxRecDepth 20000 in
theorem gX0_gain_X3_at_n58 : GoodIn wsX0_gain (wsX3_at) := ggX0_gain_X3_at
theorem dX0_gain_0 : decode cX0_gain 0 = .ok (.iconst 0, 1) := by decide +kernel
theorem dX0_gain_1 : decode cX0_gain 1 = .ok (.istore_n 3, 1) := by decide +kernel
theorem dX0_gain_2 : decode cX0_gain 2 = .ok (.iconst 0, 1) := by decide +kernel
theorem dX0_gain_3 : decode cX0_gain 3 = .ok (.istore 4, 2) := by decide +kernel
theorem dX0_gain_5 : decode cX0_gain 5 = .ok (.iload 4, 2) := by decide +kernel
theorem dX0_gain_7 : decode cX0_gain 7 = .ok (.iload_n 1, 1) := by decide +kernel
theorem dX0_gain_8 : decode cX0_gain 8 = .ok (.if_icmp .ge 33, 3) := by decide +kernel
theorem dX0_gain_11 : decode cX0_gain 11 = .ok (.iload_n 3, 1) := by decide +kernel
theorem dX0_gain_12 : decode cX0_gain 12 = .ok (.aload_n 0, 1) := by decide +kernel
theorem dX0_gain_13 : decode cX0_gain 13 = .ok (.getfield 25, 3) := by decide +kernel
theorem dX0_gain_16 : decode cX0_gain 16 = .ok (.iload_n 2, 1) := by decide +kernel
theorem dX0_gain_17 : decode cX0_gain 17 = .ok (.bipush 30, 2) := by decide +kernel
theorem dX0_gain_19 : decode cX0_gain 19 = .ok (.imul, 1) := by decide +kernel
theorem dX0_gain_20 : decode cX0_gain 20 = .ok (.aload_n 0, 1) := by decide +kernel
theorem dX0_gain_21 : decode cX0_gain 21 = .ok (.getfield 31, 3) := by decide +kernel
theorem dX0_gain_24 : decode cX0_gain 24 = .ok (.iload 4, 2) := by decide +kernel
theorem dX0_gain_26 : decode cX0_gain 26 = .ok (.invokestatic 58, 3) := by decide +kernel
theorem dX0_gain_29 : decode cX0_gain 29 = .ok (.iadd, 1) := by decide +kernel
theorem dX0_gain_30 : decode cX0_gain 30 = .ok (.invokestatic 58, 3) := by decide +kernel
theorem dX0_gain_33 : decode cX0_gain 33 = .ok (.iadd, 1) := by decide +kernel
theorem dX0_gain_34 : decode cX0_gain 34 = .ok (.istore_n 3, 1) := by decide +kernel
theorem dX0_gain_35 : decode cX0_gain 35 = .ok (.iinc 4 1, 3) := by decide +kernel
theorem dX0_gain_38 : decode cX0_gain 38 = .ok (.goto (-33), 3) := by decide +kernel
theorem dX0_gain_41 : decode cX0_gain 41 = .ok (.iload_n 3, 1) := by decide +kernel
theorem dX0_gain_42 : decode cX0_gain 42 = .ok (.ireturn, 1) := by decide +kernel
set_option maxRecDepth 20000 in
theorem ggX0_keep_X3_at : GoodIn wsX0_keep wsX3_at := goodIn_r _ [7] (by decide +kernel) (by decide +kernel)
set_option maxRecDepth 20000 in
theorem gX0_keep_X3_at_n58 : GoodIn wsX0_keep (wsX3_at) := ggX0_keep_X3_at
set_option maxRecDepth 20000 in
theorem ggX0_keep_X3_put : GoodIn wsX0_keep wsX3_put := goodIn_r _ [9] (by decide +kernel) (by decide +kernel)
set_option maxRecDepth 20000 in
theorem gX0_keep_X3_put_n50 : GoodIn wsX0_keep (wsX3_put) := ggX0_keep_X3_put
theorem dX0_keep_0 : decode cX0_keep 0 = .ok (.aload_n 0, 1) := by decide +kernel
theorem dX0_keep_1 : decode cX0_keep 1 = .ok (.iload_n 1, 1) := by decide +kernel
theorem dX0_keep_2 : decode cX0_keep 2 = .ok (.putfield 15, 3) := by decide +kernel
theorem dX0_keep_5 : decode cX0_keep 5 = .ok (.iconst 0, 1) := by decide +kernel
theorem dX0_keep_6 : decode cX0_keep 6 = .ok (.istore_n 2, 1) := by decide +kernel
theorem dX0_keep_7 : decode cX0_keep 7 = .ok (.iload_n 2, 1) := by decide +kernel
theorem dX0_keep_8 : decode cX0_keep 8 = .ok (.aload_n 0, 1) := by decide +kernel
theorem dX0_keep_9 : decode cX0_keep 9 = .ok (.getfield 9, 3) := by decide +kernel
theorem dX0_keep_12 : decode cX0_keep 12 = .ok (.if_icmp .ge 25, 3) := by decide +kernel
theorem dX0_keep_15 : decode cX0_keep 15 = .ok (.aload_n 0, 1) := by decide +kernel
theorem dX0_keep_16 : decode cX0_keep 16 = .ok (.getfield 34, 3) := by decide +kernel
theorem dX0_keep_19 : decode cX0_keep 19 = .ok (.iload_n 2, 1) := by decide +kernel
theorem dX0_keep_20 : decode cX0_keep 20 = .ok (.aload_n 0, 1) := by decide +kernel
theorem dX0_keep_21 : decode cX0_keep 21 = .ok (.getfield 31, 3) := by decide +kernel
theorem dX0_keep_24 : decode cX0_keep 24 = .ok (.iload_n 2, 1) := by decide +kernel
theorem dX0_keep_25 : decode cX0_keep 25 = .ok (.invokestatic 58, 3) := by decide +kernel
theorem dX0_keep_28 : decode cX0_keep 28 = .ok (.invokestatic 50, 3) := by decide +kernel
theorem dX0_keep_31 : decode cX0_keep 31 = .ok (.iinc 2 1, 3) := by decide +kernel
theorem dX0_keep_34 : decode cX0_keep 34 = .ok (.goto (-27), 3) := by decide +kernel
theorem dX0_keep_37 : decode cX0_keep 37 = .ok (.return_, 1) := by decide +kernel
set_option maxRecDepth 20000 in
theorem ggX0_seek_X3_at : GoodIn wsX0_seek wsX3_at := goodIn_r _ [8] (by decide +kernel) (by decide +kernel)
set_option maxRecDepth 20000 in
theorem gX0_seek_X3_at_n58 : GoodIn wsX0_seek (wsX3_at) := ggX0_seek_X3_at
set_option maxRecDepth 20000 in
theorem ggX0_seek_X0_keep : GoodIn wsX0_seek wsX0_keep := goodIn_r _ [13, 2, 3, 14, 5, 6, 7, 8, 15, 16, 24, 25, 26, 27, 28, 29, 30, 31] (by decide +kernel) (by decide +kernel)
set_option maxRecDepth 20000 in
theorem gX0_seek_X0_keep : GoodIn wsX0_seek (wsV RX0 88 RX0 yX0_keep wsX0_keep) := goodIn_app (goodIn_of _ (by decide +kernel)) ggX0_seek_X0_keep
set_option maxRecDepth 20000 in
theorem ggX0_seek_X3_put : GoodIn wsX0_seek wsX3_put := goodIn_r _ [16] (by decide +kernel) (by decide +kernel)
set_option maxRecDepth 20000 in
theorem gX0_seek_X3_put_n50 : GoodIn wsX0_seek (wsX3_put) := ggX0_seek_X3_put
set_option maxRecDepth 20000 in
theorem ggX0_seek_X0_gain : GoodIn wsX0_seek wsX0_gain := goodIn_r _ [20, 21, 5, 6, 7, 8, 24, 25, 26, 27, 28, 29, 30, 31] (by decide +kernel) (by decide +kernel)
set_option maxRecDepth 20000 in
theorem gX0_seek_X0_gain : GoodIn wsX0_seek (wsV RX0 92 RX0 yX0_gain wsX0_gain) := goodIn_app (goodIn_of _ (by decide +kernel)) ggX0_seek_X0_gain
set_option maxRecDepth 20000 in
theorem ggX0_seek_X0_seek : GoodIn wsX0_seek wsX0_seek := goodIn_r _ [0, 1, 2, 3, 4, 5, 6, 7, 8, 9, 10, 11, 12, 13, 14, 15, 16, 17, 18, 19, 20, 21, 22, 23, 24, 25, 26, 27, 28, 29, 30, 31] (by decide +kernel) (by decide +kernel)
set_option maxRecDepth 20000 in
theorem gX0_seek_X0_seek : GoodIn wsX0_seek (va_wsS RX0 62 yX0_seek wsX0_seek) := goodIn_app (goodIn_of _ (by decide +kernel)) ggX0_seek_X0_seek
theorem dX0_seek_0 : decode cX0_seek 0 = .ok (.aload_n 0, 1) := by decide +kernel
theorem dX0_seek_1 : decode cX0_seek 1 = .ok (.ifnull 26, 3) := by decide +kernel
theorem dX0_seek_4 : decode cX0_seek 4 = .ok (.iload_n 1, 1) := by decide +kernel
theorem dX0_seek_5 : decode cX0_seek 5 = .ok (.bipush 6, 2) := by decide +kernel
theorem dX0_seek_7 : decode cX0_seek 7 = .ok (.if_icmp .gt 20, 3) := by decide +kernel
theorem dX0_seek_10 : decode cX0_seek 10 = .ok (.iload_n 2, 1) := by decide +kernel
theorem dX0_seek_11 : decode cX0_seek 11 = .ok (.aload_n 0, 1) := by decide +kernel
theorem dX0_seek_12 : decode cX0_seek 12 = .ok (.getfield 28, 3) := by decide +kernel
theorem dX0_seek_15 : decode cX0_seek 15 = .ok (.iload_n 1, 1) := by decide +kernel
theorem dX0_seek_16 : decode cX0_seek 16 = .ok (.invokestatic 58, 3) := by decide +kernel
theorem dX0_seek_19 : decode cX0_seek 19 = .ok (.iadd, 1) := by decide +kernel
theorem dX0_seek_20 : decode cX0_seek 20 = .ok (.aload_n 0, 1) := by decide +kernel
theorem dX0_seek_21 : decode cX0_seek 21 = .ok (.getfield 15, 3) := by decide +kernel
theorem dX0_seek_24 : decode cX0_seek 24 = .ok (.if_icmp .gt 4, 3) := by decide +kernel
theorem dX0_seek_27 : decode cX0_seek 27 = .ok (.return_, 1) := by decide +kernel
theorem dX0_seek_28 : decode cX0_seek 28 = .ok (.iload_n 1, 1) := by decide +kernel
theorem dX0_seek_29 : decode cX0_seek 29 = .ok (.aload_n 0, 1) := by decide +kernel
theorem dX0_seek_30 : decode cX0_seek 30 = .ok (.getfield 9, 3) := by decide +kernel
theorem dX0_seek_33 : decode cX0_seek 33 = .ok (.if_icmp .lt 9, 3) := by decide +kernel
theorem dX0_seek_36 : decode cX0_seek 36 = .ok (.aload_n 0, 1) := by decide +kernel
theorem dX0_seek_37 : decode cX0_seek 37 = .ok (.iload_n 2, 1) := by decide +kernel
theorem dX0_seek_38 : decode cX0_seek 38 = .ok (.invokevirtual 88, 3) := by decide +kernel
theorem dX0_seek_41 : decode cX0_seek 41 = .ok (.return_, 1) := by decide +kernel
theorem dX0_seek_42 : decode cX0_seek 42 = .ok (.iload_n 1, 1) := by decide +kernel
theorem dX0_seek_43 : decode cX0_seek 43 = .ok (.iconst 5, 1) := by decide +kernel
theorem dX0_seek_44 : decode cX0_seek 44 = .ok (.imul, 1) := by decide +kernel
theorem dX0_seek_45 : decode cX0_seek 45 = .ok (.istore_n 3, 1) := by decide +kernel
theorem dX0_seek_46 : decode cX0_seek 46 = .ok (.iload_n 3, 1) := by decide +kernel
theorem dX0_seek_47 : decode cX0_seek 47 = .ok (.aload_n 0, 1) := by decide +kernel
theorem dX0_seek_48 : decode cX0_seek 48 = .ok (.getfield 18, 3) := by decide +kernel
theorem dX0_seek_51 : decode cX0_seek 51 = .ok (.iload_n 1, 1) := by decide +kernel
theorem dX0_seek_52 : decode cX0_seek 52 = .ok (.invokestatic 58, 3) := by decide +kernel
theorem dX0_seek_55 : decode cX0_seek 55 = .ok (.iadd, 1) := by decide +kernel
theorem dX0_seek_56 : decode cX0_seek 56 = .ok (.istore 4, 2) := by decide +kernel
theorem dX0_seek_58 : decode cX0_seek 58 = .ok (.iload_n 3, 1) := by decide +kernel
theorem dX0_seek_59 : decode cX0_seek 59 = .ok (.istore 5, 2) := by decide +kernel
theorem dX0_seek_61 : decode cX0_seek 61 = .ok (.iload 5, 2) := by decide +kernel
theorem dX0_seek_63 : decode cX0_seek 63 = .ok (.iload 4, 2) := by decide +kernel
theorem dX0_seek_65 : decode cX0_seek 65 = .ok (.if_icmp .ge 35, 3) := by decide +kernel
theorem dX0_seek_68 : decode cX0_seek 68 = .ok (.aload_n 0, 1) := by decide +kernel
theorem dX0_seek_69 : decode cX0_seek 69 = .ok (.getfield 31, 3) := by decide +kernel
theorem dX0_seek_72 : decode cX0_seek 72 = .ok (.iload_n 1, 1) := by decide +kernel
theorem dX0_seek_73 : decode cX0_seek 73 = .ok (.iload 5, 2) := by decide +kernel
theorem dX0_seek_75 : decode cX0_seek 75 = .ok (.invokestatic 50, 3) := by decide +kernel
theorem dX0_seek_78 : decode cX0_seek 78 = .ok (.aload_n 0, 1) := by decide +kernel
theorem dX0_seek_79 : decode cX0_seek 79 = .ok (.iload_n 1, 1) := by decide +kernel
theorem dX0_seek_80 : decode cX0_seek 80 = .ok (.iconst 1, 1) := by decide +kernel
theorem dX0_seek_81 : decode cX0_seek 81 = .ok (.iadd, 1) := by decide +kernel
theorem dX0_seek_82 : decode cX0_seek 82 = .ok (.iload_n 2, 1) := by decide +kernel
theorem dX0_seek_83 : decode cX0_seek 83 = .ok (.aload_n 0, 1) := by decide +kernel
theorem dX0_seek_84 : decode cX0_seek 84 = .ok (.iload_n 1, 1) := by decide +kernel
theorem dX0_seek_85 : decode cX0_seek 85 = .ok (.iload 5, 2) := by decide +kernel
theorem dX0_seek_87 : decode cX0_seek 87 = .ok (.invokevirtual 92, 3) := by decide +kernel
theorem dX0_seek_90 : decode cX0_seek 90 = .ok (.iadd, 1) := by decide +kernel
theorem dX0_seek_91 : decode cX0_seek 91 = .ok (.invokestatic 62, 3) := by decide +kernel
theorem dX0_seek_94 : decode cX0_seek 94 = .ok (.iinc 5 1, 3) := by decide +kernel
theorem dX0_seek_97 : decode cX0_seek 97 = .ok (.goto (-36), 3) := by decide +kernel
theorem dX0_seek_100 : decode cX0_seek 100 = .ok (.return_, 1) := by decide +kernel
set_option maxRecDepth 20000 in
theorem ggX0_greatest_X3_at : GoodIn wsX0_greatest wsX3_at := goodIn_r _ [10] (by decide +kernel) (by decide +kernel)
set_option maxRecDepth 20000 in
theorem gX0_greatest_X3_at_n58 : GoodIn wsX0_greatest (wsX3_at) := ggX0_greatest_X3_at
set_option maxRecDepth 20000 in
theorem ggX0_greatest_X3_put : GoodIn wsX0_greatest wsX3_put := goodIn_r _ [12] (by decide +kernel) (by decide +kernel)
set_option maxRecDepth 20000 in
theorem gX0_greatest_X3_put_n50 : GoodIn wsX0_greatest (wsX3_put) := ggX0_greatest_X3_put
set_option maxRecDepth 20000 in
theorem ggX0_greatest_X0_gain : GoodIn wsX0_greatest wsX0_gain := goodIn_r _ [17, 18, 3, 8, 9, 10, 21, 22, 23, 24, 25, 26, 27, 28] (by decide +kernel) (by decide +kernel)
set_option maxRecDepth 20000 in
theorem gX0_greatest_X0_gain : GoodIn wsX0_greatest (wsV RX0 92 RX0 yX0_gain wsX0_gain) := goodIn_app (goodIn_of _ (by decide +kernel)) ggX0_greatest_X0_gain
set_option maxRecDepth 20000 in
theorem ggX0_greatest_X0_greatest : GoodIn wsX0_greatest wsX0_greatest := goodIn_r _ [0, 1, 2, 3, 4, 5, 6, 7, 8, 9, 10, 11, 12, 13, 14, 15, 16, 17, 18, 19, 20, 21, 22, 23, 24, 25, 26, 27, 28] (by decide +kernel) (by decide +kernel)
set_option maxRecDepth 20000 in
theorem gX0_greatest_X0_greatest : GoodIn wsX0_greatest (va_wsS RX0 66 yX0_greatest wsX0_greatest) := goodIn_app (goodIn_of _ (by decide +kernel)) ggX0_greatest_X0_greatest
theorem dX0_greatest_0 : decode cX0_greatest 0 = .ok (.aload_n 0, 1) := by decide +kernel
theorem dX0_greatest_1 : decode cX0_greatest 1 = .ok (.ifnull 17, 3) := by decide +kernel
theorem dX0_greatest_4 : decode cX0_greatest 4 = .ok (.iload_n 1, 1) := by decide +kernel
theorem dX0_greatest_5 : decode cX0_greatest 5 = .ok (.bipush 6, 2) := by decide +kernel
theorem dX0_greatest_7 : decode cX0_greatest 7 = .ok (.if_icmp .gt 11, 3) := by decide +kernel
theorem dX0_greatest_10 : decode cX0_greatest 10 = .ok (.iload_n 1, 1) := by decide +kernel
theorem dX0_greatest_11 : decode cX0_greatest 11 = .ok (.aload_n 0, 1) := by decide +kernel
theorem dX0_greatest_12 : decode cX0_greatest 12 = .ok (.getfield 9, 3) := by decide +kernel
theorem dX0_greatest_15 : decode cX0_greatest 15 = .ok (.if_icmp .lt 5, 3) := by decide +kernel
theorem dX0_greatest_18 : decode cX0_greatest 18 = .ok (.iload_n 2, 1) := by decide +kernel
theorem dX0_greatest_19 : decode cX0_greatest 19 = .ok (.ireturn, 1) := by decide +kernel
theorem dX0_greatest_20 : decode cX0_greatest 20 = .ok (.iconst 0, 1) := by decide +kernel
theorem dX0_greatest_21 : decode cX0_greatest 21 = .ok (.istore_n 3, 1) := by decide +kernel
theorem dX0_greatest_22 : decode cX0_greatest 22 = .ok (.iload_n 1, 1) := by decide +kernel
theorem dX0_greatest_23 : decode cX0_greatest 23 = .ok (.iconst 5, 1) := by decide +kernel
theorem dX0_greatest_24 : decode cX0_greatest 24 = .ok (.imul, 1) := by decide +kernel
theorem dX0_greatest_25 : decode cX0_greatest 25 = .ok (.istore 4, 2) := by decide +kernel
theorem dX0_greatest_27 : decode cX0_greatest 27 = .ok (.iload 4, 2) := by decide +kernel
theorem dX0_greatest_29 : decode cX0_greatest 29 = .ok (.aload_n 0, 1) := by decide +kernel
theorem dX0_greatest_30 : decode cX0_greatest 30 = .ok (.getfield 18, 3) := by decide +kernel
theorem dX0_greatest_33 : decode cX0_greatest 33 = .ok (.iload_n 1, 1) := by decide +kernel
theorem dX0_greatest_34 : decode cX0_greatest 34 = .ok (.invokestatic 58, 3) := by decide +kernel
theorem dX0_greatest_37 : decode cX0_greatest 37 = .ok (.iadd, 1) := by decide +kernel
theorem dX0_greatest_38 : decode cX0_greatest 38 = .ok (.istore 5, 2) := by decide +kernel
theorem dX0_greatest_40 : decode cX0_greatest 40 = .ok (.iload 4, 2) := by decide +kernel
theorem dX0_greatest_42 : decode cX0_greatest 42 = .ok (.istore 6, 2) := by decide +kernel
theorem dX0_greatest_44 : decode cX0_greatest 44 = .ok (.iload 6, 2) := by decide +kernel
theorem dX0_greatest_46 : decode cX0_greatest 46 = .ok (.iload 5, 2) := by decide +kernel
theorem dX0_greatest_48 : decode cX0_greatest 48 = .ok (.if_icmp .ge 40, 3) := by decide +kernel
theorem dX0_greatest_51 : decode cX0_greatest 51 = .ok (.aload_n 0, 1) := by decide +kernel
theorem dX0_greatest_52 : decode cX0_greatest 52 = .ok (.getfield 31, 3) := by decide +kernel
theorem dX0_greatest_55 : decode cX0_greatest 55 = .ok (.iload_n 1, 1) := by decide +kernel
theorem dX0_greatest_56 : decode cX0_greatest 56 = .ok (.iload 6, 2) := by decide +kernel
theorem dX0_greatest_58 : decode cX0_greatest 58 = .ok (.invokestatic 50, 3) := by decide +kernel
theorem dX0_greatest_61 : decode cX0_greatest 61 = .ok (.iload_n 3, 1) := by decide +kernel
theorem dX0_greatest_62 : decode cX0_greatest 62 = .ok (.aload_n 0, 1) := by decide +kernel
theorem dX0_greatest_63 : decode cX0_greatest 63 = .ok (.iload_n 1, 1) := by decide +kernel
theorem dX0_greatest_64 : decode cX0_greatest 64 = .ok (.iconst 1, 1) := by decide +kernel
theorem dX0_greatest_65 : decode cX0_greatest 65 = .ok (.iadd, 1) := by decide +kernel
theorem dX0_greatest_66 : decode cX0_greatest 66 = .ok (.iload_n 2, 1) := by decide +kernel
theorem dX0_greatest_67 : decode cX0_greatest 67 = .ok (.aload_n 0, 1) := by decide +kernel
theorem dX0_greatest_68 : decode cX0_greatest 68 = .ok (.iload_n 1, 1) := by decide +kernel
theorem dX0_greatest_69 : decode cX0_greatest 69 = .ok (.iload 6, 2) := by decide +kernel
theorem dX0_greatest_71 : decode cX0_greatest 71 = .ok (.invokevirtual 92, 3) := by decide +kernel
theorem dX0_greatest_74 : decode cX0_greatest 74 = .ok (.iadd, 1) := by decide +kernel
theorem dX0_greatest_75 : decode cX0_greatest 75 = .ok (.invokestatic 66, 3) := by decide +kernel
theorem dX0_greatest_78 : decode cX0_greatest 78 = .ok (.invokestatic 85, 3) := by decide +kernel
theorem dX0_greatest_81 : decode cX0_greatest 81 = .ok (.istore_n 3, 1) := by decide +kernel
theorem dX0_greatest_82 : decode cX0_greatest 82 = .ok (.iinc 6 1, 3) := by decide +kernel
theorem dX0_greatest_85 : decode cX0_greatest 85 = .ok (.goto (-41), 3) := by decide +kernel
theorem dX0_greatest_88 : decode cX0_greatest 88 = .ok (.iload_n 3, 1) := by decide +kernel
theorem dX0_greatest_89 : decode cX0_greatest 89 = .ok (.ireturn, 1) := by decide +kernel
