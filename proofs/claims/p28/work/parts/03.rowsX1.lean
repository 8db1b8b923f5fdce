theorem dX1_init_0 : decode cX1_init 0 = .ok (.aload_n 0, 1) := by decide +kernel
theorem dX1_init_1 : decode cX1_init 1 = .ok (.invokespecial 3, 3) := by decide +kernel
theorem dX1_init_4 : decode cX1_init 4 = .ok (.aload_n 0, 1) := by decide +kernel
theorem dX1_init_5 : decode cX1_init 5 = .ok (.iconst 0, 1) := by decide +kernel
theorem dX1_init_6 : decode cX1_init 6 = .ok (.putfield 9, 3) := by decide +kernel
theorem dX1_init_9 : decode cX1_init 9 = .ok (.aload_n 0, 1) := by decide +kernel
theorem dX1_init_10 : decode cX1_init 10 = .ok (.iconst 0, 1) := by decide +kernel
theorem dX1_init_11 : decode cX1_init 11 = .ok (.putfield 15, 3) := by decide +kernel
theorem dX1_init_14 : decode cX1_init 14 = .ok (.aload_n 0, 1) := by decide +kernel
theorem dX1_init_15 : decode cX1_init 15 = .ok (.bipush 30, 2) := by decide +kernel
theorem dX1_init_17 : decode cX1_init 17 = .ok (.newarray .int, 2) := by decide +kernel
theorem dX1_init_19 : decode cX1_init 19 = .ok (.putfield 18, 3) := by decide +kernel
theorem dX1_init_22 : decode cX1_init 22 = .ok (.aload_n 0, 1) := by decide +kernel
theorem dX1_init_23 : decode cX1_init 23 = .ok (.bipush 30, 2) := by decide +kernel
theorem dX1_init_25 : decode cX1_init 25 = .ok (.newarray .int, 2) := by decide +kernel
theorem dX1_init_27 : decode cX1_init 27 = .ok (.putfield 22, 3) := by decide +kernel
theorem dX1_init_30 : decode cX1_init 30 = .ok (.aload_n 0, 1) := by decide +kernel
theorem dX1_init_31 : decode cX1_init 31 = .ok (.bipush 30, 2) := by decide +kernel
theorem dX1_init_33 : decode cX1_init 33 = .ok (.newarray .int, 2) := by decide +kernel
theorem dX1_init_35 : decode cX1_init 35 = .ok (.putfield 25, 3) := by decide +kernel
theorem dX1_init_38 : decode cX1_init 38 = .ok (.aload_n 0, 1) := by decide +kernel
theorem dX1_init_39 : decode cX1_init 39 = .ok (.bipush 30, 2) := by decide +kernel
theorem dX1_init_41 : decode cX1_init 41 = .ok (.newarray .int, 2) := by decide +kernel
theorem dX1_init_43 : decode cX1_init 43 = .ok (.putfield 28, 3) := by decide +kernel
theorem dX1_init_46 : decode cX1_init 46 = .ok (.aload_n 0, 1) := by decide +kernel
theorem dX1_init_47 : decode cX1_init 47 = .ok (.bipush 30, 2) := by decide +kernel
theorem dX1_init_49 : decode cX1_init 49 = .ok (.newarray .int, 2) := by decide +kernel
theorem dX1_init_51 : decode cX1_init 51 = .ok (.putfield 31, 3) := by decide +kernel
theorem dX1_init_54 : decode cX1_init 54 = .ok (.aload_n 0, 1) := by decide +kernel
theorem dX1_init_55 : decode cX1_init 55 = .ok (.sipush 900, 3) := by decide +kernel
theorem dX1_init_58 : decode cX1_init 58 = .ok (.newarray .int, 2) := by decide +kernel
theorem dX1_init_60 : decode cX1_init 60 = .ok (.putfield 34, 3) := by decide +kernel
theorem dX1_init_63 : decode cX1_init 63 = .ok (.aload_n 0, 1) := by decide +kernel
theorem dX1_init_64 : decode cX1_init 64 = .ok (.bipush 30, 2) := by decide +kernel
theorem dX1_init_66 : decode cX1_init 66 = .ok (.newarray .int, 2) := by decide +kernel
theorem dX1_init_68 : decode cX1_init 68 = .ok (.putfield 37, 3) := by decide +kernel
theorem dX1_init_71 : decode cX1_init 71 = .ok (.return_, 1) := by decide +kernel
set_option maxRecDepth 20000 in
theorem ggX1_exists_X3_holds : GoodIn wsX1_exists wsX3_holds := goodIn_r _ [4, 5, 6, 3, 7] (by decide +kernel) (by decide +kernel)
set_option maxRecDepth 20000 in
theorem gX1_exists_X3_holds_n40 : GoodIn wsX1_exists (wsX3_holds) := ggX1_exists_X3_holds
theorem dX1_exists_0 : decode cX1_exists 0 = .ok (.aload_n 0, 1) := by decide +kernel
theorem dX1_exists_1 : decode cX1_exists 1 = .ok (.getfield 15, 3) := by decide +kernel
theorem dX1_exists_4 : decode cX1_exists 4 = .ok (.iload_n 1, 1) := by decide +kernel
theorem dX1_exists_5 : decode cX1_exists 5 = .ok (.invokestatic 40, 3) := by decide +kernel
theorem dX1_exists_8 : decode cX1_exists 8 = .ok (.ireturn, 1) := by decide +kernel
set_option maxRecDepth 20000 in
theorem ggX1_isParent_X3_at : GoodIn wsX1_isParent wsX3_at := goodIn_r _ [4] (by decide +kernel) (by decide +kernel)
set_option maxRecDepth 20000 in
theorem gX1_isParent_X3_at_n44 : GoodIn wsX1_isParent (wsX3_at) := ggX1_isParent_X3_at
set_option maxRecDepth 20000 in
theorem ggX1_isParent_X3_holds : GoodIn wsX1_isParent wsX3_holds := goodIn_r _ [6, 7, 8, 3, 9] (by decide +kernel) (by decide +kernel)
set_option maxRecDepth 20000 in
theorem gX1_isParent_X3_holds_n40 : GoodIn wsX1_isParent (wsX3_holds) := ggX1_isParent_X3_holds
theorem dX1_isParent_0 : decode cX1_isParent 0 = .ok (.aload_n 0, 1) := by decide +kernel
theorem dX1_isParent_1 : decode cX1_isParent 1 = .ok (.getfield 18, 3) := by decide +kernel
theorem dX1_isParent_4 : decode cX1_isParent 4 = .ok (.iload_n 1, 1) := by decide +kernel
theorem dX1_isParent_5 : decode cX1_isParent 5 = .ok (.invokestatic 44, 3) := by decide +kernel
theorem dX1_isParent_8 : decode cX1_isParent 8 = .ok (.iload_n 2, 1) := by decide +kernel
theorem dX1_isParent_9 : decode cX1_isParent 9 = .ok (.invokestatic 40, 3) := by decide +kernel
theorem dX1_isParent_12 : decode cX1_isParent 12 = .ok (.ireturn, 1) := by decide +kernel
set_option maxRecDepth 20000 in
theorem ggX1_parentSet_X3_at : GoodIn wsX1_parentSet wsX3_at := goodIn_r _ [4] (by decide +kernel) (by decide +kernel)
set_option maxRecDepth 20000 in
theorem gX1_parentSet_X3_at_n44 : GoodIn wsX1_parentSet (wsX3_at) := ggX1_parentSet_X3_at
theorem dX1_parentSet_0 : decode cX1_parentSet 0 = .ok (.aload_n 0, 1) := by decide +kernel
theorem dX1_parentSet_1 : decode cX1_parentSet 1 = .ok (.getfield 18, 3) := by decide +kernel
theorem dX1_parentSet_4 : decode cX1_parentSet 4 = .ok (.iload_n 1, 1) := by decide +kernel
theorem dX1_parentSet_5 : decode cX1_parentSet 5 = .ok (.invokestatic 44, 3) := by decide +kernel
theorem dX1_parentSet_8 : decode cX1_parentSet 8 = .ok (.ireturn, 1) := by decide +kernel
set_option maxRecDepth 20000 in
theorem ggX1_parentCount_X3_at : GoodIn wsX1_parentCount wsX3_at := goodIn_r _ [4] (by decide +kernel) (by decide +kernel)
set_option maxRecDepth 20000 in
theorem gX1_parentCount_X3_at_n44 : GoodIn wsX1_parentCount (wsX3_at) := ggX1_parentCount_X3_at
set_option maxRecDepth 20000 in
theorem ggX1_parentCount_J6_bitCount_0f7a4 : GoodIn wsX1_parentCount wsJ6_bitCount_0f7a4 := goodIn_r _ [8, 9, 10, 11] (by decide +kernel) (by decide +kernel)
set_option maxRecDepth 20000 in
theorem gX1_parentCount_J6_bitCount_0f7a4 : GoodIn wsX1_parentCount (va_wsS RX1 48 yJ6_bitCount_0f7a4 wsJ6_bitCount_0f7a4) := goodIn_app (goodIn_of _ (by decide +kernel)) ggX1_parentCount_J6_bitCount_0f7a4
theorem dX1_parentCount_0 : decode cX1_parentCount 0 = .ok (.aload_n 0, 1) := by decide +kernel
theorem dX1_parentCount_1 : decode cX1_parentCount 1 = .ok (.getfield 18, 3) := by decide +kernel
theorem dX1_parentCount_4 : decode cX1_parentCount 4 = .ok (.iload_n 1, 1) := by decide +kernel
theorem dX1_parentCount_5 : decode cX1_parentCount 5 = .ok (.invokestatic 44, 3) := by decide +kernel
theorem dX1_parentCount_8 : decode cX1_parentCount 8 = .ok (.invokestatic 48, 3) := by decide +kernel
theorem dX1_parentCount_11 : decode cX1_parentCount 11 = .ok (.ireturn, 1) := by decide +kernel
set_option maxRecDepth 20000 in
theorem ggX1_coverSet_X3_at : GoodIn wsX1_coverSet wsX3_at := goodIn_r _ [4] (by decide +kernel) (by decide +kernel)
set_option maxRecDepth 20000 in
theorem gX1_coverSet_X3_at_n44 : GoodIn wsX1_coverSet (wsX3_at) := ggX1_coverSet_X3_at
theorem dX1_coverSet_0 : decode cX1_coverSet 0 = .ok (.aload_n 0, 1) := by decide +kernel
theorem dX1_coverSet_1 : decode cX1_coverSet 1 = .ok (.getfield 25, 3) := by decide +kernel
theorem dX1_coverSet_4 : decode cX1_coverSet 4 = .ok (.iload_n 1, 1) := by decide +kernel
theorem dX1_coverSet_5 : decode cX1_coverSet 5 = .ok (.invokestatic 44, 3) := by decide +kernel
theorem dX1_coverSet_8 : decode cX1_coverSet 8 = .ok (.ireturn, 1) := by decide +kernel
set_option maxRecDepth 20000 in
theorem ggX1_covers_X3_at : GoodIn wsX1_covers wsX3_at := goodIn_r _ [4] (by decide +kernel) (by decide +kernel)
set_option maxRecDepth 20000 in
theorem gX1_covers_X3_at_n44 : GoodIn wsX1_covers (wsX3_at) := ggX1_covers_X3_at
set_option maxRecDepth 20000 in
theorem ggX1_covers_X3_holds : GoodIn wsX1_covers wsX3_holds := goodIn_r _ [6, 7, 8, 3, 9] (by decide +kernel) (by decide +kernel)
set_option maxRecDepth 20000 in
theorem gX1_covers_X3_holds_n40 : GoodIn wsX1_covers (wsX3_holds) := ggX1_covers_X3_holds
theorem dX1_covers_0 : decode cX1_covers 0 = .ok (.aload_n 0, 1) := by decide +kernel
theorem dX1_covers_1 : decode cX1_covers 1 = .ok (.getfield 25, 3) := by decide +kernel
theorem dX1_covers_4 : decode cX1_covers 4 = .ok (.iload_n 2, 1) := by decide +kernel
theorem dX1_covers_5 : decode cX1_covers 5 = .ok (.invokestatic 44, 3) := by decide +kernel
theorem dX1_covers_8 : decode cX1_covers 8 = .ok (.iload_n 1, 1) := by decide +kernel
theorem dX1_covers_9 : decode cX1_covers 9 = .ok (.invokestatic 40, 3) := by decide +kernel
theorem dX1_covers_12 : decode cX1_covers 12 = .ok (.ireturn, 1) := by decide +kernel
set_option maxRecDepth 20000 in
theorem ggX1_coveredSet_X3_at : GoodIn wsX1_coveredSet wsX3_at := goodIn_r _ [4] (by decide +kernel) (by decide +kernel)
set_option maxRecDepth 20000 in
theorem gX1_coveredSet_X3_at_n44 : GoodIn wsX1_coveredSet (wsX3_at) := ggX1_coveredSet_X3_at
set_option maxRecDepth 20000 in
theorem ggX1_coveredSet_X3_holds : GoodIn wsX1_coveredSet wsX3_holds := goodIn_r _ [6, 7, 8, 3, 9] (by decide +kernel) (by decide +kernel)
set_option maxRecDepth 20000 in
theorem gX1_coveredSet_X3_holds_n40 : GoodIn wsX1_coveredSet (wsX3_holds) := ggX1_coveredSet_X3_holds
set_option maxRecDepth 20000 in
theorem ggX1_coveredSet_X3_bit : GoodIn wsX1_coveredSet wsX3_bit := goodIn_r _ [9] (by decide +kernel) (by decide +kernel)
set_option maxRecDepth 20000 in
theorem gX1_coveredSet_X3_bit_n54 : GoodIn wsX1_coveredSet (wsX3_bit) := ggX1_coveredSet_X3_bit
theorem dX1_coveredSet_0 : decode cX1_coveredSet 0 = .ok (.iconst 0, 1) := by decide +kernel
theorem dX1_coveredSet_1 : decode cX1_coveredSet 1 = .ok (.istore_n 2, 1) := by decide +kernel
theorem dX1_coveredSet_2 : decode cX1_coveredSet 2 = .ok (.iconst 0, 1) := by decide +kernel
theorem dX1_coveredSet_3 : decode cX1_coveredSet 3 = .ok (.istore_n 3, 1) := by decide +kernel
theorem dX1_coveredSet_4 : decode cX1_coveredSet 4 = .ok (.iload_n 3, 1) := by decide +kernel
theorem dX1_coveredSet_5 : decode cX1_coveredSet 5 = .ok (.bipush 30, 2) := by decide +kernel
theorem dX1_coveredSet_7 : decode cX1_coveredSet 7 = .ok (.if_icmp .ge 31, 3) := by decide +kernel
theorem dX1_coveredSet_10 : decode cX1_coveredSet 10 = .ok (.aload_n 0, 1) := by decide +kernel
theorem dX1_coveredSet_11 : decode cX1_coveredSet 11 = .ok (.getfield 25, 3) := by decide +kernel
theorem dX1_coveredSet_14 : decode cX1_coveredSet 14 = .ok (.iload_n 3, 1) := by decide +kernel
theorem dX1_coveredSet_15 : decode cX1_coveredSet 15 = .ok (.invokestatic 44, 3) := by decide +kernel
theorem dX1_coveredSet_18 : decode cX1_coveredSet 18 = .ok (.iload_n 1, 1) := by decide +kernel
theorem dX1_coveredSet_19 : decode cX1_coveredSet 19 = .ok (.invokestatic 40, 3) := by decide +kernel
theorem dX1_coveredSet_22 : decode cX1_coveredSet 22 = .ok (.ifCond .eq 10, 3) := by decide +kernel
theorem dX1_coveredSet_25 : decode cX1_coveredSet 25 = .ok (.iload_n 2, 1) := by decide +kernel
theorem dX1_coveredSet_26 : decode cX1_coveredSet 26 = .ok (.iload_n 3, 1) := by decide +kernel
theorem dX1_coveredSet_27 : decode cX1_coveredSet 27 = .ok (.invokestatic 54, 3) := by decide +kernel
theorem dX1_coveredSet_30 : decode cX1_coveredSet 30 = .ok (.ior, 1) := by decide +kernel
theorem dX1_coveredSet_31 : decode cX1_coveredSet 31 = .ok (.istore_n 2, 1) := by decide +kernel
theorem dX1_coveredSet_32 : decode cX1_coveredSet 32 = .ok (.iinc 3 1, 3) := by decide +kernel
theorem dX1_coveredSet_35 : decode cX1_coveredSet 35 = .ok (.goto (-31), 3) := by decide +kernel
theorem dX1_coveredSet_38 : decode cX1_coveredSet 38 = .ok (.iload_n 2, 1) := by decide +kernel
theorem dX1_coveredSet_39 : decode cX1_coveredSet 39 = .ok (.ireturn, 1) := by decide +kernel
set_option maxRecDepth 20000 in
theorem ggX1_coveredCount_X3_at : GoodIn wsX1_coveredCount wsX3_at := goodIn_r _ [4] (by decide +kernel) (by decide +kernel)
set_option maxRecDepth 20000 in
theorem gX1_coveredCount_X3_at_n44 : GoodIn wsX1_coveredCount (wsX3_at) := ggX1_coveredCount_X3_at
theorem dX1_coveredCount_0 : decode cX1_coveredCount 0 = .ok (.aload_n 0, 1) := by decide +kernel
theorem dX1_coveredCount_1 : decode cX1_coveredCount 1 = .ok (.getfield 28, 3) := by decide +kernel
theorem dX1_coveredCount_4 : decode cX1_coveredCount 4 = .ok (.iload_n 1, 1) := by decide +kernel
theorem dX1_coveredCount_5 : decode cX1_coveredCount 5 = .ok (.invokestatic 44, 3) := by decide +kernel
theorem dX1_coveredCount_8 : decode cX1_coveredCount 8 = .ok (.ireturn, 1) := by decide +kernel
set_option maxRecDepth 20000 in
theorem ggX1_stepsToTop_X3_at : GoodIn wsX1_stepsToTop wsX3_at := goodIn_r _ [4] (by decide +kernel) (by decide +kernel)
set_option maxRecDepth 20000 in
theorem gX1_stepsToTop_X3_at_n44 : GoodIn wsX1_stepsToTop (wsX3_at) := ggX1_stepsToTop_X3_at
theorem dX1_stepsToTop_0 : decode cX1_stepsToTop 0 = .ok (.aload_n 0, 1) := by decide +kernel
theorem dX1_stepsToTop_1 : decode cX1_stepsToTop 1 = .ok (.getfield 31, 3) := by decide +kernel
theorem dX1_stepsToTop_4 : decode cX1_stepsToTop 4 = .ok (.iload_n 1, 1) := by decide +kernel
theorem dX1_stepsToTop_5 : decode cX1_stepsToTop 5 = .ok (.invokestatic 44, 3) := by decide +kernel
theorem dX1_stepsToTop_8 : decode cX1_stepsToTop 8 = .ok (.ireturn, 1) := by decide +kernel
set_option maxRecDepth 20000 in
theorem ggX1_addOne_X3_bit : GoodIn wsX1_addOne wsX3_bit := goodIn_r _ [5] (by decide +kernel) (by decide +kernel)
set_option maxRecDepth 20000 in
theorem gX1_addOne_X3_bit_n54 : GoodIn wsX1_addOne (wsX3_bit) := ggX1_addOne_X3_bit
set_option maxRecDepth 20000 in
theorem ggX1_addOne_X1_settle : GoodIn wsX1_addOne wsX1_settle := goodIn_r _ [10, 11, 12, 13, 9, 14, 15, 16, 17, 18, 19, 20, 2, 21, 4, 22, 23, 3, 5, 24, 25, 26, 27, 28, 29, 30, 31, 32, 33, 34, 35, 36, 37, 38, 39, 40, 41, 42, 43, 44, 45, 46, 47, 48, 49, 50, 51, 52, 53, 54, 55, 56, 57, 58, 59, 60, 61, 62, 63, 64] (by decide +kernel) (by decide +kernel)
set_option maxRecDepth 20000 in
theorem gX1_addOne_X1_settle : GoodIn wsX1_addOne (wsV RX1 57 RX1 yX1_settle wsX1_settle) := goodIn_app (goodIn_of _ (by decide +kernel)) ggX1_addOne_X1_settle
theorem dX1_addOne_0 : decode cX1_addOne 0 = .ok (.aload_n 0, 1) := by decide +kernel
theorem dX1_addOne_1 : decode cX1_addOne 1 = .ok (.getfield 9, 3) := by decide +kernel
theorem dX1_addOne_4 : decode cX1_addOne 4 = .ok (.istore_n 1, 1) := by decide +kernel
theorem dX1_addOne_5 : decode cX1_addOne 5 = .ok (.aload_n 0, 1) := by decide +kernel
theorem dX1_addOne_6 : decode cX1_addOne 6 = .ok (.dup, 1) := by decide +kernel
theorem dX1_addOne_7 : decode cX1_addOne 7 = .ok (.getfield 9, 3) := by decide +kernel
theorem dX1_addOne_10 : decode cX1_addOne 10 = .ok (.iconst 1, 1) := by decide +kernel
theorem dX1_addOne_11 : decode cX1_addOne 11 = .ok (.iadd, 1) := by decide +kernel
theorem dX1_addOne_12 : decode cX1_addOne 12 = .ok (.putfield 9, 3) := by decide +kernel
theorem dX1_addOne_15 : decode cX1_addOne 15 = .ok (.aload_n 0, 1) := by decide +kernel
theorem dX1_addOne_16 : decode cX1_addOne 16 = .ok (.dup, 1) := by decide +kernel
theorem dX1_addOne_17 : decode cX1_addOne 17 = .ok (.getfield 15, 3) := by decide +kernel
theorem dX1_addOne_20 : decode cX1_addOne 20 = .ok (.iload_n 1, 1) := by decide +kernel
theorem dX1_addOne_21 : decode cX1_addOne 21 = .ok (.invokestatic 54, 3) := by decide +kernel
theorem dX1_addOne_24 : decode cX1_addOne 24 = .ok (.ior, 1) := by decide +kernel
theorem dX1_addOne_25 : decode cX1_addOne 25 = .ok (.putfield 15, 3) := by decide +kernel
theorem dX1_addOne_28 : decode cX1_addOne 28 = .ok (.aload_n 0, 1) := by decide +kernel
theorem dX1_addOne_29 : decode cX1_addOne 29 = .ok (.invokevirtual 57, 3) := by decide +kernel
theorem dX1_addOne_32 : decode cX1_addOne 32 = .ok (.iload_n 1, 1) := by decide +kernel
theorem dX1_addOne_33 : decode cX1_addOne 33 = .ok (.ireturn, 1) := by decide +kernel
set_option maxRecDepth 20000 in
theorem ggX1_putBelow_X3_at : GoodIn wsX1_putBelow wsX3_at := goodIn_r _ [4] (by decide +kernel) (by decide +kernel)
set_option maxRecDepth 20000 in
theorem gX1_putBelow_X3_at_n44 : GoodIn wsX1_putBelow (wsX3_at) := ggX1_putBelow_X3_at
set_option maxRecDepth 20000 in
theorem ggX1_putBelow_X3_bit : GoodIn wsX1_putBelow wsX3_bit := goodIn_r _ [6] (by decide +kernel) (by decide +kernel)
set_option maxRecDepth 20000 in
theorem gX1_putBelow_X3_bit_n54 : GoodIn wsX1_putBelow (wsX3_bit) := ggX1_putBelow_X3_bit
set_option maxRecDepth 20000 in
theorem ggX1_putBelow_X3_put : GoodIn wsX1_putBelow wsX3_put := goodIn_r _ [8] (by decide +kernel) (by decide +kernel)
set_option maxRecDepth 20000 in
theorem gX1_putBelow_X3_put_n60 : GoodIn wsX1_putBelow (wsX3_put) := ggX1_putBelow_X3_put
set_option maxRecDepth 20000 in
theorem ggX1_putBelow_X1_settle : GoodIn wsX1_putBelow wsX1_settle := goodIn_r _ [13, 14, 15, 16, 12, 17, 18, 19, 20, 21, 22, 23, 24, 25, 3, 26, 27, 5, 6, 28, 29, 30, 31, 32, 7, 8, 33, 34, 35, 36, 1, 2, 4, 37, 38, 39, 40, 41, 42, 43, 44, 45, 46, 47, 48, 49, 50, 51, 52, 53, 54, 66, 67, 68, 69, 70, 71, 72, 73, 74] (by decide +kernel) (by decide +kernel)
set_option maxRecDepth 20000 in
theorem gX1_putBelow_X1_settle : GoodIn wsX1_putBelow (wsV RX1 57 RX1 yX1_settle wsX1_settle) := goodIn_app (goodIn_of _ (by decide +kernel)) ggX1_putBelow_X1_settle
set_option maxRecDepth 20000 in
theorem ggX1_putBelow_X1_parentCount : GoodIn wsX1_putBelow wsX1_parentCount := goodIn_r _ [58, 1, 2, 3, 4, 59, 60, 61, 62, 63, 64, 65, 66, 67, 68, 69, 70, 71, 72, 73, 74] (by decide +kernel) (by decide +kernel)
set_option maxRecDepth 20000 in
theorem gX1_putBelow_X1_parentCount : GoodIn wsX1_putBelow (wsV RX1 64 RX1 yX1_parentCount wsX1_parentCount) := goodIn_app (goodIn_of _ (by decide +kernel)) ggX1_putBelow_X1_parentCount
theorem dX1_putBelow_0 : decode cX1_putBelow 0 = .ok (.aload_n 0, 1) := by decide +kernel
theorem dX1_putBelow_1 : decode cX1_putBelow 1 = .ok (.getfield 18, 3) := by decide +kernel
theorem dX1_putBelow_4 : decode cX1_putBelow 4 = .ok (.iload_n 1, 1) := by decide +kernel
theorem dX1_putBelow_5 : decode cX1_putBelow 5 = .ok (.aload_n 0, 1) := by decide +kernel
theorem dX1_putBelow_6 : decode cX1_putBelow 6 = .ok (.getfield 18, 3) := by decide +kernel
theorem dX1_putBelow_9 : decode cX1_putBelow 9 = .ok (.iload_n 1, 1) := by decide +kernel
theorem dX1_putBelow_10 : decode cX1_putBelow 10 = .ok (.invokestatic 44, 3) := by decide +kernel
theorem dX1_putBelow_13 : decode cX1_putBelow 13 = .ok (.iload_n 2, 1) := by decide +kernel
theorem dX1_putBelow_14 : decode cX1_putBelow 14 = .ok (.invokestatic 54, 3) := by decide +kernel
theorem dX1_putBelow_17 : decode cX1_putBelow 17 = .ok (.ior, 1) := by decide +kernel
theorem dX1_putBelow_18 : decode cX1_putBelow 18 = .ok (.invokestatic 60, 3) := by decide +kernel
theorem dX1_putBelow_21 : decode cX1_putBelow 21 = .ok (.aload_n 0, 1) := by decide +kernel
theorem dX1_putBelow_22 : decode cX1_putBelow 22 = .ok (.invokevirtual 57, 3) := by decide +kernel
theorem dX1_putBelow_25 : decode cX1_putBelow 25 = .ok (.aload_n 0, 1) := by decide +kernel
theorem dX1_putBelow_26 : decode cX1_putBelow 26 = .ok (.iload_n 1, 1) := by decide +kernel
theorem dX1_putBelow_27 : decode cX1_putBelow 27 = .ok (.invokevirtual 64, 3) := by decide +kernel
theorem dX1_putBelow_30 : decode cX1_putBelow 30 = .ok (.ireturn, 1) := by decide +kernel
set_option maxRecDepth 20000 in
theorem ggX1_cut_X3_at : GoodIn wsX1_cut wsX3_at := goodIn_r _ [4] (by decide +kernel) (by decide +kernel)
set_option maxRecDepth 20000 in
theorem gX1_cut_X3_at_n44 : GoodIn wsX1_cut (wsX3_at) := ggX1_cut_X3_at
set_option maxRecDepth 20000 in
theorem ggX1_cut_X3_bit : GoodIn wsX1_cut wsX3_bit := goodIn_r _ [6] (by decide +kernel) (by decide +kernel)
set_option maxRecDepth 20000 in
theorem gX1_cut_X3_bit_n54 : GoodIn wsX1_cut (wsX3_bit) := ggX1_cut_X3_bit
set_option maxRecDepth 20000 in
theorem ggX1_cut_X3_put : GoodIn wsX1_cut wsX3_put := goodIn_r _ [8] (by decide +kernel) (by decide +kernel)
set_option maxRecDepth 20000 in
theorem gX1_cut_X3_put_n60 : GoodIn wsX1_cut (wsX3_put) := ggX1_cut_X3_put
set_option maxRecDepth 20000 in
theorem ggX1_cut_X1_settle : GoodIn wsX1_cut wsX1_settle := goodIn_r _ [13, 14, 15, 16, 12, 17, 18, 19, 20, 21, 22, 23, 24, 25, 3, 26, 27, 5, 6, 28, 29, 30, 31, 32, 7, 8, 33, 34, 35, 36, 1, 2, 4, 37, 38, 39, 40, 41, 42, 43, 44, 45, 46, 47, 48, 49, 50, 51, 52, 53, 54, 66, 67, 68, 69, 70, 71, 72, 73, 74] (by decide +kernel) (by decide +kernel)
set_option maxRecDepth 20000 in
theorem gX1_cut_X1_settle : GoodIn wsX1_cut (wsV RX1 57 RX1 yX1_settle wsX1_settle) := goodIn_app (goodIn_of _ (by decide +kernel)) ggX1_cut_X1_settle
set_option maxRecDepth 20000 in
theorem ggX1_cut_X1_parentCount : GoodIn wsX1_cut wsX1_parentCount := goodIn_r _ [58, 1, 2, 3, 4, 59, 60, 61, 62, 63, 64, 65, 66, 67, 68, 69, 70, 71, 72, 73, 74] (by decide +kernel) (by decide +kernel)
set_option maxRecDepth 20000 in
theorem gX1_cut_X1_parentCount : GoodIn wsX1_cut (wsV RX1 64 RX1 yX1_parentCount wsX1_parentCount) := goodIn_app (goodIn_of _ (by decide +kernel)) ggX1_cut_X1_parentCount
theorem dX1_cut_0 : decode cX1_cut 0 = .ok (.aload_n 0, 1) := by decide +kernel
theorem dX1_cut_1 : decode cX1_cut 1 = .ok (.getfield 18, 3) := by decide +kernel
theorem dX1_cut_4 : decode cX1_cut 4 = .ok (.iload_n 1, 1) := by decide +kernel
theorem dX1_cut_5 : decode cX1_cut 5 = .ok (.aload_n 0, 1) := by decide +kernel
theorem dX1_cut_6 : decode cX1_cut 6 = .ok (.getfield 18, 3) := by decide +kernel
theorem dX1_cut_9 : decode cX1_cut 9 = .ok (.iload_n 1, 1) := by decide +kernel
theorem dX1_cut_10 : decode cX1_cut 10 = .ok (.invokestatic 44, 3) := by decide +kernel
theorem dX1_cut_13 : decode cX1_cut 13 = .ok (.iload_n 2, 1) := by decide +kernel
theorem dX1_cut_14 : decode cX1_cut 14 = .ok (.invokestatic 54, 3) := by decide +kernel
theorem dX1_cut_17 : decode cX1_cut 17 = .ok (.iconst (-1), 1) := by decide +kernel
theorem dX1_cut_18 : decode cX1_cut 18 = .ok (.ixor, 1) := by decide +kernel
theorem dX1_cut_19 : decode cX1_cut 19 = .ok (.iand, 1) := by decide +kernel
theorem dX1_cut_20 : decode cX1_cut 20 = .ok (.invokestatic 60, 3) := by decide +kernel
theorem dX1_cut_23 : decode cX1_cut 23 = .ok (.aload_n 0, 1) := by decide +kernel
theorem dX1_cut_24 : decode cX1_cut 24 = .ok (.invokevirtual 57, 3) := by decide +kernel
theorem dX1_cut_27 : decode cX1_cut 27 = .ok (.aload_n 0, 1) := by decide +kernel
theorem dX1_cut_28 : decode cX1_cut 28 = .ok (.iload_n 1, 1) := by decide +kernel
theorem dX1_cut_29 : decode cX1_cut 29 = .ok (.invokevirtual 64, 3) := by decide +kernel
theorem dX1_cut_32 : decode cX1_cut 32 = .ok (.ireturn, 1) := by decide +kernel
set_option maxRecDepth 20000 in
theorem ggX1_canLose_X1_isParent : GoodIn wsX1_canLose wsX1_isParent := goodIn_r _ [5, 6, 7, 8, 9, 10, 11, 12, 13, 14, 26, 27, 28, 29, 30, 31, 32, 33, 34] (by decide +kernel) (by decide +kernel)
set_option maxRecDepth 20000 in
theorem gX1_canLose_X1_isParent : GoodIn wsX1_canLose (wsV RX1 67 RX1 yX1_isParent wsX1_isParent) := goodIn_app (goodIn_of _ (by decide +kernel)) ggX1_canLose_X1_isParent
set_option maxRecDepth 20000 in
theorem ggX1_canLose_X1_parentsWithout : GoodIn wsX1_canLose wsX1_parentsWithout := goodIn_r _ [18, 6, 7, 8, 9, 13, 14, 26, 27, 28, 29, 30, 31, 32, 33, 34] (by decide +kernel) (by decide +kernel)
set_option maxRecDepth 20000 in
theorem gX1_canLose_X1_parentsWithout : GoodIn wsX1_canLose (wsV RX1 70 RX1 yX1_parentsWithout wsX1_parentsWithout) := goodIn_app (goodIn_of _ (by decide +kernel)) ggX1_canLose_X1_parentsWithout
set_option maxRecDepth 20000 in
theorem ggX1_canLose_J6_bitCount_0f7a4 : GoodIn wsX1_canLose wsJ6_bitCount_0f7a4 := goodIn_r _ [22, 23, 24, 25] (by decide +kernel) (by decide +kernel)
set_option maxRecDepth 20000 in
theorem gX1_canLose_J6_bitCount_0f7a4 : GoodIn wsX1_canLose (va_wsS RX1 48 yJ6_bitCount_0f7a4 wsJ6_bitCount_0f7a4) := goodIn_app (goodIn_of _ (by decide +kernel)) ggX1_canLose_J6_bitCount_0f7a4
theorem dX1_canLose_0 : decode cX1_canLose 0 = .ok (.iconst 0, 1) := by decide +kernel
theorem dX1_canLose_1 : decode cX1_canLose 1 = .ok (.istore_n 2, 1) := by decide +kernel
theorem dX1_canLose_2 : decode cX1_canLose 2 = .ok (.iload_n 2, 1) := by decide +kernel
theorem dX1_canLose_3 : decode cX1_canLose 3 = .ok (.bipush 30, 2) := by decide +kernel
theorem dX1_canLose_5 : decode cX1_canLose 5 = .ok (.if_icmp .ge 33, 3) := by decide +kernel
theorem dX1_canLose_8 : decode cX1_canLose 8 = .ok (.aload_n 0, 1) := by decide +kernel
theorem dX1_canLose_9 : decode cX1_canLose 9 = .ok (.iload_n 2, 1) := by decide +kernel
theorem dX1_canLose_10 : decode cX1_canLose 10 = .ok (.iload_n 1, 1) := by decide +kernel
theorem dX1_canLose_11 : decode cX1_canLose 11 = .ok (.invokevirtual 67, 3) := by decide +kernel
theorem dX1_canLose_14 : decode cX1_canLose 14 = .ok (.ifCond .eq 18, 3) := by decide +kernel
theorem dX1_canLose_17 : decode cX1_canLose 17 = .ok (.aload_n 0, 1) := by decide +kernel
theorem dX1_canLose_18 : decode cX1_canLose 18 = .ok (.iload_n 2, 1) := by decide +kernel
theorem dX1_canLose_19 : decode cX1_canLose 19 = .ok (.iload_n 1, 1) := by decide +kernel
theorem dX1_canLose_20 : decode cX1_canLose 20 = .ok (.invokevirtual 70, 3) := by decide +kernel
theorem dX1_canLose_23 : decode cX1_canLose 23 = .ok (.invokestatic 48, 3) := by decide +kernel
theorem dX1_canLose_26 : decode cX1_canLose 26 = .ok (.iconst 4, 1) := by decide +kernel
theorem dX1_canLose_27 : decode cX1_canLose 27 = .ok (.if_icmp .le 5, 3) := by decide +kernel
theorem dX1_canLose_30 : decode cX1_canLose 30 = .ok (.iconst 0, 1) := by decide +kernel
theorem dX1_canLose_31 : decode cX1_canLose 31 = .ok (.ireturn, 1) := by decide +kernel
theorem dX1_canLose_32 : decode cX1_canLose 32 = .ok (.iinc 2 1, 3) := by decide +kernel
theorem dX1_canLose_35 : decode cX1_canLose 35 = .ok (.goto (-33), 3) := by decide +kernel
theorem dX1_canLose_38 : decode cX1_canLose 38 = .ok (.iconst 1, 1) := by decide +kernel
theorem dX1_canLose_39 : decode cX1_canLose 39 = .ok (.ireturn, 1) := by decide +kernel
set_option maxRecDepth 20000 in
theorem ggX1_lose_X1_isParent : GoodIn wsX1_lose wsX1_isParent := goodIn_r _ [8, 1, 9, 10, 11, 12, 13, 14, 15, 16, 63, 64, 65, 66, 67, 68, 69, 70, 71] (by decide +kernel) (by decide +kernel)
set_option maxRecDepth 20000 in
theorem gX1_lose_X1_isParent : GoodIn wsX1_lose (wsV RX1 67 RX1 yX1_isParent wsX1_isParent) := goodIn_app (goodIn_of _ (by decide +kernel)) ggX1_lose_X1_isParent
set_option maxRecDepth 20000 in
theorem ggX1_lose_X1_parentsWithout : GoodIn wsX1_lose wsX1_parentsWithout := goodIn_r _ [20, 1, 9, 10, 11, 15, 16, 63, 64, 65, 66, 67, 68, 69, 70, 71] (by decide +kernel) (by decide +kernel)
set_option maxRecDepth 20000 in
theorem gX1_lose_X1_parentsWithout : GoodIn wsX1_lose (wsV RX1 70 RX1 yX1_parentsWithout wsX1_parentsWithout) := goodIn_app (goodIn_of _ (by decide +kernel)) ggX1_lose_X1_parentsWithout
set_option maxRecDepth 20000 in
theorem ggX1_lose_X3_put : GoodIn wsX1_lose wsX3_put := goodIn_r _ [22] (by decide +kernel) (by decide +kernel)
set_option maxRecDepth 20000 in
theorem gX1_lose_X3_put_n60 : GoodIn wsX1_lose (wsX3_put) := ggX1_lose_X3_put
set_option maxRecDepth 20000 in
theorem ggX1_lose_X3_bit : GoodIn wsX1_lose wsX3_bit := goodIn_r _ [16] (by decide +kernel) (by decide +kernel)
set_option maxRecDepth 20000 in
theorem gX1_lose_X3_bit_n54 : GoodIn wsX1_lose (wsX3_bit) := ggX1_lose_X3_bit
set_option maxRecDepth 20000 in
theorem ggX1_lose_X1_settle : GoodIn wsX1_lose wsX1_settle := goodIn_r _ [26, 27, 28, 29, 7, 30, 31, 32, 33, 34, 35, 36, 3, 12, 10, 13, 14, 15, 16, 37, 38, 39, 40, 41, 21, 22, 42, 43, 44, 45, 1, 9, 11, 46, 47, 48, 49, 50, 51, 52, 53, 54, 55, 56, 57, 58, 59, 60, 61, 62, 2, 63, 64, 65, 66, 67, 68, 69, 70, 71] (by decide +kernel) (by decide +kernel)
set_option maxRecDepth 20000 in
theorem gX1_lose_X1_settle : GoodIn wsX1_lose (wsV RX1 57 RX1 yX1_settle wsX1_settle) := goodIn_app (goodIn_of _ (by decide +kernel)) ggX1_lose_X1_settle
theorem dX1_lose_0 : decode cX1_lose 0 = .ok (.iconst 0, 1) := by decide +kernel
theorem dX1_lose_1 : decode cX1_lose 1 = .ok (.istore_n 2, 1) := by decide +kernel
theorem dX1_lose_2 : decode cX1_lose 2 = .ok (.iconst 0, 1) := by decide +kernel
theorem dX1_lose_3 : decode cX1_lose 3 = .ok (.istore_n 3, 1) := by decide +kernel
theorem dX1_lose_4 : decode cX1_lose 4 = .ok (.iload_n 3, 1) := by decide +kernel
theorem dX1_lose_5 : decode cX1_lose 5 = .ok (.bipush 30, 2) := by decide +kernel
theorem dX1_lose_7 : decode cX1_lose 7 = .ok (.if_icmp .ge 35, 3) := by decide +kernel
theorem dX1_lose_10 : decode cX1_lose 10 = .ok (.aload_n 0, 1) := by decide +kernel
theorem dX1_lose_11 : decode cX1_lose 11 = .ok (.iload_n 3, 1) := by decide +kernel
theorem dX1_lose_12 : decode cX1_lose 12 = .ok (.iload_n 1, 1) := by decide +kernel
theorem dX1_lose_13 : decode cX1_lose 13 = .ok (.invokevirtual 67, 3) := by decide +kernel
theorem dX1_lose_16 : decode cX1_lose 16 = .ok (.ifCond .eq 20, 3) := by decide +kernel
theorem dX1_lose_19 : decode cX1_lose 19 = .ok (.aload_n 0, 1) := by decide +kernel
theorem dX1_lose_20 : decode cX1_lose 20 = .ok (.getfield 18, 3) := by decide +kernel
theorem dX1_lose_23 : decode cX1_lose 23 = .ok (.iload_n 3, 1) := by decide +kernel
theorem dX1_lose_24 : decode cX1_lose 24 = .ok (.aload_n 0, 1) := by decide +kernel
theorem dX1_lose_25 : decode cX1_lose 25 = .ok (.iload_n 3, 1) := by decide +kernel
theorem dX1_lose_26 : decode cX1_lose 26 = .ok (.iload_n 1, 1) := by decide +kernel
theorem dX1_lose_27 : decode cX1_lose 27 = .ok (.invokevirtual 70, 3) := by decide +kernel
theorem dX1_lose_30 : decode cX1_lose 30 = .ok (.invokestatic 60, 3) := by decide +kernel
theorem dX1_lose_33 : decode cX1_lose 33 = .ok (.iinc 2 1, 3) := by decide +kernel
theorem dX1_lose_36 : decode cX1_lose 36 = .ok (.iinc 3 1, 3) := by decide +kernel
theorem dX1_lose_39 : decode cX1_lose 39 = .ok (.goto (-35), 3) := by decide +kernel
theorem dX1_lose_42 : decode cX1_lose 42 = .ok (.aload_n 0, 1) := by decide +kernel
theorem dX1_lose_43 : decode cX1_lose 43 = .ok (.getfield 18, 3) := by decide +kernel
theorem dX1_lose_46 : decode cX1_lose 46 = .ok (.iload_n 1, 1) := by decide +kernel
theorem dX1_lose_47 : decode cX1_lose 47 = .ok (.iconst 0, 1) := by decide +kernel
theorem dX1_lose_48 : decode cX1_lose 48 = .ok (.invokestatic 60, 3) := by decide +kernel
theorem dX1_lose_51 : decode cX1_lose 51 = .ok (.aload_n 0, 1) := by decide +kernel
theorem dX1_lose_52 : decode cX1_lose 52 = .ok (.getfield 22, 3) := by decide +kernel
theorem dX1_lose_55 : decode cX1_lose 55 = .ok (.iload_n 1, 1) := by decide +kernel
theorem dX1_lose_56 : decode cX1_lose 56 = .ok (.iconst 0, 1) := by decide +kernel
theorem dX1_lose_57 : decode cX1_lose 57 = .ok (.invokestatic 60, 3) := by decide +kernel
theorem dX1_lose_60 : decode cX1_lose 60 = .ok (.aload_n 0, 1) := by decide +kernel
theorem dX1_lose_61 : decode cX1_lose 61 = .ok (.dup, 1) := by decide +kernel
theorem dX1_lose_62 : decode cX1_lose 62 = .ok (.getfield 15, 3) := by decide +kernel
theorem dX1_lose_65 : decode cX1_lose 65 = .ok (.iload_n 1, 1) := by decide +kernel
theorem dX1_lose_66 : decode cX1_lose 66 = .ok (.invokestatic 54, 3) := by decide +kernel
theorem dX1_lose_69 : decode cX1_lose 69 = .ok (.iconst (-1), 1) := by decide +kernel
theorem dX1_lose_70 : decode cX1_lose 70 = .ok (.ixor, 1) := by decide +kernel
theorem dX1_lose_71 : decode cX1_lose 71 = .ok (.iand, 1) := by decide +kernel
theorem dX1_lose_72 : decode cX1_lose 72 = .ok (.putfield 15, 3) := by decide +kernel
theorem dX1_lose_75 : decode cX1_lose 75 = .ok (.aload_n 0, 1) := by decide +kernel
theorem dX1_lose_76 : decode cX1_lose 76 = .ok (.invokevirtual 57, 3) := by decide +kernel
theorem dX1_lose_79 : decode cX1_lose 79 = .ok (.iload_n 2, 1) := by decide +kernel
theorem dX1_lose_80 : decode cX1_lose 80 = .ok (.ireturn, 1) := by decide +kernel
set_option maxRecDepth 20000 in
theorem ggX1_recount_X3_at : GoodIn wsX1_recount wsX3_at := goodIn_r _ [4] (by decide +kernel) (by decide +kernel)
set_option maxRecDepth 20000 in
theorem gX1_recount_X3_at_n44 : GoodIn wsX1_recount (wsX3_at) := ggX1_recount_X3_at
set_option maxRecDepth 20000 in
theorem ggX1_recount_X3_put : GoodIn wsX1_recount wsX3_put := goodIn_r _ [6] (by decide +kernel) (by decide +kernel)
set_option maxRecDepth 20000 in
theorem gX1_recount_X3_put_n60 : GoodIn wsX1_recount (wsX3_put) := ggX1_recount_X3_put
set_option maxRecDepth 20000 in
theorem ggX1_recount_X1_weigh : GoodIn wsX1_recount wsX1_weigh := goodIn_r _ [11, 12, 13, 14, 15, 10, 16, 17, 2, 3, 4, 18, 19, 20, 21, 22, 23, 24, 25, 26, 1, 5, 6, 27, 28, 29, 30, 31, 32, 33, 34, 35] (by decide +kernel) (by decide +kernel)
set_option maxRecDepth 20000 in
theorem gX1_recount_X1_weigh : GoodIn wsX1_recount (wsV RX1 74 RX1 yX1_weigh wsX1_weigh) := goodIn_app (goodIn_of _ (by decide +kernel)) ggX1_recount_X1_weigh
theorem dX1_recount_0 : decode cX1_recount 0 = .ok (.aload_n 0, 1) := by decide +kernel
theorem dX1_recount_1 : decode cX1_recount 1 = .ok (.getfield 22, 3) := by decide +kernel
theorem dX1_recount_4 : decode cX1_recount 4 = .ok (.iload_n 1, 1) := by decide +kernel
theorem dX1_recount_5 : decode cX1_recount 5 = .ok (.invokestatic 44, 3) := by decide +kernel
theorem dX1_recount_8 : decode cX1_recount 8 = .ok (.istore_n 3, 1) := by decide +kernel
theorem dX1_recount_9 : decode cX1_recount 9 = .ok (.aload_n 0, 1) := by decide +kernel
theorem dX1_recount_10 : decode cX1_recount 10 = .ok (.getfield 22, 3) := by decide +kernel
theorem dX1_recount_13 : decode cX1_recount 13 = .ok (.iload_n 1, 1) := by decide +kernel
theorem dX1_recount_14 : decode cX1_recount 14 = .ok (.iload_n 2, 1) := by decide +kernel
theorem dX1_recount_15 : decode cX1_recount 15 = .ok (.invokestatic 60, 3) := by decide +kernel
theorem dX1_recount_18 : decode cX1_recount 18 = .ok (.aload_n 0, 1) := by decide +kernel
theorem dX1_recount_19 : decode cX1_recount 19 = .ok (.invokevirtual 74, 3) := by decide +kernel
theorem dX1_recount_22 : decode cX1_recount 22 = .ok (.iload_n 3, 1) := by decide +kernel
theorem dX1_recount_23 : decode cX1_recount 23 = .ok (.ireturn, 1) := by decide +kernel
set_option maxRecDepth 20000 in
theorem ggX1_parentsWithout_X3_at : GoodIn wsX1_parentsWithout wsX3_at := goodIn_r _ [4] (by decide +kernel) (by decide +kernel)
set_option maxRecDepth 20000 in
theorem gX1_parentsWithout_X3_at_n44 : GoodIn wsX1_parentsWithout (wsX3_at) := ggX1_parentsWithout_X3_at
set_option maxRecDepth 20000 in
theorem ggX1_parentsWithout_X3_bit : GoodIn wsX1_parentsWithout wsX3_bit := goodIn_r _ [6] (by decide +kernel) (by decide +kernel)
set_option maxRecDepth 20000 in
theorem gX1_parentsWithout_X3_bit_n54 : GoodIn wsX1_parentsWithout (wsX3_bit) := ggX1_parentsWithout_X3_bit
theorem dX1_parentsWithout_0 : decode cX1_parentsWithout 0 = .ok (.aload_n 0, 1) := by decide +kernel
theorem dX1_parentsWithout_1 : decode cX1_parentsWithout 1 = .ok (.getfield 18, 3) := by decide +kernel
theorem dX1_parentsWithout_4 : decode cX1_parentsWithout 4 = .ok (.iload_n 1, 1) := by decide +kernel
theorem dX1_parentsWithout_5 : decode cX1_parentsWithout 5 = .ok (.invokestatic 44, 3) := by decide +kernel
theorem dX1_parentsWithout_8 : decode cX1_parentsWithout 8 = .ok (.aload_n 0, 1) := by decide +kernel
theorem dX1_parentsWithout_9 : decode cX1_parentsWithout 9 = .ok (.getfield 18, 3) := by decide +kernel
theorem dX1_parentsWithout_12 : decode cX1_parentsWithout 12 = .ok (.iload_n 2, 1) := by decide +kernel
theorem dX1_parentsWithout_13 : decode cX1_parentsWithout 13 = .ok (.invokestatic 44, 3) := by decide +kernel
theorem dX1_parentsWithout_16 : decode cX1_parentsWithout 16 = .ok (.ior, 1) := by decide +kernel
theorem dX1_parentsWithout_17 : decode cX1_parentsWithout 17 = .ok (.iload_n 2, 1) := by decide +kernel
theorem dX1_parentsWithout_18 : decode cX1_parentsWithout 18 = .ok (.invokestatic 54, 3) := by decide +kernel
theorem dX1_parentsWithout_21 : decode cX1_parentsWithout 21 = .ok (.iconst (-1), 1) := by decide +kernel
theorem dX1_parentsWithout_22 : decode cX1_parentsWithout 22 = .ok (.ixor, 1) := by decide +kernel
theorem dX1_parentsWithout_23 : decode cX1_parentsWithout 23 = .ok (.iand, 1) := by decide +kernel
theorem dX1_parentsWithout_24 : decode cX1_parentsWithout 24 = .ok (.ireturn, 1) := by decide +kernel
set_option maxRecDepth 20000 in
theorem ggX1_parentsOfAll_X3_holds : GoodIn wsX1_parentsOfAll wsX3_holds := goodIn_r _ [4, 5, 6, 3, 7] (by decide +kernel) (by decide +kernel)
set_option maxRecDepth 20000 in
theorem gX1_parentsOfAll_X3_holds_n40 : GoodIn wsX1_parentsOfAll (wsX3_holds) := ggX1_parentsOfAll_X3_holds
set_option maxRecDepth 20000 in
theorem ggX1_parentsOfAll_X3_at : GoodIn wsX1_parentsOfAll wsX3_at := goodIn_r _ [9] (by decide +kernel) (by decide +kernel)
set_option maxRecDepth 20000 in
theorem gX1_parentsOfAll_X3_at_n44 : GoodIn wsX1_parentsOfAll (wsX3_at) := ggX1_parentsOfAll_X3_at
theorem dX1_parentsOfAll_0 : decode cX1_parentsOfAll 0 = .ok (.iconst 0, 1) := by decide +kernel
theorem dX1_parentsOfAll_1 : decode cX1_parentsOfAll 1 = .ok (.istore_n 2, 1) := by decide +kernel
theorem dX1_parentsOfAll_2 : decode cX1_parentsOfAll 2 = .ok (.iconst 0, 1) := by decide +kernel
theorem dX1_parentsOfAll_3 : decode cX1_parentsOfAll 3 = .ok (.istore_n 3, 1) := by decide +kernel
theorem dX1_parentsOfAll_4 : decode cX1_parentsOfAll 4 = .ok (.iload_n 3, 1) := by decide +kernel
theorem dX1_parentsOfAll_5 : decode cX1_parentsOfAll 5 = .ok (.bipush 30, 2) := by decide +kernel
theorem dX1_parentsOfAll_7 : decode cX1_parentsOfAll 7 = .ok (.if_icmp .ge 28, 3) := by decide +kernel
theorem dX1_parentsOfAll_10 : decode cX1_parentsOfAll 10 = .ok (.iload_n 1, 1) := by decide +kernel
theorem dX1_parentsOfAll_11 : decode cX1_parentsOfAll 11 = .ok (.iload_n 3, 1) := by decide +kernel
theorem dX1_parentsOfAll_12 : decode cX1_parentsOfAll 12 = .ok (.invokestatic 40, 3) := by decide +kernel
theorem dX1_parentsOfAll_15 : decode cX1_parentsOfAll 15 = .ok (.ifCond .eq 14, 3) := by decide +kernel
theorem dX1_parentsOfAll_18 : decode cX1_parentsOfAll 18 = .ok (.iload_n 2, 1) := by decide +kernel
theorem dX1_parentsOfAll_19 : decode cX1_parentsOfAll 19 = .ok (.aload_n 0, 1) := by decide +kernel
theorem dX1_parentsOfAll_20 : decode cX1_parentsOfAll 20 = .ok (.getfield 18, 3) := by decide +kernel
theorem dX1_parentsOfAll_23 : decode cX1_parentsOfAll 23 = .ok (.iload_n 3, 1) := by decide +kernel
theorem dX1_parentsOfAll_24 : decode cX1_parentsOfAll 24 = .ok (.invokestatic 44, 3) := by decide +kernel
theorem dX1_parentsOfAll_27 : decode cX1_parentsOfAll 27 = .ok (.ior, 1) := by decide +kernel
theorem dX1_parentsOfAll_28 : decode cX1_parentsOfAll 28 = .ok (.istore_n 2, 1) := by decide +kernel
theorem dX1_parentsOfAll_29 : decode cX1_parentsOfAll 29 = .ok (.iinc 3 1, 3) := by decide +kernel
theorem dX1_parentsOfAll_32 : decode cX1_parentsOfAll 32 = .ok (.goto (-28), 3) := by decide +kernel
theorem dX1_parentsOfAll_35 : decode cX1_parentsOfAll 35 = .ok (.iload_n 2, 1) := by decide +kernel
theorem dX1_parentsOfAll_36 : decode cX1_parentsOfAll 36 = .ok (.ireturn, 1) := by decide +kernel
set_option maxRecDepth 20000 in
theorem ggX1_settle_X1_climb : GoodIn wsX1_settle wsX1_climb := goodIn_r _ [5, 6, 7, 8, 9, 10, 4, 11, 12, 13, 14, 15, 16, 17, 18, 19, 20, 21, 22, 23, 24, 25, 26, 27, 28, 29, 30, 31, 32, 33, 34, 35, 36, 51, 52, 53, 54, 55, 56, 57, 58, 59] (by decide +kernel) (by decide +kernel)
set_option maxRecDepth 20000 in
theorem gX1_settle_X1_climb : GoodIn wsX1_settle (wsV RX1 77 RX1 yX1_climb wsX1_climb) := goodIn_app (goodIn_of _ (by decide +kernel)) ggX1_settle_X1_climb
set_option maxRecDepth 20000 in
theorem ggX1_settle_X1_weigh : GoodIn wsX1_settle wsX1_weigh := goodIn_r _ [40, 41, 42, 43, 44, 4, 45, 6, 31, 14, 32, 13, 15, 16, 17, 18, 46, 47, 48, 49, 50, 24, 25, 51, 52, 53, 54, 55, 56, 57, 58, 59] (by decide +kernel) (by decide +kernel)
set_option maxRecDepth 20000 in
theorem gX1_settle_X1_weigh : GoodIn wsX1_settle (wsV RX1 74 RX1 yX1_weigh wsX1_weigh) := goodIn_app (goodIn_of _ (by decide +kernel)) ggX1_settle_X1_weigh
theorem dX1_settle_0 : decode cX1_settle 0 = .ok (.iconst 0, 1) := by decide +kernel
theorem dX1_settle_1 : decode cX1_settle 1 = .ok (.istore_n 1, 1) := by decide +kernel
theorem dX1_settle_2 : decode cX1_settle 2 = .ok (.iload_n 1, 1) := by decide +kernel
theorem dX1_settle_3 : decode cX1_settle 3 = .ok (.bipush 30, 2) := by decide +kernel
theorem dX1_settle_5 : decode cX1_settle 5 = .ok (.if_icmp .ge 14, 3) := by decide +kernel
theorem dX1_settle_8 : decode cX1_settle 8 = .ok (.aload_n 0, 1) := by decide +kernel
theorem dX1_settle_9 : decode cX1_settle 9 = .ok (.iload_n 1, 1) := by decide +kernel
theorem dX1_settle_10 : decode cX1_settle 10 = .ok (.invokevirtual 77, 3) := by decide +kernel
theorem dX1_settle_13 : decode cX1_settle 13 = .ok (.iinc 1 1, 3) := by decide +kernel
theorem dX1_settle_16 : decode cX1_settle 16 = .ok (.goto (-14), 3) := by decide +kernel
theorem dX1_settle_19 : decode cX1_settle 19 = .ok (.aload_n 0, 1) := by decide +kernel
theorem dX1_settle_20 : decode cX1_settle 20 = .ok (.invokevirtual 74, 3) := by decide +kernel
theorem dX1_settle_23 : decode cX1_settle 23 = .ok (.return_, 1) := by decide +kernel
set_option maxRecDepth 20000 in
theorem ggX1_climb_X1_exists : GoodIn wsX1_climb wsX1_exists := goodIn_r _ [7, 8, 9, 10, 11, 12, 13, 14, 33, 34, 35, 36, 37, 38, 39, 40, 41] (by decide +kernel) (by decide +kernel)
set_option maxRecDepth 20000 in
theorem gX1_climb_X1_exists : GoodIn wsX1_climb (wsV RX1 81 RX1 yX1_exists wsX1_exists) := goodIn_app (goodIn_of _ (by decide +kernel)) ggX1_climb_X1_exists
set_option maxRecDepth 20000 in
theorem ggX1_climb_X3_bit : GoodIn wsX1_climb wsX3_bit := goodIn_r _ [14] (by decide +kernel) (by decide +kernel)
set_option maxRecDepth 20000 in
theorem gX1_climb_X3_bit_n54 : GoodIn wsX1_climb (wsX3_bit) := ggX1_climb_X3_bit
set_option maxRecDepth 20000 in
theorem ggX1_climb_X1_noteSteps : GoodIn wsX1_climb wsX1_noteSteps := goodIn_r _ [18, 19, 9, 10, 11, 12, 13, 14, 20, 21, 33, 34, 35, 36, 37, 38, 39, 40, 41] (by decide +kernel) (by decide +kernel)
set_option maxRecDepth 20000 in
theorem gX1_climb_X1_noteSteps : GoodIn wsX1_climb (wsV RX1 85 RX1 yX1_noteSteps wsX1_noteSteps) := goodIn_app (goodIn_of _ (by decide +kernel)) ggX1_climb_X1_noteSteps
set_option maxRecDepth 20000 in
theorem ggX1_climb_X1_hasTop : GoodIn wsX1_climb wsX1_hasTop := goodIn_r _ [25, 26, 9, 10, 11, 12, 13, 14, 27, 28, 33, 34, 35, 36, 37, 38, 39, 40, 41] (by decide +kernel) (by decide +kernel)
set_option maxRecDepth 20000 in
theorem gX1_climb_X1_hasTop : GoodIn wsX1_climb (wsV RX1 89 RX1 yX1_hasTop wsX1_hasTop) := goodIn_app (goodIn_of _ (by decide +kernel)) ggX1_climb_X1_hasTop
set_option maxRecDepth 20000 in
theorem ggX1_climb_X1_parentsOfAll : GoodIn wsX1_climb wsX1_parentsOfAll := goodIn_r _ [32, 26, 9, 10, 11, 12, 13, 14, 27, 28, 33, 34, 35, 36, 37, 38, 39, 40, 41] (by decide +kernel) (by decide +kernel)
set_option maxRecDepth 20000 in
theorem gX1_climb_X1_parentsOfAll : GoodIn wsX1_climb (wsV RX1 92 RX1 yX1_parentsOfAll wsX1_parentsOfAll) := goodIn_app (goodIn_of _ (by decide +kernel)) ggX1_climb_X1_parentsOfAll
set_option maxRecDepth 20000 in
theorem ggX1_climb_X3_put : GoodIn wsX1_climb wsX3_put := goodIn_r _ [21] (by decide +kernel) (by decide +kernel)
set_option maxRecDepth 20000 in
theorem gX1_climb_X3_put_n60 : GoodIn wsX1_climb (wsX3_put) := ggX1_climb_X3_put
theorem dX1_climb_0 : decode cX1_climb 0 = .ok (.iconst 0, 1) := by decide +kernel
theorem dX1_climb_1 : decode cX1_climb 1 = .ok (.istore_n 2, 1) := by decide +kernel
theorem dX1_climb_2 : decode cX1_climb 2 = .ok (.iconst (-1), 1) := by decide +kernel
theorem dX1_climb_3 : decode cX1_climb 3 = .ok (.istore_n 3, 1) := by decide +kernel
theorem dX1_climb_4 : decode cX1_climb 4 = .ok (.aload_n 0, 1) := by decide +kernel
theorem dX1_climb_5 : decode cX1_climb 5 = .ok (.iload_n 1, 1) := by decide +kernel
theorem dX1_climb_6 : decode cX1_climb 6 = .ok (.invokevirtual 81, 3) := by decide +kernel
theorem dX1_climb_9 : decode cX1_climb 9 = .ok (.ifCond .eq 10, 3) := by decide +kernel
theorem dX1_climb_12 : decode cX1_climb 12 = .ok (.iload_n 1, 1) := by decide +kernel
theorem dX1_climb_13 : decode cX1_climb 13 = .ok (.invokestatic 54, 3) := by decide +kernel
theorem dX1_climb_16 : decode cX1_climb 16 = .ok (.goto 4, 3) := by decide +kernel
theorem dX1_climb_19 : decode cX1_climb 19 = .ok (.iconst 0, 1) := by decide +kernel
theorem dX1_climb_20 : decode cX1_climb 20 = .ok (.istore 4, 2) := by decide +kernel
theorem dX1_climb_22 : decode cX1_climb 22 = .ok (.iconst 0, 1) := by decide +kernel
theorem dX1_climb_23 : decode cX1_climb 23 = .ok (.istore 5, 2) := by decide +kernel
theorem dX1_climb_25 : decode cX1_climb 25 = .ok (.iload 5, 2) := by decide +kernel
theorem dX1_climb_27 : decode cX1_climb 27 = .ok (.bipush 30, 2) := by decide +kernel
theorem dX1_climb_29 : decode cX1_climb 29 = .ok (.if_icmp .ge 57, 3) := by decide +kernel
theorem dX1_climb_32 : decode cX1_climb 32 = .ok (.iload 4, 2) := by decide +kernel
theorem dX1_climb_34 : decode cX1_climb 34 = .ok (.ifCond .eq 52, 3) := by decide +kernel
theorem dX1_climb_37 : decode cX1_climb 37 = .ok (.aload_n 0, 1) := by decide +kernel
theorem dX1_climb_38 : decode cX1_climb 38 = .ok (.iload_n 1, 1) := by decide +kernel
theorem dX1_climb_39 : decode cX1_climb 39 = .ok (.iload 4, 2) := by decide +kernel
theorem dX1_climb_41 : decode cX1_climb 41 = .ok (.iload 5, 2) := by decide +kernel
theorem dX1_climb_43 : decode cX1_climb 43 = .ok (.invokevirtual 85, 3) := by decide +kernel
theorem dX1_climb_46 : decode cX1_climb 46 = .ok (.iload_n 3, 1) := by decide +kernel
theorem dX1_climb_47 : decode cX1_climb 47 = .ok (.iconst (-1), 1) := by decide +kernel
theorem dX1_climb_48 : decode cX1_climb 48 = .ok (.if_icmp .ne 15, 3) := by decide +kernel
theorem dX1_climb_51 : decode cX1_climb 51 = .ok (.aload_n 0, 1) := by decide +kernel
theorem dX1_climb_52 : decode cX1_climb 52 = .ok (.iload 4, 2) := by decide +kernel
theorem dX1_climb_54 : decode cX1_climb 54 = .ok (.invokevirtual 89, 3) := by decide +kernel
theorem dX1_climb_57 : decode cX1_climb 57 = .ok (.ifCond .eq 6, 3) := by decide +kernel
theorem dX1_climb_60 : decode cX1_climb 60 = .ok (.iload 5, 2) := by decide +kernel
theorem dX1_climb_62 : decode cX1_climb 62 = .ok (.istore_n 3, 1) := by decide +kernel
theorem dX1_climb_63 : decode cX1_climb 63 = .ok (.iload_n 2, 1) := by decide +kernel
theorem dX1_climb_64 : decode cX1_climb 64 = .ok (.iload 4, 2) := by decide +kernel
theorem dX1_climb_66 : decode cX1_climb 66 = .ok (.ior, 1) := by decide +kernel
theorem dX1_climb_67 : decode cX1_climb 67 = .ok (.istore_n 2, 1) := by decide +kernel
theorem dX1_climb_68 : decode cX1_climb 68 = .ok (.aload_n 0, 1) := by decide +kernel
theorem dX1_climb_69 : decode cX1_climb 69 = .ok (.iload 4, 2) := by decide +kernel
theorem dX1_climb_71 : decode cX1_climb 71 = .ok (.invokevirtual 92, 3) := by decide +kernel
theorem dX1_climb_74 : decode cX1_climb 74 = .ok (.iload_n 2, 1) := by decide +kernel
theorem dX1_climb_75 : decode cX1_climb 75 = .ok (.iconst (-1), 1) := by decide +kernel
theorem dX1_climb_76 : decode cX1_climb 76 = .ok (.ixor, 1) := by decide +kernel
theorem dX1_climb_77 : decode cX1_climb 77 = .ok (.iand, 1) := by decide +kernel
theorem dX1_climb_78 : decode cX1_climb 78 = .ok (.istore 4, 2) := by decide +kernel
theorem dX1_climb_80 : decode cX1_climb 80 = .ok (.iinc 5 1, 3) := by decide +kernel
theorem dX1_climb_83 : decode cX1_climb 83 = .ok (.goto (-58), 3) := by decide +kernel
theorem dX1_climb_86 : decode cX1_climb 86 = .ok (.aload_n 0, 1) := by decide +kernel
theorem dX1_climb_87 : decode cX1_climb 87 = .ok (.getfield 25, 3) := by decide +kernel
theorem dX1_climb_90 : decode cX1_climb 90 = .ok (.iload_n 1, 1) := by decide +kernel
theorem dX1_climb_91 : decode cX1_climb 91 = .ok (.iload_n 2, 1) := by decide +kernel
theorem dX1_climb_92 : decode cX1_climb 92 = .ok (.invokestatic 60, 3) := by decide +kernel
theorem dX1_climb_95 : decode cX1_climb 95 = .ok (.aload_n 0, 1) := by decide +kernel
theorem dX1_climb_96 : decode cX1_climb 96 = .ok (.getfield 31, 3) := by decide +kernel
theorem dX1_climb_99 : decode cX1_climb 99 = .ok (.iload_n 1, 1) := by decide +kernel
theorem dX1_climb_100 : decode cX1_climb 100 = .ok (.iload_n 3, 1) := by decide +kernel
theorem dX1_climb_101 : decode cX1_climb 101 = .ok (.invokestatic 60, 3) := by decide +kernel
theorem dX1_climb_104 : decode cX1_climb 104 = .ok (.return_, 1) := by decide +kernel
set_option maxRecDepth 20000 in
theorem ggX1_noteSteps_X3_holds : GoodIn wsX1_noteSteps wsX3_holds := goodIn_r _ [4, 5, 6, 3, 7] (by decide +kernel) (by decide +kernel)
set_option maxRecDepth 20000 in
theorem gX1_noteSteps_X3_holds_n40 : GoodIn wsX1_noteSteps (wsX3_holds) := ggX1_noteSteps_X3_holds
set_option maxRecDepth 20000 in
theorem ggX1_noteSteps_X3_put : GoodIn wsX1_noteSteps wsX3_put := goodIn_r _ [9] (by decide +kernel) (by decide +kernel)
set_option maxRecDepth 20000 in
theorem gX1_noteSteps_X3_put_n60 : GoodIn wsX1_noteSteps (wsX3_put) := ggX1_noteSteps_X3_put
theorem dX1_noteSteps_0 : decode cX1_noteSteps 0 = .ok (.iconst 0, 1) := by decide +kernel
theorem dX1_noteSteps_1 : decode cX1_noteSteps 1 = .ok (.istore 4, 2) := by decide +kernel
theorem dX1_noteSteps_3 : decode cX1_noteSteps 3 = .ok (.iload 4, 2) := by decide +kernel
theorem dX1_noteSteps_5 : decode cX1_noteSteps 5 = .ok (.bipush 30, 2) := by decide +kernel
theorem dX1_noteSteps_7 : decode cX1_noteSteps 7 = .ok (.if_icmp .ge 33, 3) := by decide +kernel
theorem dX1_noteSteps_10 : decode cX1_noteSteps 10 = .ok (.iload_n 2, 1) := by decide +kernel
theorem dX1_noteSteps_11 : decode cX1_noteSteps 11 = .ok (.iload 4, 2) := by decide +kernel
theorem dX1_noteSteps_13 : decode cX1_noteSteps 13 = .ok (.invokestatic 40, 3) := by decide +kernel
theorem dX1_noteSteps_16 : decode cX1_noteSteps 16 = .ok (.ifCond .eq 18, 3) := by decide +kernel
theorem dX1_noteSteps_19 : decode cX1_noteSteps 19 = .ok (.aload_n 0, 1) := by decide +kernel
theorem dX1_noteSteps_20 : decode cX1_noteSteps 20 = .ok (.getfield 34, 3) := by decide +kernel
theorem dX1_noteSteps_23 : decode cX1_noteSteps 23 = .ok (.iload_n 1, 1) := by decide +kernel
theorem dX1_noteSteps_24 : decode cX1_noteSteps 24 = .ok (.bipush 30, 2) := by decide +kernel
theorem dX1_noteSteps_26 : decode cX1_noteSteps 26 = .ok (.imul, 1) := by decide +kernel
theorem dX1_noteSteps_27 : decode cX1_noteSteps 27 = .ok (.iload 4, 2) := by decide +kernel
theorem dX1_noteSteps_29 : decode cX1_noteSteps 29 = .ok (.iadd, 1) := by decide +kernel
theorem dX1_noteSteps_30 : decode cX1_noteSteps 30 = .ok (.iload_n 3, 1) := by decide +kernel
theorem dX1_noteSteps_31 : decode cX1_noteSteps 31 = .ok (.invokestatic 60, 3) := by decide +kernel
theorem dX1_noteSteps_34 : decode cX1_noteSteps 34 = .ok (.iinc 4 1, 3) := by decide +kernel
theorem dX1_noteSteps_37 : decode cX1_noteSteps 37 = .ok (.goto (-34), 3) := by decide +kernel
theorem dX1_noteSteps_40 : decode cX1_noteSteps 40 = .ok (.return_, 1) := by decide +kernel
set_option maxRecDepth 20000 in
theorem ggX1_hasTop_X3_holds : GoodIn wsX1_hasTop wsX3_holds := goodIn_r _ [4, 5, 6, 3, 7] (by decide +kernel) (by decide +kernel)
set_option maxRecDepth 20000 in
theorem gX1_hasTop_X3_holds_n40 : GoodIn wsX1_hasTop (wsX3_holds) := ggX1_hasTop_X3_holds
set_option maxRecDepth 20000 in
theorem ggX1_hasTop_X3_at : GoodIn wsX1_hasTop wsX3_at := goodIn_r _ [9] (by decide +kernel) (by decide +kernel)
set_option maxRecDepth 20000 in
theorem gX1_hasTop_X3_at_n44 : GoodIn wsX1_hasTop (wsX3_at) := ggX1_hasTop_X3_at
theorem dX1_hasTop_0 : decode cX1_hasTop 0 = .ok (.iconst 0, 1) := by decide +kernel
theorem dX1_hasTop_1 : decode cX1_hasTop 1 = .ok (.istore_n 2, 1) := by decide +kernel
theorem dX1_hasTop_2 : decode cX1_hasTop 2 = .ok (.iload_n 2, 1) := by decide +kernel
theorem dX1_hasTop_3 : decode cX1_hasTop 3 = .ok (.bipush 30, 2) := by decide +kernel
theorem dX1_hasTop_5 : decode cX1_hasTop 5 = .ok (.if_icmp .ge 30, 3) := by decide +kernel
theorem dX1_hasTop_8 : decode cX1_hasTop 8 = .ok (.iload_n 1, 1) := by decide +kernel
theorem dX1_hasTop_9 : decode cX1_hasTop 9 = .ok (.iload_n 2, 1) := by decide +kernel
theorem dX1_hasTop_10 : decode cX1_hasTop 10 = .ok (.invokestatic 40, 3) := by decide +kernel
theorem dX1_hasTop_13 : decode cX1_hasTop 13 = .ok (.ifCond .eq 16, 3) := by decide +kernel
theorem dX1_hasTop_16 : decode cX1_hasTop 16 = .ok (.aload_n 0, 1) := by decide +kernel
theorem dX1_hasTop_17 : decode cX1_hasTop 17 = .ok (.getfield 18, 3) := by decide +kernel
theorem dX1_hasTop_20 : decode cX1_hasTop 20 = .ok (.iload_n 2, 1) := by decide +kernel
theorem dX1_hasTop_21 : decode cX1_hasTop 21 = .ok (.invokestatic 44, 3) := by decide +kernel
theorem dX1_hasTop_24 : decode cX1_hasTop 24 = .ok (.ifCond .ne 5, 3) := by decide +kernel
theorem dX1_hasTop_27 : decode cX1_hasTop 27 = .ok (.iconst 1, 1) := by decide +kernel
theorem dX1_hasTop_28 : decode cX1_hasTop 28 = .ok (.ireturn, 1) := by decide +kernel
theorem dX1_hasTop_29 : decode cX1_hasTop 29 = .ok (.iinc 2 1, 3) := by decide +kernel
theorem dX1_hasTop_32 : decode cX1_hasTop 32 = .ok (.goto (-30), 3) := by decide +kernel
theorem dX1_hasTop_35 : decode cX1_hasTop 35 = .ok (.iconst 0, 1) := by decide +kernel
theorem dX1_hasTop_36 : decode cX1_hasTop 36 = .ok (.ireturn, 1) := by decide +kernel
set_option maxRecDepth 20000 in
theorem ggX1_weigh_X1_coveredSet : GoodIn wsX1_weigh wsX1_coveredSet := goodIn_r _ [6, 7, 8, 9, 10, 11, 12, 13, 14, 15, 23, 24, 25, 26, 27, 28, 29, 30, 31] (by decide +kernel) (by decide +kernel)
set_option maxRecDepth 20000 in
theorem gX1_weigh_X1_coveredSet : GoodIn wsX1_weigh (wsV RX1 95 RX1 yX1_coveredSet wsX1_coveredSet) := goodIn_app (goodIn_of _ (by decide +kernel)) ggX1_weigh_X1_coveredSet
set_option maxRecDepth 20000 in
theorem ggX1_weigh_X1_countOfAll : GoodIn wsX1_weigh wsX1_countOfAll := goodIn_r _ [19, 20, 11, 9, 12, 13, 14, 15, 8, 10, 23, 24, 25, 26, 27, 28, 29, 30, 31] (by decide +kernel) (by decide +kernel)
set_option maxRecDepth 20000 in
theorem gX1_weigh_X1_countOfAll : GoodIn wsX1_weigh (wsV RX1 98 RX1 yX1_countOfAll wsX1_countOfAll) := goodIn_app (goodIn_of _ (by decide +kernel)) ggX1_weigh_X1_countOfAll
set_option maxRecDepth 20000 in
theorem ggX1_weigh_X3_put : GoodIn wsX1_weigh wsX3_put := goodIn_r _ [22] (by decide +kernel) (by decide +kernel)
set_option maxRecDepth 20000 in
theorem gX1_weigh_X3_put_n60 : GoodIn wsX1_weigh (wsX3_put) := ggX1_weigh_X3_put
theorem dX1_weigh_0 : decode cX1_weigh 0 = .ok (.iconst 0, 1) := by decide +kernel
theorem dX1_weigh_1 : decode cX1_weigh 1 = .ok (.istore_n 1, 1) := by decide +kernel
theorem dX1_weigh_2 : decode cX1_weigh 2 = .ok (.iload_n 1, 1) := by decide +kernel
theorem dX1_weigh_3 : decode cX1_weigh 3 = .ok (.bipush 30, 2) := by decide +kernel
theorem dX1_weigh_5 : decode cX1_weigh 5 = .ok (.if_icmp .ge 26, 3) := by decide +kernel
theorem dX1_weigh_8 : decode cX1_weigh 8 = .ok (.aload_n 0, 1) := by decide +kernel
theorem dX1_weigh_9 : decode cX1_weigh 9 = .ok (.getfield 28, 3) := by decide +kernel
theorem dX1_weigh_12 : decode cX1_weigh 12 = .ok (.iload_n 1, 1) := by decide +kernel
theorem dX1_weigh_13 : decode cX1_weigh 13 = .ok (.aload_n 0, 1) := by decide +kernel
theorem dX1_weigh_14 : decode cX1_weigh 14 = .ok (.aload_n 0, 1) := by decide +kernel
theorem dX1_weigh_15 : decode cX1_weigh 15 = .ok (.iload_n 1, 1) := by decide +kernel
theorem dX1_weigh_16 : decode cX1_weigh 16 = .ok (.invokevirtual 95, 3) := by decide +kernel
theorem dX1_weigh_19 : decode cX1_weigh 19 = .ok (.invokevirtual 98, 3) := by decide +kernel
theorem dX1_weigh_22 : decode cX1_weigh 22 = .ok (.invokestatic 60, 3) := by decide +kernel
theorem dX1_weigh_25 : decode cX1_weigh 25 = .ok (.iinc 1 1, 3) := by decide +kernel
theorem dX1_weigh_28 : decode cX1_weigh 28 = .ok (.goto (-26), 3) := by decide +kernel
theorem dX1_weigh_31 : decode cX1_weigh 31 = .ok (.return_, 1) := by decide +kernel
set_option maxRecDepth 20000 in
theorem ggX1_countOfAll_X3_holds : GoodIn wsX1_countOfAll wsX3_holds := goodIn_r _ [4, 5, 6, 3, 7] (by decide +kernel) (by decide +kernel)
set_option maxRecDepth 20000 in
theorem gX1_countOfAll_X3_holds_n40 : GoodIn wsX1_countOfAll (wsX3_holds) := ggX1_countOfAll_X3_holds
set_option maxRecDepth 20000 in
theorem ggX1_countOfAll_X3_at : GoodIn wsX1_countOfAll wsX3_at := goodIn_r _ [9] (by decide +kernel) (by decide +kernel)
set_option maxRecDepth 20000 in
theorem gX1_countOfAll_X3_at_n44 : GoodIn wsX1_countOfAll (wsX3_at) := ggX1_countOfAll_X3_at
theorem dX1_countOfAll_0 : decode cX1_countOfAll 0 = .ok (.iconst 0, 1) := by decide +kernel
theorem dX1_countOfAll_1 : decode cX1_countOfAll 1 = .ok (.istore_n 2, 1) := by decide +kernel
theorem dX1_countOfAll_2 : decode cX1_countOfAll 2 = .ok (.iconst 0, 1) := by decide +kernel
theorem dX1_countOfAll_3 : decode cX1_countOfAll 3 = .ok (.istore_n 3, 1) := by decide +kernel
theorem dX1_countOfAll_4 : decode cX1_countOfAll 4 = .ok (.iload_n 3, 1) := by decide +kernel
theorem dX1_countOfAll_5 : decode cX1_countOfAll 5 = .ok (.bipush 30, 2) := by decide +kernel
theorem dX1_countOfAll_7 : decode cX1_countOfAll 7 = .ok (.if_icmp .ge 28, 3) := by decide +kernel
theorem dX1_countOfAll_10 : decode cX1_countOfAll 10 = .ok (.iload_n 1, 1) := by decide +kernel
theorem dX1_countOfAll_11 : decode cX1_countOfAll 11 = .ok (.iload_n 3, 1) := by decide +kernel
theorem dX1_countOfAll_12 : decode cX1_countOfAll 12 = .ok (.invokestatic 40, 3) := by decide +kernel
theorem dX1_countOfAll_15 : decode cX1_countOfAll 15 = .ok (.ifCond .eq 14, 3) := by decide +kernel
theorem dX1_countOfAll_18 : decode cX1_countOfAll 18 = .ok (.iload_n 2, 1) := by decide +kernel
theorem dX1_countOfAll_19 : decode cX1_countOfAll 19 = .ok (.aload_n 0, 1) := by decide +kernel
theorem dX1_countOfAll_20 : decode cX1_countOfAll 20 = .ok (.getfield 22, 3) := by decide +kernel
theorem dX1_countOfAll_23 : decode cX1_countOfAll 23 = .ok (.iload_n 3, 1) := by decide +kernel
theorem dX1_countOfAll_24 : decode cX1_countOfAll 24 = .ok (.invokestatic 44, 3) := by decide +kernel
theorem dX1_countOfAll_27 : decode cX1_countOfAll 27 = .ok (.iadd, 1) := by decide +kernel
theorem dX1_countOfAll_28 : decode cX1_countOfAll 28 = .ok (.istore_n 2, 1) := by decide +kernel
theorem dX1_countOfAll_29 : decode cX1_countOfAll 29 = .ok (.iinc 3 1, 3) := by decide +kernel
theorem dX1_countOfAll_32 : decode cX1_countOfAll 32 = .ok (.goto (-28), 3) := by decide +kernel
theorem dX1_countOfAll_35 : decode cX1_countOfAll 35 = .ok (.iload_n 2, 1) := by decide +kernel
theorem dX1_countOfAll_36 : decode cX1_countOfAll 36 = .ok (.ireturn, 1) := by decide +kernel
set_option maxRecDepth 20000 in
theorem ggX1_walkedCount_X3_put : GoodIn wsX1_walkedCount wsX3_put := goodIn_r _ [4] (by decide +kernel) (by decide +kernel)
set_option maxRecDepth 20000 in
theorem gX1_walkedCount_X3_put_n60 : GoodIn wsX1_walkedCount (wsX3_put) := ggX1_walkedCount_X3_put
set_option maxRecDepth 20000 in
theorem ggX1_walkedCount_X1_exists : GoodIn wsX1_walkedCount wsX1_exists := goodIn_r _ [9, 10, 11, 3, 12, 13, 14, 15, 28, 29, 30, 31, 32, 33, 34, 35, 36] (by decide +kernel) (by decide +kernel)
set_option maxRecDepth 20000 in
theorem gX1_walkedCount_X1_exists : GoodIn wsX1_walkedCount (wsV RX1 81 RX1 yX1_exists wsX1_exists) := goodIn_app (goodIn_of _ (by decide +kernel)) ggX1_walkedCount_X1_exists
set_option maxRecDepth 20000 in
theorem ggX1_walkedCount_X1_carryUp : GoodIn wsX1_walkedCount wsX1_carryUp := goodIn_r _ [19, 20, 1, 21, 3, 22, 14, 15, 11, 12, 13, 2, 4, 23, 24, 25, 8, 26, 27, 28, 29, 30, 31, 32, 33, 34, 35, 36] (by decide +kernel) (by decide +kernel)
set_option maxRecDepth 20000 in
theorem gX1_walkedCount_X1_carryUp : GoodIn wsX1_walkedCount (wsV RX1 101 RX1 yX1_carryUp wsX1_carryUp) := goodIn_app (goodIn_of _ (by decide +kernel)) ggX1_walkedCount_X1_carryUp
set_option maxRecDepth 20000 in
theorem ggX1_walkedCount_X3_at : GoodIn wsX1_walkedCount wsX3_at := goodIn_r _ [22] (by decide +kernel) (by decide +kernel)
set_option maxRecDepth 20000 in
theorem gX1_walkedCount_X3_at_n44 : GoodIn wsX1_walkedCount (wsX3_at) := ggX1_walkedCount_X3_at
theorem dX1_walkedCount_0 : decode cX1_walkedCount 0 = .ok (.iconst 0, 1) := by decide +kernel
theorem dX1_walkedCount_1 : decode cX1_walkedCount 1 = .ok (.istore_n 2, 1) := by decide +kernel
theorem dX1_walkedCount_2 : decode cX1_walkedCount 2 = .ok (.iload_n 2, 1) := by decide +kernel
theorem dX1_walkedCount_3 : decode cX1_walkedCount 3 = .ok (.bipush 30, 2) := by decide +kernel
theorem dX1_walkedCount_5 : decode cX1_walkedCount 5 = .ok (.if_icmp .ge 18, 3) := by decide +kernel
theorem dX1_walkedCount_8 : decode cX1_walkedCount 8 = .ok (.aload_n 0, 1) := by decide +kernel
theorem dX1_walkedCount_9 : decode cX1_walkedCount 9 = .ok (.getfield 37, 3) := by decide +kernel
theorem dX1_walkedCount_12 : decode cX1_walkedCount 12 = .ok (.iload_n 2, 1) := by decide +kernel
theorem dX1_walkedCount_13 : decode cX1_walkedCount 13 = .ok (.iconst 0, 1) := by decide +kernel
theorem dX1_walkedCount_14 : decode cX1_walkedCount 14 = .ok (.invokestatic 60, 3) := by decide +kernel
theorem dX1_walkedCount_17 : decode cX1_walkedCount 17 = .ok (.iinc 2 1, 3) := by decide +kernel
theorem dX1_walkedCount_20 : decode cX1_walkedCount 20 = .ok (.goto (-18), 3) := by decide +kernel
theorem dX1_walkedCount_23 : decode cX1_walkedCount 23 = .ok (.iconst 0, 1) := by decide +kernel
theorem dX1_walkedCount_24 : decode cX1_walkedCount 24 = .ok (.istore_n 2, 1) := by decide +kernel
theorem dX1_walkedCount_25 : decode cX1_walkedCount 25 = .ok (.iload_n 2, 1) := by decide +kernel
theorem dX1_walkedCount_26 : decode cX1_walkedCount 26 = .ok (.bipush 30, 2) := by decide +kernel
theorem dX1_walkedCount_28 : decode cX1_walkedCount 28 = .ok (.if_icmp .ge 22, 3) := by decide +kernel
theorem dX1_walkedCount_31 : decode cX1_walkedCount 31 = .ok (.aload_n 0, 1) := by decide +kernel
theorem dX1_walkedCount_32 : decode cX1_walkedCount 32 = .ok (.iload_n 2, 1) := by decide +kernel
theorem dX1_walkedCount_33 : decode cX1_walkedCount 33 = .ok (.invokevirtual 81, 3) := by decide +kernel
theorem dX1_walkedCount_36 : decode cX1_walkedCount 36 = .ok (.ifCond .eq 8, 3) := by decide +kernel
theorem dX1_walkedCount_39 : decode cX1_walkedCount 39 = .ok (.aload_n 0, 1) := by decide +kernel
theorem dX1_walkedCount_40 : decode cX1_walkedCount 40 = .ok (.iload_n 2, 1) := by decide +kernel
theorem dX1_walkedCount_41 : decode cX1_walkedCount 41 = .ok (.invokevirtual 101, 3) := by decide +kernel
theorem dX1_walkedCount_44 : decode cX1_walkedCount 44 = .ok (.iinc 2 1, 3) := by decide +kernel
theorem dX1_walkedCount_47 : decode cX1_walkedCount 47 = .ok (.goto (-22), 3) := by decide +kernel
theorem dX1_walkedCount_50 : decode cX1_walkedCount 50 = .ok (.aload_n 0, 1) := by decide +kernel
theorem dX1_walkedCount_51 : decode cX1_walkedCount 51 = .ok (.getfield 37, 3) := by decide +kernel
theorem dX1_walkedCount_54 : decode cX1_walkedCount 54 = .ok (.iload_n 1, 1) := by decide +kernel
theorem dX1_walkedCount_55 : decode cX1_walkedCount 55 = .ok (.invokestatic 44, 3) := by decide +kernel
theorem dX1_walkedCount_58 : decode cX1_walkedCount 58 = .ok (.ireturn, 1) := by decide +kernel
set_option maxRecDepth 20000 in
theorem ggX1_carryUp_X3_at : GoodIn wsX1_carryUp wsX3_at := goodIn_r _ [5] (by decide +kernel) (by decide +kernel)
set_option maxRecDepth 20000 in
theorem gX1_carryUp_X3_at_n44 : GoodIn wsX1_carryUp (wsX3_at) := ggX1_carryUp_X3_at
set_option maxRecDepth 20000 in
theorem ggX1_carryUp_X3_bit : GoodIn wsX1_carryUp wsX3_bit := goodIn_r _ [7] (by decide +kernel) (by decide +kernel)
set_option maxRecDepth 20000 in
theorem gX1_carryUp_X3_bit_n54 : GoodIn wsX1_carryUp (wsX3_bit) := ggX1_carryUp_X3_bit
set_option maxRecDepth 20000 in
theorem ggX1_carryUp_X3_holds : GoodIn wsX1_carryUp wsX3_holds := goodIn_r _ [9, 10, 6, 4, 7] (by decide +kernel) (by decide +kernel)
set_option maxRecDepth 20000 in
theorem gX1_carryUp_X3_holds_n40 : GoodIn wsX1_carryUp (wsX3_holds) := ggX1_carryUp_X3_holds
set_option maxRecDepth 20000 in
theorem ggX1_carryUp_X3_put : GoodIn wsX1_carryUp wsX3_put := goodIn_r _ [12] (by decide +kernel) (by decide +kernel)
set_option maxRecDepth 20000 in
theorem gX1_carryUp_X3_put_n60 : GoodIn wsX1_carryUp (wsX3_put) := ggX1_carryUp_X3_put
set_option maxRecDepth 20000 in
theorem ggX1_carryUp_X1_parentsOfAll : GoodIn wsX1_carryUp wsX1_parentsOfAll := goodIn_r _ [17, 18, 8, 4, 9, 10, 6, 7, 3, 5, 19, 20, 21, 22, 23, 24, 25, 26, 27] (by decide +kernel) (by decide +kernel)
set_option maxRecDepth 20000 in
theorem gX1_carryUp_X1_parentsOfAll : GoodIn wsX1_carryUp (wsV RX1 92 RX1 yX1_parentsOfAll wsX1_parentsOfAll) := goodIn_app (goodIn_of _ (by decide +kernel)) ggX1_carryUp_X1_parentsOfAll
theorem dX1_carryUp_0 : decode cX1_carryUp 0 = .ok (.aload_n 0, 1) := by decide +kernel
theorem dX1_carryUp_1 : decode cX1_carryUp 1 = .ok (.getfield 22, 3) := by decide +kernel
theorem dX1_carryUp_4 : decode cX1_carryUp 4 = .ok (.iload_n 1, 1) := by decide +kernel
theorem dX1_carryUp_5 : decode cX1_carryUp 5 = .ok (.invokestatic 44, 3) := by decide +kernel
theorem dX1_carryUp_8 : decode cX1_carryUp 8 = .ok (.istore_n 2, 1) := by decide +kernel
theorem dX1_carryUp_9 : decode cX1_carryUp 9 = .ok (.iconst 0, 1) := by decide +kernel
theorem dX1_carryUp_10 : decode cX1_carryUp 10 = .ok (.istore_n 3, 1) := by decide +kernel
theorem dX1_carryUp_11 : decode cX1_carryUp 11 = .ok (.iload_n 1, 1) := by decide +kernel
theorem dX1_carryUp_12 : decode cX1_carryUp 12 = .ok (.invokestatic 54, 3) := by decide +kernel
theorem dX1_carryUp_15 : decode cX1_carryUp 15 = .ok (.istore 4, 2) := by decide +kernel
theorem dX1_carryUp_17 : decode cX1_carryUp 17 = .ok (.iconst 0, 1) := by decide +kernel
theorem dX1_carryUp_18 : decode cX1_carryUp 18 = .ok (.istore 5, 2) := by decide +kernel
theorem dX1_carryUp_20 : decode cX1_carryUp 20 = .ok (.iload 5, 2) := by decide +kernel
theorem dX1_carryUp_22 : decode cX1_carryUp 22 = .ok (.bipush 30, 2) := by decide +kernel
theorem dX1_carryUp_24 : decode cX1_carryUp 24 = .ok (.if_icmp .ge 77, 3) := by decide +kernel
theorem dX1_carryUp_27 : decode cX1_carryUp 27 = .ok (.iload 4, 2) := by decide +kernel
theorem dX1_carryUp_29 : decode cX1_carryUp 29 = .ok (.ifCond .eq 72, 3) := by decide +kernel
theorem dX1_carryUp_32 : decode cX1_carryUp 32 = .ok (.iconst 0, 1) := by decide +kernel
theorem dX1_carryUp_33 : decode cX1_carryUp 33 = .ok (.istore 6, 2) := by decide +kernel
theorem dX1_carryUp_35 : decode cX1_carryUp 35 = .ok (.iload 6, 2) := by decide +kernel
theorem dX1_carryUp_37 : decode cX1_carryUp 37 = .ok (.bipush 30, 2) := by decide +kernel
theorem dX1_carryUp_39 : decode cX1_carryUp 39 = .ok (.if_icmp .ge 39, 3) := by decide +kernel
theorem dX1_carryUp_42 : decode cX1_carryUp 42 = .ok (.iload 4, 2) := by decide +kernel
theorem dX1_carryUp_44 : decode cX1_carryUp 44 = .ok (.iload 6, 2) := by decide +kernel
theorem dX1_carryUp_46 : decode cX1_carryUp 46 = .ok (.invokestatic 40, 3) := by decide +kernel
theorem dX1_carryUp_49 : decode cX1_carryUp 49 = .ok (.ifCond .eq 23, 3) := by decide +kernel
theorem dX1_carryUp_52 : decode cX1_carryUp 52 = .ok (.aload_n 0, 1) := by decide +kernel
theorem dX1_carryUp_53 : decode cX1_carryUp 53 = .ok (.getfield 37, 3) := by decide +kernel
theorem dX1_carryUp_56 : decode cX1_carryUp 56 = .ok (.iload 6, 2) := by decide +kernel
theorem dX1_carryUp_58 : decode cX1_carryUp 58 = .ok (.aload_n 0, 1) := by decide +kernel
theorem dX1_carryUp_59 : decode cX1_carryUp 59 = .ok (.getfield 37, 3) := by decide +kernel
theorem dX1_carryUp_62 : decode cX1_carryUp 62 = .ok (.iload 6, 2) := by decide +kernel
theorem dX1_carryUp_64 : decode cX1_carryUp 64 = .ok (.invokestatic 44, 3) := by decide +kernel
theorem dX1_carryUp_67 : decode cX1_carryUp 67 = .ok (.iload_n 2, 1) := by decide +kernel
theorem dX1_carryUp_68 : decode cX1_carryUp 68 = .ok (.iadd, 1) := by decide +kernel
theorem dX1_carryUp_69 : decode cX1_carryUp 69 = .ok (.invokestatic 60, 3) := by decide +kernel
theorem dX1_carryUp_72 : decode cX1_carryUp 72 = .ok (.iinc 6 1, 3) := by decide +kernel
theorem dX1_carryUp_75 : decode cX1_carryUp 75 = .ok (.goto (-40), 3) := by decide +kernel
theorem dX1_carryUp_78 : decode cX1_carryUp 78 = .ok (.iload_n 3, 1) := by decide +kernel
theorem dX1_carryUp_79 : decode cX1_carryUp 79 = .ok (.iload 4, 2) := by decide +kernel
theorem dX1_carryUp_81 : decode cX1_carryUp 81 = .ok (.ior, 1) := by decide +kernel
theorem dX1_carryUp_82 : decode cX1_carryUp 82 = .ok (.istore_n 3, 1) := by decide +kernel
theorem dX1_carryUp_83 : decode cX1_carryUp 83 = .ok (.aload_n 0, 1) := by decide +kernel
theorem dX1_carryUp_84 : decode cX1_carryUp 84 = .ok (.iload 4, 2) := by decide +kernel
theorem dX1_carryUp_86 : decode cX1_carryUp 86 = .ok (.invokevirtual 92, 3) := by decide +kernel
theorem dX1_carryUp_89 : decode cX1_carryUp 89 = .ok (.iload_n 3, 1) := by decide +kernel
theorem dX1_carryUp_90 : decode cX1_carryUp 90 = .ok (.iconst (-1), 1) := by decide +kernel
theorem dX1_carryUp_91 : decode cX1_carryUp 91 = .ok (.ixor, 1) := by decide +kernel
theorem dX1_carryUp_92 : decode cX1_carryUp 92 = .ok (.iand, 1) := by decide +kernel
theorem dX1_carryUp_93 : decode cX1_carryUp 93 = .ok (.istore 4, 2) := by decide +kernel
theorem dX1_carryUp_95 : decode cX1_carryUp 95 = .ok (.iinc 5 1, 3) := by decide +kernel
theorem dX1_carryUp_98 : decode cX1_carryUp 98 = .ok (.goto (-78), 3) := by decide +kernel
theorem dX1_carryUp_101 : decode cX1_carryUp 101 = .ok (.return_, 1) := by decide +kernel
set_option maxRecDepth 20000 in
theorem ggX1_tellingCover_X3_at : GoodIn wsX1_tellingCover wsX3_at := goodIn_r _ [4] (by decide +kernel) (by decide +kernel)
set_option maxRecDepth 20000 in
theorem gX1_tellingCover_X3_at_n44 : GoodIn wsX1_tellingCover (wsX3_at) := ggX1_tellingCover_X3_at
set_option maxRecDepth 20000 in
theorem ggX1_tellingCover_X3_holds : GoodIn wsX1_tellingCover wsX3_holds := goodIn_r _ [6, 7, 8, 3, 9] (by decide +kernel) (by decide +kernel)
set_option maxRecDepth 20000 in
theorem gX1_tellingCover_X3_holds_n40 : GoodIn wsX1_tellingCover (wsX3_holds) := ggX1_tellingCover_X3_holds
set_option maxRecDepth 20000 in
theorem ggX1_tellingCover_X1_saysMore : GoodIn wsX1_tellingCover wsX1_saysMore := goodIn_r _ [14, 15, 16, 2, 3, 4, 17, 18, 19, 20, 21, 22, 23, 24, 25] (by decide +kernel) (by decide +kernel)
set_option maxRecDepth 20000 in
theorem gX1_tellingCover_X1_saysMore : GoodIn wsX1_tellingCover (wsV RX1 104 RX1 yX1_saysMore wsX1_saysMore) := goodIn_app (goodIn_of _ (by decide +kernel)) ggX1_tellingCover_X1_saysMore
theorem dX1_tellingCover_0 : decode cX1_tellingCover 0 = .ok (.aload_n 0, 1) := by decide +kernel
theorem dX1_tellingCover_1 : decode cX1_tellingCover 1 = .ok (.getfield 25, 3) := by decide +kernel
theorem dX1_tellingCover_4 : decode cX1_tellingCover 4 = .ok (.iload_n 1, 1) := by decide +kernel
theorem dX1_tellingCover_5 : decode cX1_tellingCover 5 = .ok (.invokestatic 44, 3) := by decide +kernel
theorem dX1_tellingCover_8 : decode cX1_tellingCover 8 = .ok (.aload_n 0, 1) := by decide +kernel
theorem dX1_tellingCover_9 : decode cX1_tellingCover 9 = .ok (.getfield 25, 3) := by decide +kernel
theorem dX1_tellingCover_12 : decode cX1_tellingCover 12 = .ok (.iload_n 2, 1) := by decide +kernel
theorem dX1_tellingCover_13 : decode cX1_tellingCover 13 = .ok (.invokestatic 44, 3) := by decide +kernel
theorem dX1_tellingCover_16 : decode cX1_tellingCover 16 = .ok (.iand, 1) := by decide +kernel
theorem dX1_tellingCover_17 : decode cX1_tellingCover 17 = .ok (.istore_n 3, 1) := by decide +kernel
theorem dX1_tellingCover_18 : decode cX1_tellingCover 18 = .ok (.iconst (-1), 1) := by decide +kernel
theorem dX1_tellingCover_19 : decode cX1_tellingCover 19 = .ok (.istore 4, 2) := by decide +kernel
theorem dX1_tellingCover_21 : decode cX1_tellingCover 21 = .ok (.iconst 0, 1) := by decide +kernel
theorem dX1_tellingCover_22 : decode cX1_tellingCover 22 = .ok (.istore 5, 2) := by decide +kernel
theorem dX1_tellingCover_24 : decode cX1_tellingCover 24 = .ok (.iload 5, 2) := by decide +kernel
theorem dX1_tellingCover_26 : decode cX1_tellingCover 26 = .ok (.bipush 30, 2) := by decide +kernel
theorem dX1_tellingCover_28 : decode cX1_tellingCover 28 = .ok (.if_icmp .ge 39, 3) := by decide +kernel
theorem dX1_tellingCover_31 : decode cX1_tellingCover 31 = .ok (.iload_n 3, 1) := by decide +kernel
theorem dX1_tellingCover_32 : decode cX1_tellingCover 32 = .ok (.iload 5, 2) := by decide +kernel
theorem dX1_tellingCover_34 : decode cX1_tellingCover 34 = .ok (.invokestatic 40, 3) := by decide +kernel
theorem dX1_tellingCover_37 : decode cX1_tellingCover 37 = .ok (.ifCond .eq 24, 3) := by decide +kernel
theorem dX1_tellingCover_40 : decode cX1_tellingCover 40 = .ok (.iload 4, 2) := by decide +kernel
theorem dX1_tellingCover_42 : decode cX1_tellingCover 42 = .ok (.iconst (-1), 1) := by decide +kernel
theorem dX1_tellingCover_43 : decode cX1_tellingCover 43 = .ok (.if_icmp .eq 14, 3) := by decide +kernel
theorem dX1_tellingCover_46 : decode cX1_tellingCover 46 = .ok (.aload_n 0, 1) := by decide +kernel
theorem dX1_tellingCover_47 : decode cX1_tellingCover 47 = .ok (.iload 5, 2) := by decide +kernel
theorem dX1_tellingCover_49 : decode cX1_tellingCover 49 = .ok (.iload 4, 2) := by decide +kernel
theorem dX1_tellingCover_51 : decode cX1_tellingCover 51 = .ok (.invokevirtual 104, 3) := by decide +kernel
theorem dX1_tellingCover_54 : decode cX1_tellingCover 54 = .ok (.ifCond .eq 7, 3) := by decide +kernel
theorem dX1_tellingCover_57 : decode cX1_tellingCover 57 = .ok (.iload 5, 2) := by decide +kernel
theorem dX1_tellingCover_59 : decode cX1_tellingCover 59 = .ok (.istore 4, 2) := by decide +kernel
theorem dX1_tellingCover_61 : decode cX1_tellingCover 61 = .ok (.iinc 5 1, 3) := by decide +kernel
theorem dX1_tellingCover_64 : decode cX1_tellingCover 64 = .ok (.goto (-40), 3) := by decide +kernel
theorem dX1_tellingCover_67 : decode cX1_tellingCover 67 = .ok (.iload 4, 2) := by decide +kernel
theorem dX1_tellingCover_69 : decode cX1_tellingCover 69 = .ok (.ireturn, 1) := by decide +kernel
set_option maxRecDepth 20000 in
theorem ggX1_saysMore_X3_at : GoodIn wsX1_saysMore wsX3_at := goodIn_r _ [5] (by decide +kernel) (by decide +kernel)
set_option maxRecDepth 20000 in
theorem gX1_saysMore_X3_at_n44 : GoodIn wsX1_saysMore (wsX3_at) := ggX1_saysMore_X3_at
theorem dX1_saysMore_0 : decode cX1_saysMore 0 = .ok (.aload_n 0, 1) := by decide +kernel
theorem dX1_saysMore_1 : decode cX1_saysMore 1 = .ok (.getfield 28, 3) := by decide +kernel
theorem dX1_saysMore_4 : decode cX1_saysMore 4 = .ok (.iload_n 1, 1) := by decide +kernel
theorem dX1_saysMore_5 : decode cX1_saysMore 5 = .ok (.invokestatic 44, 3) := by decide +kernel
theorem dX1_saysMore_8 : decode cX1_saysMore 8 = .ok (.istore_n 3, 1) := by decide +kernel
theorem dX1_saysMore_9 : decode cX1_saysMore 9 = .ok (.aload_n 0, 1) := by decide +kernel
theorem dX1_saysMore_10 : decode cX1_saysMore 10 = .ok (.getfield 28, 3) := by decide +kernel
theorem dX1_saysMore_13 : decode cX1_saysMore 13 = .ok (.iload_n 2, 1) := by decide +kernel
theorem dX1_saysMore_14 : decode cX1_saysMore 14 = .ok (.invokestatic 44, 3) := by decide +kernel
theorem dX1_saysMore_17 : decode cX1_saysMore 17 = .ok (.istore 4, 2) := by decide +kernel
theorem dX1_saysMore_19 : decode cX1_saysMore 19 = .ok (.iload_n 3, 1) := by decide +kernel
theorem dX1_saysMore_20 : decode cX1_saysMore 20 = .ok (.iload 4, 2) := by decide +kernel
theorem dX1_saysMore_22 : decode cX1_saysMore 22 = .ok (.if_icmp .lt 28, 3) := by decide +kernel
theorem dX1_saysMore_25 : decode cX1_saysMore 25 = .ok (.iload_n 3, 1) := by decide +kernel
theorem dX1_saysMore_26 : decode cX1_saysMore 26 = .ok (.iload 4, 2) := by decide +kernel
theorem dX1_saysMore_28 : decode cX1_saysMore 28 = .ok (.if_icmp .ne 26, 3) := by decide +kernel
theorem dX1_saysMore_31 : decode cX1_saysMore 31 = .ok (.aload_n 0, 1) := by decide +kernel
theorem dX1_saysMore_32 : decode cX1_saysMore 32 = .ok (.getfield 31, 3) := by decide +kernel
theorem dX1_saysMore_35 : decode cX1_saysMore 35 = .ok (.iload_n 1, 1) := by decide +kernel
theorem dX1_saysMore_36 : decode cX1_saysMore 36 = .ok (.invokestatic 44, 3) := by decide +kernel
theorem dX1_saysMore_39 : decode cX1_saysMore 39 = .ok (.aload_n 0, 1) := by decide +kernel
theorem dX1_saysMore_40 : decode cX1_saysMore 40 = .ok (.getfield 31, 3) := by decide +kernel
theorem dX1_saysMore_43 : decode cX1_saysMore 43 = .ok (.iload_n 2, 1) := by decide +kernel
theorem dX1_saysMore_44 : decode cX1_saysMore 44 = .ok (.invokestatic 44, 3) := by decide +kernel
theorem dX1_saysMore_47 : decode cX1_saysMore 47 = .ok (.if_icmp .le 7, 3) := by decide +kernel
theorem dX1_saysMore_50 : decode cX1_saysMore 50 = .ok (.iconst 1, 1) := by decide +kernel
theorem dX1_saysMore_51 : decode cX1_saysMore 51 = .ok (.goto 4, 3) := by decide +kernel
theorem dX1_saysMore_54 : decode cX1_saysMore 54 = .ok (.iconst 0, 1) := by decide +kernel
theorem dX1_saysMore_55 : decode cX1_saysMore 55 = .ok (.ireturn, 1) := by decide +kernel
set_option maxRecDepth 20000 in
theorem ggX1_stepsBetween_X3_at : GoodIn wsX1_stepsBetween wsX3_at := goodIn_r _ [9] (by decide +kernel) (by decide +kernel)
set_option maxRecDepth 20000 in
theorem gX1_stepsBetween_X3_at_n44 : GoodIn wsX1_stepsBetween (wsX3_at) := ggX1_stepsBetween_X3_at
set_option maxRecDepth 20000 in
theorem ggX1_stepsBetween_X3_holds : GoodIn wsX1_stepsBetween wsX3_holds := goodIn_r _ [11, 12, 13, 8, 14] (by decide +kernel) (by decide +kernel)
set_option maxRecDepth 20000 in
theorem gX1_stepsBetween_X3_holds_n40 : GoodIn wsX1_stepsBetween (wsX3_holds) := ggX1_stepsBetween_X3_holds
theorem dX1_stepsBetween_0 : decode cX1_stepsBetween 0 = .ok (.aload_n 0, 1) := by decide +kernel
theorem dX1_stepsBetween_1 : decode cX1_stepsBetween 1 = .ok (.getfield 25, 3) := by decide +kernel
theorem dX1_stepsBetween_4 : decode cX1_stepsBetween 4 = .ok (.iload_n 1, 1) := by decide +kernel
theorem dX1_stepsBetween_5 : decode cX1_stepsBetween 5 = .ok (.invokestatic 44, 3) := by decide +kernel
theorem dX1_stepsBetween_8 : decode cX1_stepsBetween 8 = .ok (.aload_n 0, 1) := by decide +kernel
theorem dX1_stepsBetween_9 : decode cX1_stepsBetween 9 = .ok (.getfield 25, 3) := by decide +kernel
theorem dX1_stepsBetween_12 : decode cX1_stepsBetween 12 = .ok (.iload_n 2, 1) := by decide +kernel
theorem dX1_stepsBetween_13 : decode cX1_stepsBetween 13 = .ok (.invokestatic 44, 3) := by decide +kernel
theorem dX1_stepsBetween_16 : decode cX1_stepsBetween 16 = .ok (.iand, 1) := by decide +kernel
theorem dX1_stepsBetween_17 : decode cX1_stepsBetween 17 = .ok (.istore_n 3, 1) := by decide +kernel
theorem dX1_stepsBetween_18 : decode cX1_stepsBetween 18 = .ok (.iconst (-1), 1) := by decide +kernel
theorem dX1_stepsBetween_19 : decode cX1_stepsBetween 19 = .ok (.istore 4, 2) := by decide +kernel
theorem dX1_stepsBetween_21 : decode cX1_stepsBetween 21 = .ok (.iconst 0, 1) := by decide +kernel
theorem dX1_stepsBetween_22 : decode cX1_stepsBetween 22 = .ok (.istore 5, 2) := by decide +kernel
theorem dX1_stepsBetween_24 : decode cX1_stepsBetween 24 = .ok (.iload 5, 2) := by decide +kernel
theorem dX1_stepsBetween_26 : decode cX1_stepsBetween 26 = .ok (.bipush 30, 2) := by decide +kernel
theorem dX1_stepsBetween_28 : decode cX1_stepsBetween 28 = .ok (.if_icmp .ge 69, 3) := by decide +kernel
theorem dX1_stepsBetween_31 : decode cX1_stepsBetween 31 = .ok (.iload_n 3, 1) := by decide +kernel
theorem dX1_stepsBetween_32 : decode cX1_stepsBetween 32 = .ok (.iload 5, 2) := by decide +kernel
theorem dX1_stepsBetween_34 : decode cX1_stepsBetween 34 = .ok (.invokestatic 40, 3) := by decide +kernel
theorem dX1_stepsBetween_37 : decode cX1_stepsBetween 37 = .ok (.ifCond .eq 54, 3) := by decide +kernel
theorem dX1_stepsBetween_40 : decode cX1_stepsBetween 40 = .ok (.aload_n 0, 1) := by decide +kernel
theorem dX1_stepsBetween_41 : decode cX1_stepsBetween 41 = .ok (.getfield 34, 3) := by decide +kernel
theorem dX1_stepsBetween_44 : decode cX1_stepsBetween 44 = .ok (.iload_n 1, 1) := by decide +kernel
theorem dX1_stepsBetween_45 : decode cX1_stepsBetween 45 = .ok (.bipush 30, 2) := by decide +kernel
theorem dX1_stepsBetween_47 : decode cX1_stepsBetween 47 = .ok (.imul, 1) := by decide +kernel
theorem dX1_stepsBetween_48 : decode cX1_stepsBetween 48 = .ok (.iload 5, 2) := by decide +kernel
theorem dX1_stepsBetween_50 : decode cX1_stepsBetween 50 = .ok (.iadd, 1) := by decide +kernel
theorem dX1_stepsBetween_51 : decode cX1_stepsBetween 51 = .ok (.invokestatic 44, 3) := by decide +kernel
theorem dX1_stepsBetween_54 : decode cX1_stepsBetween 54 = .ok (.aload_n 0, 1) := by decide +kernel
theorem dX1_stepsBetween_55 : decode cX1_stepsBetween 55 = .ok (.getfield 34, 3) := by decide +kernel
theorem dX1_stepsBetween_58 : decode cX1_stepsBetween 58 = .ok (.iload_n 2, 1) := by decide +kernel
theorem dX1_stepsBetween_59 : decode cX1_stepsBetween 59 = .ok (.bipush 30, 2) := by decide +kernel
theorem dX1_stepsBetween_61 : decode cX1_stepsBetween 61 = .ok (.imul, 1) := by decide +kernel
theorem dX1_stepsBetween_62 : decode cX1_stepsBetween 62 = .ok (.iload 5, 2) := by decide +kernel
theorem dX1_stepsBetween_64 : decode cX1_stepsBetween 64 = .ok (.iadd, 1) := by decide +kernel
theorem dX1_stepsBetween_65 : decode cX1_stepsBetween 65 = .ok (.invokestatic 44, 3) := by decide +kernel
theorem dX1_stepsBetween_68 : decode cX1_stepsBetween 68 = .ok (.iadd, 1) := by decide +kernel
theorem dX1_stepsBetween_69 : decode cX1_stepsBetween 69 = .ok (.istore 6, 2) := by decide +kernel
theorem dX1_stepsBetween_71 : decode cX1_stepsBetween 71 = .ok (.iload 4, 2) := by decide +kernel
theorem dX1_stepsBetween_73 : decode cX1_stepsBetween 73 = .ok (.iconst (-1), 1) := by decide +kernel
theorem dX1_stepsBetween_74 : decode cX1_stepsBetween 74 = .ok (.if_icmp .ne 8, 3) := by decide +kernel
theorem dX1_stepsBetween_77 : decode cX1_stepsBetween 77 = .ok (.iload 6, 2) := by decide +kernel
theorem dX1_stepsBetween_79 : decode cX1_stepsBetween 79 = .ok (.goto 10, 3) := by decide +kernel
theorem dX1_stepsBetween_82 : decode cX1_stepsBetween 82 = .ok (.iload 4, 2) := by decide +kernel
theorem dX1_stepsBetween_84 : decode cX1_stepsBetween 84 = .ok (.iload 6, 2) := by decide +kernel
theorem dX1_stepsBetween_86 : decode cX1_stepsBetween 86 = .ok (.invokestatic 107, 3) := by decide +kernel
theorem dX1_stepsBetween_89 : decode cX1_stepsBetween 89 = .ok (.istore 4, 2) := by decide +kernel
theorem dX1_stepsBetween_91 : decode cX1_stepsBetween 91 = .ok (.iinc 5 1, 3) := by decide +kernel
theorem dX1_stepsBetween_94 : decode cX1_stepsBetween 94 = .ok (.goto (-70), 3) := by decide +kernel
theorem dX1_stepsBetween_97 : decode cX1_stepsBetween 97 = .ok (.iload 4, 2) := by decide +kernel
theorem dX1_stepsBetween_99 : decode cX1_stepsBetween 99 = .ok (.ireturn, 1) := by decide +kernel
set_option maxRecDepth 20000 in
theorem ggX1_alike_X1_tellingCover : GoodIn wsX1_alike wsX1_tellingCover := goodIn_r _ [12, 13, 14, 15, 16, 17, 18, 19, 20, 21, 22, 23, 24, 11, 25, 7, 1, 39, 40, 41, 42, 43, 44, 45, 46, 47] (by decide +kernel) (by decide +kernel)
set_option maxRecDepth 20000 in
theorem gX1_alike_X1_tellingCover : GoodIn wsX1_alike (wsV RX1 112 RX1 yX1_tellingCover wsX1_tellingCover) := goodIn_app (goodIn_of _ (by decide +kernel)) ggX1_alike_X1_tellingCover
set_option maxRecDepth 20000 in
theorem ggX1_alike_X1_stepsBetween : GoodIn wsX1_alike wsX1_stepsBetween := goodIn_r _ [29, 13, 30, 2, 3, 4, 5, 14, 15, 16, 17, 18, 19, 20, 21, 39, 40, 41, 42, 43, 44, 45, 46, 47] (by decide +kernel) (by decide +kernel)
set_option maxRecDepth 20000 in
theorem gX1_alike_X1_stepsBetween : GoodIn wsX1_alike (wsV RX1 115 RX1 yX1_stepsBetween wsX1_stepsBetween) := goodIn_app (goodIn_of _ (by decide +kernel)) ggX1_alike_X1_stepsBetween
set_option maxRecDepth 20000 in
theorem ggX1_alike_X1_quotient : GoodIn wsX1_alike wsX1_quotient := goodIn_r _ [33] (by decide +kernel) (by decide +kernel)
set_option maxRecDepth 20000 in
theorem gX1_alike_X1_quotient : GoodIn wsX1_alike (va_wsS RX1 118 yX1_quotient wsX1_quotient) := goodIn_app (goodIn_of _ (by decide +kernel)) ggX1_alike_X1_quotient
set_option maxRecDepth 20000 in
theorem ggX1_alike_X3_at : GoodIn wsX1_alike wsX3_at := goodIn_r _ [16] (by decide +kernel) (by decide +kernel)
set_option maxRecDepth 20000 in
theorem gX1_alike_X3_at_n44 : GoodIn wsX1_alike (wsX3_at) := ggX1_alike_X3_at
set_option maxRecDepth 20000 in
theorem ggX1_alike_X1_countOfAll : GoodIn wsX1_alike wsX1_countOfAll := goodIn_r _ [37, 38, 17, 15, 18, 19, 20, 21, 14, 16, 39, 40, 41, 42, 43, 44, 45, 46, 47] (by decide +kernel) (by decide +kernel)
set_option maxRecDepth 20000 in
theorem gX1_alike_X1_countOfAll : GoodIn wsX1_alike (wsV RX1 98 RX1 yX1_countOfAll wsX1_countOfAll) := goodIn_app (goodIn_of _ (by decide +kernel)) ggX1_alike_X1_countOfAll
theorem dX1_alike_0 : decode cX1_alike 0 = .ok (.aload_n 0, 1) := by decide +kernel
theorem dX1_alike_1 : decode cX1_alike 1 = .ok (.iload_n 1, 1) := by decide +kernel
theorem dX1_alike_2 : decode cX1_alike 2 = .ok (.iload_n 2, 1) := by decide +kernel
theorem dX1_alike_3 : decode cX1_alike 3 = .ok (.invokevirtual 112, 3) := by decide +kernel
theorem dX1_alike_6 : decode cX1_alike 6 = .ok (.istore 4, 2) := by decide +kernel
theorem dX1_alike_8 : decode cX1_alike 8 = .ok (.iload 4, 2) := by decide +kernel
theorem dX1_alike_10 : decode cX1_alike 10 = .ok (.iconst (-1), 1) := by decide +kernel
theorem dX1_alike_11 : decode cX1_alike 11 = .ok (.if_icmp .ne 5, 3) := by decide +kernel
theorem dX1_alike_14 : decode cX1_alike 14 = .ok (.iconst 0, 1) := by decide +kernel
theorem dX1_alike_15 : decode cX1_alike 15 = .ok (.ireturn, 1) := by decide +kernel
theorem dX1_alike_16 : decode cX1_alike 16 = .ok (.iload_n 3, 1) := by decide +kernel
theorem dX1_alike_17 : decode cX1_alike 17 = .ok (.ifCond .ne 18, 3) := by decide +kernel
theorem dX1_alike_20 : decode cX1_alike 20 = .ok (.sipush 10000, 3) := by decide +kernel
theorem dX1_alike_23 : decode cX1_alike 23 = .ok (.iconst 1, 1) := by decide +kernel
theorem dX1_alike_24 : decode cX1_alike 24 = .ok (.aload_n 0, 1) := by decide +kernel
theorem dX1_alike_25 : decode cX1_alike 25 = .ok (.iload_n 1, 1) := by decide +kernel
theorem dX1_alike_26 : decode cX1_alike 26 = .ok (.iload_n 2, 1) := by decide +kernel
theorem dX1_alike_27 : decode cX1_alike 27 = .ok (.invokevirtual 115, 3) := by decide +kernel
theorem dX1_alike_30 : decode cX1_alike 30 = .ok (.iadd, 1) := by decide +kernel
theorem dX1_alike_31 : decode cX1_alike 31 = .ok (.invokestatic 118, 3) := by decide +kernel
theorem dX1_alike_34 : decode cX1_alike 34 = .ok (.ireturn, 1) := by decide +kernel
theorem dX1_alike_35 : decode cX1_alike 35 = .ok (.iload_n 3, 1) := by decide +kernel
theorem dX1_alike_36 : decode cX1_alike 36 = .ok (.iconst 1, 1) := by decide +kernel
theorem dX1_alike_37 : decode cX1_alike 37 = .ok (.if_icmp .ne 53, 3) := by decide +kernel
theorem dX1_alike_40 : decode cX1_alike 40 = .ok (.aload_n 0, 1) := by decide +kernel
theorem dX1_alike_41 : decode cX1_alike 41 = .ok (.getfield 31, 3) := by decide +kernel
theorem dX1_alike_44 : decode cX1_alike 44 = .ok (.iload_n 1, 1) := by decide +kernel
theorem dX1_alike_45 : decode cX1_alike 45 = .ok (.invokestatic 44, 3) := by decide +kernel
theorem dX1_alike_48 : decode cX1_alike 48 = .ok (.iconst 1, 1) := by decide +kernel
theorem dX1_alike_49 : decode cX1_alike 49 = .ok (.iadd, 1) := by decide +kernel
theorem dX1_alike_50 : decode cX1_alike 50 = .ok (.aload_n 0, 1) := by decide +kernel
theorem dX1_alike_51 : decode cX1_alike 51 = .ok (.getfield 31, 3) := by decide +kernel
theorem dX1_alike_54 : decode cX1_alike 54 = .ok (.iload_n 2, 1) := by decide +kernel
theorem dX1_alike_55 : decode cX1_alike 55 = .ok (.invokestatic 44, 3) := by decide +kernel
theorem dX1_alike_58 : decode cX1_alike 58 = .ok (.iadd, 1) := by decide +kernel
theorem dX1_alike_59 : decode cX1_alike 59 = .ok (.iconst 1, 1) := by decide +kernel
theorem dX1_alike_60 : decode cX1_alike 60 = .ok (.iadd, 1) := by decide +kernel
theorem dX1_alike_61 : decode cX1_alike 61 = .ok (.istore 5, 2) := by decide +kernel
theorem dX1_alike_63 : decode cX1_alike 63 = .ok (.sipush 10000, 3) := by decide +kernel
theorem dX1_alike_66 : decode cX1_alike 66 = .ok (.sipush 20000, 3) := by decide +kernel
theorem dX1_alike_69 : decode cX1_alike 69 = .ok (.aload_n 0, 1) := by decide +kernel
theorem dX1_alike_70 : decode cX1_alike 70 = .ok (.getfield 31, 3) := by decide +kernel
theorem dX1_alike_73 : decode cX1_alike 73 = .ok (.iload 4, 2) := by decide +kernel
theorem dX1_alike_75 : decode cX1_alike 75 = .ok (.invokestatic 44, 3) := by decide +kernel
theorem dX1_alike_78 : decode cX1_alike 78 = .ok (.iconst 1, 1) := by decide +kernel
theorem dX1_alike_79 : decode cX1_alike 79 = .ok (.iadd, 1) := by decide +kernel
theorem dX1_alike_80 : decode cX1_alike 80 = .ok (.imul, 1) := by decide +kernel
theorem dX1_alike_81 : decode cX1_alike 81 = .ok (.iload 5, 2) := by decide +kernel
theorem dX1_alike_83 : decode cX1_alike 83 = .ok (.invokestatic 118, 3) := by decide +kernel
theorem dX1_alike_86 : decode cX1_alike 86 = .ok (.invokestatic 107, 3) := by decide +kernel
theorem dX1_alike_89 : decode cX1_alike 89 = .ok (.ireturn, 1) := by decide +kernel
theorem dX1_alike_90 : decode cX1_alike 90 = .ok (.aload_n 0, 1) := by decide +kernel
theorem dX1_alike_91 : decode cX1_alike 91 = .ok (.aload_n 0, 1) := by decide +kernel
theorem dX1_alike_92 : decode cX1_alike 92 = .ok (.getfield 15, 3) := by decide +kernel
theorem dX1_alike_95 : decode cX1_alike 95 = .ok (.invokevirtual 98, 3) := by decide +kernel
theorem dX1_alike_98 : decode cX1_alike 98 = .ok (.istore 5, 2) := by decide +kernel
theorem dX1_alike_100 : decode cX1_alike 100 = .ok (.sipush 10000, 3) := by decide +kernel
theorem dX1_alike_103 : decode cX1_alike 103 = .ok (.iload 5, 2) := by decide +kernel
theorem dX1_alike_105 : decode cX1_alike 105 = .ok (.aload_n 0, 1) := by decide +kernel
theorem dX1_alike_106 : decode cX1_alike 106 = .ok (.getfield 28, 3) := by decide +kernel
theorem dX1_alike_109 : decode cX1_alike 109 = .ok (.iload 4, 2) := by decide +kernel
theorem dX1_alike_111 : decode cX1_alike 111 = .ok (.invokestatic 44, 3) := by decide +kernel
theorem dX1_alike_114 : decode cX1_alike 114 = .ok (.isub, 1) := by decide +kernel
theorem dX1_alike_115 : decode cX1_alike 115 = .ok (.imul, 1) := by decide +kernel
theorem dX1_alike_116 : decode cX1_alike 116 = .ok (.iload 5, 2) := by decide +kernel
theorem dX1_alike_118 : decode cX1_alike 118 = .ok (.invokestatic 118, 3) := by decide +kernel
theorem dX1_alike_121 : decode cX1_alike 121 = .ok (.ireturn, 1) := by decide +kernel
theorem dX1_quotient_0 : decode cX1_quotient 0 = .ok (.iload_n 1, 1) := by decide +kernel
theorem dX1_quotient_1 : decode cX1_quotient 1 = .ok (.ifCond .le 9, 3) := by decide +kernel
theorem dX1_quotient_4 : decode cX1_quotient 4 = .ok (.iload_n 0, 1) := by decide +kernel
theorem dX1_quotient_5 : decode cX1_quotient 5 = .ok (.iload_n 1, 1) := by decide +kernel
theorem dX1_quotient_6 : decode cX1_quotient 6 = .ok (.idiv, 1) := by decide +kernel
theorem dX1_quotient_7 : decode cX1_quotient 7 = .ok (.goto 4, 3) := by decide +kernel
theorem dX1_quotient_10 : decode cX1_quotient 10 = .ok (.iconst 0, 1) := by decide +kernel
theorem dX1_quotient_11 : decode cX1_quotient 11 = .ok (.ireturn, 1) := by decide +kernel
