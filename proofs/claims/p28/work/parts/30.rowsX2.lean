theorem dX2_init_0 : decode cX2_init 0 = .ok (.aload_n 0, 1) := by decide +kernel
theorem dX2_init_1 : decode cX2_init 1 = .ok (.invokespecial 3, 3) := by decide +kernel
theorem dX2_init_4 : decode cX2_init 4 = .ok (.aload_n 0, 1) := by decide +kernel
theorem dX2_init_5 : decode cX2_init 5 = .ok (.iconst 0, 1) := by decide +kernel
theorem dX2_init_6 : decode cX2_init 6 = .ok (.putfield 9, 3) := by decide +kernel
theorem dX2_init_9 : decode cX2_init 9 = .ok (.aload_n 0, 1) := by decide +kernel
theorem dX2_init_10 : decode cX2_init 10 = .ok (.iconst 0, 1) := by decide +kernel
theorem dX2_init_11 : decode cX2_init 11 = .ok (.putfield 15, 3) := by decide +kernel
theorem dX2_init_14 : decode cX2_init 14 = .ok (.aload_n 0, 1) := by decide +kernel
theorem dX2_init_15 : decode cX2_init 15 = .ok (.bipush 50, 2) := by decide +kernel
theorem dX2_init_17 : decode cX2_init 17 = .ok (.newarray .int, 2) := by decide +kernel
theorem dX2_init_19 : decode cX2_init 19 = .ok (.putfield 18, 3) := by decide +kernel
theorem dX2_init_22 : decode cX2_init 22 = .ok (.aload_n 0, 1) := by decide +kernel
theorem dX2_init_23 : decode cX2_init 23 = .ok (.bipush 10, 2) := by decide +kernel
theorem dX2_init_25 : decode cX2_init 25 = .ok (.newarray .int, 2) := by decide +kernel
theorem dX2_init_27 : decode cX2_init 27 = .ok (.putfield 22, 3) := by decide +kernel
theorem dX2_init_30 : decode cX2_init 30 = .ok (.aload_n 0, 1) := by decide +kernel
theorem dX2_init_31 : decode cX2_init 31 = .ok (.bipush 10, 2) := by decide +kernel
theorem dX2_init_33 : decode cX2_init 33 = .ok (.newarray .int, 2) := by decide +kernel
theorem dX2_init_35 : decode cX2_init 35 = .ok (.putfield 25, 3) := by decide +kernel
theorem dX2_init_38 : decode cX2_init 38 = .ok (.aload_n 0, 1) := by decide +kernel
theorem dX2_init_39 : decode cX2_init 39 = .ok (.bipush 6, 2) := by decide +kernel
theorem dX2_init_41 : decode cX2_init 41 = .ok (.newarray .int, 2) := by decide +kernel
theorem dX2_init_43 : decode cX2_init 43 = .ok (.putfield 28, 3) := by decide +kernel
theorem dX2_init_46 : decode cX2_init 46 = .ok (.return_, 1) := by decide +kernel
theorem dX2_exists_0 : decode cX2_exists 0 = .ok (.iload_n 1, 1) := by decide +kernel
theorem dX2_exists_1 : decode cX2_exists 1 = .ok (.ifCond .lt 15, 3) := by decide +kernel
theorem dX2_exists_4 : decode cX2_exists 4 = .ok (.iload_n 1, 1) := by decide +kernel
theorem dX2_exists_5 : decode cX2_exists 5 = .ok (.aload_n 0, 1) := by decide +kernel
theorem dX2_exists_6 : decode cX2_exists 6 = .ok (.getfield 9, 3) := by decide +kernel
theorem dX2_exists_9 : decode cX2_exists 9 = .ok (.if_icmp .ge 7, 3) := by decide +kernel
theorem dX2_exists_12 : decode cX2_exists 12 = .ok (.iconst 1, 1) := by decide +kernel
theorem dX2_exists_13 : decode cX2_exists 13 = .ok (.goto 4, 3) := by decide +kernel
theorem dX2_exists_16 : decode cX2_exists 16 = .ok (.iconst 0, 1) := by decide +kernel
theorem dX2_exists_17 : decode cX2_exists 17 = .ok (.ireturn, 1) := by decide +kernel
set_option maxRecDepth 20000 in
theorem ggX2_size_X3_at : GoodIn wsX2_size wsX3_at := goodIn_r _ [4] (by decide +kernel) (by decide +kernel)
set_option maxRecDepth 20000 in
theorem gX2_size_X3_at_n31 : GoodIn wsX2_size (wsX3_at) := ggX2_size_X3_at
theorem dX2_size_0 : decode cX2_size 0 = .ok (.aload_n 0, 1) := by decide +kernel
theorem dX2_size_1 : decode cX2_size 1 = .ok (.getfield 22, 3) := by decide +kernel
theorem dX2_size_4 : decode cX2_size 4 = .ok (.iload_n 1, 1) := by decide +kernel
theorem dX2_size_5 : decode cX2_size 5 = .ok (.invokestatic 31, 3) := by decide +kernel
theorem dX2_size_8 : decode cX2_size 8 = .ok (.ireturn, 1) := by decide +kernel
set_option maxRecDepth 20000 in
theorem ggX2_has_X2_rankOf : GoodIn wsX2_has wsX2_rankOf := goodIn_r _ [5, 6, 7, 8, 9, 10, 11, 12, 13, 14, 15, 16] (by decide +kernel) (by decide +kernel)
set_option maxRecDepth 20000 in
theorem gX2_has_X2_rankOf : GoodIn wsX2_has (wsV RX2 35 RX2 yX2_rankOf wsX2_rankOf) := goodIn_app (goodIn_of _ (by decide +kernel)) ggX2_has_X2_rankOf
theorem dX2_has_0 : decode cX2_has 0 = .ok (.aload_n 0, 1) := by decide +kernel
theorem dX2_has_1 : decode cX2_has 1 = .ok (.iload_n 1, 1) := by decide +kernel
theorem dX2_has_2 : decode cX2_has 2 = .ok (.iload_n 2, 1) := by decide +kernel
theorem dX2_has_3 : decode cX2_has 3 = .ok (.invokevirtual 35, 3) := by decide +kernel
theorem dX2_has_6 : decode cX2_has 6 = .ok (.iconst (-1), 1) := by decide +kernel
theorem dX2_has_7 : decode cX2_has 7 = .ok (.if_icmp .eq 7, 3) := by decide +kernel
theorem dX2_has_10 : decode cX2_has 10 = .ok (.iconst 1, 1) := by decide +kernel
theorem dX2_has_11 : decode cX2_has 11 = .ok (.goto 4, 3) := by decide +kernel
theorem dX2_has_14 : decode cX2_has 14 = .ok (.iconst 0, 1) := by decide +kernel
theorem dX2_has_15 : decode cX2_has 15 = .ok (.ireturn, 1) := by decide +kernel
set_option maxRecDepth 20000 in
theorem ggX2_anyHas_X2_has : GoodIn wsX2_anyHas wsX2_has := goodIn_r _ [6, 7, 8, 9, 5, 10, 11, 12, 13, 14, 15, 16, 17, 18, 19, 20, 21] (by decide +kernel) (by decide +kernel)
set_option maxRecDepth 20000 in
theorem gX2_anyHas_X2_has : GoodIn wsX2_anyHas (wsV RX2 39 RX2 yX2_has wsX2_has) := goodIn_app (goodIn_of _ (by decide +kernel)) ggX2_anyHas_X2_has
theorem dX2_anyHas_0 : decode cX2_anyHas 0 = .ok (.iconst 0, 1) := by decide +kernel
theorem dX2_anyHas_1 : decode cX2_anyHas 1 = .ok (.istore_n 2, 1) := by decide +kernel
theorem dX2_anyHas_2 : decode cX2_anyHas 2 = .ok (.iload_n 2, 1) := by decide +kernel
theorem dX2_anyHas_3 : decode cX2_anyHas 3 = .ok (.aload_n 0, 1) := by decide +kernel
theorem dX2_anyHas_4 : decode cX2_anyHas 4 = .ok (.getfield 9, 3) := by decide +kernel
theorem dX2_anyHas_7 : decode cX2_anyHas 7 = .ok (.if_icmp .ge 20, 3) := by decide +kernel
theorem dX2_anyHas_10 : decode cX2_anyHas 10 = .ok (.aload_n 0, 1) := by decide +kernel
theorem dX2_anyHas_11 : decode cX2_anyHas 11 = .ok (.iload_n 2, 1) := by decide +kernel
theorem dX2_anyHas_12 : decode cX2_anyHas 12 = .ok (.iload_n 1, 1) := by decide +kernel
theorem dX2_anyHas_13 : decode cX2_anyHas 13 = .ok (.invokevirtual 39, 3) := by decide +kernel
theorem dX2_anyHas_16 : decode cX2_anyHas 16 = .ok (.ifCond .eq 5, 3) := by decide +kernel
theorem dX2_anyHas_19 : decode cX2_anyHas 19 = .ok (.iconst 1, 1) := by decide +kernel
theorem dX2_anyHas_20 : decode cX2_anyHas 20 = .ok (.ireturn, 1) := by decide +kernel
theorem dX2_anyHas_21 : decode cX2_anyHas 21 = .ok (.iinc 2 1, 3) := by decide +kernel
theorem dX2_anyHas_24 : decode cX2_anyHas 24 = .ok (.goto (-22), 3) := by decide +kernel
theorem dX2_anyHas_27 : decode cX2_anyHas 27 = .ok (.iconst 0, 1) := by decide +kernel
theorem dX2_anyHas_28 : decode cX2_anyHas 28 = .ok (.ireturn, 1) := by decide +kernel
set_option maxRecDepth 20000 in
theorem ggX2_isSaid_X3_at : GoodIn wsX2_isSaid wsX3_at := goodIn_r _ [5] (by decide +kernel) (by decide +kernel)
set_option maxRecDepth 20000 in
theorem gX2_isSaid_X3_at_n31 : GoodIn wsX2_isSaid (wsX3_at) := ggX2_isSaid_X3_at
theorem dX2_isSaid_0 : decode cX2_isSaid 0 = .ok (.iconst 0, 1) := by decide +kernel
theorem dX2_isSaid_1 : decode cX2_isSaid 1 = .ok (.istore_n 2, 1) := by decide +kernel
theorem dX2_isSaid_2 : decode cX2_isSaid 2 = .ok (.iload_n 2, 1) := by decide +kernel
theorem dX2_isSaid_3 : decode cX2_isSaid 3 = .ok (.aload_n 0, 1) := by decide +kernel
theorem dX2_isSaid_4 : decode cX2_isSaid 4 = .ok (.getfield 15, 3) := by decide +kernel
theorem dX2_isSaid_7 : decode cX2_isSaid 7 = .ok (.if_icmp .ge 23, 3) := by decide +kernel
theorem dX2_isSaid_10 : decode cX2_isSaid 10 = .ok (.aload_n 0, 1) := by decide +kernel
theorem dX2_isSaid_11 : decode cX2_isSaid 11 = .ok (.getfield 28, 3) := by decide +kernel
theorem dX2_isSaid_14 : decode cX2_isSaid 14 = .ok (.iload_n 2, 1) := by decide +kernel
theorem dX2_isSaid_15 : decode cX2_isSaid 15 = .ok (.invokestatic 31, 3) := by decide +kernel
theorem dX2_isSaid_18 : decode cX2_isSaid 18 = .ok (.iload_n 1, 1) := by decide +kernel
theorem dX2_isSaid_19 : decode cX2_isSaid 19 = .ok (.if_icmp .ne 5, 3) := by decide +kernel
theorem dX2_isSaid_22 : decode cX2_isSaid 22 = .ok (.iconst 1, 1) := by decide +kernel
theorem dX2_isSaid_23 : decode cX2_isSaid 23 = .ok (.ireturn, 1) := by decide +kernel
theorem dX2_isSaid_24 : decode cX2_isSaid 24 = .ok (.iinc 2 1, 3) := by decide +kernel
theorem dX2_isSaid_27 : decode cX2_isSaid 27 = .ok (.goto (-25), 3) := by decide +kernel
theorem dX2_isSaid_30 : decode cX2_isSaid 30 = .ok (.iconst 0, 1) := by decide +kernel
theorem dX2_isSaid_31 : decode cX2_isSaid 31 = .ok (.ireturn, 1) := by decide +kernel
set_option maxRecDepth 20000 in
theorem ggX2_wordAt_X3_at : GoodIn wsX2_wordAt wsX3_at := goodIn_r _ [4] (by decide +kernel) (by decide +kernel)
set_option maxRecDepth 20000 in
theorem gX2_wordAt_X3_at_n31 : GoodIn wsX2_wordAt (wsX3_at) := ggX2_wordAt_X3_at
theorem dX2_wordAt_0 : decode cX2_wordAt 0 = .ok (.aload_n 0, 1) := by decide +kernel
theorem dX2_wordAt_1 : decode cX2_wordAt 1 = .ok (.getfield 28, 3) := by decide +kernel
theorem dX2_wordAt_4 : decode cX2_wordAt 4 = .ok (.iload_n 1, 1) := by decide +kernel
theorem dX2_wordAt_5 : decode cX2_wordAt 5 = .ok (.invokestatic 31, 3) := by decide +kernel
theorem dX2_wordAt_8 : decode cX2_wordAt 8 = .ok (.ireturn, 1) := by decide +kernel
set_option maxRecDepth 20000 in
theorem ggX2_optionCount_X3_at : GoodIn wsX2_optionCount wsX3_at := goodIn_r _ [5] (by decide +kernel) (by decide +kernel)
set_option maxRecDepth 20000 in
theorem gX2_optionCount_X3_at_n31 : GoodIn wsX2_optionCount (wsX3_at) := ggX2_optionCount_X3_at
theorem dX2_optionCount_0 : decode cX2_optionCount 0 = .ok (.aload_n 0, 1) := by decide +kernel
theorem dX2_optionCount_1 : decode cX2_optionCount 1 = .ok (.getfield 25, 3) := by decide +kernel
theorem dX2_optionCount_4 : decode cX2_optionCount 4 = .ok (.iload_n 1, 1) := by decide +kernel
theorem dX2_optionCount_5 : decode cX2_optionCount 5 = .ok (.invokestatic 31, 3) := by decide +kernel
theorem dX2_optionCount_8 : decode cX2_optionCount 8 = .ok (.iconst (-1), 1) := by decide +kernel
theorem dX2_optionCount_9 : decode cX2_optionCount 9 = .ok (.if_icmp .ne 14, 3) := by decide +kernel
theorem dX2_optionCount_12 : decode cX2_optionCount 12 = .ok (.aload_n 0, 1) := by decide +kernel
theorem dX2_optionCount_13 : decode cX2_optionCount 13 = .ok (.getfield 22, 3) := by decide +kernel
theorem dX2_optionCount_16 : decode cX2_optionCount 16 = .ok (.iload_n 1, 1) := by decide +kernel
theorem dX2_optionCount_17 : decode cX2_optionCount 17 = .ok (.invokestatic 31, 3) := by decide +kernel
theorem dX2_optionCount_20 : decode cX2_optionCount 20 = .ok (.goto 4, 3) := by decide +kernel
theorem dX2_optionCount_23 : decode cX2_optionCount 23 = .ok (.iconst 1, 1) := by decide +kernel
theorem dX2_optionCount_24 : decode cX2_optionCount 24 = .ok (.ireturn, 1) := by decide +kernel
set_option maxRecDepth 20000 in
theorem ggX2_option_X3_at : GoodIn wsX2_option wsX3_at := goodIn_r _ [5] (by decide +kernel) (by decide +kernel)
set_option maxRecDepth 20000 in
theorem gX2_option_X3_at_n31 : GoodIn wsX2_option (wsX3_at) := ggX2_option_X3_at
theorem dX2_option_0 : decode cX2_option 0 = .ok (.aload_n 0, 1) := by decide +kernel
theorem dX2_option_1 : decode cX2_option 1 = .ok (.getfield 25, 3) := by decide +kernel
theorem dX2_option_4 : decode cX2_option 4 = .ok (.iload_n 1, 1) := by decide +kernel
theorem dX2_option_5 : decode cX2_option 5 = .ok (.invokestatic 31, 3) := by decide +kernel
theorem dX2_option_8 : decode cX2_option 8 = .ok (.istore_n 3, 1) := by decide +kernel
theorem dX2_option_9 : decode cX2_option 9 = .ok (.iload_n 3, 1) := by decide +kernel
theorem dX2_option_10 : decode cX2_option 10 = .ok (.iconst (-1), 1) := by decide +kernel
theorem dX2_option_11 : decode cX2_option 11 = .ok (.if_icmp .ne 18, 3) := by decide +kernel
theorem dX2_option_14 : decode cX2_option 14 = .ok (.aload_n 0, 1) := by decide +kernel
theorem dX2_option_15 : decode cX2_option 15 = .ok (.getfield 18, 3) := by decide +kernel
theorem dX2_option_18 : decode cX2_option 18 = .ok (.iload_n 1, 1) := by decide +kernel
theorem dX2_option_19 : decode cX2_option 19 = .ok (.iconst 5, 1) := by decide +kernel
theorem dX2_option_20 : decode cX2_option 20 = .ok (.imul, 1) := by decide +kernel
theorem dX2_option_21 : decode cX2_option 21 = .ok (.iload_n 2, 1) := by decide +kernel
theorem dX2_option_22 : decode cX2_option 22 = .ok (.iadd, 1) := by decide +kernel
theorem dX2_option_23 : decode cX2_option 23 = .ok (.invokestatic 31, 3) := by decide +kernel
theorem dX2_option_26 : decode cX2_option 26 = .ok (.goto 4, 3) := by decide +kernel
theorem dX2_option_29 : decode cX2_option 29 = .ok (.iload_n 3, 1) := by decide +kernel
theorem dX2_option_30 : decode cX2_option 30 = .ok (.ireturn, 1) := by decide +kernel
set_option maxRecDepth 20000 in
theorem ggX2_addOne_X3_put : GoodIn wsX2_addOne wsX3_put := goodIn_r _ [6] (by decide +kernel) (by decide +kernel)
set_option maxRecDepth 20000 in
theorem gX2_addOne_X3_put_n43 : GoodIn wsX2_addOne (wsX3_put) := ggX2_addOne_X3_put
theorem dX2_addOne_0 : decode cX2_addOne 0 = .ok (.aload_n 0, 1) := by decide +kernel
theorem dX2_addOne_1 : decode cX2_addOne 1 = .ok (.getfield 9, 3) := by decide +kernel
theorem dX2_addOne_4 : decode cX2_addOne 4 = .ok (.istore_n 1, 1) := by decide +kernel
theorem dX2_addOne_5 : decode cX2_addOne 5 = .ok (.aload_n 0, 1) := by decide +kernel
theorem dX2_addOne_6 : decode cX2_addOne 6 = .ok (.dup, 1) := by decide +kernel
theorem dX2_addOne_7 : decode cX2_addOne 7 = .ok (.getfield 9, 3) := by decide +kernel
theorem dX2_addOne_10 : decode cX2_addOne 10 = .ok (.iconst 1, 1) := by decide +kernel
theorem dX2_addOne_11 : decode cX2_addOne 11 = .ok (.iadd, 1) := by decide +kernel
theorem dX2_addOne_12 : decode cX2_addOne 12 = .ok (.putfield 9, 3) := by decide +kernel
theorem dX2_addOne_15 : decode cX2_addOne 15 = .ok (.aload_n 0, 1) := by decide +kernel
theorem dX2_addOne_16 : decode cX2_addOne 16 = .ok (.getfield 22, 3) := by decide +kernel
theorem dX2_addOne_19 : decode cX2_addOne 19 = .ok (.iload_n 1, 1) := by decide +kernel
theorem dX2_addOne_20 : decode cX2_addOne 20 = .ok (.iconst 0, 1) := by decide +kernel
theorem dX2_addOne_21 : decode cX2_addOne 21 = .ok (.invokestatic 43, 3) := by decide +kernel
theorem dX2_addOne_24 : decode cX2_addOne 24 = .ok (.aload_n 0, 1) := by decide +kernel
theorem dX2_addOne_25 : decode cX2_addOne 25 = .ok (.getfield 25, 3) := by decide +kernel
theorem dX2_addOne_28 : decode cX2_addOne 28 = .ok (.iload_n 1, 1) := by decide +kernel
theorem dX2_addOne_29 : decode cX2_addOne 29 = .ok (.iconst (-1), 1) := by decide +kernel
theorem dX2_addOne_30 : decode cX2_addOne 30 = .ok (.invokestatic 43, 3) := by decide +kernel
theorem dX2_addOne_33 : decode cX2_addOne 33 = .ok (.iload_n 1, 1) := by decide +kernel
theorem dX2_addOne_34 : decode cX2_addOne 34 = .ok (.ireturn, 1) := by decide +kernel
set_option maxRecDepth 20000 in
theorem ggX2_append_X3_at : GoodIn wsX2_append wsX3_at := goodIn_r _ [5] (by decide +kernel) (by decide +kernel)
set_option maxRecDepth 20000 in
theorem gX2_append_X3_at_n31 : GoodIn wsX2_append (wsX3_at) := ggX2_append_X3_at
set_option maxRecDepth 20000 in
theorem ggX2_append_X3_put : GoodIn wsX2_append wsX3_put := goodIn_r _ [7] (by decide +kernel) (by decide +kernel)
set_option maxRecDepth 20000 in
theorem gX2_append_X3_put_n43 : GoodIn wsX2_append (wsX3_put) := ggX2_append_X3_put
theorem dX2_append_0 : decode cX2_append 0 = .ok (.aload_n 0, 1) := by decide +kernel
theorem dX2_append_1 : decode cX2_append 1 = .ok (.getfield 22, 3) := by decide +kernel
theorem dX2_append_4 : decode cX2_append 4 = .ok (.iload_n 1, 1) := by decide +kernel
theorem dX2_append_5 : decode cX2_append 5 = .ok (.invokestatic 31, 3) := by decide +kernel
theorem dX2_append_8 : decode cX2_append 8 = .ok (.istore_n 3, 1) := by decide +kernel
theorem dX2_append_9 : decode cX2_append 9 = .ok (.aload_n 0, 1) := by decide +kernel
theorem dX2_append_10 : decode cX2_append 10 = .ok (.getfield 18, 3) := by decide +kernel
theorem dX2_append_13 : decode cX2_append 13 = .ok (.iload_n 1, 1) := by decide +kernel
theorem dX2_append_14 : decode cX2_append 14 = .ok (.iconst 5, 1) := by decide +kernel
theorem dX2_append_15 : decode cX2_append 15 = .ok (.imul, 1) := by decide +kernel
theorem dX2_append_16 : decode cX2_append 16 = .ok (.iload_n 3, 1) := by decide +kernel
theorem dX2_append_17 : decode cX2_append 17 = .ok (.iadd, 1) := by decide +kernel
theorem dX2_append_18 : decode cX2_append 18 = .ok (.iload_n 2, 1) := by decide +kernel
theorem dX2_append_19 : decode cX2_append 19 = .ok (.invokestatic 43, 3) := by decide +kernel
theorem dX2_append_22 : decode cX2_append 22 = .ok (.aload_n 0, 1) := by decide +kernel
theorem dX2_append_23 : decode cX2_append 23 = .ok (.getfield 22, 3) := by decide +kernel
theorem dX2_append_26 : decode cX2_append 26 = .ok (.iload_n 1, 1) := by decide +kernel
theorem dX2_append_27 : decode cX2_append 27 = .ok (.iload_n 3, 1) := by decide +kernel
theorem dX2_append_28 : decode cX2_append 28 = .ok (.iconst 1, 1) := by decide +kernel
theorem dX2_append_29 : decode cX2_append 29 = .ok (.iadd, 1) := by decide +kernel
theorem dX2_append_30 : decode cX2_append 30 = .ok (.invokestatic 43, 3) := by decide +kernel
theorem dX2_append_33 : decode cX2_append 33 = .ok (.iload_n 3, 1) := by decide +kernel
theorem dX2_append_34 : decode cX2_append 34 = .ok (.iconst 1, 1) := by decide +kernel
theorem dX2_append_35 : decode cX2_append 35 = .ok (.iadd, 1) := by decide +kernel
theorem dX2_append_36 : decode cX2_append 36 = .ok (.ireturn, 1) := by decide +kernel
set_option maxRecDepth 20000 in
theorem ggX2_drop_X3_at : GoodIn wsX2_drop wsX3_at := goodIn_r _ [6] (by decide +kernel) (by decide +kernel)
set_option maxRecDepth 20000 in
theorem gX2_drop_X3_at_n31 : GoodIn wsX2_drop (wsX3_at) := ggX2_drop_X3_at
set_option maxRecDepth 20000 in
theorem ggX2_drop_X2_rankOf : GoodIn wsX2_drop wsX2_rankOf := goodIn_r _ [11, 1, 2, 4, 5, 6, 14, 15, 16, 17, 18, 19] (by decide +kernel) (by decide +kernel)
set_option maxRecDepth 20000 in
theorem gX2_drop_X2_rankOf : GoodIn wsX2_drop (wsV RX2 35 RX2 yX2_rankOf wsX2_rankOf) := goodIn_app (goodIn_of _ (by decide +kernel)) ggX2_drop_X2_rankOf
set_option maxRecDepth 20000 in
theorem ggX2_drop_X3_put : GoodIn wsX2_drop wsX3_put := goodIn_r _ [13] (by decide +kernel) (by decide +kernel)
set_option maxRecDepth 20000 in
theorem gX2_drop_X3_put_n43 : GoodIn wsX2_drop (wsX3_put) := ggX2_drop_X3_put
theorem dX2_drop_0 : decode cX2_drop 0 = .ok (.aload_n 0, 1) := by decide +kernel
theorem dX2_drop_1 : decode cX2_drop 1 = .ok (.getfield 22, 3) := by decide +kernel
theorem dX2_drop_4 : decode cX2_drop 4 = .ok (.iload_n 1, 1) := by decide +kernel
theorem dX2_drop_5 : decode cX2_drop 5 = .ok (.invokestatic 31, 3) := by decide +kernel
theorem dX2_drop_8 : decode cX2_drop 8 = .ok (.iconst 1, 1) := by decide +kernel
theorem dX2_drop_9 : decode cX2_drop 9 = .ok (.isub, 1) := by decide +kernel
theorem dX2_drop_10 : decode cX2_drop 10 = .ok (.istore_n 3, 1) := by decide +kernel
theorem dX2_drop_11 : decode cX2_drop 11 = .ok (.iload_n 1, 1) := by decide +kernel
theorem dX2_drop_12 : decode cX2_drop 12 = .ok (.iconst 5, 1) := by decide +kernel
theorem dX2_drop_13 : decode cX2_drop 13 = .ok (.imul, 1) := by decide +kernel
theorem dX2_drop_14 : decode cX2_drop 14 = .ok (.istore 4, 2) := by decide +kernel
theorem dX2_drop_16 : decode cX2_drop 16 = .ok (.aload_n 0, 1) := by decide +kernel
theorem dX2_drop_17 : decode cX2_drop 17 = .ok (.iload_n 1, 1) := by decide +kernel
theorem dX2_drop_18 : decode cX2_drop 18 = .ok (.iload_n 2, 1) := by decide +kernel
theorem dX2_drop_19 : decode cX2_drop 19 = .ok (.invokevirtual 35, 3) := by decide +kernel
theorem dX2_drop_22 : decode cX2_drop 22 = .ok (.istore 5, 2) := by decide +kernel
theorem dX2_drop_24 : decode cX2_drop 24 = .ok (.iload 5, 2) := by decide +kernel
theorem dX2_drop_26 : decode cX2_drop 26 = .ok (.ifCond .lt 41, 3) := by decide +kernel
theorem dX2_drop_29 : decode cX2_drop 29 = .ok (.iload 5, 2) := by decide +kernel
theorem dX2_drop_31 : decode cX2_drop 31 = .ok (.iload_n 3, 1) := by decide +kernel
theorem dX2_drop_32 : decode cX2_drop 32 = .ok (.if_icmp .ge 35, 3) := by decide +kernel
theorem dX2_drop_35 : decode cX2_drop 35 = .ok (.aload_n 0, 1) := by decide +kernel
theorem dX2_drop_36 : decode cX2_drop 36 = .ok (.getfield 18, 3) := by decide +kernel
theorem dX2_drop_39 : decode cX2_drop 39 = .ok (.iload 4, 2) := by decide +kernel
theorem dX2_drop_41 : decode cX2_drop 41 = .ok (.iload 5, 2) := by decide +kernel
theorem dX2_drop_43 : decode cX2_drop 43 = .ok (.iadd, 1) := by decide +kernel
theorem dX2_drop_44 : decode cX2_drop 44 = .ok (.aload_n 0, 1) := by decide +kernel
theorem dX2_drop_45 : decode cX2_drop 45 = .ok (.getfield 18, 3) := by decide +kernel
theorem dX2_drop_48 : decode cX2_drop 48 = .ok (.iload 4, 2) := by decide +kernel
theorem dX2_drop_50 : decode cX2_drop 50 = .ok (.iload 5, 2) := by decide +kernel
theorem dX2_drop_52 : decode cX2_drop 52 = .ok (.iadd, 1) := by decide +kernel
theorem dX2_drop_53 : decode cX2_drop 53 = .ok (.iconst 1, 1) := by decide +kernel
theorem dX2_drop_54 : decode cX2_drop 54 = .ok (.iadd, 1) := by decide +kernel
theorem dX2_drop_55 : decode cX2_drop 55 = .ok (.invokestatic 31, 3) := by decide +kernel
theorem dX2_drop_58 : decode cX2_drop 58 = .ok (.invokestatic 43, 3) := by decide +kernel
theorem dX2_drop_61 : decode cX2_drop 61 = .ok (.iinc 5 1, 3) := by decide +kernel
theorem dX2_drop_64 : decode cX2_drop 64 = .ok (.goto (-40), 3) := by decide +kernel
theorem dX2_drop_67 : decode cX2_drop 67 = .ok (.aload_n 0, 1) := by decide +kernel
theorem dX2_drop_68 : decode cX2_drop 68 = .ok (.getfield 22, 3) := by decide +kernel
theorem dX2_drop_71 : decode cX2_drop 71 = .ok (.iload_n 1, 1) := by decide +kernel
theorem dX2_drop_72 : decode cX2_drop 72 = .ok (.iload_n 3, 1) := by decide +kernel
theorem dX2_drop_73 : decode cX2_drop 73 = .ok (.invokestatic 43, 3) := by decide +kernel
theorem dX2_drop_76 : decode cX2_drop 76 = .ok (.aload_n 0, 1) := by decide +kernel
theorem dX2_drop_77 : decode cX2_drop 77 = .ok (.getfield 25, 3) := by decide +kernel
theorem dX2_drop_80 : decode cX2_drop 80 = .ok (.iload_n 1, 1) := by decide +kernel
theorem dX2_drop_81 : decode cX2_drop 81 = .ok (.invokestatic 31, 3) := by decide +kernel
theorem dX2_drop_84 : decode cX2_drop 84 = .ok (.iload_n 2, 1) := by decide +kernel
theorem dX2_drop_85 : decode cX2_drop 85 = .ok (.if_icmp .ne 12, 3) := by decide +kernel
theorem dX2_drop_88 : decode cX2_drop 88 = .ok (.aload_n 0, 1) := by decide +kernel
theorem dX2_drop_89 : decode cX2_drop 89 = .ok (.getfield 25, 3) := by decide +kernel
theorem dX2_drop_92 : decode cX2_drop 92 = .ok (.iload_n 1, 1) := by decide +kernel
theorem dX2_drop_93 : decode cX2_drop 93 = .ok (.iconst (-1), 1) := by decide +kernel
theorem dX2_drop_94 : decode cX2_drop 94 = .ok (.invokestatic 43, 3) := by decide +kernel
theorem dX2_drop_97 : decode cX2_drop 97 = .ok (.iload_n 3, 1) := by decide +kernel
theorem dX2_drop_98 : decode cX2_drop 98 = .ok (.ireturn, 1) := by decide +kernel
set_option maxRecDepth 20000 in
theorem ggX2_relock_X3_at : GoodIn wsX2_relock wsX3_at := goodIn_r _ [4] (by decide +kernel) (by decide +kernel)
set_option maxRecDepth 20000 in
theorem gX2_relock_X3_at_n31 : GoodIn wsX2_relock (wsX3_at) := ggX2_relock_X3_at
set_option maxRecDepth 20000 in
theorem ggX2_relock_X3_put : GoodIn wsX2_relock wsX3_put := goodIn_r _ [6] (by decide +kernel) (by decide +kernel)
set_option maxRecDepth 20000 in
theorem gX2_relock_X3_put_n43 : GoodIn wsX2_relock (wsX3_put) := ggX2_relock_X3_put
theorem dX2_relock_0 : decode cX2_relock 0 = .ok (.aload_n 0, 1) := by decide +kernel
theorem dX2_relock_1 : decode cX2_relock 1 = .ok (.getfield 25, 3) := by decide +kernel
theorem dX2_relock_4 : decode cX2_relock 4 = .ok (.iload_n 1, 1) := by decide +kernel
theorem dX2_relock_5 : decode cX2_relock 5 = .ok (.invokestatic 31, 3) := by decide +kernel
theorem dX2_relock_8 : decode cX2_relock 8 = .ok (.istore_n 3, 1) := by decide +kernel
theorem dX2_relock_9 : decode cX2_relock 9 = .ok (.aload_n 0, 1) := by decide +kernel
theorem dX2_relock_10 : decode cX2_relock 10 = .ok (.getfield 25, 3) := by decide +kernel
theorem dX2_relock_13 : decode cX2_relock 13 = .ok (.iload_n 1, 1) := by decide +kernel
theorem dX2_relock_14 : decode cX2_relock 14 = .ok (.iload_n 2, 1) := by decide +kernel
theorem dX2_relock_15 : decode cX2_relock 15 = .ok (.invokestatic 43, 3) := by decide +kernel
theorem dX2_relock_18 : decode cX2_relock 18 = .ok (.iload_n 3, 1) := by decide +kernel
theorem dX2_relock_19 : decode cX2_relock 19 = .ok (.ireturn, 1) := by decide +kernel
set_option maxRecDepth 20000 in
theorem ggX2_putBehind_X3_put : GoodIn wsX2_putBehind wsX3_put := goodIn_r _ [5] (by decide +kernel) (by decide +kernel)
set_option maxRecDepth 20000 in
theorem gX2_putBehind_X3_put_n43 : GoodIn wsX2_putBehind (wsX3_put) := ggX2_putBehind_X3_put
theorem dX2_putBehind_0 : decode cX2_putBehind 0 = .ok (.aload_n 0, 1) := by decide +kernel
theorem dX2_putBehind_1 : decode cX2_putBehind 1 = .ok (.getfield 28, 3) := by decide +kernel
theorem dX2_putBehind_4 : decode cX2_putBehind 4 = .ok (.aload_n 0, 1) := by decide +kernel
theorem dX2_putBehind_5 : decode cX2_putBehind 5 = .ok (.getfield 15, 3) := by decide +kernel
theorem dX2_putBehind_8 : decode cX2_putBehind 8 = .ok (.iload_n 1, 1) := by decide +kernel
theorem dX2_putBehind_9 : decode cX2_putBehind 9 = .ok (.invokestatic 43, 3) := by decide +kernel
theorem dX2_putBehind_12 : decode cX2_putBehind 12 = .ok (.aload_n 0, 1) := by decide +kernel
theorem dX2_putBehind_13 : decode cX2_putBehind 13 = .ok (.dup, 1) := by decide +kernel
theorem dX2_putBehind_14 : decode cX2_putBehind 14 = .ok (.getfield 15, 3) := by decide +kernel
theorem dX2_putBehind_17 : decode cX2_putBehind 17 = .ok (.iconst 1, 1) := by decide +kernel
theorem dX2_putBehind_18 : decode cX2_putBehind 18 = .ok (.iadd, 1) := by decide +kernel
theorem dX2_putBehind_19 : decode cX2_putBehind 19 = .ok (.putfield 15, 3) := by decide +kernel
theorem dX2_putBehind_22 : decode cX2_putBehind 22 = .ok (.aload_n 0, 1) := by decide +kernel
theorem dX2_putBehind_23 : decode cX2_putBehind 23 = .ok (.getfield 15, 3) := by decide +kernel
theorem dX2_putBehind_26 : decode cX2_putBehind 26 = .ok (.ireturn, 1) := by decide +kernel
theorem dX2_emptySentence_0 : decode cX2_emptySentence 0 = .ok (.aload_n 0, 1) := by decide +kernel
theorem dX2_emptySentence_1 : decode cX2_emptySentence 1 = .ok (.getfield 15, 3) := by decide +kernel
theorem dX2_emptySentence_4 : decode cX2_emptySentence 4 = .ok (.istore_n 1, 1) := by decide +kernel
theorem dX2_emptySentence_5 : decode cX2_emptySentence 5 = .ok (.aload_n 0, 1) := by decide +kernel
theorem dX2_emptySentence_6 : decode cX2_emptySentence 6 = .ok (.iconst 0, 1) := by decide +kernel
theorem dX2_emptySentence_7 : decode cX2_emptySentence 7 = .ok (.putfield 15, 3) := by decide +kernel
theorem dX2_emptySentence_10 : decode cX2_emptySentence 10 = .ok (.iload_n 1, 1) := by decide +kernel
theorem dX2_emptySentence_11 : decode cX2_emptySentence 11 = .ok (.ireturn, 1) := by decide +kernel
set_option maxRecDepth 20000 in
theorem ggX2_rankOf_X3_at : GoodIn wsX2_rankOf wsX3_at := goodIn_r _ [5] (by decide +kernel) (by decide +kernel)
set_option maxRecDepth 20000 in
theorem gX2_rankOf_X3_at_n31 : GoodIn wsX2_rankOf (wsX3_at) := ggX2_rankOf_X3_at
theorem dX2_rankOf_0 : decode cX2_rankOf 0 = .ok (.aload_n 0, 1) := by decide +kernel
theorem dX2_rankOf_1 : decode cX2_rankOf 1 = .ok (.getfield 22, 3) := by decide +kernel
theorem dX2_rankOf_4 : decode cX2_rankOf 4 = .ok (.iload_n 1, 1) := by decide +kernel
theorem dX2_rankOf_5 : decode cX2_rankOf 5 = .ok (.invokestatic 31, 3) := by decide +kernel
theorem dX2_rankOf_8 : decode cX2_rankOf 8 = .ok (.istore_n 3, 1) := by decide +kernel
theorem dX2_rankOf_9 : decode cX2_rankOf 9 = .ok (.iconst 0, 1) := by decide +kernel
theorem dX2_rankOf_10 : decode cX2_rankOf 10 = .ok (.istore 4, 2) := by decide +kernel
theorem dX2_rankOf_12 : decode cX2_rankOf 12 = .ok (.iload 4, 2) := by decide +kernel
theorem dX2_rankOf_14 : decode cX2_rankOf 14 = .ok (.iload_n 3, 1) := by decide +kernel
theorem dX2_rankOf_15 : decode cX2_rankOf 15 = .ok (.if_icmp .ge 29, 3) := by decide +kernel
theorem dX2_rankOf_18 : decode cX2_rankOf 18 = .ok (.aload_n 0, 1) := by decide +kernel
theorem dX2_rankOf_19 : decode cX2_rankOf 19 = .ok (.getfield 18, 3) := by decide +kernel
theorem dX2_rankOf_22 : decode cX2_rankOf 22 = .ok (.iload_n 1, 1) := by decide +kernel
theorem dX2_rankOf_23 : decode cX2_rankOf 23 = .ok (.iconst 5, 1) := by decide +kernel
theorem dX2_rankOf_24 : decode cX2_rankOf 24 = .ok (.imul, 1) := by decide +kernel
theorem dX2_rankOf_25 : decode cX2_rankOf 25 = .ok (.iload 4, 2) := by decide +kernel
theorem dX2_rankOf_27 : decode cX2_rankOf 27 = .ok (.iadd, 1) := by decide +kernel
theorem dX2_rankOf_28 : decode cX2_rankOf 28 = .ok (.invokestatic 31, 3) := by decide +kernel
theorem dX2_rankOf_31 : decode cX2_rankOf 31 = .ok (.iload_n 2, 1) := by decide +kernel
theorem dX2_rankOf_32 : decode cX2_rankOf 32 = .ok (.if_icmp .ne 6, 3) := by decide +kernel
theorem dX2_rankOf_35 : decode cX2_rankOf 35 = .ok (.iload 4, 2) := by decide +kernel
theorem dX2_rankOf_37 : decode cX2_rankOf 37 = .ok (.ireturn, 1) := by decide +kernel
theorem dX2_rankOf_38 : decode cX2_rankOf 38 = .ok (.iinc 4 1, 3) := by decide +kernel
theorem dX2_rankOf_41 : decode cX2_rankOf 41 = .ok (.goto (-29), 3) := by decide +kernel
theorem dX2_rankOf_44 : decode cX2_rankOf 44 = .ok (.iconst (-1), 1) := by decide +kernel
theorem dX2_rankOf_45 : decode cX2_rankOf 45 = .ok (.ireturn, 1) := by decide +kernel
