set_option maxRecDepth 20000 in
theorem ggX3_init_X1_init : GoodIn wsX3_init wsX1_init := goodIn_r _ [18, 19, 2, 3, 20, 21, 22, 23, 24, 25, 26, 27, 28, 29, 52, 53, 54, 55, 56, 57, 58, 59, 60] (by decide +kernel) (by decide +kernel)
set_option maxRecDepth 20000 in
theorem gX3_init_X1_init : GoodIn wsX3_init (wsX1_init) := ggX3_init_X1_init
set_option maxRecDepth 20000 in
theorem ggX3_init_X2_init : GoodIn wsX3_init wsX2_init := goodIn_r _ [32, 33, 2, 3, 34, 35, 22, 36, 37, 38, 39, 64, 65, 66, 67, 68, 69] (by decide +kernel) (by decide +kernel)
set_option maxRecDepth 20000 in
theorem gX3_init_X2_init : GoodIn wsX3_init (wsX2_init) := ggX3_init_X2_init
set_option maxRecDepth 20000 in
theorem ggX3_init_X0_init : GoodIn wsX3_init wsX0_init := goodIn_r _ [42, 43, 2, 3, 44, 45, 22, 46, 47, 48, 49, 50, 51, 70, 71, 72, 73, 74, 75, 76, 77] (by decide +kernel) (by decide +kernel)
set_option maxRecDepth 20000 in
theorem gX3_init_X0_init : GoodIn wsX3_init (wsX0_init) := ggX3_init_X0_init
theorem dX3_init_0 : decode cX3_init 0 = .ok (.aload_n 0, 1) := by decide +kernel
theorem dX3_init_1 : decode cX3_init 1 = .ok (.invokespecial 3, 3) := by decide +kernel
theorem dX3_init_4 : decode cX3_init 4 = .ok (.aload_n 0, 1) := by decide +kernel
theorem dX3_init_5 : decode cX3_init 5 = .ok (.new 9, 3) := by decide +kernel
theorem dX3_init_8 : decode cX3_init 8 = .ok (.dup, 1) := by decide +kernel
theorem dX3_init_9 : decode cX3_init 9 = .ok (.invokespecial 11, 3) := by decide +kernel
theorem dX3_init_12 : decode cX3_init 12 = .ok (.putfield 12, 3) := by decide +kernel
theorem dX3_init_15 : decode cX3_init 15 = .ok (.aload_n 0, 1) := by decide +kernel
theorem dX3_init_16 : decode cX3_init 16 = .ok (.new 16, 3) := by decide +kernel
theorem dX3_init_19 : decode cX3_init 19 = .ok (.dup, 1) := by decide +kernel
theorem dX3_init_20 : decode cX3_init 20 = .ok (.invokespecial 18, 3) := by decide +kernel
theorem dX3_init_23 : decode cX3_init 23 = .ok (.putfield 19, 3) := by decide +kernel
theorem dX3_init_26 : decode cX3_init 26 = .ok (.aload_n 0, 1) := by decide +kernel
theorem dX3_init_27 : decode cX3_init 27 = .ok (.new 23, 3) := by decide +kernel
theorem dX3_init_30 : decode cX3_init 30 = .ok (.dup, 1) := by decide +kernel
theorem dX3_init_31 : decode cX3_init 31 = .ok (.invokespecial 25, 3) := by decide +kernel
theorem dX3_init_34 : decode cX3_init 34 = .ok (.putfield 26, 3) := by decide +kernel
theorem dX3_init_37 : decode cX3_init 37 = .ok (.return_, 1) := by decide +kernel
set_option maxRecDepth 20000 in
theorem ggX3_addSense_X1_addOne : GoodIn wsX3_addSense wsX1_addOne := goodIn_r _ [9, 10, 11, 12, 13, 14, 15, 16, 17, 8, 18, 19, 20, 21, 22, 23, 24, 25, 26, 27, 28, 29, 30, 31, 32, 33, 34, 35, 36, 37, 38, 39, 40, 41, 42, 43, 44, 45, 46, 47, 48, 49, 50, 51, 52, 53, 54, 55, 56, 57, 58, 59, 60, 61, 62, 63, 67, 68, 69, 70, 71, 72, 73, 74, 75] (by decide +kernel) (by decide +kernel)
set_option maxRecDepth 20000 in
theorem gX3_addSense_X1_addOne : GoodIn wsX3_addSense (wsV RX3 41 RX1 yX1_addOne wsX1_addOne) := goodIn_app (goodIn_of _ (by decide +kernel)) ggX3_addSense_X1_addOne
theorem dX3_addSense_0 : decode cX3_addSense 0 = .ok (.aload_n 0, 1) := by decide +kernel
theorem dX3_addSense_1 : decode cX3_addSense 1 = .ok (.getfield 12, 3) := by decide +kernel
theorem dX3_addSense_4 : decode cX3_addSense 4 = .ok (.getfield 30, 3) := by decide +kernel
theorem dX3_addSense_7 : decode cX3_addSense 7 = .ok (.bipush 30, 2) := by decide +kernel
theorem dX3_addSense_9 : decode cX3_addSense 9 = .ok (.if_icmp .lt 13, 3) := by decide +kernel
theorem dX3_addSense_12 : decode cX3_addSense 12 = .ok (.new 34, 3) := by decide +kernel
theorem dX3_addSense_15 : decode cX3_addSense 15 = .ok (.dup, 1) := by decide +kernel
theorem dX3_addSense_16 : decode cX3_addSense 16 = .ok (.ldc 36, 2) := by decide +kernel
theorem dX3_addSense_18 : decode cX3_addSense 18 = .ok (.invokespecial 38, 3) := by decide +kernel
theorem dX3_addSense_21 : decode cX3_addSense 21 = .ok (.athrow, 1) := by decide +kernel
theorem dX3_addSense_22 : decode cX3_addSense 22 = .ok (.aload_n 0, 1) := by decide +kernel
theorem dX3_addSense_23 : decode cX3_addSense 23 = .ok (.getfield 12, 3) := by decide +kernel
theorem dX3_addSense_26 : decode cX3_addSense 26 = .ok (.invokevirtual 41, 3) := by decide +kernel
theorem dX3_addSense_29 : decode cX3_addSense 29 = .ok (.ireturn, 1) := by decide +kernel
set_option maxRecDepth 20000 in
theorem ggX3_link_X3_needSense : GoodIn wsX3_link wsX3_needSense := goodIn_ca (goodIn_r _ [8, 9, 10, 3, 11, 12, 13, 14, 15, 16, 17, 7, 18, 19, 20, 21, 89, 90, 91, 92, 93, 94, 95, 96, 97, 98, 99, 100] (by decide +kernel) (by decide +kernel)) (goodIn_sub (fun _ h => List.mem_cons_of_mem _ (List.mem_append_right _ h)) (by decide +kernel))
set_option maxRecDepth 20000 in
theorem gX3_link_X3_needSense : GoodIn wsX3_link (wsV RX3 45 RX3 yX3_needSense wsX3_needSense) := goodIn_app (goodIn_of _ (by decide +kernel)) ggX3_link_X3_needSense
set_option maxRecDepth 20000 in
theorem ggX3_link_X1_isParent : GoodIn wsX3_link wsX1_isParent := goodIn_r _ [25, 26, 27, 7, 28, 17, 18, 19, 20, 21, 92, 93, 94, 95, 96, 97, 98, 99, 100] (by decide +kernel) (by decide +kernel)
set_option maxRecDepth 20000 in
theorem gX3_link_X1_isParent : GoodIn wsX3_link (wsV RX3 49 RX1 yX1_isParent wsX1_isParent) := goodIn_app (goodIn_of _ (by decide +kernel)) ggX3_link_X1_isParent
set_option maxRecDepth 20000 in
theorem ggX3_link_X1_parentCount : GoodIn wsX3_link wsX1_parentCount := goodIn_r _ [32, 26, 27, 7, 28, 33, 34, 35, 36, 37, 38, 39, 92, 93, 94, 95, 96, 97, 98, 99, 100] (by decide +kernel) (by decide +kernel)
set_option maxRecDepth 20000 in
theorem gX3_link_X1_parentCount : GoodIn wsX3_link (wsV RX3 55 RX1 yX1_parentCount wsX1_parentCount) := goodIn_app (goodIn_of _ (by decide +kernel)) ggX3_link_X1_parentCount
set_option maxRecDepth 20000 in
theorem ggX3_link_X1_covers : GoodIn wsX3_link wsX1_covers := goodIn_r _ [43, 44, 27, 7, 28, 17, 18, 19, 20, 21, 92, 93, 94, 95, 96, 97, 98, 99, 100] (by decide +kernel) (by decide +kernel)
set_option maxRecDepth 20000 in
theorem gX3_link_X1_covers : GoodIn wsX3_link (wsV RX3 61 RX1 yX1_covers wsX1_covers) := goodIn_app (goodIn_of _ (by decide +kernel)) ggX3_link_X1_covers
set_option maxRecDepth 20000 in
theorem ggX3_link_X1_putBelow : GoodIn wsX3_link wsX1_putBelow := goodIn_r _ [48, 26, 27, 7, 28, 20, 21, 49, 50, 51, 52, 53, 14, 54, 55, 56, 57, 58, 44, 59, 60, 12, 13, 15, 16, 17, 18, 19, 61, 62, 63, 64, 65, 66, 67, 68, 69, 70, 71, 72, 73, 74, 75, 76, 77, 78, 79, 80, 81, 82, 83, 84, 85, 86, 87, 88, 30, 31, 32, 33, 34, 35, 36, 37, 38, 39, 92, 93, 94, 95, 96, 97, 98, 99, 100] (by decide +kernel) (by decide +kernel)
set_option maxRecDepth 20000 in
theorem gX3_link_X1_putBelow : GoodIn wsX3_link (wsV RX3 66 RX1 yX1_putBelow wsX1_putBelow) := goodIn_app (goodIn_of _ (by decide +kernel)) ggX3_link_X1_putBelow
theorem dX3_link_0 : decode cX3_link 0 = .ok (.aload_n 0, 1) := by decide +kernel
theorem dX3_link_1 : decode cX3_link 1 = .ok (.iload_n 1, 1) := by decide +kernel
theorem dX3_link_2 : decode cX3_link 2 = .ok (.invokevirtual 45, 3) := by decide +kernel
theorem dX3_link_5 : decode cX3_link 5 = .ok (.aload_n 0, 1) := by decide +kernel
theorem dX3_link_6 : decode cX3_link 6 = .ok (.iload_n 2, 1) := by decide +kernel
theorem dX3_link_7 : decode cX3_link 7 = .ok (.invokevirtual 45, 3) := by decide +kernel
theorem dX3_link_10 : decode cX3_link 10 = .ok (.aload_n 0, 1) := by decide +kernel
theorem dX3_link_11 : decode cX3_link 11 = .ok (.getfield 12, 3) := by decide +kernel
theorem dX3_link_14 : decode cX3_link 14 = .ok (.iload_n 1, 1) := by decide +kernel
theorem dX3_link_15 : decode cX3_link 15 = .ok (.iload_n 2, 1) := by decide +kernel
theorem dX3_link_16 : decode cX3_link 16 = .ok (.invokevirtual 49, 3) := by decide +kernel
theorem dX3_link_19 : decode cX3_link 19 = .ok (.ifCond .eq 13, 3) := by decide +kernel
theorem dX3_link_22 : decode cX3_link 22 = .ok (.new 34, 3) := by decide +kernel
theorem dX3_link_25 : decode cX3_link 25 = .ok (.dup, 1) := by decide +kernel
theorem dX3_link_26 : decode cX3_link 26 = .ok (.ldc 53, 2) := by decide +kernel
theorem dX3_link_28 : decode cX3_link 28 = .ok (.invokespecial 38, 3) := by decide +kernel
theorem dX3_link_31 : decode cX3_link 31 = .ok (.athrow, 1) := by decide +kernel
theorem dX3_link_32 : decode cX3_link 32 = .ok (.aload_n 0, 1) := by decide +kernel
theorem dX3_link_33 : decode cX3_link 33 = .ok (.getfield 12, 3) := by decide +kernel
theorem dX3_link_36 : decode cX3_link 36 = .ok (.iload_n 1, 1) := by decide +kernel
theorem dX3_link_37 : decode cX3_link 37 = .ok (.invokevirtual 55, 3) := by decide +kernel
theorem dX3_link_40 : decode cX3_link 40 = .ok (.iconst 4, 1) := by decide +kernel
theorem dX3_link_41 : decode cX3_link 41 = .ok (.if_icmp .lt 13, 3) := by decide +kernel
theorem dX3_link_44 : decode cX3_link 44 = .ok (.new 34, 3) := by decide +kernel
theorem dX3_link_47 : decode cX3_link 47 = .ok (.dup, 1) := by decide +kernel
theorem dX3_link_48 : decode cX3_link 48 = .ok (.ldc 59, 2) := by decide +kernel
theorem dX3_link_50 : decode cX3_link 50 = .ok (.invokespecial 38, 3) := by decide +kernel
theorem dX3_link_53 : decode cX3_link 53 = .ok (.athrow, 1) := by decide +kernel
theorem dX3_link_54 : decode cX3_link 54 = .ok (.aload_n 0, 1) := by decide +kernel
theorem dX3_link_55 : decode cX3_link 55 = .ok (.getfield 12, 3) := by decide +kernel
theorem dX3_link_58 : decode cX3_link 58 = .ok (.iload_n 1, 1) := by decide +kernel
theorem dX3_link_59 : decode cX3_link 59 = .ok (.iload_n 2, 1) := by decide +kernel
theorem dX3_link_60 : decode cX3_link 60 = .ok (.invokevirtual 61, 3) := by decide +kernel
theorem dX3_link_63 : decode cX3_link 63 = .ok (.ifCond .eq 13, 3) := by decide +kernel
theorem dX3_link_66 : decode cX3_link 66 = .ok (.new 34, 3) := by decide +kernel
theorem dX3_link_69 : decode cX3_link 69 = .ok (.dup, 1) := by decide +kernel
theorem dX3_link_70 : decode cX3_link 70 = .ok (.ldc 64, 2) := by decide +kernel
theorem dX3_link_72 : decode cX3_link 72 = .ok (.invokespecial 38, 3) := by decide +kernel
theorem dX3_link_75 : decode cX3_link 75 = .ok (.athrow, 1) := by decide +kernel
theorem dX3_link_76 : decode cX3_link 76 = .ok (.aload_n 0, 1) := by decide +kernel
theorem dX3_link_77 : decode cX3_link 77 = .ok (.getfield 12, 3) := by decide +kernel
theorem dX3_link_80 : decode cX3_link 80 = .ok (.iload_n 1, 1) := by decide +kernel
theorem dX3_link_81 : decode cX3_link 81 = .ok (.iload_n 2, 1) := by decide +kernel
theorem dX3_link_82 : decode cX3_link 82 = .ok (.invokevirtual 66, 3) := by decide +kernel
theorem dX3_link_85 : decode cX3_link 85 = .ok (.ireturn, 1) := by decide +kernel
set_option maxRecDepth 20000 in
theorem ggX3_unlink_X3_needSense : GoodIn wsX3_unlink wsX3_needSense := goodIn_ca (goodIn_r _ [8, 9, 10, 3, 11, 12, 13, 14, 15, 16, 17, 7, 18, 19, 20, 21, 84, 85, 86, 87, 88, 89, 90, 91, 92, 93, 94, 95] (by decide +kernel) (by decide +kernel)) (goodIn_sub (fun _ h => List.mem_cons_of_mem _ (List.mem_append_right _ h)) (by decide +kernel))
set_option maxRecDepth 20000 in
theorem gX3_unlink_X3_needSense : GoodIn wsX3_unlink (wsV RX3 45 RX3 yX3_needSense wsX3_needSense) := goodIn_app (goodIn_of _ (by decide +kernel)) ggX3_unlink_X3_needSense
set_option maxRecDepth 20000 in
theorem ggX3_unlink_X1_isParent : GoodIn wsX3_unlink wsX1_isParent := goodIn_r _ [25, 26, 27, 7, 28, 17, 18, 19, 20, 21, 87, 88, 89, 90, 91, 92, 93, 94, 95] (by decide +kernel) (by decide +kernel)
set_option maxRecDepth 20000 in
theorem gX3_unlink_X1_isParent : GoodIn wsX3_unlink (wsV RX3 49 RX1 yX1_isParent wsX1_isParent) := goodIn_app (goodIn_of _ (by decide +kernel)) ggX3_unlink_X1_isParent
set_option maxRecDepth 20000 in
theorem ggX3_unlink_X1_cut : GoodIn wsX3_unlink wsX1_cut := goodIn_r _ [32, 26, 27, 7, 28, 20, 21, 33, 34, 35, 36, 37, 14, 38, 39, 40, 41, 42, 43, 44, 45, 12, 13, 15, 16, 17, 18, 19, 46, 47, 48, 49, 50, 51, 52, 53, 54, 55, 56, 57, 58, 59, 60, 61, 62, 63, 64, 65, 66, 67, 68, 69, 70, 71, 72, 73, 74, 75, 76, 77, 78, 79, 80, 81, 82, 83, 87, 88, 89, 90, 91, 92, 93, 94, 95] (by decide +kernel) (by decide +kernel)
set_option maxRecDepth 20000 in
theorem gX3_unlink_X1_cut : GoodIn wsX3_unlink (wsV RX3 72 RX1 yX1_cut wsX1_cut) := goodIn_app (goodIn_of _ (by decide +kernel)) ggX3_unlink_X1_cut
theorem dX3_unlink_0 : decode cX3_unlink 0 = .ok (.aload_n 0, 1) := by decide +kernel
theorem dX3_unlink_1 : decode cX3_unlink 1 = .ok (.iload_n 1, 1) := by decide +kernel
theorem dX3_unlink_2 : decode cX3_unlink 2 = .ok (.invokevirtual 45, 3) := by decide +kernel
theorem dX3_unlink_5 : decode cX3_unlink 5 = .ok (.aload_n 0, 1) := by decide +kernel
theorem dX3_unlink_6 : decode cX3_unlink 6 = .ok (.iload_n 2, 1) := by decide +kernel
theorem dX3_unlink_7 : decode cX3_unlink 7 = .ok (.invokevirtual 45, 3) := by decide +kernel
theorem dX3_unlink_10 : decode cX3_unlink 10 = .ok (.aload_n 0, 1) := by decide +kernel
theorem dX3_unlink_11 : decode cX3_unlink 11 = .ok (.getfield 12, 3) := by decide +kernel
theorem dX3_unlink_14 : decode cX3_unlink 14 = .ok (.iload_n 1, 1) := by decide +kernel
theorem dX3_unlink_15 : decode cX3_unlink 15 = .ok (.iload_n 2, 1) := by decide +kernel
theorem dX3_unlink_16 : decode cX3_unlink 16 = .ok (.invokevirtual 49, 3) := by decide +kernel
theorem dX3_unlink_19 : decode cX3_unlink 19 = .ok (.ifCond .ne 13, 3) := by decide +kernel
theorem dX3_unlink_22 : decode cX3_unlink 22 = .ok (.new 34, 3) := by decide +kernel
theorem dX3_unlink_25 : decode cX3_unlink 25 = .ok (.dup, 1) := by decide +kernel
theorem dX3_unlink_26 : decode cX3_unlink 26 = .ok (.ldc 70, 2) := by decide +kernel
theorem dX3_unlink_28 : decode cX3_unlink 28 = .ok (.invokespecial 38, 3) := by decide +kernel
theorem dX3_unlink_31 : decode cX3_unlink 31 = .ok (.athrow, 1) := by decide +kernel
theorem dX3_unlink_32 : decode cX3_unlink 32 = .ok (.aload_n 0, 1) := by decide +kernel
theorem dX3_unlink_33 : decode cX3_unlink 33 = .ok (.getfield 12, 3) := by decide +kernel
theorem dX3_unlink_36 : decode cX3_unlink 36 = .ok (.iload_n 1, 1) := by decide +kernel
theorem dX3_unlink_37 : decode cX3_unlink 37 = .ok (.iload_n 2, 1) := by decide +kernel
theorem dX3_unlink_38 : decode cX3_unlink 38 = .ok (.invokevirtual 72, 3) := by decide +kernel
theorem dX3_unlink_41 : decode cX3_unlink 41 = .ok (.ireturn, 1) := by decide +kernel
set_option maxRecDepth 20000 in
theorem ggX3_remove_X3_needSense : GoodIn wsX3_remove wsX3_needSense := goodIn_ca (goodIn_r _ [9, 10, 11, 4, 12, 13, 14, 15, 16, 17, 18, 8, 19, 20, 21, 22, 105, 106, 107, 108, 109, 110, 111, 112, 113, 114, 115, 116] (by decide +kernel) (by decide +kernel)) (goodIn_sub (fun _ h => List.mem_cons_of_mem _ (List.mem_append_right _ h)) (by decide +kernel))
set_option maxRecDepth 20000 in
theorem gX3_remove_X3_needSense : GoodIn wsX3_remove (wsV RX3 45 RX3 yX3_needSense wsX3_needSense) := goodIn_app (goodIn_of _ (by decide +kernel)) ggX3_remove_X3_needSense
set_option maxRecDepth 20000 in
theorem ggX3_remove_X2_anyHas : GoodIn wsX3_remove wsX2_anyHas := goodIn_r _ [27, 28, 29, 30, 31, 26, 32, 33, 34, 35, 36, 37, 38, 39, 8, 40, 117, 118, 119, 120, 121, 122] (by decide +kernel) (by decide +kernel)
set_option maxRecDepth 20000 in
theorem gX3_remove_X2_anyHas : GoodIn wsX3_remove (wsV RX3 75 RX2 yX2_anyHas wsX2_anyHas) := goodIn_app (goodIn_of _ (by decide +kernel)) ggX3_remove_X2_anyHas
set_option maxRecDepth 20000 in
theorem ggX3_remove_X1_canLose : GoodIn wsX3_remove wsX1_canLose := goodIn_r _ [44, 45, 46, 47, 15, 48, 49, 39, 8, 40, 18, 19, 20, 21, 22, 50, 51, 52, 53, 54, 55, 56, 57, 58, 59, 60, 108, 109, 110, 111, 112, 113, 114, 115, 116] (by decide +kernel) (by decide +kernel)
set_option maxRecDepth 20000 in
theorem gX3_remove_X1_canLose : GoodIn wsX3_remove (wsV RX3 81 RX1 yX1_canLose wsX1_canLose) := goodIn_app (goodIn_of _ (by decide +kernel)) ggX3_remove_X1_canLose
set_option maxRecDepth 20000 in
theorem ggX3_remove_X1_lose : GoodIn wsX3_remove wsX1_lose := goodIn_r _ [64, 49, 65, 17, 45, 46, 47, 15, 48, 39, 8, 40, 18, 19, 20, 21, 22, 50, 51, 52, 53, 66, 67, 68, 69, 70, 71, 72, 73, 74, 75, 76, 77, 78, 13, 14, 16, 79, 80, 81, 82, 83, 84, 85, 86, 87, 88, 89, 90, 91, 92, 93, 94, 95, 96, 97, 98, 99, 100, 101, 102, 103, 104, 108, 109, 110, 111, 112, 113, 114, 115, 116] (by decide +kernel) (by decide +kernel)
set_option maxRecDepth 20000 in
theorem gX3_remove_X1_lose : GoodIn wsX3_remove (wsV RX3 86 RX1 yX1_lose wsX1_lose) := goodIn_app (goodIn_of _ (by decide +kernel)) ggX3_remove_X1_lose
theorem dX3_remove_0 : decode cX3_remove 0 = .ok (.aload_n 0, 1) := by decide +kernel
theorem dX3_remove_1 : decode cX3_remove 1 = .ok (.iload_n 1, 1) := by decide +kernel
theorem dX3_remove_2 : decode cX3_remove 2 = .ok (.invokevirtual 45, 3) := by decide +kernel
theorem dX3_remove_5 : decode cX3_remove 5 = .ok (.aload_n 0, 1) := by decide +kernel
theorem dX3_remove_6 : decode cX3_remove 6 = .ok (.getfield 19, 3) := by decide +kernel
theorem dX3_remove_9 : decode cX3_remove 9 = .ok (.iload_n 1, 1) := by decide +kernel
theorem dX3_remove_10 : decode cX3_remove 10 = .ok (.invokevirtual 75, 3) := by decide +kernel
theorem dX3_remove_13 : decode cX3_remove 13 = .ok (.ifCond .eq 13, 3) := by decide +kernel
theorem dX3_remove_16 : decode cX3_remove 16 = .ok (.new 34, 3) := by decide +kernel
theorem dX3_remove_19 : decode cX3_remove 19 = .ok (.dup, 1) := by decide +kernel
theorem dX3_remove_20 : decode cX3_remove 20 = .ok (.ldc 79, 2) := by decide +kernel
theorem dX3_remove_22 : decode cX3_remove 22 = .ok (.invokespecial 38, 3) := by decide +kernel
theorem dX3_remove_25 : decode cX3_remove 25 = .ok (.athrow, 1) := by decide +kernel
theorem dX3_remove_26 : decode cX3_remove 26 = .ok (.aload_n 0, 1) := by decide +kernel
theorem dX3_remove_27 : decode cX3_remove 27 = .ok (.getfield 12, 3) := by decide +kernel
theorem dX3_remove_30 : decode cX3_remove 30 = .ok (.iload_n 1, 1) := by decide +kernel
theorem dX3_remove_31 : decode cX3_remove 31 = .ok (.invokevirtual 81, 3) := by decide +kernel
theorem dX3_remove_34 : decode cX3_remove 34 = .ok (.ifCond .ne 13, 3) := by decide +kernel
theorem dX3_remove_37 : decode cX3_remove 37 = .ok (.new 34, 3) := by decide +kernel
theorem dX3_remove_40 : decode cX3_remove 40 = .ok (.dup, 1) := by decide +kernel
theorem dX3_remove_41 : decode cX3_remove 41 = .ok (.ldc 84, 2) := by decide +kernel
theorem dX3_remove_43 : decode cX3_remove 43 = .ok (.invokespecial 38, 3) := by decide +kernel
theorem dX3_remove_46 : decode cX3_remove 46 = .ok (.athrow, 1) := by decide +kernel
theorem dX3_remove_47 : decode cX3_remove 47 = .ok (.aload_n 0, 1) := by decide +kernel
theorem dX3_remove_48 : decode cX3_remove 48 = .ok (.getfield 12, 3) := by decide +kernel
theorem dX3_remove_51 : decode cX3_remove 51 = .ok (.iload_n 1, 1) := by decide +kernel
theorem dX3_remove_52 : decode cX3_remove 52 = .ok (.invokevirtual 86, 3) := by decide +kernel
theorem dX3_remove_55 : decode cX3_remove 55 = .ok (.ireturn, 1) := by decide +kernel
set_option maxRecDepth 20000 in
theorem ggX3_setCount_X3_needSense : GoodIn wsX3_setCount wsX3_needSense := goodIn_ca (goodIn_r _ [8, 9, 10, 3, 11, 12, 13, 14, 15, 16, 17, 7, 18, 19, 20, 21, 45, 46, 47, 48, 49, 50, 51, 52, 53, 54, 55, 56] (by decide +kernel) (by decide +kernel)) (goodIn_sub (fun _ h => List.mem_cons_of_mem _ (List.mem_append_right _ h)) (by decide +kernel))
set_option maxRecDepth 20000 in
theorem gX3_setCount_X3_needSense : GoodIn wsX3_setCount (wsV RX3 45 RX3 yX3_needSense wsX3_needSense) := goodIn_app (goodIn_of _ (by decide +kernel)) ggX3_setCount_X3_needSense
set_option maxRecDepth 20000 in
theorem ggX3_setCount_X1_recount : GoodIn wsX3_setCount wsX1_recount := goodIn_r _ [25, 26, 27, 7, 28, 29, 30, 31, 32, 33, 14, 34, 35, 36, 37, 38, 39, 40, 17, 18, 19, 20, 21, 41, 42, 43, 44, 48, 49, 50, 51, 52, 53, 54, 55, 56] (by decide +kernel) (by decide +kernel)
set_option maxRecDepth 20000 in
theorem gX3_setCount_X1_recount : GoodIn wsX3_setCount (wsV RX3 94 RX1 yX1_recount wsX1_recount) := goodIn_app (goodIn_of _ (by decide +kernel)) ggX3_setCount_X1_recount
theorem dX3_setCount_0 : decode cX3_setCount 0 = .ok (.aload_n 0, 1) := by decide +kernel
theorem dX3_setCount_1 : decode cX3_setCount 1 = .ok (.iload_n 1, 1) := by decide +kernel
theorem dX3_setCount_2 : decode cX3_setCount 2 = .ok (.invokevirtual 45, 3) := by decide +kernel
theorem dX3_setCount_5 : decode cX3_setCount 5 = .ok (.iload_n 2, 1) := by decide +kernel
theorem dX3_setCount_6 : decode cX3_setCount 6 = .ok (.ifCond .lt 10, 3) := by decide +kernel
theorem dX3_setCount_9 : decode cX3_setCount 9 = .ok (.iload_n 2, 1) := by decide +kernel
theorem dX3_setCount_10 : decode cX3_setCount 10 = .ok (.sipush 1000, 3) := by decide +kernel
theorem dX3_setCount_13 : decode cX3_setCount 13 = .ok (.if_icmp .le 13, 3) := by decide +kernel
theorem dX3_setCount_16 : decode cX3_setCount 16 = .ok (.new 89, 3) := by decide +kernel
theorem dX3_setCount_19 : decode cX3_setCount 19 = .ok (.dup, 1) := by decide +kernel
theorem dX3_setCount_20 : decode cX3_setCount 20 = .ok (.ldc 91, 2) := by decide +kernel
theorem dX3_setCount_22 : decode cX3_setCount 22 = .ok (.invokespecial 93, 3) := by decide +kernel
theorem dX3_setCount_25 : decode cX3_setCount 25 = .ok (.athrow, 1) := by decide +kernel
theorem dX3_setCount_26 : decode cX3_setCount 26 = .ok (.aload_n 0, 1) := by decide +kernel
theorem dX3_setCount_27 : decode cX3_setCount 27 = .ok (.getfield 12, 3) := by decide +kernel
theorem dX3_setCount_30 : decode cX3_setCount 30 = .ok (.iload_n 1, 1) := by decide +kernel
theorem dX3_setCount_31 : decode cX3_setCount 31 = .ok (.iload_n 2, 1) := by decide +kernel
theorem dX3_setCount_32 : decode cX3_setCount 32 = .ok (.invokevirtual 94, 3) := by decide +kernel
theorem dX3_setCount_35 : decode cX3_setCount 35 = .ok (.ireturn, 1) := by decide +kernel
set_option maxRecDepth 20000 in
theorem ggX3_addWord_X2_addOne : GoodIn wsX3_addWord wsX2_addOne := goodIn_r _ [9, 10, 11, 12, 13, 14, 15, 19, 20, 21, 22, 23, 24] (by decide +kernel) (by decide +kernel)
set_option maxRecDepth 20000 in
theorem gX3_addWord_X2_addOne : GoodIn wsX3_addWord (wsV RX3 102 RX2 yX2_addOne wsX2_addOne) := goodIn_app (goodIn_of _ (by decide +kernel)) ggX3_addWord_X2_addOne
theorem dX3_addWord_0 : decode cX3_addWord 0 = .ok (.aload_n 0, 1) := by decide +kernel
theorem dX3_addWord_1 : decode cX3_addWord 1 = .ok (.getfield 19, 3) := by decide +kernel
theorem dX3_addWord_4 : decode cX3_addWord 4 = .ok (.getfield 97, 3) := by decide +kernel
theorem dX3_addWord_7 : decode cX3_addWord 7 = .ok (.bipush 10, 2) := by decide +kernel
theorem dX3_addWord_9 : decode cX3_addWord 9 = .ok (.if_icmp .lt 13, 3) := by decide +kernel
theorem dX3_addWord_12 : decode cX3_addWord 12 = .ok (.new 34, 3) := by decide +kernel
theorem dX3_addWord_15 : decode cX3_addWord 15 = .ok (.dup, 1) := by decide +kernel
theorem dX3_addWord_16 : decode cX3_addWord 16 = .ok (.ldc 100, 2) := by decide +kernel
theorem dX3_addWord_18 : decode cX3_addWord 18 = .ok (.invokespecial 38, 3) := by decide +kernel
theorem dX3_addWord_21 : decode cX3_addWord 21 = .ok (.athrow, 1) := by decide +kernel
theorem dX3_addWord_22 : decode cX3_addWord 22 = .ok (.aload_n 0, 1) := by decide +kernel
theorem dX3_addWord_23 : decode cX3_addWord 23 = .ok (.getfield 19, 3) := by decide +kernel
theorem dX3_addWord_26 : decode cX3_addWord 26 = .ok (.invokevirtual 102, 3) := by decide +kernel
theorem dX3_addWord_29 : decode cX3_addWord 29 = .ok (.ireturn, 1) := by decide +kernel
set_option maxRecDepth 20000 in
theorem ggX3_give_X3_needWord : GoodIn wsX3_give wsX3_needWord := goodIn_ca (goodIn_r _ [8, 9, 10, 3, 11, 12, 13, 14, 15, 16, 55, 56, 57, 58, 59, 60, 61, 62, 63] (by decide +kernel) (by decide +kernel)) (goodIn_sub (fun _ h => List.mem_cons_of_mem _ (List.mem_append_right _ h)) (by decide +kernel))
set_option maxRecDepth 20000 in
theorem gX3_give_X3_needWord : GoodIn wsX3_give (wsV RX3 103 RX3 yX3_needWord wsX3_needWord) := goodIn_app (goodIn_of _ (by decide +kernel)) ggX3_give_X3_needWord
set_option maxRecDepth 20000 in
theorem ggX3_give_X3_needSense : GoodIn wsX3_give wsX3_needSense := goodIn_ca (goodIn_r _ [20, 9, 10, 21, 22, 23, 24, 25, 26, 27, 28, 7, 29, 30, 31, 32, 55, 56, 57, 64, 65, 66, 67, 68, 69, 70, 71, 72] (by decide +kernel) (by decide +kernel)) (goodIn_sub (fun _ h => List.mem_cons_of_mem _ (List.mem_append_right _ h)) (by decide +kernel))
set_option maxRecDepth 20000 in
theorem gX3_give_X3_needSense : GoodIn wsX3_give (wsV RX3 45 RX3 yX3_needSense wsX3_needSense) := goodIn_app (goodIn_of _ (by decide +kernel)) ggX3_give_X3_needSense
set_option maxRecDepth 20000 in
theorem ggX3_give_X2_has : GoodIn wsX3_give wsX2_has := goodIn_r _ [36, 37, 38, 39, 14, 40, 41, 42, 43, 7, 44, 58, 59, 60, 61, 62, 63] (by decide +kernel) (by decide +kernel)
set_option maxRecDepth 20000 in
theorem gX3_give_X2_has : GoodIn wsX3_give (wsV RX3 106 RX2 yX2_has wsX2_has) := goodIn_app (goodIn_of _ (by decide +kernel)) ggX3_give_X2_has
set_option maxRecDepth 20000 in
theorem ggX3_give_X2_size : GoodIn wsX3_give wsX2_size := goodIn_r _ [48, 41, 43, 7, 44, 58, 59, 60, 61, 62, 63] (by decide +kernel) (by decide +kernel)
set_option maxRecDepth 20000 in
theorem gX3_give_X2_size : GoodIn wsX3_give (wsV RX3 111 RX2 yX2_size wsX2_size) := goodIn_app (goodIn_of _ (by decide +kernel)) ggX3_give_X2_size
set_option maxRecDepth 20000 in
theorem ggX3_give_X2_append : GoodIn wsX3_give wsX2_append := goodIn_r _ [52, 41, 42, 43, 7, 44, 53, 54, 58, 59, 60, 61, 62, 63] (by decide +kernel) (by decide +kernel)
set_option maxRecDepth 20000 in
theorem gX3_give_X2_append : GoodIn wsX3_give (wsV RX3 116 RX2 yX2_append wsX2_append) := goodIn_app (goodIn_of _ (by decide +kernel)) ggX3_give_X2_append
theorem dX3_give_0 : decode cX3_give 0 = .ok (.aload_n 0, 1) := by decide +kernel
theorem dX3_give_1 : decode cX3_give 1 = .ok (.iload_n 1, 1) := by decide +kernel
theorem dX3_give_2 : decode cX3_give 2 = .ok (.invokevirtual 103, 3) := by decide +kernel
theorem dX3_give_5 : decode cX3_give 5 = .ok (.aload_n 0, 1) := by decide +kernel
theorem dX3_give_6 : decode cX3_give 6 = .ok (.iload_n 2, 1) := by decide +kernel
theorem dX3_give_7 : decode cX3_give 7 = .ok (.invokevirtual 45, 3) := by decide +kernel
theorem dX3_give_10 : decode cX3_give 10 = .ok (.aload_n 0, 1) := by decide +kernel
theorem dX3_give_11 : decode cX3_give 11 = .ok (.getfield 19, 3) := by decide +kernel
theorem dX3_give_14 : decode cX3_give 14 = .ok (.iload_n 1, 1) := by decide +kernel
theorem dX3_give_15 : decode cX3_give 15 = .ok (.iload_n 2, 1) := by decide +kernel
theorem dX3_give_16 : decode cX3_give 16 = .ok (.invokevirtual 106, 3) := by decide +kernel
theorem dX3_give_19 : decode cX3_give 19 = .ok (.ifCond .eq 13, 3) := by decide +kernel
theorem dX3_give_22 : decode cX3_give 22 = .ok (.new 34, 3) := by decide +kernel
theorem dX3_give_25 : decode cX3_give 25 = .ok (.dup, 1) := by decide +kernel
theorem dX3_give_26 : decode cX3_give 26 = .ok (.ldc 109, 2) := by decide +kernel
theorem dX3_give_28 : decode cX3_give 28 = .ok (.invokespecial 38, 3) := by decide +kernel
theorem dX3_give_31 : decode cX3_give 31 = .ok (.athrow, 1) := by decide +kernel
theorem dX3_give_32 : decode cX3_give 32 = .ok (.aload_n 0, 1) := by decide +kernel
theorem dX3_give_33 : decode cX3_give 33 = .ok (.getfield 19, 3) := by decide +kernel
theorem dX3_give_36 : decode cX3_give 36 = .ok (.iload_n 1, 1) := by decide +kernel
theorem dX3_give_37 : decode cX3_give 37 = .ok (.invokevirtual 111, 3) := by decide +kernel
theorem dX3_give_40 : decode cX3_give 40 = .ok (.iconst 5, 1) := by decide +kernel
theorem dX3_give_41 : decode cX3_give 41 = .ok (.if_icmp .lt 13, 3) := by decide +kernel
theorem dX3_give_44 : decode cX3_give 44 = .ok (.new 34, 3) := by decide +kernel
theorem dX3_give_47 : decode cX3_give 47 = .ok (.dup, 1) := by decide +kernel
theorem dX3_give_48 : decode cX3_give 48 = .ok (.ldc 114, 2) := by decide +kernel
theorem dX3_give_50 : decode cX3_give 50 = .ok (.invokespecial 38, 3) := by decide +kernel
theorem dX3_give_53 : decode cX3_give 53 = .ok (.athrow, 1) := by decide +kernel
theorem dX3_give_54 : decode cX3_give 54 = .ok (.aload_n 0, 1) := by decide +kernel
theorem dX3_give_55 : decode cX3_give 55 = .ok (.getfield 19, 3) := by decide +kernel
theorem dX3_give_58 : decode cX3_give 58 = .ok (.iload_n 1, 1) := by decide +kernel
theorem dX3_give_59 : decode cX3_give 59 = .ok (.iload_n 2, 1) := by decide +kernel
theorem dX3_give_60 : decode cX3_give 60 = .ok (.invokevirtual 116, 3) := by decide +kernel
theorem dX3_give_63 : decode cX3_give 63 = .ok (.ireturn, 1) := by decide +kernel
set_option maxRecDepth 20000 in
theorem ggX3_take_X3_needWord : GoodIn wsX3_take wsX3_needWord := goodIn_ca (goodIn_r _ [8, 9, 10, 3, 11, 12, 13, 14, 15, 16, 62, 63, 64, 65, 66, 67, 68, 69, 70] (by decide +kernel) (by decide +kernel)) (goodIn_sub (fun _ h => List.mem_cons_of_mem _ (List.mem_append_right _ h)) (by decide +kernel))
set_option maxRecDepth 20000 in
theorem gX3_take_X3_needWord : GoodIn wsX3_take (wsV RX3 103 RX3 yX3_needWord wsX3_needWord) := goodIn_app (goodIn_of _ (by decide +kernel)) ggX3_take_X3_needWord
set_option maxRecDepth 20000 in
theorem ggX3_take_X3_needSense : GoodIn wsX3_take wsX3_needSense := goodIn_ca (goodIn_r _ [20, 9, 10, 21, 22, 23, 24, 25, 26, 27, 28, 7, 29, 30, 31, 32, 62, 63, 64, 71, 72, 73, 74, 75, 76, 77, 78, 79] (by decide +kernel) (by decide +kernel)) (goodIn_sub (fun _ h => List.mem_cons_of_mem _ (List.mem_append_right _ h)) (by decide +kernel))
set_option maxRecDepth 20000 in
theorem gX3_take_X3_needSense : GoodIn wsX3_take (wsV RX3 45 RX3 yX3_needSense wsX3_needSense) := goodIn_app (goodIn_of _ (by decide +kernel)) ggX3_take_X3_needSense
set_option maxRecDepth 20000 in
theorem ggX3_take_X2_has : GoodIn wsX3_take wsX2_has := goodIn_r _ [36, 37, 38, 39, 14, 40, 41, 42, 43, 7, 44, 65, 66, 67, 68, 69, 70] (by decide +kernel) (by decide +kernel)
set_option maxRecDepth 20000 in
theorem gX3_take_X2_has : GoodIn wsX3_take (wsV RX3 106 RX2 yX2_has wsX2_has) := goodIn_app (goodIn_of _ (by decide +kernel)) ggX3_take_X2_has
set_option maxRecDepth 20000 in
theorem ggX3_take_X2_size : GoodIn wsX3_take wsX2_size := goodIn_r _ [48, 41, 43, 7, 44, 65, 66, 67, 68, 69, 70] (by decide +kernel) (by decide +kernel)
set_option maxRecDepth 20000 in
theorem gX3_take_X2_size : GoodIn wsX3_take (wsV RX3 111 RX2 yX2_size wsX2_size) := goodIn_app (goodIn_of _ (by decide +kernel)) ggX3_take_X2_size
set_option maxRecDepth 20000 in
theorem ggX3_take_X2_isSaid : GoodIn wsX3_take wsX2_isSaid := goodIn_r _ [52, 53, 54, 43, 7, 44, 65, 66, 67, 68, 69, 70] (by decide +kernel) (by decide +kernel)
set_option maxRecDepth 20000 in
theorem gX3_take_X2_isSaid : GoodIn wsX3_take (wsV RX3 121 RX2 yX2_isSaid wsX2_isSaid) := goodIn_app (goodIn_of _ (by decide +kernel)) ggX3_take_X2_isSaid
set_option maxRecDepth 20000 in
theorem ggX3_take_X2_drop : GoodIn wsX3_take wsX2_drop := goodIn_r _ [58, 41, 42, 59, 43, 7, 44, 37, 38, 39, 14, 40, 60, 61, 65, 66, 67, 68, 69, 70] (by decide +kernel) (by decide +kernel)
set_option maxRecDepth 20000 in
theorem gX3_take_X2_drop : GoodIn wsX3_take (wsV RX3 126 RX2 yX2_drop wsX2_drop) := goodIn_app (goodIn_of _ (by decide +kernel)) ggX3_take_X2_drop
theorem dX3_take_0 : decode cX3_take 0 = .ok (.aload_n 0, 1) := by decide +kernel
theorem dX3_take_1 : decode cX3_take 1 = .ok (.iload_n 1, 1) := by decide +kernel
theorem dX3_take_2 : decode cX3_take 2 = .ok (.invokevirtual 103, 3) := by decide +kernel
theorem dX3_take_5 : decode cX3_take 5 = .ok (.aload_n 0, 1) := by decide +kernel
theorem dX3_take_6 : decode cX3_take 6 = .ok (.iload_n 2, 1) := by decide +kernel
theorem dX3_take_7 : decode cX3_take 7 = .ok (.invokevirtual 45, 3) := by decide +kernel
theorem dX3_take_10 : decode cX3_take 10 = .ok (.aload_n 0, 1) := by decide +kernel
theorem dX3_take_11 : decode cX3_take 11 = .ok (.getfield 19, 3) := by decide +kernel
theorem dX3_take_14 : decode cX3_take 14 = .ok (.iload_n 1, 1) := by decide +kernel
theorem dX3_take_15 : decode cX3_take 15 = .ok (.iload_n 2, 1) := by decide +kernel
theorem dX3_take_16 : decode cX3_take 16 = .ok (.invokevirtual 106, 3) := by decide +kernel
theorem dX3_take_19 : decode cX3_take 19 = .ok (.ifCond .ne 13, 3) := by decide +kernel
theorem dX3_take_22 : decode cX3_take 22 = .ok (.new 34, 3) := by decide +kernel
theorem dX3_take_25 : decode cX3_take 25 = .ok (.dup, 1) := by decide +kernel
theorem dX3_take_26 : decode cX3_take 26 = .ok (.ldc 119, 2) := by decide +kernel
theorem dX3_take_28 : decode cX3_take 28 = .ok (.invokespecial 38, 3) := by decide +kernel
theorem dX3_take_31 : decode cX3_take 31 = .ok (.athrow, 1) := by decide +kernel
theorem dX3_take_32 : decode cX3_take 32 = .ok (.aload_n 0, 1) := by decide +kernel
theorem dX3_take_33 : decode cX3_take 33 = .ok (.getfield 19, 3) := by decide +kernel
theorem dX3_take_36 : decode cX3_take 36 = .ok (.iload_n 1, 1) := by decide +kernel
theorem dX3_take_37 : decode cX3_take 37 = .ok (.invokevirtual 111, 3) := by decide +kernel
theorem dX3_take_40 : decode cX3_take 40 = .ok (.iconst 1, 1) := by decide +kernel
theorem dX3_take_41 : decode cX3_take 41 = .ok (.if_icmp .ne 24, 3) := by decide +kernel
theorem dX3_take_44 : decode cX3_take 44 = .ok (.aload_n 0, 1) := by decide +kernel
theorem dX3_take_45 : decode cX3_take 45 = .ok (.getfield 19, 3) := by decide +kernel
theorem dX3_take_48 : decode cX3_take 48 = .ok (.iload_n 1, 1) := by decide +kernel
theorem dX3_take_49 : decode cX3_take 49 = .ok (.invokevirtual 121, 3) := by decide +kernel
theorem dX3_take_52 : decode cX3_take 52 = .ok (.ifCond .eq 13, 3) := by decide +kernel
theorem dX3_take_55 : decode cX3_take 55 = .ok (.new 34, 3) := by decide +kernel
theorem dX3_take_58 : decode cX3_take 58 = .ok (.dup, 1) := by decide +kernel
theorem dX3_take_59 : decode cX3_take 59 = .ok (.ldc 124, 2) := by decide +kernel
theorem dX3_take_61 : decode cX3_take 61 = .ok (.invokespecial 38, 3) := by decide +kernel
theorem dX3_take_64 : decode cX3_take 64 = .ok (.athrow, 1) := by decide +kernel
theorem dX3_take_65 : decode cX3_take 65 = .ok (.aload_n 0, 1) := by decide +kernel
theorem dX3_take_66 : decode cX3_take 66 = .ok (.getfield 19, 3) := by decide +kernel
theorem dX3_take_69 : decode cX3_take 69 = .ok (.iload_n 1, 1) := by decide +kernel
theorem dX3_take_70 : decode cX3_take 70 = .ok (.iload_n 2, 1) := by decide +kernel
theorem dX3_take_71 : decode cX3_take 71 = .ok (.invokevirtual 126, 3) := by decide +kernel
theorem dX3_take_74 : decode cX3_take 74 = .ok (.ireturn, 1) := by decide +kernel
set_option maxRecDepth 20000 in
theorem ggX3_lock_X3_needWord : GoodIn wsX3_lock wsX3_needWord := goodIn_ca (goodIn_r _ [8, 9, 10, 3, 11, 12, 13, 14, 15, 16, 36, 37, 38, 39, 40, 41, 42, 43, 44] (by decide +kernel) (by decide +kernel)) (goodIn_sub (fun _ h => List.mem_cons_of_mem _ (List.mem_append_right _ h)) (by decide +kernel))
set_option maxRecDepth 20000 in
theorem gX3_lock_X3_needWord : GoodIn wsX3_lock (wsV RX3 103 RX3 yX3_needWord wsX3_needWord) := goodIn_app (goodIn_of _ (by decide +kernel)) ggX3_lock_X3_needWord
set_option maxRecDepth 20000 in
theorem ggX3_lock_X2_has : GoodIn wsX3_lock wsX2_has := goodIn_r _ [20, 21, 22, 23, 14, 24, 25, 26, 27, 7, 28, 39, 40, 41, 42, 43, 44] (by decide +kernel) (by decide +kernel)
set_option maxRecDepth 20000 in
theorem gX3_lock_X2_has : GoodIn wsX3_lock (wsV RX3 106 RX2 yX2_has wsX2_has) := goodIn_app (goodIn_of _ (by decide +kernel)) ggX3_lock_X2_has
set_option maxRecDepth 20000 in
theorem ggX3_lock_X2_relock : GoodIn wsX3_lock wsX2_relock := goodIn_r _ [32, 33, 27, 7, 28, 34, 35, 39, 40, 41, 42, 43, 44] (by decide +kernel) (by decide +kernel)
set_option maxRecDepth 20000 in
theorem gX3_lock_X2_relock : GoodIn wsX3_lock (wsV RX3 129 RX2 yX2_relock wsX2_relock) := goodIn_app (goodIn_of _ (by decide +kernel)) ggX3_lock_X2_relock
theorem dX3_lock_0 : decode cX3_lock 0 = .ok (.aload_n 0, 1) := by decide +kernel
theorem dX3_lock_1 : decode cX3_lock 1 = .ok (.iload_n 1, 1) := by decide +kernel
theorem dX3_lock_2 : decode cX3_lock 2 = .ok (.invokevirtual 103, 3) := by decide +kernel
theorem dX3_lock_5 : decode cX3_lock 5 = .ok (.iload_n 2, 1) := by decide +kernel
theorem dX3_lock_6 : decode cX3_lock 6 = .ok (.iconst (-1), 1) := by decide +kernel
theorem dX3_lock_7 : decode cX3_lock 7 = .ok (.if_icmp .eq 25, 3) := by decide +kernel
theorem dX3_lock_10 : decode cX3_lock 10 = .ok (.aload_n 0, 1) := by decide +kernel
theorem dX3_lock_11 : decode cX3_lock 11 = .ok (.getfield 19, 3) := by decide +kernel
theorem dX3_lock_14 : decode cX3_lock 14 = .ok (.iload_n 1, 1) := by decide +kernel
theorem dX3_lock_15 : decode cX3_lock 15 = .ok (.iload_n 2, 1) := by decide +kernel
theorem dX3_lock_16 : decode cX3_lock 16 = .ok (.invokevirtual 106, 3) := by decide +kernel
theorem dX3_lock_19 : decode cX3_lock 19 = .ok (.ifCond .ne 13, 3) := by decide +kernel
theorem dX3_lock_22 : decode cX3_lock 22 = .ok (.new 34, 3) := by decide +kernel
theorem dX3_lock_25 : decode cX3_lock 25 = .ok (.dup, 1) := by decide +kernel
theorem dX3_lock_26 : decode cX3_lock 26 = .ok (.ldc 119, 2) := by decide +kernel
theorem dX3_lock_28 : decode cX3_lock 28 = .ok (.invokespecial 38, 3) := by decide +kernel
theorem dX3_lock_31 : decode cX3_lock 31 = .ok (.athrow, 1) := by decide +kernel
theorem dX3_lock_32 : decode cX3_lock 32 = .ok (.aload_n 0, 1) := by decide +kernel
theorem dX3_lock_33 : decode cX3_lock 33 = .ok (.getfield 19, 3) := by decide +kernel
theorem dX3_lock_36 : decode cX3_lock 36 = .ok (.iload_n 1, 1) := by decide +kernel
theorem dX3_lock_37 : decode cX3_lock 37 = .ok (.iload_n 2, 1) := by decide +kernel
theorem dX3_lock_38 : decode cX3_lock 38 = .ok (.invokevirtual 129, 3) := by decide +kernel
theorem dX3_lock_41 : decode cX3_lock 41 = .ok (.ireturn, 1) := by decide +kernel
set_option maxRecDepth 20000 in
theorem ggX3_say_X3_needWord : GoodIn wsX3_say wsX3_needWord := goodIn_ca (goodIn_r _ [9, 10, 11, 3, 12, 13, 14, 15, 16, 17, 33, 34, 35, 36, 37, 38, 39, 40, 41] (by decide +kernel) (by decide +kernel)) (goodIn_sub (fun _ h => List.mem_cons_of_mem _ (List.mem_append_right _ h)) (by decide +kernel))
set_option maxRecDepth 20000 in
theorem gX3_say_X3_needWord : GoodIn wsX3_say (wsV RX3 103 RX3 yX3_needWord wsX3_needWord) := goodIn_app (goodIn_of _ (by decide +kernel)) ggX3_say_X3_needWord
set_option maxRecDepth 20000 in
theorem ggX3_say_X2_size : GoodIn wsX3_say wsX2_size := goodIn_r _ [21, 22, 23, 8, 24, 36, 37, 38, 39, 40, 41] (by decide +kernel) (by decide +kernel)
set_option maxRecDepth 20000 in
theorem gX3_say_X2_size : GoodIn wsX3_say (wsV RX3 111 RX2 yX2_size wsX2_size) := goodIn_app (goodIn_of _ (by decide +kernel)) ggX3_say_X2_size
set_option maxRecDepth 20000 in
theorem ggX3_say_X2_putBehind : GoodIn wsX3_say wsX2_putBehind := goodIn_r _ [28, 29, 30, 31, 8, 32, 36, 37, 38, 39, 40, 41] (by decide +kernel) (by decide +kernel)
set_option maxRecDepth 20000 in
theorem gX3_say_X2_putBehind : GoodIn wsX3_say (wsV RX3 139 RX2 yX2_putBehind wsX2_putBehind) := goodIn_app (goodIn_of _ (by decide +kernel)) ggX3_say_X2_putBehind
theorem dX3_say_0 : decode cX3_say 0 = .ok (.aload_n 0, 1) := by decide +kernel
theorem dX3_say_1 : decode cX3_say 1 = .ok (.iload_n 1, 1) := by decide +kernel
theorem dX3_say_2 : decode cX3_say 2 = .ok (.invokevirtual 103, 3) := by decide +kernel
theorem dX3_say_5 : decode cX3_say 5 = .ok (.aload_n 0, 1) := by decide +kernel
theorem dX3_say_6 : decode cX3_say 6 = .ok (.getfield 19, 3) := by decide +kernel
theorem dX3_say_9 : decode cX3_say 9 = .ok (.getfield 132, 3) := by decide +kernel
theorem dX3_say_12 : decode cX3_say 12 = .ok (.bipush 6, 2) := by decide +kernel
theorem dX3_say_14 : decode cX3_say 14 = .ok (.if_icmp .lt 13, 3) := by decide +kernel
theorem dX3_say_17 : decode cX3_say 17 = .ok (.new 34, 3) := by decide +kernel
theorem dX3_say_20 : decode cX3_say 20 = .ok (.dup, 1) := by decide +kernel
theorem dX3_say_21 : decode cX3_say 21 = .ok (.ldc 135, 2) := by decide +kernel
theorem dX3_say_23 : decode cX3_say 23 = .ok (.invokespecial 38, 3) := by decide +kernel
theorem dX3_say_26 : decode cX3_say 26 = .ok (.athrow, 1) := by decide +kernel
theorem dX3_say_27 : decode cX3_say 27 = .ok (.aload_n 0, 1) := by decide +kernel
theorem dX3_say_28 : decode cX3_say 28 = .ok (.getfield 19, 3) := by decide +kernel
theorem dX3_say_31 : decode cX3_say 31 = .ok (.iload_n 1, 1) := by decide +kernel
theorem dX3_say_32 : decode cX3_say 32 = .ok (.invokevirtual 111, 3) := by decide +kernel
theorem dX3_say_35 : decode cX3_say 35 = .ok (.ifCond .ne 13, 3) := by decide +kernel
theorem dX3_say_38 : decode cX3_say 38 = .ok (.new 34, 3) := by decide +kernel
theorem dX3_say_41 : decode cX3_say 41 = .ok (.dup, 1) := by decide +kernel
theorem dX3_say_42 : decode cX3_say 42 = .ok (.ldc 137, 2) := by decide +kernel
theorem dX3_say_44 : decode cX3_say 44 = .ok (.invokespecial 38, 3) := by decide +kernel
theorem dX3_say_47 : decode cX3_say 47 = .ok (.athrow, 1) := by decide +kernel
theorem dX3_say_48 : decode cX3_say 48 = .ok (.aload_n 0, 1) := by decide +kernel
theorem dX3_say_49 : decode cX3_say 49 = .ok (.getfield 19, 3) := by decide +kernel
theorem dX3_say_52 : decode cX3_say 52 = .ok (.iload_n 1, 1) := by decide +kernel
theorem dX3_say_53 : decode cX3_say 53 = .ok (.invokevirtual 139, 3) := by decide +kernel
theorem dX3_say_56 : decode cX3_say 56 = .ok (.ireturn, 1) := by decide +kernel
set_option maxRecDepth 20000 in
theorem ggX3_hush_X2_emptySentence : GoodIn wsX3_hush wsX2_emptySentence := goodIn_r _ [6, 7, 11, 12, 13, 14, 15, 16] (by decide +kernel) (by decide +kernel)
set_option maxRecDepth 20000 in
theorem gX3_hush_X2_emptySentence : GoodIn wsX3_hush (wsV RX3 142 RX2 yX2_emptySentence wsX2_emptySentence) := goodIn_app (goodIn_of _ (by decide +kernel)) ggX3_hush_X2_emptySentence
theorem dX3_hush_0 : decode cX3_hush 0 = .ok (.aload_n 0, 1) := by decide +kernel
theorem dX3_hush_1 : decode cX3_hush 1 = .ok (.getfield 19, 3) := by decide +kernel
theorem dX3_hush_4 : decode cX3_hush 4 = .ok (.invokevirtual 142, 3) := by decide +kernel
theorem dX3_hush_7 : decode cX3_hush 7 = .ok (.ireturn, 1) := by decide +kernel
theorem dX3_senses_0 : decode cX3_senses 0 = .ok (.aload_n 0, 1) := by decide +kernel
theorem dX3_senses_1 : decode cX3_senses 1 = .ok (.getfield 12, 3) := by decide +kernel
theorem dX3_senses_4 : decode cX3_senses 4 = .ok (.getfield 145, 3) := by decide +kernel
theorem dX3_senses_7 : decode cX3_senses 7 = .ok (.ireturn, 1) := by decide +kernel
set_option maxRecDepth 20000 in
theorem ggX3_parents_X3_needSense : GoodIn wsX3_parents wsX3_needSense := goodIn_ca (goodIn_r _ [6, 7, 8, 1, 9, 10, 11, 12, 13, 14, 15, 5, 16, 17, 18, 19, 27, 28, 29, 30, 31, 32, 33, 34, 35, 36, 37, 38] (by decide +kernel) (by decide +kernel)) (goodIn_sub (fun _ h => List.mem_cons_of_mem _ (List.mem_append_right _ h)) (by decide +kernel))
set_option maxRecDepth 20000 in
theorem gX3_parents_X3_needSense : GoodIn wsX3_parents (wsV RX3 45 RX3 yX3_needSense wsX3_needSense) := goodIn_app (goodIn_of _ (by decide +kernel)) ggX3_parents_X3_needSense
set_option maxRecDepth 20000 in
theorem ggX3_parents_X1_parentSet : GoodIn wsX3_parents wsX1_parentSet := goodIn_r _ [23, 24, 25, 5, 26, 30, 31, 32, 33, 34, 35, 36, 37, 38] (by decide +kernel) (by decide +kernel)
set_option maxRecDepth 20000 in
theorem gX3_parents_X1_parentSet : GoodIn wsX3_parents (wsV RX3 148 RX1 yX1_parentSet wsX1_parentSet) := goodIn_app (goodIn_of _ (by decide +kernel)) ggX3_parents_X1_parentSet
theorem dX3_parents_0 : decode cX3_parents 0 = .ok (.aload_n 0, 1) := by decide +kernel
theorem dX3_parents_1 : decode cX3_parents 1 = .ok (.iload_n 1, 1) := by decide +kernel
theorem dX3_parents_2 : decode cX3_parents 2 = .ok (.invokevirtual 45, 3) := by decide +kernel
theorem dX3_parents_5 : decode cX3_parents 5 = .ok (.aload_n 0, 1) := by decide +kernel
theorem dX3_parents_6 : decode cX3_parents 6 = .ok (.getfield 12, 3) := by decide +kernel
theorem dX3_parents_9 : decode cX3_parents 9 = .ok (.iload_n 1, 1) := by decide +kernel
theorem dX3_parents_10 : decode cX3_parents 10 = .ok (.invokevirtual 148, 3) := by decide +kernel
theorem dX3_parents_13 : decode cX3_parents 13 = .ok (.ireturn, 1) := by decide +kernel
set_option maxRecDepth 20000 in
theorem ggX3_above_X3_needSense : GoodIn wsX3_above wsX3_needSense := goodIn_ca (goodIn_r _ [6, 7, 8, 1, 9, 10, 11, 12, 13, 14, 15, 5, 16, 17, 18, 19, 27, 28, 29, 30, 31, 32, 33, 34, 35, 36, 37, 38] (by decide +kernel) (by decide +kernel)) (goodIn_sub (fun _ h => List.mem_cons_of_mem _ (List.mem_append_right _ h)) (by decide +kernel))
set_option maxRecDepth 20000 in
theorem gX3_above_X3_needSense : GoodIn wsX3_above (wsV RX3 45 RX3 yX3_needSense wsX3_needSense) := goodIn_app (goodIn_of _ (by decide +kernel)) ggX3_above_X3_needSense
set_option maxRecDepth 20000 in
theorem ggX3_above_X1_coverSet : GoodIn wsX3_above wsX1_coverSet := goodIn_r _ [23, 24, 25, 5, 26, 30, 31, 32, 33, 34, 35, 36, 37, 38] (by decide +kernel) (by decide +kernel)
set_option maxRecDepth 20000 in
theorem gX3_above_X1_coverSet : GoodIn wsX3_above (wsV RX3 151 RX1 yX1_coverSet wsX1_coverSet) := goodIn_app (goodIn_of _ (by decide +kernel)) ggX3_above_X1_coverSet
set_option maxRecDepth 20000 in
theorem ggX3_above_X3_bit : GoodIn wsX3_above wsX3_bit := goodIn_r _ [19] (by decide +kernel) (by decide +kernel)
set_option maxRecDepth 20000 in
theorem gX3_above_X3_bit : GoodIn wsX3_above (va_wsS RX3 154 yX3_bit wsX3_bit) := goodIn_app (goodIn_of _ (by decide +kernel)) ggX3_above_X3_bit
theorem dX3_above_0 : decode cX3_above 0 = .ok (.aload_n 0, 1) := by decide +kernel
theorem dX3_above_1 : decode cX3_above 1 = .ok (.iload_n 1, 1) := by decide +kernel
theorem dX3_above_2 : decode cX3_above 2 = .ok (.invokevirtual 45, 3) := by decide +kernel
theorem dX3_above_5 : decode cX3_above 5 = .ok (.aload_n 0, 1) := by decide +kernel
theorem dX3_above_6 : decode cX3_above 6 = .ok (.getfield 12, 3) := by decide +kernel
theorem dX3_above_9 : decode cX3_above 9 = .ok (.iload_n 1, 1) := by decide +kernel
theorem dX3_above_10 : decode cX3_above 10 = .ok (.invokevirtual 151, 3) := by decide +kernel
theorem dX3_above_13 : decode cX3_above 13 = .ok (.iload_n 1, 1) := by decide +kernel
theorem dX3_above_14 : decode cX3_above 14 = .ok (.invokestatic 154, 3) := by decide +kernel
theorem dX3_above_17 : decode cX3_above 17 = .ok (.iconst (-1), 1) := by decide +kernel
theorem dX3_above_18 : decode cX3_above 18 = .ok (.ixor, 1) := by decide +kernel
theorem dX3_above_19 : decode cX3_above 19 = .ok (.iand, 1) := by decide +kernel
theorem dX3_above_20 : decode cX3_above 20 = .ok (.ireturn, 1) := by decide +kernel
set_option maxRecDepth 20000 in
theorem ggX3_below_X3_needSense : GoodIn wsX3_below wsX3_needSense := goodIn_ca (goodIn_r _ [6, 7, 8, 1, 9, 10, 11, 12, 13, 14, 15, 5, 16, 17, 18, 19, 27, 28, 29, 30, 31, 32, 33, 34, 35, 36, 37, 38] (by decide +kernel) (by decide +kernel)) (goodIn_sub (fun _ h => List.mem_cons_of_mem _ (List.mem_append_right _ h)) (by decide +kernel))
set_option maxRecDepth 20000 in
theorem gX3_below_X3_needSense : GoodIn wsX3_below (wsV RX3 45 RX3 yX3_needSense wsX3_needSense) := goodIn_app (goodIn_of _ (by decide +kernel)) ggX3_below_X3_needSense
set_option maxRecDepth 20000 in
theorem ggX3_below_X1_coveredSet : GoodIn wsX3_below wsX1_coveredSet := goodIn_r _ [23, 24, 25, 5, 26, 15, 16, 17, 18, 19, 30, 31, 32, 33, 34, 35, 36, 37, 38] (by decide +kernel) (by decide +kernel)
set_option maxRecDepth 20000 in
theorem gX3_below_X1_coveredSet : GoodIn wsX3_below (wsV RX3 157 RX1 yX1_coveredSet wsX1_coveredSet) := goodIn_app (goodIn_of _ (by decide +kernel)) ggX3_below_X1_coveredSet
set_option maxRecDepth 20000 in
theorem ggX3_below_X3_bit : GoodIn wsX3_below wsX3_bit := goodIn_r _ [19] (by decide +kernel) (by decide +kernel)
set_option maxRecDepth 20000 in
theorem gX3_below_X3_bit : GoodIn wsX3_below (va_wsS RX3 154 yX3_bit wsX3_bit) := goodIn_app (goodIn_of _ (by decide +kernel)) ggX3_below_X3_bit
theorem dX3_below_0 : decode cX3_below 0 = .ok (.aload_n 0, 1) := by decide +kernel
theorem dX3_below_1 : decode cX3_below 1 = .ok (.iload_n 1, 1) := by decide +kernel
theorem dX3_below_2 : decode cX3_below 2 = .ok (.invokevirtual 45, 3) := by decide +kernel
theorem dX3_below_5 : decode cX3_below 5 = .ok (.aload_n 0, 1) := by decide +kernel
theorem dX3_below_6 : decode cX3_below 6 = .ok (.getfield 12, 3) := by decide +kernel
theorem dX3_below_9 : decode cX3_below 9 = .ok (.iload_n 1, 1) := by decide +kernel
theorem dX3_below_10 : decode cX3_below 10 = .ok (.invokevirtual 157, 3) := by decide +kernel
theorem dX3_below_13 : decode cX3_below 13 = .ok (.iload_n 1, 1) := by decide +kernel
theorem dX3_below_14 : decode cX3_below 14 = .ok (.invokestatic 154, 3) := by decide +kernel
theorem dX3_below_17 : decode cX3_below 17 = .ok (.iconst (-1), 1) := by decide +kernel
theorem dX3_below_18 : decode cX3_below 18 = .ok (.ixor, 1) := by decide +kernel
theorem dX3_below_19 : decode cX3_below 19 = .ok (.iand, 1) := by decide +kernel
theorem dX3_below_20 : decode cX3_below 20 = .ok (.ireturn, 1) := by decide +kernel
set_option maxRecDepth 20000 in
theorem ggX3_mass_X3_needSense : GoodIn wsX3_mass wsX3_needSense := goodIn_ca (goodIn_r _ [6, 7, 8, 1, 9, 10, 11, 12, 13, 14, 15, 5, 16, 17, 18, 19, 27, 28, 29, 30, 31, 32, 33, 34, 35, 36, 37, 38] (by decide +kernel) (by decide +kernel)) (goodIn_sub (fun _ h => List.mem_cons_of_mem _ (List.mem_append_right _ h)) (by decide +kernel))
set_option maxRecDepth 20000 in
theorem gX3_mass_X3_needSense : GoodIn wsX3_mass (wsV RX3 45 RX3 yX3_needSense wsX3_needSense) := goodIn_app (goodIn_of _ (by decide +kernel)) ggX3_mass_X3_needSense
set_option maxRecDepth 20000 in
theorem ggX3_mass_X1_coveredCount : GoodIn wsX3_mass wsX1_coveredCount := goodIn_r _ [23, 24, 25, 5, 26, 30, 31, 32, 33, 34, 35, 36, 37, 38] (by decide +kernel) (by decide +kernel)
set_option maxRecDepth 20000 in
theorem gX3_mass_X1_coveredCount : GoodIn wsX3_mass (wsV RX3 160 RX1 yX1_coveredCount wsX1_coveredCount) := goodIn_app (goodIn_of _ (by decide +kernel)) ggX3_mass_X1_coveredCount
theorem dX3_mass_0 : decode cX3_mass 0 = .ok (.aload_n 0, 1) := by decide +kernel
theorem dX3_mass_1 : decode cX3_mass 1 = .ok (.iload_n 1, 1) := by decide +kernel
theorem dX3_mass_2 : decode cX3_mass 2 = .ok (.invokevirtual 45, 3) := by decide +kernel
theorem dX3_mass_5 : decode cX3_mass 5 = .ok (.aload_n 0, 1) := by decide +kernel
theorem dX3_mass_6 : decode cX3_mass 6 = .ok (.getfield 12, 3) := by decide +kernel
theorem dX3_mass_9 : decode cX3_mass 9 = .ok (.iload_n 1, 1) := by decide +kernel
theorem dX3_mass_10 : decode cX3_mass 10 = .ok (.invokevirtual 160, 3) := by decide +kernel
theorem dX3_mass_13 : decode cX3_mass 13 = .ok (.ireturn, 1) := by decide +kernel
set_option maxRecDepth 20000 in
theorem ggX3_massByWalks_X3_needSense : GoodIn wsX3_massByWalks wsX3_needSense := goodIn_ca (goodIn_r _ [6, 7, 8, 1, 9, 10, 11, 12, 13, 14, 15, 5, 16, 17, 18, 19, 40, 41, 42, 43, 44, 45, 46, 47, 48, 49, 50, 51] (by decide +kernel) (by decide +kernel)) (goodIn_sub (fun _ h => List.mem_cons_of_mem _ (List.mem_append_right _ h)) (by decide +kernel))
set_option maxRecDepth 20000 in
theorem gX3_massByWalks_X3_needSense : GoodIn wsX3_massByWalks (wsV RX3 45 RX3 yX3_needSense wsX3_needSense) := goodIn_app (goodIn_of _ (by decide +kernel)) ggX3_massByWalks_X3_needSense
set_option maxRecDepth 20000 in
theorem ggX3_massByWalks_X1_walkedCount : GoodIn wsX3_massByWalks wsX1_walkedCount := goodIn_r _ [23, 24, 25, 5, 26, 27, 10, 11, 12, 13, 14, 15, 16, 17, 18, 19, 28, 29, 30, 31, 32, 33, 34, 35, 36, 37, 38, 39, 43, 44, 45, 46, 47, 48, 49, 50, 51] (by decide +kernel) (by decide +kernel)
set_option maxRecDepth 20000 in
theorem gX3_massByWalks_X1_walkedCount : GoodIn wsX3_massByWalks (wsV RX3 163 RX1 yX1_walkedCount wsX1_walkedCount) := goodIn_app (goodIn_of _ (by decide +kernel)) ggX3_massByWalks_X1_walkedCount
theorem dX3_massByWalks_0 : decode cX3_massByWalks 0 = .ok (.aload_n 0, 1) := by decide +kernel
theorem dX3_massByWalks_1 : decode cX3_massByWalks 1 = .ok (.iload_n 1, 1) := by decide +kernel
theorem dX3_massByWalks_2 : decode cX3_massByWalks 2 = .ok (.invokevirtual 45, 3) := by decide +kernel
theorem dX3_massByWalks_5 : decode cX3_massByWalks 5 = .ok (.aload_n 0, 1) := by decide +kernel
theorem dX3_massByWalks_6 : decode cX3_massByWalks 6 = .ok (.getfield 12, 3) := by decide +kernel
theorem dX3_massByWalks_9 : decode cX3_massByWalks 9 = .ok (.iload_n 1, 1) := by decide +kernel
theorem dX3_massByWalks_10 : decode cX3_massByWalks 10 = .ok (.invokevirtual 163, 3) := by decide +kernel
theorem dX3_massByWalks_13 : decode cX3_massByWalks 13 = .ok (.ireturn, 1) := by decide +kernel
set_option maxRecDepth 20000 in
theorem ggX3_depth_X3_needSense : GoodIn wsX3_depth wsX3_needSense := goodIn_ca (goodIn_r _ [6, 7, 8, 1, 9, 10, 11, 12, 13, 14, 15, 5, 16, 17, 18, 19, 27, 28, 29, 30, 31, 32, 33, 34, 35, 36, 37, 38] (by decide +kernel) (by decide +kernel)) (goodIn_sub (fun _ h => List.mem_cons_of_mem _ (List.mem_append_right _ h)) (by decide +kernel))
set_option maxRecDepth 20000 in
theorem gX3_depth_X3_needSense : GoodIn wsX3_depth (wsV RX3 45 RX3 yX3_needSense wsX3_needSense) := goodIn_app (goodIn_of _ (by decide +kernel)) ggX3_depth_X3_needSense
set_option maxRecDepth 20000 in
theorem ggX3_depth_X1_stepsToTop : GoodIn wsX3_depth wsX1_stepsToTop := goodIn_r _ [23, 24, 25, 5, 26, 30, 31, 32, 33, 34, 35, 36, 37, 38] (by decide +kernel) (by decide +kernel)
set_option maxRecDepth 20000 in
theorem gX3_depth_X1_stepsToTop : GoodIn wsX3_depth (wsV RX3 166 RX1 yX1_stepsToTop wsX1_stepsToTop) := goodIn_app (goodIn_of _ (by decide +kernel)) ggX3_depth_X1_stepsToTop
theorem dX3_depth_0 : decode cX3_depth 0 = .ok (.aload_n 0, 1) := by decide +kernel
theorem dX3_depth_1 : decode cX3_depth 1 = .ok (.iload_n 1, 1) := by decide +kernel
theorem dX3_depth_2 : decode cX3_depth 2 = .ok (.invokevirtual 45, 3) := by decide +kernel
theorem dX3_depth_5 : decode cX3_depth 5 = .ok (.aload_n 0, 1) := by decide +kernel
theorem dX3_depth_6 : decode cX3_depth 6 = .ok (.getfield 12, 3) := by decide +kernel
theorem dX3_depth_9 : decode cX3_depth 9 = .ok (.iload_n 1, 1) := by decide +kernel
theorem dX3_depth_10 : decode cX3_depth 10 = .ok (.invokevirtual 166, 3) := by decide +kernel
theorem dX3_depth_13 : decode cX3_depth 13 = .ok (.ireturn, 1) := by decide +kernel
set_option maxRecDepth 20000 in
theorem ggX3_shared_X3_needSense : GoodIn wsX3_shared wsX3_needSense := goodIn_ca (goodIn_r _ [6, 7, 8, 1, 9, 10, 11, 12, 13, 14, 15, 5, 16, 17, 18, 19, 33, 34, 35, 36, 37, 38, 39, 40, 41, 42, 43, 44] (by decide +kernel) (by decide +kernel)) (goodIn_sub (fun _ h => List.mem_cons_of_mem _ (List.mem_append_right _ h)) (by decide +kernel))
set_option maxRecDepth 20000 in
theorem gX3_shared_X3_needSense : GoodIn wsX3_shared (wsV RX3 45 RX3 yX3_needSense wsX3_needSense) := goodIn_app (goodIn_of _ (by decide +kernel)) ggX3_shared_X3_needSense
set_option maxRecDepth 20000 in
theorem ggX3_shared_X1_tellingCover : GoodIn wsX3_shared wsX1_tellingCover := goodIn_r _ [23, 24, 25, 5, 26, 15, 16, 17, 18, 19, 27, 28, 29, 12, 30, 31, 32, 36, 37, 38, 39, 40, 41, 42, 43, 44] (by decide +kernel) (by decide +kernel)
set_option maxRecDepth 20000 in
theorem gX3_shared_X1_tellingCover : GoodIn wsX3_shared (wsV RX3 169 RX1 yX1_tellingCover wsX1_tellingCover) := goodIn_app (goodIn_of _ (by decide +kernel)) ggX3_shared_X1_tellingCover
theorem dX3_shared_0 : decode cX3_shared 0 = .ok (.aload_n 0, 1) := by decide +kernel
theorem dX3_shared_1 : decode cX3_shared 1 = .ok (.iload_n 1, 1) := by decide +kernel
theorem dX3_shared_2 : decode cX3_shared 2 = .ok (.invokevirtual 45, 3) := by decide +kernel
theorem dX3_shared_5 : decode cX3_shared 5 = .ok (.aload_n 0, 1) := by decide +kernel
theorem dX3_shared_6 : decode cX3_shared 6 = .ok (.iload_n 2, 1) := by decide +kernel
theorem dX3_shared_7 : decode cX3_shared 7 = .ok (.invokevirtual 45, 3) := by decide +kernel
theorem dX3_shared_10 : decode cX3_shared 10 = .ok (.aload_n 0, 1) := by decide +kernel
theorem dX3_shared_11 : decode cX3_shared 11 = .ok (.getfield 12, 3) := by decide +kernel
theorem dX3_shared_14 : decode cX3_shared 14 = .ok (.iload_n 1, 1) := by decide +kernel
theorem dX3_shared_15 : decode cX3_shared 15 = .ok (.iload_n 2, 1) := by decide +kernel
theorem dX3_shared_16 : decode cX3_shared 16 = .ok (.invokevirtual 169, 3) := by decide +kernel
theorem dX3_shared_19 : decode cX3_shared 19 = .ok (.ireturn, 1) := by decide +kernel
set_option maxRecDepth 20000 in
theorem ggX3_distance_X3_needSense : GoodIn wsX3_distance wsX3_needSense := goodIn_ca (goodIn_r _ [6, 7, 8, 1, 9, 10, 11, 12, 13, 14, 15, 5, 16, 17, 18, 19, 32, 33, 34, 35, 36, 37, 38, 39, 40, 41, 42, 43] (by decide +kernel) (by decide +kernel)) (goodIn_sub (fun _ h => List.mem_cons_of_mem _ (List.mem_append_right _ h)) (by decide +kernel))
set_option maxRecDepth 20000 in
theorem gX3_distance_X3_needSense : GoodIn wsX3_distance (wsV RX3 45 RX3 yX3_needSense wsX3_needSense) := goodIn_app (goodIn_of _ (by decide +kernel)) ggX3_distance_X3_needSense
set_option maxRecDepth 20000 in
theorem ggX3_distance_X1_stepsBetween : GoodIn wsX3_distance wsX1_stepsBetween := goodIn_r _ [23, 24, 25, 26, 27, 28, 29, 30, 5, 31, 15, 16, 17, 18, 19, 35, 36, 37, 38, 39, 40, 41, 42, 43] (by decide +kernel) (by decide +kernel)
set_option maxRecDepth 20000 in
theorem gX3_distance_X1_stepsBetween : GoodIn wsX3_distance (wsV RX3 172 RX1 yX1_stepsBetween wsX1_stepsBetween) := goodIn_app (goodIn_of _ (by decide +kernel)) ggX3_distance_X1_stepsBetween
theorem dX3_distance_0 : decode cX3_distance 0 = .ok (.aload_n 0, 1) := by decide +kernel
theorem dX3_distance_1 : decode cX3_distance 1 = .ok (.iload_n 1, 1) := by decide +kernel
theorem dX3_distance_2 : decode cX3_distance 2 = .ok (.invokevirtual 45, 3) := by decide +kernel
theorem dX3_distance_5 : decode cX3_distance 5 = .ok (.aload_n 0, 1) := by decide +kernel
theorem dX3_distance_6 : decode cX3_distance 6 = .ok (.iload_n 2, 1) := by decide +kernel
theorem dX3_distance_7 : decode cX3_distance 7 = .ok (.invokevirtual 45, 3) := by decide +kernel
theorem dX3_distance_10 : decode cX3_distance 10 = .ok (.aload_n 0, 1) := by decide +kernel
theorem dX3_distance_11 : decode cX3_distance 11 = .ok (.getfield 12, 3) := by decide +kernel
theorem dX3_distance_14 : decode cX3_distance 14 = .ok (.iload_n 1, 1) := by decide +kernel
theorem dX3_distance_15 : decode cX3_distance 15 = .ok (.iload_n 2, 1) := by decide +kernel
theorem dX3_distance_16 : decode cX3_distance 16 = .ok (.invokevirtual 172, 3) := by decide +kernel
theorem dX3_distance_19 : decode cX3_distance 19 = .ok (.ireturn, 1) := by decide +kernel
set_option maxRecDepth 20000 in
theorem ggX3_likeness_X3_needSense : GoodIn wsX3_likeness wsX3_needSense := goodIn_ca (goodIn_r _ [6, 7, 8, 1, 9, 10, 11, 12, 13, 14, 15, 5, 16, 17, 18, 19, 60, 61, 62, 63, 64, 65, 66, 67, 68, 69, 70, 71] (by decide +kernel) (by decide +kernel)) (goodIn_sub (fun _ h => List.mem_cons_of_mem _ (List.mem_append_left _ (List.mem_append_right _ h))) (by decide +kernel))
set_option maxRecDepth 20000 in
theorem gX3_likeness_X3_needSense : GoodIn wsX3_likeness (wsV RX3 45 RX3 yX3_needSense wsX3_needSense) := goodIn_app (goodIn_of _ (by decide +kernel)) ggX3_likeness_X3_needSense
set_option maxRecDepth 20000 in
theorem ggX3_likeness_X3_needMeasure : GoodIn wsX3_likeness wsX3_needMeasure := goodIn_ca (goodIn_r _ [23, 24, 25] (by decide +kernel) (by decide +kernel)) (goodIn_sub (fun _ h => List.mem_cons_of_mem _ (List.mem_append_right _ h)) (by decide +kernel))
set_option maxRecDepth 20000 in
theorem gX3_likeness_X3_needMeasure : GoodIn wsX3_likeness (wsV RX3 175 RX3 yX3_needMeasure wsX3_needMeasure) := goodIn_app (goodIn_of _ (by decide +kernel)) ggX3_likeness_X3_needMeasure
set_option maxRecDepth 20000 in
theorem ggX3_likeness_X1_alike : GoodIn wsX3_likeness wsX1_alike := goodIn_r _ [29, 30, 31, 32, 33, 34, 14, 35, 36, 37, 38, 12, 39, 40, 41, 5, 42, 15, 16, 17, 18, 19, 43, 44, 45, 46, 47, 48, 49, 50, 51, 52, 53, 54, 55, 56, 57, 58, 59, 63, 64, 65, 66, 67, 68, 69, 70, 71] (by decide +kernel) (by decide +kernel)
set_option maxRecDepth 20000 in
theorem gX3_likeness_X1_alike : GoodIn wsX3_likeness (wsV RX3 178 RX1 yX1_alike wsX1_alike) := goodIn_app (goodIn_of _ (by decide +kernel)) ggX3_likeness_X1_alike
theorem dX3_likeness_0 : decode cX3_likeness 0 = .ok (.aload_n 0, 1) := by decide +kernel
theorem dX3_likeness_1 : decode cX3_likeness 1 = .ok (.iload_n 1, 1) := by decide +kernel
theorem dX3_likeness_2 : decode cX3_likeness 2 = .ok (.invokevirtual 45, 3) := by decide +kernel
theorem dX3_likeness_5 : decode cX3_likeness 5 = .ok (.aload_n 0, 1) := by decide +kernel
theorem dX3_likeness_6 : decode cX3_likeness 6 = .ok (.iload_n 2, 1) := by decide +kernel
theorem dX3_likeness_7 : decode cX3_likeness 7 = .ok (.invokevirtual 45, 3) := by decide +kernel
theorem dX3_likeness_10 : decode cX3_likeness 10 = .ok (.aload_n 0, 1) := by decide +kernel
theorem dX3_likeness_11 : decode cX3_likeness 11 = .ok (.iload_n 3, 1) := by decide +kernel
theorem dX3_likeness_12 : decode cX3_likeness 12 = .ok (.invokevirtual 175, 3) := by decide +kernel
theorem dX3_likeness_15 : decode cX3_likeness 15 = .ok (.aload_n 0, 1) := by decide +kernel
theorem dX3_likeness_16 : decode cX3_likeness 16 = .ok (.getfield 12, 3) := by decide +kernel
theorem dX3_likeness_19 : decode cX3_likeness 19 = .ok (.iload_n 1, 1) := by decide +kernel
theorem dX3_likeness_20 : decode cX3_likeness 20 = .ok (.iload_n 2, 1) := by decide +kernel
theorem dX3_likeness_21 : decode cX3_likeness 21 = .ok (.iload_n 3, 1) := by decide +kernel
theorem dX3_likeness_22 : decode cX3_likeness 22 = .ok (.invokevirtual 178, 3) := by decide +kernel
theorem dX3_likeness_25 : decode cX3_likeness 25 = .ok (.ireturn, 1) := by decide +kernel
set_option maxRecDepth 20000 in
theorem ggX3_choices_X2_wordAt : GoodIn wsX3_choices wsX2_wordAt := goodIn_r _ [7, 8, 9, 10, 11, 21, 22, 23, 24, 25, 26] (by decide +kernel) (by decide +kernel)
set_option maxRecDepth 20000 in
theorem gX3_choices_X2_wordAt : GoodIn wsX3_choices (wsV RX3 182 RX2 yX2_wordAt wsX2_wordAt) := goodIn_app (goodIn_of _ (by decide +kernel)) ggX3_choices_X2_wordAt
set_option maxRecDepth 20000 in
theorem ggX3_choices_X2_optionCount : GoodIn wsX3_choices wsX2_optionCount := goodIn_r _ [15, 16, 17, 9, 10, 11, 21, 22, 23, 24, 25, 26] (by decide +kernel) (by decide +kernel)
set_option maxRecDepth 20000 in
theorem gX3_choices_X2_optionCount : GoodIn wsX3_choices (wsV RX3 185 RX2 yX2_optionCount wsX2_optionCount) := goodIn_app (goodIn_of _ (by decide +kernel)) ggX3_choices_X2_optionCount
theorem dX3_choices_0 : decode cX3_choices 0 = .ok (.iconst 1, 1) := by decide +kernel
theorem dX3_choices_1 : decode cX3_choices 1 = .ok (.istore_n 1, 1) := by decide +kernel
theorem dX3_choices_2 : decode cX3_choices 2 = .ok (.iconst 0, 1) := by decide +kernel
theorem dX3_choices_3 : decode cX3_choices 3 = .ok (.istore_n 2, 1) := by decide +kernel
theorem dX3_choices_4 : decode cX3_choices 4 = .ok (.iload_n 2, 1) := by decide +kernel
theorem dX3_choices_5 : decode cX3_choices 5 = .ok (.aload_n 0, 1) := by decide +kernel
theorem dX3_choices_6 : decode cX3_choices 6 = .ok (.getfield 19, 3) := by decide +kernel
theorem dX3_choices_9 : decode cX3_choices 9 = .ok (.getfield 132, 3) := by decide +kernel
theorem dX3_choices_12 : decode cX3_choices 12 = .ok (.if_icmp .ge 27, 3) := by decide +kernel
theorem dX3_choices_15 : decode cX3_choices 15 = .ok (.iload_n 1, 1) := by decide +kernel
theorem dX3_choices_16 : decode cX3_choices 16 = .ok (.aload_n 0, 1) := by decide +kernel
theorem dX3_choices_17 : decode cX3_choices 17 = .ok (.getfield 19, 3) := by decide +kernel
theorem dX3_choices_20 : decode cX3_choices 20 = .ok (.aload_n 0, 1) := by decide +kernel
theorem dX3_choices_21 : decode cX3_choices 21 = .ok (.getfield 19, 3) := by decide +kernel
theorem dX3_choices_24 : decode cX3_choices 24 = .ok (.iload_n 2, 1) := by decide +kernel
theorem dX3_choices_25 : decode cX3_choices 25 = .ok (.invokevirtual 182, 3) := by decide +kernel
theorem dX3_choices_28 : decode cX3_choices 28 = .ok (.invokevirtual 185, 3) := by decide +kernel
theorem dX3_choices_31 : decode cX3_choices 31 = .ok (.imul, 1) := by decide +kernel
theorem dX3_choices_32 : decode cX3_choices 32 = .ok (.istore_n 1, 1) := by decide +kernel
theorem dX3_choices_33 : decode cX3_choices 33 = .ok (.iinc 2 1, 3) := by decide +kernel
theorem dX3_choices_36 : decode cX3_choices 36 = .ok (.goto (-32), 3) := by decide +kernel
theorem dX3_choices_39 : decode cX3_choices 39 = .ok (.iload_n 1, 1) := by decide +kernel
theorem dX3_choices_40 : decode cX3_choices 40 = .ok (.ireturn, 1) := by decide +kernel
set_option maxRecDepth 20000 in
theorem ggX3_bestWorth_X3_needMeasure : GoodIn wsX3_bestWorth wsX3_needMeasure := goodIn_ca (goodIn_r _ [8, 9, 10] (by decide +kernel) (by decide +kernel)) (goodIn_sub (fun _ h => List.mem_cons_of_mem _ (List.mem_append_right _ h)) (by decide +kernel))
set_option maxRecDepth 20000 in
theorem gX3_bestWorth_X3_needMeasure : GoodIn wsX3_bestWorth (wsV RX3 175 RX3 yX3_needMeasure wsX3_needMeasure) := goodIn_app (goodIn_of _ (by decide +kernel)) ggX3_bestWorth_X3_needMeasure
set_option maxRecDepth 20000 in
theorem ggX3_bestWorth_X0_prepare : GoodIn wsX3_bestWorth wsX0_prepare := goodIn_r _ [15, 16, 17, 18, 19, 20, 21, 22, 23, 24, 25, 14, 26, 27, 28, 29, 30, 31, 32, 33, 34, 35, 7, 36, 37, 38, 39, 40, 41, 42, 43, 44, 45, 46, 47, 48, 49, 50, 51, 52, 53, 54, 55, 56, 57, 58, 59, 60, 61, 62, 63, 64, 65, 66, 67, 68, 69, 70, 71, 72, 73, 74, 75, 76, 77, 78, 79, 80, 81, 82, 83, 84, 85, 86, 87, 88, 89, 90, 91, 92, 93, 115, 116, 117, 118, 119, 120, 121, 122, 123, 124, 125, 126, 127, 128, 129, 130, 131, 132, 133, 134, 135, 136, 137] (by decide +kernel) (by decide +kernel)
set_option maxRecDepth 20000 in
theorem gX3_bestWorth_X0_prepare : GoodIn wsX3_bestWorth (wsV RX3 188 RX0 yX0_prepare wsX0_prepare) := goodIn_app (goodIn_of _ (by decide +kernel)) ggX3_bestWorth_X0_prepare
set_option maxRecDepth 20000 in
theorem ggX3_bestWorth_X0_findBest : GoodIn wsX3_bestWorth wsX0_findBest := goodIn_r _ [97, 98, 99, 100, 14, 101, 22, 16, 27, 102, 35, 7, 36, 103, 104, 105, 106, 107, 43, 44, 108, 109, 110, 111, 54, 115, 116, 117, 118, 119, 120, 121, 122] (by decide +kernel) (by decide +kernel)
set_option maxRecDepth 20000 in
theorem gX3_bestWorth_X0_findBest : GoodIn wsX3_bestWorth (wsV RX3 192 RX0 yX0_findBest wsX0_findBest) := goodIn_app (goodIn_of _ (by decide +kernel)) ggX3_bestWorth_X0_findBest
theorem dX3_bestWorth_0 : decode cX3_bestWorth 0 = .ok (.aload_n 0, 1) := by decide +kernel
theorem dX3_bestWorth_1 : decode cX3_bestWorth 1 = .ok (.iload_n 1, 1) := by decide +kernel
theorem dX3_bestWorth_2 : decode cX3_bestWorth 2 = .ok (.invokevirtual 175, 3) := by decide +kernel
theorem dX3_bestWorth_5 : decode cX3_bestWorth 5 = .ok (.aload_n 0, 1) := by decide +kernel
theorem dX3_bestWorth_6 : decode cX3_bestWorth 6 = .ok (.getfield 26, 3) := by decide +kernel
theorem dX3_bestWorth_9 : decode cX3_bestWorth 9 = .ok (.aload_n 0, 1) := by decide +kernel
theorem dX3_bestWorth_10 : decode cX3_bestWorth 10 = .ok (.getfield 12, 3) := by decide +kernel
theorem dX3_bestWorth_13 : decode cX3_bestWorth 13 = .ok (.aload_n 0, 1) := by decide +kernel
theorem dX3_bestWorth_14 : decode cX3_bestWorth 14 = .ok (.getfield 19, 3) := by decide +kernel
theorem dX3_bestWorth_17 : decode cX3_bestWorth 17 = .ok (.iload_n 1, 1) := by decide +kernel
theorem dX3_bestWorth_18 : decode cX3_bestWorth 18 = .ok (.invokevirtual 188, 3) := by decide +kernel
theorem dX3_bestWorth_21 : decode cX3_bestWorth 21 = .ok (.aload_n 0, 1) := by decide +kernel
theorem dX3_bestWorth_22 : decode cX3_bestWorth 22 = .ok (.getfield 26, 3) := by decide +kernel
theorem dX3_bestWorth_25 : decode cX3_bestWorth 25 = .ok (.invokevirtual 192, 3) := by decide +kernel
theorem dX3_bestWorth_28 : decode cX3_bestWorth 28 = .ok (.ireturn, 1) := by decide +kernel
set_option maxRecDepth 20000 in
theorem ggX3_greatestWorth_X3_needMeasure : GoodIn wsX3_greatestWorth wsX3_needMeasure := goodIn_ca (goodIn_r _ [8, 9, 10] (by decide +kernel) (by decide +kernel)) (goodIn_sub (fun _ h => List.mem_cons_of_mem _ (List.mem_append_right _ h)) (by decide +kernel))
set_option maxRecDepth 20000 in
theorem gX3_greatestWorth_X3_needMeasure : GoodIn wsX3_greatestWorth (wsV RX3 175 RX3 yX3_needMeasure wsX3_needMeasure) := goodIn_app (goodIn_of _ (by decide +kernel)) ggX3_greatestWorth_X3_needMeasure
set_option maxRecDepth 20000 in
theorem ggX3_greatestWorth_X0_prepare : GoodIn wsX3_greatestWorth wsX0_prepare := goodIn_r _ [15, 16, 17, 18, 19, 20, 21, 22, 23, 24, 25, 14, 26, 27, 28, 29, 30, 31, 32, 33, 34, 35, 7, 36, 37, 38, 39, 40, 41, 42, 43, 44, 45, 46, 47, 48, 49, 50, 51, 52, 53, 54, 55, 56, 57, 58, 59, 60, 61, 62, 63, 64, 65, 66, 67, 68, 69, 70, 71, 72, 73, 74, 75, 76, 77, 78, 79, 80, 81, 82, 83, 84, 85, 86, 87, 88, 89, 90, 91, 92, 93, 109, 110, 111, 112, 113, 114, 115, 116, 117, 118, 119, 120, 121, 122, 123, 124, 125, 126, 127, 128, 129, 130, 131] (by decide +kernel) (by decide +kernel)
set_option maxRecDepth 20000 in
theorem gX3_greatestWorth_X0_prepare : GoodIn wsX3_greatestWorth (wsV RX3 188 RX0 yX0_prepare wsX0_prepare) := goodIn_app (goodIn_of _ (by decide +kernel)) ggX3_greatestWorth_X0_prepare
set_option maxRecDepth 20000 in
theorem ggX3_greatestWorth_X0_findGreatest : GoodIn wsX3_greatestWorth wsX0_findGreatest := goodIn_r _ [97, 98, 99, 14, 100, 16, 27, 101, 55, 56, 20, 57, 35, 7, 36, 43, 44, 102, 103, 104, 105, 54, 109, 110, 111, 112, 113, 114, 115, 116] (by decide +kernel) (by decide +kernel)
set_option maxRecDepth 20000 in
theorem gX3_greatestWorth_X0_findGreatest : GoodIn wsX3_greatestWorth (wsV RX3 195 RX0 yX0_findGreatest wsX0_findGreatest) := goodIn_app (goodIn_of _ (by decide +kernel)) ggX3_greatestWorth_X0_findGreatest
theorem dX3_greatestWorth_0 : decode cX3_greatestWorth 0 = .ok (.aload_n 0, 1) := by decide +kernel
theorem dX3_greatestWorth_1 : decode cX3_greatestWorth 1 = .ok (.iload_n 1, 1) := by decide +kernel
theorem dX3_greatestWorth_2 : decode cX3_greatestWorth 2 = .ok (.invokevirtual 175, 3) := by decide +kernel
theorem dX3_greatestWorth_5 : decode cX3_greatestWorth 5 = .ok (.aload_n 0, 1) := by decide +kernel
theorem dX3_greatestWorth_6 : decode cX3_greatestWorth 6 = .ok (.getfield 26, 3) := by decide +kernel
theorem dX3_greatestWorth_9 : decode cX3_greatestWorth 9 = .ok (.aload_n 0, 1) := by decide +kernel
theorem dX3_greatestWorth_10 : decode cX3_greatestWorth 10 = .ok (.getfield 12, 3) := by decide +kernel
theorem dX3_greatestWorth_13 : decode cX3_greatestWorth 13 = .ok (.aload_n 0, 1) := by decide +kernel
theorem dX3_greatestWorth_14 : decode cX3_greatestWorth 14 = .ok (.getfield 19, 3) := by decide +kernel
theorem dX3_greatestWorth_17 : decode cX3_greatestWorth 17 = .ok (.iload_n 1, 1) := by decide +kernel
theorem dX3_greatestWorth_18 : decode cX3_greatestWorth 18 = .ok (.invokevirtual 188, 3) := by decide +kernel
theorem dX3_greatestWorth_21 : decode cX3_greatestWorth 21 = .ok (.aload_n 0, 1) := by decide +kernel
theorem dX3_greatestWorth_22 : decode cX3_greatestWorth 22 = .ok (.getfield 26, 3) := by decide +kernel
theorem dX3_greatestWorth_25 : decode cX3_greatestWorth 25 = .ok (.invokevirtual 195, 3) := by decide +kernel
theorem dX3_greatestWorth_28 : decode cX3_greatestWorth 28 = .ok (.ireturn, 1) := by decide +kernel
set_option maxRecDepth 20000 in
theorem ggX3_chosen_X3_needMeasure : GoodIn wsX3_chosen wsX3_needMeasure := goodIn_ca (goodIn_r _ [11, 12, 13] (by decide +kernel) (by decide +kernel)) (goodIn_sub (fun _ h => List.mem_cons_of_mem _ (List.mem_append_right _ h)) (by decide +kernel))
set_option maxRecDepth 20000 in
theorem gX3_chosen_X3_needMeasure : GoodIn wsX3_chosen (wsV RX3 175 RX3 yX3_needMeasure wsX3_needMeasure) := goodIn_app (goodIn_of _ (by decide +kernel)) ggX3_chosen_X3_needMeasure
set_option maxRecDepth 20000 in
theorem ggX3_chosen_X0_prepare : GoodIn wsX3_chosen wsX0_prepare := goodIn_r _ [18, 19, 20, 21, 22, 23, 24, 25, 26, 27, 28, 17, 29, 30, 31, 32, 33, 34, 35, 36, 37, 38, 10, 39, 40, 41, 42, 43, 44, 45, 46, 47, 48, 49, 50, 51, 52, 53, 54, 55, 56, 57, 58, 59, 60, 61, 62, 63, 64, 65, 66, 67, 68, 69, 70, 71, 72, 73, 74, 75, 76, 77, 78, 79, 80, 81, 82, 83, 84, 85, 86, 87, 88, 89, 90, 91, 92, 93, 94, 95, 96, 128, 129, 130, 131, 132, 133, 134, 135, 122, 123, 124, 125, 126, 127, 136, 137, 138, 139, 140, 141, 142, 143, 144] (by decide +kernel) (by decide +kernel)
set_option maxRecDepth 20000 in
theorem gX3_chosen_X0_prepare : GoodIn wsX3_chosen (wsV RX3 188 RX0 yX0_prepare wsX0_prepare) := goodIn_app (goodIn_of _ (by decide +kernel)) ggX3_chosen_X0_prepare
set_option maxRecDepth 20000 in
theorem ggX3_chosen_X0_findBest : GoodIn wsX3_chosen wsX0_findBest := goodIn_r _ [100, 101, 102, 103, 17, 104, 25, 19, 30, 105, 38, 10, 39, 106, 107, 108, 109, 110, 46, 47, 111, 112, 113, 114, 57, 128, 129, 130, 131, 132, 133, 134, 135] (by decide +kernel) (by decide +kernel)
set_option maxRecDepth 20000 in
theorem gX3_chosen_X0_findBest : GoodIn wsX3_chosen (wsV RX3 192 RX0 yX0_findBest wsX0_findBest) := goodIn_app (goodIn_of _ (by decide +kernel)) ggX3_chosen_X0_findBest
set_option maxRecDepth 20000 in
theorem ggX3_chosen_X0_bestSense : GoodIn wsX3_chosen wsX0_bestSense := goodIn_r _ [118, 31, 110, 38, 10, 39, 128, 129, 130, 131, 132, 133, 134, 135] (by decide +kernel) (by decide +kernel)
set_option maxRecDepth 20000 in
theorem gX3_chosen_X0_bestSense : GoodIn wsX3_chosen (wsV RX3 203 RX0 yX0_bestSense wsX0_bestSense) := goodIn_app (goodIn_of _ (by decide +kernel)) ggX3_chosen_X0_bestSense
theorem dX3_chosen_0 : decode cX3_chosen 0 = .ok (.iload_n 1, 1) := by decide +kernel
theorem dX3_chosen_1 : decode cX3_chosen 1 = .ok (.ifCond .lt 14, 3) := by decide +kernel
theorem dX3_chosen_4 : decode cX3_chosen 4 = .ok (.iload_n 1, 1) := by decide +kernel
theorem dX3_chosen_5 : decode cX3_chosen 5 = .ok (.aload_n 0, 1) := by decide +kernel
theorem dX3_chosen_6 : decode cX3_chosen 6 = .ok (.getfield 19, 3) := by decide +kernel
theorem dX3_chosen_9 : decode cX3_chosen 9 = .ok (.getfield 132, 3) := by decide +kernel
theorem dX3_chosen_12 : decode cX3_chosen 12 = .ok (.if_icmp .lt 13, 3) := by decide +kernel
theorem dX3_chosen_15 : decode cX3_chosen 15 = .ok (.new 198, 3) := by decide +kernel
theorem dX3_chosen_18 : decode cX3_chosen 18 = .ok (.dup, 1) := by decide +kernel
theorem dX3_chosen_19 : decode cX3_chosen 19 = .ok (.ldc 200, 2) := by decide +kernel
theorem dX3_chosen_21 : decode cX3_chosen 21 = .ok (.invokespecial 202, 3) := by decide +kernel
theorem dX3_chosen_24 : decode cX3_chosen 24 = .ok (.athrow, 1) := by decide +kernel
theorem dX3_chosen_25 : decode cX3_chosen 25 = .ok (.aload_n 0, 1) := by decide +kernel
theorem dX3_chosen_26 : decode cX3_chosen 26 = .ok (.iload_n 2, 1) := by decide +kernel
theorem dX3_chosen_27 : decode cX3_chosen 27 = .ok (.invokevirtual 175, 3) := by decide +kernel
theorem dX3_chosen_30 : decode cX3_chosen 30 = .ok (.aload_n 0, 1) := by decide +kernel
theorem dX3_chosen_31 : decode cX3_chosen 31 = .ok (.getfield 26, 3) := by decide +kernel
theorem dX3_chosen_34 : decode cX3_chosen 34 = .ok (.aload_n 0, 1) := by decide +kernel
theorem dX3_chosen_35 : decode cX3_chosen 35 = .ok (.getfield 12, 3) := by decide +kernel
theorem dX3_chosen_38 : decode cX3_chosen 38 = .ok (.aload_n 0, 1) := by decide +kernel
theorem dX3_chosen_39 : decode cX3_chosen 39 = .ok (.getfield 19, 3) := by decide +kernel
theorem dX3_chosen_42 : decode cX3_chosen 42 = .ok (.iload_n 2, 1) := by decide +kernel
theorem dX3_chosen_43 : decode cX3_chosen 43 = .ok (.invokevirtual 188, 3) := by decide +kernel
theorem dX3_chosen_46 : decode cX3_chosen 46 = .ok (.aload_n 0, 1) := by decide +kernel
theorem dX3_chosen_47 : decode cX3_chosen 47 = .ok (.getfield 26, 3) := by decide +kernel
theorem dX3_chosen_50 : decode cX3_chosen 50 = .ok (.invokevirtual 192, 3) := by decide +kernel
theorem dX3_chosen_53 : decode cX3_chosen 53 = .ok (.pop, 1) := by decide +kernel
theorem dX3_chosen_54 : decode cX3_chosen 54 = .ok (.aload_n 0, 1) := by decide +kernel
theorem dX3_chosen_55 : decode cX3_chosen 55 = .ok (.getfield 26, 3) := by decide +kernel
theorem dX3_chosen_58 : decode cX3_chosen 58 = .ok (.iload_n 1, 1) := by decide +kernel
theorem dX3_chosen_59 : decode cX3_chosen 59 = .ok (.invokevirtual 203, 3) := by decide +kernel
theorem dX3_chosen_62 : decode cX3_chosen 62 = .ok (.ireturn, 1) := by decide +kernel
set_option maxRecDepth 20000 in
theorem ggX3_needSense_X1_exists : GoodIn wsX3_needSense wsX1_exists := goodIn_r _ [8, 9, 10, 11, 12, 13, 14, 15, 19, 20, 21, 22, 23, 24, 25, 26, 27] (by decide +kernel) (by decide +kernel)
set_option maxRecDepth 20000 in
theorem gX3_needSense_X1_exists : GoodIn wsX3_needSense (wsV RX3 206 RX1 yX1_exists wsX1_exists) := goodIn_app (goodIn_of _ (by decide +kernel)) ggX3_needSense_X1_exists
theorem dX3_needSense_0 : decode cX3_needSense 0 = .ok (.aload_n 0, 1) := by decide +kernel
theorem dX3_needSense_1 : decode cX3_needSense 1 = .ok (.getfield 12, 3) := by decide +kernel
theorem dX3_needSense_4 : decode cX3_needSense 4 = .ok (.iload_n 1, 1) := by decide +kernel
theorem dX3_needSense_5 : decode cX3_needSense 5 = .ok (.invokevirtual 206, 3) := by decide +kernel
theorem dX3_needSense_8 : decode cX3_needSense 8 = .ok (.ifCond .ne 13, 3) := by decide +kernel
theorem dX3_needSense_11 : decode cX3_needSense 11 = .ok (.new 198, 3) := by decide +kernel
theorem dX3_needSense_14 : decode cX3_needSense 14 = .ok (.dup, 1) := by decide +kernel
theorem dX3_needSense_15 : decode cX3_needSense 15 = .ok (.ldc 209, 2) := by decide +kernel
theorem dX3_needSense_17 : decode cX3_needSense 17 = .ok (.invokespecial 202, 3) := by decide +kernel
theorem dX3_needSense_20 : decode cX3_needSense 20 = .ok (.athrow, 1) := by decide +kernel
theorem dX3_needSense_21 : decode cX3_needSense 21 = .ok (.return_, 1) := by decide +kernel
set_option maxRecDepth 20000 in
theorem ggX3_needWord_X2_exists : GoodIn wsX3_needWord wsX2_exists := goodIn_r _ [8, 9, 13, 14, 15, 16, 17, 18] (by decide +kernel) (by decide +kernel)
set_option maxRecDepth 20000 in
theorem gX3_needWord_X2_exists : GoodIn wsX3_needWord (wsV RX3 211 RX2 yX2_exists wsX2_exists) := goodIn_app (goodIn_of _ (by decide +kernel)) ggX3_needWord_X2_exists
theorem dX3_needWord_0 : decode cX3_needWord 0 = .ok (.aload_n 0, 1) := by decide +kernel
theorem dX3_needWord_1 : decode cX3_needWord 1 = .ok (.getfield 19, 3) := by decide +kernel
theorem dX3_needWord_4 : decode cX3_needWord 4 = .ok (.iload_n 1, 1) := by decide +kernel
theorem dX3_needWord_5 : decode cX3_needWord 5 = .ok (.invokevirtual 211, 3) := by decide +kernel
theorem dX3_needWord_8 : decode cX3_needWord 8 = .ok (.ifCond .ne 13, 3) := by decide +kernel
theorem dX3_needWord_11 : decode cX3_needWord 11 = .ok (.new 198, 3) := by decide +kernel
theorem dX3_needWord_14 : decode cX3_needWord 14 = .ok (.dup, 1) := by decide +kernel
theorem dX3_needWord_15 : decode cX3_needWord 15 = .ok (.ldc 212, 2) := by decide +kernel
theorem dX3_needWord_17 : decode cX3_needWord 17 = .ok (.invokespecial 202, 3) := by decide +kernel
theorem dX3_needWord_20 : decode cX3_needWord 20 = .ok (.athrow, 1) := by decide +kernel
theorem dX3_needWord_21 : decode cX3_needWord 21 = .ok (.return_, 1) := by decide +kernel
theorem dX3_needMeasure_0 : decode cX3_needMeasure 0 = .ok (.iload_n 1, 1) := by decide +kernel
theorem dX3_needMeasure_1 : decode cX3_needMeasure 1 = .ok (.ifCond .lt 8, 3) := by decide +kernel
theorem dX3_needMeasure_4 : decode cX3_needMeasure 4 = .ok (.iload_n 1, 1) := by decide +kernel
theorem dX3_needMeasure_5 : decode cX3_needMeasure 5 = .ok (.iconst 3, 1) := by decide +kernel
theorem dX3_needMeasure_6 : decode cX3_needMeasure 6 = .ok (.if_icmp .lt 13, 3) := by decide +kernel
theorem dX3_needMeasure_9 : decode cX3_needMeasure 9 = .ok (.new 89, 3) := by decide +kernel
theorem dX3_needMeasure_12 : decode cX3_needMeasure 12 = .ok (.dup, 1) := by decide +kernel
theorem dX3_needMeasure_13 : decode cX3_needMeasure 13 = .ok (.ldc 214, 2) := by decide +kernel
theorem dX3_needMeasure_15 : decode cX3_needMeasure 15 = .ok (.invokespecial 93, 3) := by decide +kernel
theorem dX3_needMeasure_18 : decode cX3_needMeasure 18 = .ok (.athrow, 1) := by decide +kernel
theorem dX3_needMeasure_19 : decode cX3_needMeasure 19 = .ok (.return_, 1) := by decide +kernel
theorem dX3_bit_0 : decode cX3_bit 0 = .ok (.iload_n 0, 1) := by decide +kernel
theorem dX3_bit_1 : decode cX3_bit 1 = .ok (.ifCond .lt 15, 3) := by decide +kernel
theorem dX3_bit_4 : decode cX3_bit 4 = .ok (.iload_n 0, 1) := by decide +kernel
theorem dX3_bit_5 : decode cX3_bit 5 = .ok (.bipush 30, 2) := by decide +kernel
theorem dX3_bit_7 : decode cX3_bit 7 = .ok (.if_icmp .ge 9, 3) := by decide +kernel
theorem dX3_bit_10 : decode cX3_bit 10 = .ok (.iconst 1, 1) := by decide +kernel
theorem dX3_bit_11 : decode cX3_bit 11 = .ok (.iload_n 0, 1) := by decide +kernel
theorem dX3_bit_12 : decode cX3_bit 12 = .ok (.ishl, 1) := by decide +kernel
theorem dX3_bit_13 : decode cX3_bit 13 = .ok (.goto 4, 3) := by decide +kernel
theorem dX3_bit_16 : decode cX3_bit 16 = .ok (.iconst 0, 1) := by decide +kernel
theorem dX3_bit_17 : decode cX3_bit 17 = .ok (.ireturn, 1) := by decide +kernel
set_option maxRecDepth 20000 in
theorem ggX3_holds_X3_bit : GoodIn wsX3_holds wsX3_bit := goodIn_r _ [4] (by decide +kernel) (by decide +kernel)
set_option maxRecDepth 20000 in
theorem gX3_holds_X3_bit : GoodIn wsX3_holds (va_wsS RX3 154 yX3_bit wsX3_bit) := goodIn_app (goodIn_of _ (by decide +kernel)) ggX3_holds_X3_bit
theorem dX3_holds_0 : decode cX3_holds 0 = .ok (.iload_n 0, 1) := by decide +kernel
theorem dX3_holds_1 : decode cX3_holds 1 = .ok (.iload_n 1, 1) := by decide +kernel
theorem dX3_holds_2 : decode cX3_holds 2 = .ok (.invokestatic 154, 3) := by decide +kernel
theorem dX3_holds_5 : decode cX3_holds 5 = .ok (.iand, 1) := by decide +kernel
theorem dX3_holds_6 : decode cX3_holds 6 = .ok (.ifCond .eq 7, 3) := by decide +kernel
theorem dX3_holds_9 : decode cX3_holds 9 = .ok (.iconst 1, 1) := by decide +kernel
theorem dX3_holds_10 : decode cX3_holds 10 = .ok (.goto 4, 3) := by decide +kernel
theorem dX3_holds_13 : decode cX3_holds 13 = .ok (.iconst 0, 1) := by decide +kernel
theorem dX3_holds_14 : decode cX3_holds 14 = .ok (.ireturn, 1) := by decide +kernel
theorem dX3_at_0 : decode cX3_at 0 = .ok (.aload_n 0, 1) := by decide +kernel
theorem dX3_at_1 : decode cX3_at 1 = .ok (.ifnull 19, 3) := by decide +kernel
theorem dX3_at_4 : decode cX3_at 4 = .ok (.iload_n 1, 1) := by decide +kernel
theorem dX3_at_5 : decode cX3_at 5 = .ok (.ifCond .lt 15, 3) := by decide +kernel
theorem dX3_at_8 : decode cX3_at 8 = .ok (.iload_n 1, 1) := by decide +kernel
theorem dX3_at_9 : decode cX3_at 9 = .ok (.aload_n 0, 1) := by decide +kernel
theorem dX3_at_10 : decode cX3_at 10 = .ok (.arraylength, 1) := by decide +kernel
theorem dX3_at_11 : decode cX3_at 11 = .ok (.if_icmp .ge 9, 3) := by decide +kernel
theorem dX3_at_14 : decode cX3_at 14 = .ok (.aload_n 0, 1) := by decide +kernel
theorem dX3_at_15 : decode cX3_at 15 = .ok (.iload_n 1, 1) := by decide +kernel
theorem dX3_at_16 : decode cX3_at 16 = .ok (.iaload, 1) := by decide +kernel
theorem dX3_at_17 : decode cX3_at 17 = .ok (.goto 4, 3) := by decide +kernel
theorem dX3_at_20 : decode cX3_at 20 = .ok (.iconst 0, 1) := by decide +kernel
theorem dX3_at_21 : decode cX3_at 21 = .ok (.ireturn, 1) := by decide +kernel
theorem dX3_put_0 : decode cX3_put 0 = .ok (.aload_n 0, 1) := by decide +kernel
theorem dX3_put_1 : decode cX3_put 1 = .ok (.ifnull 17, 3) := by decide +kernel
theorem dX3_put_4 : decode cX3_put 4 = .ok (.iload_n 1, 1) := by decide +kernel
theorem dX3_put_5 : decode cX3_put 5 = .ok (.ifCond .lt 13, 3) := by decide +kernel
theorem dX3_put_8 : decode cX3_put 8 = .ok (.iload_n 1, 1) := by decide +kernel
theorem dX3_put_9 : decode cX3_put 9 = .ok (.aload_n 0, 1) := by decide +kernel
theorem dX3_put_10 : decode cX3_put 10 = .ok (.arraylength, 1) := by decide +kernel
theorem dX3_put_11 : decode cX3_put 11 = .ok (.if_icmp .ge 7, 3) := by decide +kernel
theorem dX3_put_14 : decode cX3_put 14 = .ok (.aload_n 0, 1) := by decide +kernel
theorem dX3_put_15 : decode cX3_put 15 = .ok (.iload_n 1, 1) := by decide +kernel
theorem dX3_put_16 : decode cX3_put 16 = .ok (.iload_n 2, 1) := by decide +kernel
theorem dX3_put_17 : decode cX3_put 17 = .ok (.iastore, 1) := by decide +kernel
theorem dX3_put_18 : decode cX3_put 18 = .ok (.return_, 1) := by decide +kernel
