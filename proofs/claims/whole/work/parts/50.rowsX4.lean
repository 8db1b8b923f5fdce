theorem dX4_init_0 : decode cX4_init 0 = .ok (.aload_n 0, 1) := by decide +kernel
theorem dX4_init_1 : decode cX4_init 1 = .ok (.invokespecial 1, 3) := by decide +kernel
theorem dX4_init_4 : decode cX4_init 4 = .ok (.aload_n 0, 1) := by decide +kernel
theorem dX4_init_5 : decode cX4_init 5 = .ok (.bipush 30, 2) := by decide +kernel
theorem dX4_init_7 : decode cX4_init 7 = .ok (.newarray .int, 2) := by decide +kernel
theorem dX4_init_9 : decode cX4_init 9 = .ok (.putfield 7, 3) := by decide +kernel
theorem dX4_init_12 : decode cX4_init 12 = .ok (.aload_n 0, 1) := by decide +kernel
theorem dX4_init_13 : decode cX4_init 13 = .ok (.bipush 30, 2) := by decide +kernel
theorem dX4_init_15 : decode cX4_init 15 = .ok (.newarray .int, 2) := by decide +kernel
theorem dX4_init_17 : decode cX4_init 17 = .ok (.putfield 13, 3) := by decide +kernel
theorem dX4_init_20 : decode cX4_init 20 = .ok (.aload_n 0, 1) := by decide +kernel
theorem dX4_init_21 : decode cX4_init 21 = .ok (.bipush 50, 2) := by decide +kernel
theorem dX4_init_23 : decode cX4_init 23 = .ok (.newarray .int, 2) := by decide +kernel
theorem dX4_init_25 : decode cX4_init 25 = .ok (.putfield 16, 3) := by decide +kernel
theorem dX4_init_28 : decode cX4_init 28 = .ok (.aload_n 0, 1) := by decide +kernel
theorem dX4_init_29 : decode cX4_init 29 = .ok (.bipush 10, 2) := by decide +kernel
theorem dX4_init_31 : decode cX4_init 31 = .ok (.newarray .int, 2) := by decide +kernel
theorem dX4_init_33 : decode cX4_init 33 = .ok (.putfield 19, 3) := by decide +kernel
theorem dX4_init_36 : decode cX4_init 36 = .ok (.aload_n 0, 1) := by decide +kernel
theorem dX4_init_37 : decode cX4_init 37 = .ok (.bipush 10, 2) := by decide +kernel
theorem dX4_init_39 : decode cX4_init 39 = .ok (.newarray .int, 2) := by decide +kernel
theorem dX4_init_41 : decode cX4_init 41 = .ok (.putfield 22, 3) := by decide +kernel
theorem dX4_init_44 : decode cX4_init 44 = .ok (.aload_n 0, 1) := by decide +kernel
theorem dX4_init_45 : decode cX4_init 45 = .ok (.bipush 6, 2) := by decide +kernel
theorem dX4_init_47 : decode cX4_init 47 = .ok (.newarray .int, 2) := by decide +kernel
theorem dX4_init_49 : decode cX4_init 49 = .ok (.putfield 25, 3) := by decide +kernel
theorem dX4_init_52 : decode cX4_init 52 = .ok (.aload_n 0, 1) := by decide +kernel
theorem dX4_init_53 : decode cX4_init 53 = .ok (.sipush 900, 3) := by decide +kernel
theorem dX4_init_56 : decode cX4_init 56 = .ok (.newarray .int, 2) := by decide +kernel
theorem dX4_init_58 : decode cX4_init 58 = .ok (.putfield 28, 3) := by decide +kernel
theorem dX4_init_61 : decode cX4_init 61 = .ok (.aload_n 0, 1) := by decide +kernel
theorem dX4_init_62 : decode cX4_init 62 = .ok (.sipush 900, 3) := by decide +kernel
theorem dX4_init_65 : decode cX4_init 65 = .ok (.newarray .int, 2) := by decide +kernel
theorem dX4_init_67 : decode cX4_init 67 = .ok (.putfield 31, 3) := by decide +kernel
theorem dX4_init_70 : decode cX4_init 70 = .ok (.aload_n 0, 1) := by decide +kernel
theorem dX4_init_71 : decode cX4_init 71 = .ok (.bipush 6, 2) := by decide +kernel
theorem dX4_init_73 : decode cX4_init 73 = .ok (.newarray .int, 2) := by decide +kernel
theorem dX4_init_75 : decode cX4_init 75 = .ok (.putfield 34, 3) := by decide +kernel
theorem dX4_init_78 : decode cX4_init 78 = .ok (.aload_n 0, 1) := by decide +kernel
theorem dX4_init_79 : decode cX4_init 79 = .ok (.bipush 6, 2) := by decide +kernel
theorem dX4_init_81 : decode cX4_init 81 = .ok (.newarray .int, 2) := by decide +kernel
theorem dX4_init_83 : decode cX4_init 83 = .ok (.putfield 37, 3) := by decide +kernel
theorem dX4_init_86 : decode cX4_init 86 = .ok (.return_, 1) := by decide +kernel
theorem dX4_thrown_0 : decode cX4_thrown 0 = .ok (.aload_n 0, 1) := by decide +kernel
theorem dX4_thrown_1 : decode cX4_thrown 1 = .ok (.getfield 40, 3) := by decide +kernel
theorem dX4_thrown_4 : decode cX4_thrown 4 = .ok (.ireturn, 1) := by decide +kernel
theorem dX4_goesWell_0 : decode cX4_goesWell 0 = .ok (.aload_n 0, 1) := by decide +kernel
theorem dX4_goesWell_1 : decode cX4_goesWell 1 = .ok (.iload_n 1, 1) := by decide +kernel
theorem dX4_goesWell_2 : decode cX4_goesWell 2 = .ok (.putfield 40, 3) := by decide +kernel
theorem dX4_goesWell_5 : decode cX4_goesWell 5 = .ok (.iload_n 1, 1) := by decide +kernel
theorem dX4_goesWell_6 : decode cX4_goesWell 6 = .ok (.ifCond .ne 7, 3) := by decide +kernel
theorem dX4_goesWell_9 : decode cX4_goesWell 9 = .ok (.iconst 1, 1) := by decide +kernel
theorem dX4_goesWell_10 : decode cX4_goesWell 10 = .ok (.goto 4, 3) := by decide +kernel
theorem dX4_goesWell_13 : decode cX4_goesWell 13 = .ok (.iconst 0, 1) := by decide +kernel
theorem dX4_goesWell_14 : decode cX4_goesWell 14 = .ok (.ireturn, 1) := by decide +kernel
theorem dX4_in_0 : decode cX4_in 0 = .ok (.iload_n 0, 1) := by decide +kernel
theorem dX4_in_1 : decode cX4_in 1 = .ok (.iload_n 1, 1) := by decide +kernel
theorem dX4_in_2 : decode cX4_in 2 = .ok (.if_icmp .lt 12, 3) := by decide +kernel
theorem dX4_in_5 : decode cX4_in 5 = .ok (.iload_n 0, 1) := by decide +kernel
theorem dX4_in_6 : decode cX4_in 6 = .ok (.iload_n 2, 1) := by decide +kernel
theorem dX4_in_7 : decode cX4_in 7 = .ok (.if_icmp .gt 7, 3) := by decide +kernel
theorem dX4_in_10 : decode cX4_in 10 = .ok (.iconst 1, 1) := by decide +kernel
theorem dX4_in_11 : decode cX4_in 11 = .ok (.goto 4, 3) := by decide +kernel
theorem dX4_in_14 : decode cX4_in 14 = .ok (.iconst 0, 1) := by decide +kernel
theorem dX4_in_15 : decode cX4_in 15 = .ok (.ireturn, 1) := by decide +kernel
theorem dX4_has_0 : decode cX4_has 0 = .ok (.iload_n 0, 1) := by decide +kernel
theorem dX4_has_1 : decode cX4_has 1 = .ok (.iload_n 1, 1) := by decide +kernel
theorem dX4_has_2 : decode cX4_has 2 = .ok (.ishr, 1) := by decide +kernel
theorem dX4_has_3 : decode cX4_has 3 = .ok (.iconst 1, 1) := by decide +kernel
theorem dX4_has_4 : decode cX4_has 4 = .ok (.iand, 1) := by decide +kernel
theorem dX4_has_5 : decode cX4_has 5 = .ok (.iconst 1, 1) := by decide +kernel
theorem dX4_has_6 : decode cX4_has 6 = .ok (.if_icmp .ne 7, 3) := by decide +kernel
theorem dX4_has_9 : decode cX4_has 9 = .ok (.iconst 1, 1) := by decide +kernel
theorem dX4_has_10 : decode cX4_has 10 = .ok (.goto 4, 3) := by decide +kernel
theorem dX4_has_13 : decode cX4_has 13 = .ok (.iconst 0, 1) := by decide +kernel
theorem dX4_has_14 : decode cX4_has 14 = .ok (.ireturn, 1) := by decide +kernel
set_option maxRecDepth 20000 in
theorem ggX4_isSense_X4_in : GoodIn wsX4_isSense wsX4_in := goodIn_r _ [5] (by decide +kernel) (by decide +kernel)
set_option maxRecDepth 20000 in
theorem gX4_isSense_X4_in : GoodIn wsX4_isSense (va_wsS RX4 44 yX4_in wsX4_in) := goodIn_app (goodIn_of _ (by decide +kernel)) ggX4_isSense_X4_in
set_option maxRecDepth 20000 in
theorem ggX4_isSense_X4_has : GoodIn wsX4_isSense wsX4_has := goodIn_r _ [8] (by decide +kernel) (by decide +kernel)
set_option maxRecDepth 20000 in
theorem gX4_isSense_X4_has : GoodIn wsX4_isSense (va_wsS RX4 51 yX4_has wsX4_has) := goodIn_app (goodIn_of _ (by decide +kernel)) ggX4_isSense_X4_has
theorem dX4_isSense_0 : decode cX4_isSense 0 = .ok (.iload_n 1, 1) := by decide +kernel
theorem dX4_isSense_1 : decode cX4_isSense 1 = .ok (.iconst 0, 1) := by decide +kernel
theorem dX4_isSense_2 : decode cX4_isSense 2 = .ok (.bipush 29, 2) := by decide +kernel
theorem dX4_isSense_4 : decode cX4_isSense 4 = .ok (.invokestatic 44, 3) := by decide +kernel
theorem dX4_isSense_7 : decode cX4_isSense 7 = .ok (.ifCond .eq 18, 3) := by decide +kernel
theorem dX4_isSense_10 : decode cX4_isSense 10 = .ok (.aload_n 0, 1) := by decide +kernel
theorem dX4_isSense_11 : decode cX4_isSense 11 = .ok (.getfield 48, 3) := by decide +kernel
theorem dX4_isSense_14 : decode cX4_isSense 14 = .ok (.iload_n 1, 1) := by decide +kernel
theorem dX4_isSense_15 : decode cX4_isSense 15 = .ok (.invokestatic 51, 3) := by decide +kernel
theorem dX4_isSense_18 : decode cX4_isSense 18 = .ok (.ifCond .eq 7, 3) := by decide +kernel
theorem dX4_isSense_21 : decode cX4_isSense 21 = .ok (.iconst 1, 1) := by decide +kernel
theorem dX4_isSense_22 : decode cX4_isSense 22 = .ok (.goto 4, 3) := by decide +kernel
theorem dX4_isSense_25 : decode cX4_isSense 25 = .ok (.iconst 0, 1) := by decide +kernel
theorem dX4_isSense_26 : decode cX4_isSense 26 = .ok (.ireturn, 1) := by decide +kernel
set_option maxRecDepth 20000 in
theorem ggX4_isWord_X4_in : GoodIn wsX4_isWord wsX4_in := goodIn_r _ [5] (by decide +kernel) (by decide +kernel)
set_option maxRecDepth 20000 in
theorem gX4_isWord_X4_in : GoodIn wsX4_isWord (va_wsS RX4 44 yX4_in wsX4_in) := goodIn_app (goodIn_of _ (by decide +kernel)) ggX4_isWord_X4_in
theorem dX4_isWord_0 : decode cX4_isWord 0 = .ok (.iload_n 1, 1) := by decide +kernel
theorem dX4_isWord_1 : decode cX4_isWord 1 = .ok (.iconst 0, 1) := by decide +kernel
theorem dX4_isWord_2 : decode cX4_isWord 2 = .ok (.aload_n 0, 1) := by decide +kernel
theorem dX4_isWord_3 : decode cX4_isWord 3 = .ok (.getfield 55, 3) := by decide +kernel
theorem dX4_isWord_6 : decode cX4_isWord 6 = .ok (.iconst 1, 1) := by decide +kernel
theorem dX4_isWord_7 : decode cX4_isWord 7 = .ok (.isub, 1) := by decide +kernel
theorem dX4_isWord_8 : decode cX4_isWord 8 = .ok (.invokestatic 44, 3) := by decide +kernel
theorem dX4_isWord_11 : decode cX4_isWord 11 = .ok (.ireturn, 1) := by decide +kernel
theorem dX4_sizeOf_0 : decode cX4_sizeOf 0 = .ok (.iconst 0, 1) := by decide +kernel
theorem dX4_sizeOf_1 : decode cX4_sizeOf 1 = .ok (.istore_n 1, 1) := by decide +kernel
theorem dX4_sizeOf_2 : decode cX4_sizeOf 2 = .ok (.iconst 0, 1) := by decide +kernel
theorem dX4_sizeOf_3 : decode cX4_sizeOf 3 = .ok (.istore_n 2, 1) := by decide +kernel
theorem dX4_sizeOf_4 : decode cX4_sizeOf 4 = .ok (.iload_n 2, 1) := by decide +kernel
theorem dX4_sizeOf_5 : decode cX4_sizeOf 5 = .ok (.bipush 30, 2) := by decide +kernel
theorem dX4_sizeOf_7 : decode cX4_sizeOf 7 = .ok (.if_icmp .ge 17, 3) := by decide +kernel
theorem dX4_sizeOf_10 : decode cX4_sizeOf 10 = .ok (.iload_n 1, 1) := by decide +kernel
theorem dX4_sizeOf_11 : decode cX4_sizeOf 11 = .ok (.iload_n 0, 1) := by decide +kernel
theorem dX4_sizeOf_12 : decode cX4_sizeOf 12 = .ok (.iload_n 2, 1) := by decide +kernel
theorem dX4_sizeOf_13 : decode cX4_sizeOf 13 = .ok (.ishr, 1) := by decide +kernel
theorem dX4_sizeOf_14 : decode cX4_sizeOf 14 = .ok (.iconst 1, 1) := by decide +kernel
theorem dX4_sizeOf_15 : decode cX4_sizeOf 15 = .ok (.iand, 1) := by decide +kernel
theorem dX4_sizeOf_16 : decode cX4_sizeOf 16 = .ok (.iadd, 1) := by decide +kernel
theorem dX4_sizeOf_17 : decode cX4_sizeOf 17 = .ok (.istore_n 1, 1) := by decide +kernel
theorem dX4_sizeOf_18 : decode cX4_sizeOf 18 = .ok (.iinc 2 1, 3) := by decide +kernel
theorem dX4_sizeOf_21 : decode cX4_sizeOf 21 = .ok (.goto (-17), 3) := by decide +kernel
theorem dX4_sizeOf_24 : decode cX4_sizeOf 24 = .ok (.iload_n 1, 1) := by decide +kernel
theorem dX4_sizeOf_25 : decode cX4_sizeOf 25 = .ok (.ireturn, 1) := by decide +kernel
set_option maxRecDepth 20000 in
theorem ggX4_layUp_X4_has : GoodIn wsX4_layUp wsX4_has := goodIn_r _ [7] (by decide +kernel) (by decide +kernel)
set_option maxRecDepth 20000 in
theorem gX4_layUp_X4_has : GoodIn wsX4_layUp (va_wsS RX4 51 yX4_has wsX4_has) := goodIn_app (goodIn_of _ (by decide +kernel)) ggX4_layUp_X4_has
theorem dX4_layUp_0 : decode cX4_layUp 0 = .ok (.iconst 0, 1) := by decide +kernel
theorem dX4_layUp_1 : decode cX4_layUp 1 = .ok (.istore_n 1, 1) := by decide +kernel
theorem dX4_layUp_2 : decode cX4_layUp 2 = .ok (.iload_n 1, 1) := by decide +kernel
theorem dX4_layUp_3 : decode cX4_layUp 3 = .ok (.sipush 900, 3) := by decide +kernel
theorem dX4_layUp_6 : decode cX4_layUp 6 = .ok (.if_icmp .ge 33, 3) := by decide +kernel
theorem dX4_layUp_9 : decode cX4_layUp 9 = .ok (.aload_n 0, 1) := by decide +kernel
theorem dX4_layUp_10 : decode cX4_layUp 10 = .ok (.getfield 28, 3) := by decide +kernel
theorem dX4_layUp_13 : decode cX4_layUp 13 = .ok (.iload_n 1, 1) := by decide +kernel
theorem dX4_layUp_14 : decode cX4_layUp 14 = .ok (.iload_n 1, 1) := by decide +kernel
theorem dX4_layUp_15 : decode cX4_layUp 15 = .ok (.bipush 30, 2) := by decide +kernel
theorem dX4_layUp_17 : decode cX4_layUp 17 = .ok (.idiv, 1) := by decide +kernel
theorem dX4_layUp_18 : decode cX4_layUp 18 = .ok (.iload_n 1, 1) := by decide +kernel
theorem dX4_layUp_19 : decode cX4_layUp 19 = .ok (.bipush 30, 2) := by decide +kernel
theorem dX4_layUp_21 : decode cX4_layUp 21 = .ok (.irem, 1) := by decide +kernel
theorem dX4_layUp_22 : decode cX4_layUp 22 = .ok (.if_icmp .ne 7, 3) := by decide +kernel
theorem dX4_layUp_25 : decode cX4_layUp 25 = .ok (.iconst 0, 1) := by decide +kernel
theorem dX4_layUp_26 : decode cX4_layUp 26 = .ok (.goto 6, 3) := by decide +kernel
theorem dX4_layUp_29 : decode cX4_layUp 29 = .ok (.sipush 1000, 3) := by decide +kernel
theorem dX4_layUp_32 : decode cX4_layUp 32 = .ok (.iastore, 1) := by decide +kernel
theorem dX4_layUp_33 : decode cX4_layUp 33 = .ok (.iinc 1 1, 3) := by decide +kernel
theorem dX4_layUp_36 : decode cX4_layUp 36 = .ok (.goto (-34), 3) := by decide +kernel
theorem dX4_layUp_39 : decode cX4_layUp 39 = .ok (.iconst 1, 1) := by decide +kernel
theorem dX4_layUp_40 : decode cX4_layUp 40 = .ok (.istore_n 1, 1) := by decide +kernel
theorem dX4_layUp_41 : decode cX4_layUp 41 = .ok (.iload_n 1, 1) := by decide +kernel
theorem dX4_layUp_42 : decode cX4_layUp 42 = .ok (.ifCond .eq 109, 3) := by decide +kernel
theorem dX4_layUp_45 : decode cX4_layUp 45 = .ok (.iconst 0, 1) := by decide +kernel
theorem dX4_layUp_46 : decode cX4_layUp 46 = .ok (.istore_n 1, 1) := by decide +kernel
theorem dX4_layUp_47 : decode cX4_layUp 47 = .ok (.iconst 0, 1) := by decide +kernel
theorem dX4_layUp_48 : decode cX4_layUp 48 = .ok (.istore_n 2, 1) := by decide +kernel
theorem dX4_layUp_49 : decode cX4_layUp 49 = .ok (.iload_n 2, 1) := by decide +kernel
theorem dX4_layUp_50 : decode cX4_layUp 50 = .ok (.sipush 900, 3) := by decide +kernel
theorem dX4_layUp_53 : decode cX4_layUp 53 = .ok (.if_icmp .ge 95, 3) := by decide +kernel
theorem dX4_layUp_56 : decode cX4_layUp 56 = .ok (.iload_n 2, 1) := by decide +kernel
theorem dX4_layUp_57 : decode cX4_layUp 57 = .ok (.bipush 30, 2) := by decide +kernel
theorem dX4_layUp_59 : decode cX4_layUp 59 = .ok (.idiv, 1) := by decide +kernel
theorem dX4_layUp_60 : decode cX4_layUp 60 = .ok (.istore_n 3, 1) := by decide +kernel
theorem dX4_layUp_61 : decode cX4_layUp 61 = .ok (.iconst 0, 1) := by decide +kernel
theorem dX4_layUp_62 : decode cX4_layUp 62 = .ok (.istore 4, 2) := by decide +kernel
theorem dX4_layUp_64 : decode cX4_layUp 64 = .ok (.iload 4, 2) := by decide +kernel
theorem dX4_layUp_66 : decode cX4_layUp 66 = .ok (.bipush 30, 2) := by decide +kernel
theorem dX4_layUp_68 : decode cX4_layUp 68 = .ok (.if_icmp .ge 74, 3) := by decide +kernel
theorem dX4_layUp_71 : decode cX4_layUp 71 = .ok (.aload_n 0, 1) := by decide +kernel
theorem dX4_layUp_72 : decode cX4_layUp 72 = .ok (.getfield 28, 3) := by decide +kernel
theorem dX4_layUp_75 : decode cX4_layUp 75 = .ok (.bipush 30, 2) := by decide +kernel
theorem dX4_layUp_77 : decode cX4_layUp 77 = .ok (.iload 4, 2) := by decide +kernel
theorem dX4_layUp_79 : decode cX4_layUp 79 = .ok (.imul, 1) := by decide +kernel
theorem dX4_layUp_80 : decode cX4_layUp 80 = .ok (.iload_n 2, 1) := by decide +kernel
theorem dX4_layUp_81 : decode cX4_layUp 81 = .ok (.bipush 30, 2) := by decide +kernel
theorem dX4_layUp_83 : decode cX4_layUp 83 = .ok (.irem, 1) := by decide +kernel
theorem dX4_layUp_84 : decode cX4_layUp 84 = .ok (.iadd, 1) := by decide +kernel
theorem dX4_layUp_85 : decode cX4_layUp 85 = .ok (.iaload, 1) := by decide +kernel
theorem dX4_layUp_86 : decode cX4_layUp 86 = .ok (.iconst 1, 1) := by decide +kernel
theorem dX4_layUp_87 : decode cX4_layUp 87 = .ok (.iadd, 1) := by decide +kernel
theorem dX4_layUp_88 : decode cX4_layUp 88 = .ok (.istore 5, 2) := by decide +kernel
theorem dX4_layUp_90 : decode cX4_layUp 90 = .ok (.aload_n 0, 1) := by decide +kernel
theorem dX4_layUp_91 : decode cX4_layUp 91 = .ok (.getfield 48, 3) := by decide +kernel
theorem dX4_layUp_94 : decode cX4_layUp 94 = .ok (.iload_n 3, 1) := by decide +kernel
theorem dX4_layUp_95 : decode cX4_layUp 95 = .ok (.invokestatic 51, 3) := by decide +kernel
theorem dX4_layUp_98 : decode cX4_layUp 98 = .ok (.ifCond .eq 38, 3) := by decide +kernel
theorem dX4_layUp_101 : decode cX4_layUp 101 = .ok (.aload_n 0, 1) := by decide +kernel
theorem dX4_layUp_102 : decode cX4_layUp 102 = .ok (.getfield 7, 3) := by decide +kernel
theorem dX4_layUp_105 : decode cX4_layUp 105 = .ok (.iload_n 3, 1) := by decide +kernel
theorem dX4_layUp_106 : decode cX4_layUp 106 = .ok (.iaload, 1) := by decide +kernel
theorem dX4_layUp_107 : decode cX4_layUp 107 = .ok (.iload 4, 2) := by decide +kernel
theorem dX4_layUp_109 : decode cX4_layUp 109 = .ok (.invokestatic 51, 3) := by decide +kernel
theorem dX4_layUp_112 : decode cX4_layUp 112 = .ok (.ifCond .eq 24, 3) := by decide +kernel
theorem dX4_layUp_115 : decode cX4_layUp 115 = .ok (.iload 5, 2) := by decide +kernel
theorem dX4_layUp_117 : decode cX4_layUp 117 = .ok (.aload_n 0, 1) := by decide +kernel
theorem dX4_layUp_118 : decode cX4_layUp 118 = .ok (.getfield 28, 3) := by decide +kernel
theorem dX4_layUp_121 : decode cX4_layUp 121 = .ok (.iload_n 2, 1) := by decide +kernel
theorem dX4_layUp_122 : decode cX4_layUp 122 = .ok (.iaload, 1) := by decide +kernel
theorem dX4_layUp_123 : decode cX4_layUp 123 = .ok (.if_icmp .ge 13, 3) := by decide +kernel
theorem dX4_layUp_126 : decode cX4_layUp 126 = .ok (.aload_n 0, 1) := by decide +kernel
theorem dX4_layUp_127 : decode cX4_layUp 127 = .ok (.getfield 28, 3) := by decide +kernel
theorem dX4_layUp_130 : decode cX4_layUp 130 = .ok (.iload_n 2, 1) := by decide +kernel
theorem dX4_layUp_131 : decode cX4_layUp 131 = .ok (.iload 5, 2) := by decide +kernel
theorem dX4_layUp_133 : decode cX4_layUp 133 = .ok (.iastore, 1) := by decide +kernel
theorem dX4_layUp_134 : decode cX4_layUp 134 = .ok (.iconst 1, 1) := by decide +kernel
theorem dX4_layUp_135 : decode cX4_layUp 135 = .ok (.istore_n 1, 1) := by decide +kernel
theorem dX4_layUp_136 : decode cX4_layUp 136 = .ok (.iinc 4 1, 3) := by decide +kernel
theorem dX4_layUp_139 : decode cX4_layUp 139 = .ok (.goto (-75), 3) := by decide +kernel
theorem dX4_layUp_142 : decode cX4_layUp 142 = .ok (.iinc 2 1, 3) := by decide +kernel
theorem dX4_layUp_145 : decode cX4_layUp 145 = .ok (.goto (-96), 3) := by decide +kernel
theorem dX4_layUp_148 : decode cX4_layUp 148 = .ok (.goto (-107), 3) := by decide +kernel
theorem dX4_layUp_151 : decode cX4_layUp 151 = .ok (.return_, 1) := by decide +kernel
theorem dX4_covers_0 : decode cX4_covers 0 = .ok (.aload_n 0, 1) := by decide +kernel
theorem dX4_covers_1 : decode cX4_covers 1 = .ok (.getfield 28, 3) := by decide +kernel
theorem dX4_covers_4 : decode cX4_covers 4 = .ok (.bipush 30, 2) := by decide +kernel
theorem dX4_covers_6 : decode cX4_covers 6 = .ok (.iload_n 2, 1) := by decide +kernel
theorem dX4_covers_7 : decode cX4_covers 7 = .ok (.imul, 1) := by decide +kernel
theorem dX4_covers_8 : decode cX4_covers 8 = .ok (.iload_n 1, 1) := by decide +kernel
theorem dX4_covers_9 : decode cX4_covers 9 = .ok (.iadd, 1) := by decide +kernel
theorem dX4_covers_10 : decode cX4_covers 10 = .ok (.iaload, 1) := by decide +kernel
theorem dX4_covers_11 : decode cX4_covers 11 = .ok (.sipush 1000, 3) := by decide +kernel
theorem dX4_covers_14 : decode cX4_covers 14 = .ok (.if_icmp .ge 7, 3) := by decide +kernel
theorem dX4_covers_17 : decode cX4_covers 17 = .ok (.iconst 1, 1) := by decide +kernel
theorem dX4_covers_18 : decode cX4_covers 18 = .ok (.goto 4, 3) := by decide +kernel
theorem dX4_covers_21 : decode cX4_covers 21 = .ok (.iconst 0, 1) := by decide +kernel
theorem dX4_covers_22 : decode cX4_covers 22 = .ok (.ireturn, 1) := by decide +kernel
set_option maxRecDepth 20000 in
theorem ggX4_addSense_X4_goesWell : GoodIn wsX4_addSense wsX4_goesWell := goodIn_r _ [9, 10, 11, 12, 13, 14, 15, 16, 17, 18, 19, 20, 21, 22, 23, 24, 25] (by decide +kernel) (by decide +kernel)
set_option maxRecDepth 20000 in
theorem gX4_addSense_X4_goesWell : GoodIn wsX4_addSense (wsV RX4 61 RX4 yX4_goesWell wsX4_goesWell) := goodIn_app (goodIn_of _ (by decide +kernel)) ggX4_addSense_X4_goesWell
theorem dX4_addSense_0 : decode cX4_addSense 0 = .ok (.aload_n 0, 1) := by decide +kernel
theorem dX4_addSense_1 : decode cX4_addSense 1 = .ok (.aload_n 0, 1) := by decide +kernel
theorem dX4_addSense_2 : decode cX4_addSense 2 = .ok (.getfield 58, 3) := by decide +kernel
theorem dX4_addSense_5 : decode cX4_addSense 5 = .ok (.bipush 30, 2) := by decide +kernel
theorem dX4_addSense_7 : decode cX4_addSense 7 = .ok (.if_icmp .ne 7, 3) := by decide +kernel
theorem dX4_addSense_10 : decode cX4_addSense 10 = .ok (.iconst 1, 1) := by decide +kernel
theorem dX4_addSense_11 : decode cX4_addSense 11 = .ok (.goto 4, 3) := by decide +kernel
theorem dX4_addSense_14 : decode cX4_addSense 14 = .ok (.iconst 0, 1) := by decide +kernel
theorem dX4_addSense_15 : decode cX4_addSense 15 = .ok (.invokevirtual 61, 3) := by decide +kernel
theorem dX4_addSense_18 : decode cX4_addSense 18 = .ok (.ifCond .ne 5, 3) := by decide +kernel
theorem dX4_addSense_21 : decode cX4_addSense 21 = .ok (.iconst 0, 1) := by decide +kernel
theorem dX4_addSense_22 : decode cX4_addSense 22 = .ok (.ireturn, 1) := by decide +kernel
theorem dX4_addSense_23 : decode cX4_addSense 23 = .ok (.aload_n 0, 1) := by decide +kernel
theorem dX4_addSense_24 : decode cX4_addSense 24 = .ok (.dup, 1) := by decide +kernel
theorem dX4_addSense_25 : decode cX4_addSense 25 = .ok (.getfield 48, 3) := by decide +kernel
theorem dX4_addSense_28 : decode cX4_addSense 28 = .ok (.iconst 1, 1) := by decide +kernel
theorem dX4_addSense_29 : decode cX4_addSense 29 = .ok (.aload_n 0, 1) := by decide +kernel
theorem dX4_addSense_30 : decode cX4_addSense 30 = .ok (.getfield 58, 3) := by decide +kernel
theorem dX4_addSense_33 : decode cX4_addSense 33 = .ok (.ishl, 1) := by decide +kernel
theorem dX4_addSense_34 : decode cX4_addSense 34 = .ok (.ior, 1) := by decide +kernel
theorem dX4_addSense_35 : decode cX4_addSense 35 = .ok (.putfield 48, 3) := by decide +kernel
theorem dX4_addSense_38 : decode cX4_addSense 38 = .ok (.aload_n 0, 1) := by decide +kernel
theorem dX4_addSense_39 : decode cX4_addSense 39 = .ok (.getfield 7, 3) := by decide +kernel
theorem dX4_addSense_42 : decode cX4_addSense 42 = .ok (.aload_n 0, 1) := by decide +kernel
theorem dX4_addSense_43 : decode cX4_addSense 43 = .ok (.getfield 58, 3) := by decide +kernel
theorem dX4_addSense_46 : decode cX4_addSense 46 = .ok (.iconst 0, 1) := by decide +kernel
theorem dX4_addSense_47 : decode cX4_addSense 47 = .ok (.iastore, 1) := by decide +kernel
theorem dX4_addSense_48 : decode cX4_addSense 48 = .ok (.aload_n 0, 1) := by decide +kernel
theorem dX4_addSense_49 : decode cX4_addSense 49 = .ok (.getfield 13, 3) := by decide +kernel
theorem dX4_addSense_52 : decode cX4_addSense 52 = .ok (.aload_n 0, 1) := by decide +kernel
theorem dX4_addSense_53 : decode cX4_addSense 53 = .ok (.getfield 58, 3) := by decide +kernel
theorem dX4_addSense_56 : decode cX4_addSense 56 = .ok (.iconst 0, 1) := by decide +kernel
theorem dX4_addSense_57 : decode cX4_addSense 57 = .ok (.iastore, 1) := by decide +kernel
theorem dX4_addSense_58 : decode cX4_addSense 58 = .ok (.aload_n 0, 1) := by decide +kernel
theorem dX4_addSense_59 : decode cX4_addSense 59 = .ok (.dup, 1) := by decide +kernel
theorem dX4_addSense_60 : decode cX4_addSense 60 = .ok (.getfield 58, 3) := by decide +kernel
theorem dX4_addSense_63 : decode cX4_addSense 63 = .ok (.iconst 1, 1) := by decide +kernel
theorem dX4_addSense_64 : decode cX4_addSense 64 = .ok (.iadd, 1) := by decide +kernel
theorem dX4_addSense_65 : decode cX4_addSense 65 = .ok (.putfield 58, 3) := by decide +kernel
theorem dX4_addSense_68 : decode cX4_addSense 68 = .ok (.aload_n 0, 1) := by decide +kernel
theorem dX4_addSense_69 : decode cX4_addSense 69 = .ok (.getfield 58, 3) := by decide +kernel
theorem dX4_addSense_72 : decode cX4_addSense 72 = .ok (.iconst 1, 1) := by decide +kernel
theorem dX4_addSense_73 : decode cX4_addSense 73 = .ok (.isub, 1) := by decide +kernel
theorem dX4_addSense_74 : decode cX4_addSense 74 = .ok (.ireturn, 1) := by decide +kernel
set_option maxRecDepth 20000 in
theorem ggX4_link_X4_isSense : GoodIn wsX4_link wsX4_isSense := goodIn_r _ [6, 7, 8, 9, 5, 10, 11, 12, 13, 31, 32, 33, 34, 35, 36, 37, 38, 39, 40, 41, 42, 43, 44, 45] (by decide +kernel) (by decide +kernel)
set_option maxRecDepth 20000 in
theorem gX4_link_X4_isSense : GoodIn wsX4_link (wsV RX4 65 RX4 yX4_isSense wsX4_isSense) := goodIn_app (goodIn_of _ (by decide +kernel)) ggX4_link_X4_isSense
set_option maxRecDepth 20000 in
theorem ggX4_link_X4_has : GoodIn wsX4_link wsX4_has := goodIn_r _ [13] (by decide +kernel) (by decide +kernel)
set_option maxRecDepth 20000 in
theorem gX4_link_X4_has : GoodIn wsX4_link (va_wsS RX4 51 yX4_has wsX4_has) := goodIn_app (goodIn_of _ (by decide +kernel)) ggX4_link_X4_has
set_option maxRecDepth 20000 in
theorem ggX4_link_X4_sizeOf : GoodIn wsX4_link wsX4_sizeOf := goodIn_r _ [16] (by decide +kernel) (by decide +kernel)
set_option maxRecDepth 20000 in
theorem gX4_link_X4_sizeOf : GoodIn wsX4_link (va_wsS RX4 68 yX4_sizeOf wsX4_sizeOf) := goodIn_app (goodIn_of _ (by decide +kernel)) ggX4_link_X4_sizeOf
set_option maxRecDepth 20000 in
theorem ggX4_link_X4_layUp : GoodIn wsX4_link wsX4_layUp := goodIn_r _ [20, 21, 7, 1, 11, 12, 5, 13, 31, 32, 33, 34, 35, 36, 37, 38, 39, 40, 41, 42, 43, 44, 45] (by decide +kernel) (by decide +kernel)
set_option maxRecDepth 20000 in
theorem gX4_link_X4_layUp : GoodIn wsX4_link (wsV RX4 72 RX4 yX4_layUp wsX4_layUp) := goodIn_app (goodIn_of _ (by decide +kernel)) ggX4_link_X4_layUp
set_option maxRecDepth 20000 in
theorem ggX4_link_X4_covers : GoodIn wsX4_link wsX4_covers := goodIn_r _ [25, 21, 31, 32, 33, 34, 35, 36, 37, 38, 39, 40, 41, 42, 43, 44, 45] (by decide +kernel) (by decide +kernel)
set_option maxRecDepth 20000 in
theorem gX4_link_X4_covers : GoodIn wsX4_link (wsV RX4 75 RX4 yX4_covers wsX4_covers) := goodIn_app (goodIn_of _ (by decide +kernel)) ggX4_link_X4_covers
set_option maxRecDepth 20000 in
theorem ggX4_link_X4_goesWell : GoodIn wsX4_link wsX4_goesWell := goodIn_r _ [29, 30, 31, 32, 33, 34, 35, 36, 37, 38, 39, 40, 41, 42, 43, 44, 45] (by decide +kernel) (by decide +kernel)
set_option maxRecDepth 20000 in
theorem gX4_link_X4_goesWell : GoodIn wsX4_link (wsV RX4 61 RX4 yX4_goesWell wsX4_goesWell) := goodIn_app (goodIn_of _ (by decide +kernel)) ggX4_link_X4_goesWell
theorem dX4_link_0 : decode cX4_link 0 = .ok (.aload_n 0, 1) := by decide +kernel
theorem dX4_link_1 : decode cX4_link 1 = .ok (.iload_n 1, 1) := by decide +kernel
theorem dX4_link_2 : decode cX4_link 2 = .ok (.invokevirtual 65, 3) := by decide +kernel
theorem dX4_link_5 : decode cX4_link 5 = .ok (.ifCond .eq 15, 3) := by decide +kernel
theorem dX4_link_8 : decode cX4_link 8 = .ok (.aload_n 0, 1) := by decide +kernel
theorem dX4_link_9 : decode cX4_link 9 = .ok (.iload_n 2, 1) := by decide +kernel
theorem dX4_link_10 : decode cX4_link 10 = .ok (.invokevirtual 65, 3) := by decide +kernel
theorem dX4_link_13 : decode cX4_link 13 = .ok (.ifCond .eq 7, 3) := by decide +kernel
theorem dX4_link_16 : decode cX4_link 16 = .ok (.iconst 1, 1) := by decide +kernel
theorem dX4_link_17 : decode cX4_link 17 = .ok (.goto 4, 3) := by decide +kernel
theorem dX4_link_20 : decode cX4_link 20 = .ok (.iconst 0, 1) := by decide +kernel
theorem dX4_link_21 : decode cX4_link 21 = .ok (.istore_n 3, 1) := by decide +kernel
theorem dX4_link_22 : decode cX4_link 22 = .ok (.iload_n 3, 1) := by decide +kernel
theorem dX4_link_23 : decode cX4_link 23 = .ok (.ifCond .eq 33, 3) := by decide +kernel
theorem dX4_link_26 : decode cX4_link 26 = .ok (.aload_n 0, 1) := by decide +kernel
theorem dX4_link_27 : decode cX4_link 27 = .ok (.getfield 7, 3) := by decide +kernel
theorem dX4_link_30 : decode cX4_link 30 = .ok (.iload_n 1, 1) := by decide +kernel
theorem dX4_link_31 : decode cX4_link 31 = .ok (.iaload, 1) := by decide +kernel
theorem dX4_link_32 : decode cX4_link 32 = .ok (.iload_n 2, 1) := by decide +kernel
theorem dX4_link_33 : decode cX4_link 33 = .ok (.invokestatic 51, 3) := by decide +kernel
theorem dX4_link_36 : decode cX4_link 36 = .ok (.ifCond .ne 16, 3) := by decide +kernel
theorem dX4_link_39 : decode cX4_link 39 = .ok (.aload_n 0, 1) := by decide +kernel
theorem dX4_link_40 : decode cX4_link 40 = .ok (.getfield 7, 3) := by decide +kernel
theorem dX4_link_43 : decode cX4_link 43 = .ok (.iload_n 1, 1) := by decide +kernel
theorem dX4_link_44 : decode cX4_link 44 = .ok (.iaload, 1) := by decide +kernel
theorem dX4_link_45 : decode cX4_link 45 = .ok (.invokestatic 68, 3) := by decide +kernel
theorem dX4_link_48 : decode cX4_link 48 = .ok (.iconst 4, 1) := by decide +kernel
theorem dX4_link_49 : decode cX4_link 49 = .ok (.if_icmp .ne 7, 3) := by decide +kernel
theorem dX4_link_52 : decode cX4_link 52 = .ok (.iconst 1, 1) := by decide +kernel
theorem dX4_link_53 : decode cX4_link 53 = .ok (.goto 4, 3) := by decide +kernel
theorem dX4_link_56 : decode cX4_link 56 = .ok (.iconst 0, 1) := by decide +kernel
theorem dX4_link_57 : decode cX4_link 57 = .ok (.istore 4, 2) := by decide +kernel
theorem dX4_link_59 : decode cX4_link 59 = .ok (.iload_n 3, 1) := by decide +kernel
theorem dX4_link_60 : decode cX4_link 60 = .ok (.ifCond .eq 20, 3) := by decide +kernel
theorem dX4_link_63 : decode cX4_link 63 = .ok (.iload 4, 2) := by decide +kernel
theorem dX4_link_65 : decode cX4_link 65 = .ok (.ifCond .ne 15, 3) := by decide +kernel
theorem dX4_link_68 : decode cX4_link 68 = .ok (.aload_n 0, 1) := by decide +kernel
theorem dX4_link_69 : decode cX4_link 69 = .ok (.invokevirtual 72, 3) := by decide +kernel
theorem dX4_link_72 : decode cX4_link 72 = .ok (.aload_n 0, 1) := by decide +kernel
theorem dX4_link_73 : decode cX4_link 73 = .ok (.iload_n 1, 1) := by decide +kernel
theorem dX4_link_74 : decode cX4_link 74 = .ok (.iload_n 2, 1) := by decide +kernel
theorem dX4_link_75 : decode cX4_link 75 = .ok (.invokevirtual 75, 3) := by decide +kernel
theorem dX4_link_78 : decode cX4_link 78 = .ok (.istore 4, 2) := by decide +kernel
theorem dX4_link_80 : decode cX4_link 80 = .ok (.aload_n 0, 1) := by decide +kernel
theorem dX4_link_81 : decode cX4_link 81 = .ok (.iload_n 3, 1) := by decide +kernel
theorem dX4_link_82 : decode cX4_link 82 = .ok (.ifCond .ne 7, 3) := by decide +kernel
theorem dX4_link_85 : decode cX4_link 85 = .ok (.iconst 1, 1) := by decide +kernel
theorem dX4_link_86 : decode cX4_link 86 = .ok (.goto 13, 3) := by decide +kernel
theorem dX4_link_89 : decode cX4_link 89 = .ok (.iload 4, 2) := by decide +kernel
theorem dX4_link_91 : decode cX4_link 91 = .ok (.ifCond .eq 7, 3) := by decide +kernel
theorem dX4_link_94 : decode cX4_link 94 = .ok (.iconst 2, 1) := by decide +kernel
theorem dX4_link_95 : decode cX4_link 95 = .ok (.goto 4, 3) := by decide +kernel
theorem dX4_link_98 : decode cX4_link 98 = .ok (.iconst 0, 1) := by decide +kernel
theorem dX4_link_99 : decode cX4_link 99 = .ok (.invokevirtual 61, 3) := by decide +kernel
theorem dX4_link_102 : decode cX4_link 102 = .ok (.ifCond .ne 5, 3) := by decide +kernel
theorem dX4_link_105 : decode cX4_link 105 = .ok (.iconst 0, 1) := by decide +kernel
theorem dX4_link_106 : decode cX4_link 106 = .ok (.ireturn, 1) := by decide +kernel
theorem dX4_link_107 : decode cX4_link 107 = .ok (.aload_n 0, 1) := by decide +kernel
theorem dX4_link_108 : decode cX4_link 108 = .ok (.getfield 7, 3) := by decide +kernel
theorem dX4_link_111 : decode cX4_link 111 = .ok (.iload_n 1, 1) := by decide +kernel
theorem dX4_link_112 : decode cX4_link 112 = .ok (.dup2, 1) := by decide +kernel
theorem dX4_link_113 : decode cX4_link 113 = .ok (.iaload, 1) := by decide +kernel
theorem dX4_link_114 : decode cX4_link 114 = .ok (.iconst 1, 1) := by decide +kernel
theorem dX4_link_115 : decode cX4_link 115 = .ok (.iload_n 2, 1) := by decide +kernel
theorem dX4_link_116 : decode cX4_link 116 = .ok (.ishl, 1) := by decide +kernel
theorem dX4_link_117 : decode cX4_link 117 = .ok (.ior, 1) := by decide +kernel
theorem dX4_link_118 : decode cX4_link 118 = .ok (.iastore, 1) := by decide +kernel
theorem dX4_link_119 : decode cX4_link 119 = .ok (.aload_n 0, 1) := by decide +kernel
theorem dX4_link_120 : decode cX4_link 120 = .ok (.getfield 7, 3) := by decide +kernel
theorem dX4_link_123 : decode cX4_link 123 = .ok (.iload_n 1, 1) := by decide +kernel
theorem dX4_link_124 : decode cX4_link 124 = .ok (.iaload, 1) := by decide +kernel
theorem dX4_link_125 : decode cX4_link 125 = .ok (.invokestatic 68, 3) := by decide +kernel
theorem dX4_link_128 : decode cX4_link 128 = .ok (.ireturn, 1) := by decide +kernel
set_option maxRecDepth 20000 in
theorem ggX4_unlink_X4_isSense : GoodIn wsX4_unlink wsX4_isSense := goodIn_r _ [6, 7, 8, 9, 5, 10, 11, 12, 13, 22, 23, 24, 25, 26, 27, 28, 29, 30, 31, 32, 33, 34, 35, 36] (by decide +kernel) (by decide +kernel)
set_option maxRecDepth 20000 in
theorem gX4_unlink_X4_isSense : GoodIn wsX4_unlink (wsV RX4 65 RX4 yX4_isSense wsX4_isSense) := goodIn_app (goodIn_of _ (by decide +kernel)) ggX4_unlink_X4_isSense
set_option maxRecDepth 20000 in
theorem ggX4_unlink_X4_has : GoodIn wsX4_unlink wsX4_has := goodIn_r _ [13] (by decide +kernel) (by decide +kernel)
set_option maxRecDepth 20000 in
theorem gX4_unlink_X4_has : GoodIn wsX4_unlink (va_wsS RX4 51 yX4_has wsX4_has) := goodIn_app (goodIn_of _ (by decide +kernel)) ggX4_unlink_X4_has
set_option maxRecDepth 20000 in
theorem ggX4_unlink_X4_goesWell : GoodIn wsX4_unlink wsX4_goesWell := goodIn_r _ [17, 18, 22, 23, 24, 25, 26, 27, 28, 29, 30, 31, 32, 33, 34, 35, 36] (by decide +kernel) (by decide +kernel)
set_option maxRecDepth 20000 in
theorem gX4_unlink_X4_goesWell : GoodIn wsX4_unlink (wsV RX4 61 RX4 yX4_goesWell wsX4_goesWell) := goodIn_app (goodIn_of _ (by decide +kernel)) ggX4_unlink_X4_goesWell
set_option maxRecDepth 20000 in
theorem ggX4_unlink_X4_sizeOf : GoodIn wsX4_unlink wsX4_sizeOf := goodIn_r _ [21] (by decide +kernel) (by decide +kernel)
set_option maxRecDepth 20000 in
theorem gX4_unlink_X4_sizeOf : GoodIn wsX4_unlink (va_wsS RX4 68 yX4_sizeOf wsX4_sizeOf) := goodIn_app (goodIn_of _ (by decide +kernel)) ggX4_unlink_X4_sizeOf
theorem dX4_unlink_0 : decode cX4_unlink 0 = .ok (.aload_n 0, 1) := by decide +kernel
theorem dX4_unlink_1 : decode cX4_unlink 1 = .ok (.iload_n 1, 1) := by decide +kernel
theorem dX4_unlink_2 : decode cX4_unlink 2 = .ok (.invokevirtual 65, 3) := by decide +kernel
theorem dX4_unlink_5 : decode cX4_unlink 5 = .ok (.ifCond .eq 15, 3) := by decide +kernel
theorem dX4_unlink_8 : decode cX4_unlink 8 = .ok (.aload_n 0, 1) := by decide +kernel
theorem dX4_unlink_9 : decode cX4_unlink 9 = .ok (.iload_n 2, 1) := by decide +kernel
theorem dX4_unlink_10 : decode cX4_unlink 10 = .ok (.invokevirtual 65, 3) := by decide +kernel
theorem dX4_unlink_13 : decode cX4_unlink 13 = .ok (.ifCond .eq 7, 3) := by decide +kernel
theorem dX4_unlink_16 : decode cX4_unlink 16 = .ok (.iconst 1, 1) := by decide +kernel
theorem dX4_unlink_17 : decode cX4_unlink 17 = .ok (.goto 4, 3) := by decide +kernel
theorem dX4_unlink_20 : decode cX4_unlink 20 = .ok (.iconst 0, 1) := by decide +kernel
theorem dX4_unlink_21 : decode cX4_unlink 21 = .ok (.istore_n 3, 1) := by decide +kernel
theorem dX4_unlink_22 : decode cX4_unlink 22 = .ok (.aload_n 0, 1) := by decide +kernel
theorem dX4_unlink_23 : decode cX4_unlink 23 = .ok (.iload_n 3, 1) := by decide +kernel
theorem dX4_unlink_24 : decode cX4_unlink 24 = .ok (.ifCond .ne 7, 3) := by decide +kernel
theorem dX4_unlink_27 : decode cX4_unlink 27 = .ok (.iconst 1, 1) := by decide +kernel
theorem dX4_unlink_28 : decode cX4_unlink 28 = .ok (.goto 21, 3) := by decide +kernel
theorem dX4_unlink_31 : decode cX4_unlink 31 = .ok (.aload_n 0, 1) := by decide +kernel
theorem dX4_unlink_32 : decode cX4_unlink 32 = .ok (.getfield 7, 3) := by decide +kernel
theorem dX4_unlink_35 : decode cX4_unlink 35 = .ok (.iload_n 1, 1) := by decide +kernel
theorem dX4_unlink_36 : decode cX4_unlink 36 = .ok (.iaload, 1) := by decide +kernel
theorem dX4_unlink_37 : decode cX4_unlink 37 = .ok (.iload_n 2, 1) := by decide +kernel
theorem dX4_unlink_38 : decode cX4_unlink 38 = .ok (.invokestatic 51, 3) := by decide +kernel
theorem dX4_unlink_41 : decode cX4_unlink 41 = .ok (.ifCond .eq 7, 3) := by decide +kernel
theorem dX4_unlink_44 : decode cX4_unlink 44 = .ok (.iconst 0, 1) := by decide +kernel
theorem dX4_unlink_45 : decode cX4_unlink 45 = .ok (.goto 4, 3) := by decide +kernel
theorem dX4_unlink_48 : decode cX4_unlink 48 = .ok (.iconst 2, 1) := by decide +kernel
theorem dX4_unlink_49 : decode cX4_unlink 49 = .ok (.invokevirtual 61, 3) := by decide +kernel
theorem dX4_unlink_52 : decode cX4_unlink 52 = .ok (.ifCond .ne 5, 3) := by decide +kernel
theorem dX4_unlink_55 : decode cX4_unlink 55 = .ok (.iconst 0, 1) := by decide +kernel
theorem dX4_unlink_56 : decode cX4_unlink 56 = .ok (.ireturn, 1) := by decide +kernel
theorem dX4_unlink_57 : decode cX4_unlink 57 = .ok (.aload_n 0, 1) := by decide +kernel
theorem dX4_unlink_58 : decode cX4_unlink 58 = .ok (.getfield 7, 3) := by decide +kernel
theorem dX4_unlink_61 : decode cX4_unlink 61 = .ok (.iload_n 1, 1) := by decide +kernel
theorem dX4_unlink_62 : decode cX4_unlink 62 = .ok (.dup2, 1) := by decide +kernel
theorem dX4_unlink_63 : decode cX4_unlink 63 = .ok (.iaload, 1) := by decide +kernel
theorem dX4_unlink_64 : decode cX4_unlink 64 = .ok (.iconst 1, 1) := by decide +kernel
theorem dX4_unlink_65 : decode cX4_unlink 65 = .ok (.iload_n 2, 1) := by decide +kernel
theorem dX4_unlink_66 : decode cX4_unlink 66 = .ok (.ishl, 1) := by decide +kernel
theorem dX4_unlink_67 : decode cX4_unlink 67 = .ok (.iconst (-1), 1) := by decide +kernel
theorem dX4_unlink_68 : decode cX4_unlink 68 = .ok (.ixor, 1) := by decide +kernel
theorem dX4_unlink_69 : decode cX4_unlink 69 = .ok (.iand, 1) := by decide +kernel
theorem dX4_unlink_70 : decode cX4_unlink 70 = .ok (.iastore, 1) := by decide +kernel
theorem dX4_unlink_71 : decode cX4_unlink 71 = .ok (.aload_n 0, 1) := by decide +kernel
theorem dX4_unlink_72 : decode cX4_unlink 72 = .ok (.getfield 7, 3) := by decide +kernel
theorem dX4_unlink_75 : decode cX4_unlink 75 = .ok (.iload_n 1, 1) := by decide +kernel
theorem dX4_unlink_76 : decode cX4_unlink 76 = .ok (.iaload, 1) := by decide +kernel
theorem dX4_unlink_77 : decode cX4_unlink 77 = .ok (.invokestatic 68, 3) := by decide +kernel
theorem dX4_unlink_80 : decode cX4_unlink 80 = .ok (.ireturn, 1) := by decide +kernel
theorem dX4_placeOf_0 : decode cX4_placeOf 0 = .ok (.iconst (-1), 1) := by decide +kernel
theorem dX4_placeOf_1 : decode cX4_placeOf 1 = .ok (.istore_n 3, 1) := by decide +kernel
theorem dX4_placeOf_2 : decode cX4_placeOf 2 = .ok (.iconst 0, 1) := by decide +kernel
theorem dX4_placeOf_3 : decode cX4_placeOf 3 = .ok (.istore 4, 2) := by decide +kernel
theorem dX4_placeOf_5 : decode cX4_placeOf 5 = .ok (.iload 4, 2) := by decide +kernel
theorem dX4_placeOf_7 : decode cX4_placeOf 7 = .ok (.aload_n 0, 1) := by decide +kernel
theorem dX4_placeOf_8 : decode cX4_placeOf 8 = .ok (.getfield 19, 3) := by decide +kernel
theorem dX4_placeOf_11 : decode cX4_placeOf 11 = .ok (.iload_n 1, 1) := by decide +kernel
theorem dX4_placeOf_12 : decode cX4_placeOf 12 = .ok (.iaload, 1) := by decide +kernel
theorem dX4_placeOf_13 : decode cX4_placeOf 13 = .ok (.if_icmp .ge 31, 3) := by decide +kernel
theorem dX4_placeOf_16 : decode cX4_placeOf 16 = .ok (.aload_n 0, 1) := by decide +kernel
theorem dX4_placeOf_17 : decode cX4_placeOf 17 = .ok (.getfield 16, 3) := by decide +kernel
theorem dX4_placeOf_20 : decode cX4_placeOf 20 = .ok (.iconst 5, 1) := by decide +kernel
theorem dX4_placeOf_21 : decode cX4_placeOf 21 = .ok (.iload_n 1, 1) := by decide +kernel
theorem dX4_placeOf_22 : decode cX4_placeOf 22 = .ok (.imul, 1) := by decide +kernel
theorem dX4_placeOf_23 : decode cX4_placeOf 23 = .ok (.iload 4, 2) := by decide +kernel
theorem dX4_placeOf_25 : decode cX4_placeOf 25 = .ok (.iadd, 1) := by decide +kernel
theorem dX4_placeOf_26 : decode cX4_placeOf 26 = .ok (.iaload, 1) := by decide +kernel
theorem dX4_placeOf_27 : decode cX4_placeOf 27 = .ok (.iload_n 2, 1) := by decide +kernel
theorem dX4_placeOf_28 : decode cX4_placeOf 28 = .ok (.if_icmp .ne 8, 3) := by decide +kernel
theorem dX4_placeOf_31 : decode cX4_placeOf 31 = .ok (.iload 4, 2) := by decide +kernel
theorem dX4_placeOf_33 : decode cX4_placeOf 33 = .ok (.goto 4, 3) := by decide +kernel
theorem dX4_placeOf_36 : decode cX4_placeOf 36 = .ok (.iload_n 3, 1) := by decide +kernel
theorem dX4_placeOf_37 : decode cX4_placeOf 37 = .ok (.istore_n 3, 1) := by decide +kernel
theorem dX4_placeOf_38 : decode cX4_placeOf 38 = .ok (.iinc 4 1, 3) := by decide +kernel
theorem dX4_placeOf_41 : decode cX4_placeOf 41 = .ok (.goto (-36), 3) := by decide +kernel
theorem dX4_placeOf_44 : decode cX4_placeOf 44 = .ok (.iload_n 3, 1) := by decide +kernel
theorem dX4_placeOf_45 : decode cX4_placeOf 45 = .ok (.ireturn, 1) := by decide +kernel
theorem dX4_without_0 : decode cX4_without 0 = .ok (.aload_n 0, 1) := by decide +kernel
theorem dX4_without_1 : decode cX4_without 1 = .ok (.getfield 7, 3) := by decide +kernel
theorem dX4_without_4 : decode cX4_without 4 = .ok (.iload_n 1, 1) := by decide +kernel
theorem dX4_without_5 : decode cX4_without 5 = .ok (.iaload, 1) := by decide +kernel
theorem dX4_without_6 : decode cX4_without 6 = .ok (.aload_n 0, 1) := by decide +kernel
theorem dX4_without_7 : decode cX4_without 7 = .ok (.getfield 7, 3) := by decide +kernel
theorem dX4_without_10 : decode cX4_without 10 = .ok (.iload_n 2, 1) := by decide +kernel
theorem dX4_without_11 : decode cX4_without 11 = .ok (.iaload, 1) := by decide +kernel
theorem dX4_without_12 : decode cX4_without 12 = .ok (.ior, 1) := by decide +kernel
theorem dX4_without_13 : decode cX4_without 13 = .ok (.iconst 1, 1) := by decide +kernel
theorem dX4_without_14 : decode cX4_without 14 = .ok (.iload_n 2, 1) := by decide +kernel
theorem dX4_without_15 : decode cX4_without 15 = .ok (.ishl, 1) := by decide +kernel
theorem dX4_without_16 : decode cX4_without 16 = .ok (.iconst (-1), 1) := by decide +kernel
theorem dX4_without_17 : decode cX4_without 17 = .ok (.ixor, 1) := by decide +kernel
theorem dX4_without_18 : decode cX4_without 18 = .ok (.iand, 1) := by decide +kernel
theorem dX4_without_19 : decode cX4_without 19 = .ok (.ireturn, 1) := by decide +kernel
set_option maxRecDepth 20000 in
theorem ggX4_isChild_X4_has : GoodIn wsX4_isChild wsX4_has := goodIn_r _ [6] (by decide +kernel) (by decide +kernel)
set_option maxRecDepth 20000 in
theorem gX4_isChild_X4_has : GoodIn wsX4_isChild (va_wsS RX4 51 yX4_has wsX4_has) := goodIn_app (goodIn_of _ (by decide +kernel)) ggX4_isChild_X4_has
theorem dX4_isChild_0 : decode cX4_isChild 0 = .ok (.aload_n 0, 1) := by decide +kernel
theorem dX4_isChild_1 : decode cX4_isChild 1 = .ok (.getfield 48, 3) := by decide +kernel
theorem dX4_isChild_4 : decode cX4_isChild 4 = .ok (.iload_n 1, 1) := by decide +kernel
theorem dX4_isChild_5 : decode cX4_isChild 5 = .ok (.invokestatic 51, 3) := by decide +kernel
theorem dX4_isChild_8 : decode cX4_isChild 8 = .ok (.ifCond .eq 20, 3) := by decide +kernel
theorem dX4_isChild_11 : decode cX4_isChild 11 = .ok (.aload_n 0, 1) := by decide +kernel
theorem dX4_isChild_12 : decode cX4_isChild 12 = .ok (.getfield 7, 3) := by decide +kernel
theorem dX4_isChild_15 : decode cX4_isChild 15 = .ok (.iload_n 1, 1) := by decide +kernel
theorem dX4_isChild_16 : decode cX4_isChild 16 = .ok (.iaload, 1) := by decide +kernel
theorem dX4_isChild_17 : decode cX4_isChild 17 = .ok (.iload_n 2, 1) := by decide +kernel
theorem dX4_isChild_18 : decode cX4_isChild 18 = .ok (.invokestatic 51, 3) := by decide +kernel
theorem dX4_isChild_21 : decode cX4_isChild 21 = .ok (.ifCond .eq 7, 3) := by decide +kernel
theorem dX4_isChild_24 : decode cX4_isChild 24 = .ok (.iconst 1, 1) := by decide +kernel
theorem dX4_isChild_25 : decode cX4_isChild 25 = .ok (.goto 4, 3) := by decide +kernel
theorem dX4_isChild_28 : decode cX4_isChild 28 = .ok (.iconst 0, 1) := by decide +kernel
theorem dX4_isChild_29 : decode cX4_isChild 29 = .ok (.ireturn, 1) := by decide +kernel
set_option maxRecDepth 20000 in
theorem ggX4_remove_X4_isSense : GoodIn wsX4_remove wsX4_isSense := goodIn_r _ [9, 3, 10, 11, 8, 12, 13, 14, 15, 38, 39, 40, 41, 42, 43, 44, 45, 46, 47, 48, 49, 50, 51, 52] (by decide +kernel) (by decide +kernel)
set_option maxRecDepth 20000 in
theorem gX4_remove_X4_isSense : GoodIn wsX4_remove (wsV RX4 65 RX4 yX4_isSense wsX4_isSense) := goodIn_app (goodIn_of _ (by decide +kernel)) ggX4_remove_X4_isSense
set_option maxRecDepth 20000 in
theorem ggX4_remove_X4_placeOf : GoodIn wsX4_remove wsX4_placeOf := goodIn_r _ [19, 20, 21, 38, 39, 40, 41, 42, 43, 44, 45, 46, 47, 48, 49, 50, 51, 52] (by decide +kernel) (by decide +kernel)
set_option maxRecDepth 20000 in
theorem gX4_remove_X4_placeOf : GoodIn wsX4_remove (wsV RX4 78 RX4 yX4_placeOf wsX4_placeOf) := goodIn_app (goodIn_of _ (by decide +kernel)) ggX4_remove_X4_placeOf
set_option maxRecDepth 20000 in
theorem ggX4_remove_X4_isChild : GoodIn wsX4_remove wsX4_isChild := goodIn_r _ [25, 3, 2, 13, 14, 8, 15, 38, 39, 40, 41, 42, 43, 44, 45, 46, 47, 48, 49, 50, 51, 52] (by decide +kernel) (by decide +kernel)
set_option maxRecDepth 20000 in
theorem gX4_remove_X4_isChild : GoodIn wsX4_remove (wsV RX4 82 RX4 yX4_isChild wsX4_isChild) := goodIn_app (goodIn_of _ (by decide +kernel)) ggX4_remove_X4_isChild
set_option maxRecDepth 20000 in
theorem ggX4_remove_X4_without : GoodIn wsX4_remove wsX4_without := goodIn_r _ [29, 2, 38, 39, 40, 41, 42, 43, 44, 45, 46, 47, 48, 49, 50, 51, 52] (by decide +kernel) (by decide +kernel)
set_option maxRecDepth 20000 in
theorem gX4_remove_X4_without : GoodIn wsX4_remove (wsV RX4 85 RX4 yX4_without wsX4_without) := goodIn_app (goodIn_of _ (by decide +kernel)) ggX4_remove_X4_without
set_option maxRecDepth 20000 in
theorem ggX4_remove_X4_sizeOf : GoodIn wsX4_remove wsX4_sizeOf := goodIn_r _ [32] (by decide +kernel) (by decide +kernel)
set_option maxRecDepth 20000 in
theorem gX4_remove_X4_sizeOf : GoodIn wsX4_remove (va_wsS RX4 68 yX4_sizeOf wsX4_sizeOf) := goodIn_app (goodIn_of _ (by decide +kernel)) ggX4_remove_X4_sizeOf
set_option maxRecDepth 20000 in
theorem ggX4_remove_X4_goesWell : GoodIn wsX4_remove wsX4_goesWell := goodIn_r _ [36, 37, 38, 39, 40, 41, 42, 43, 44, 45, 46, 47, 48, 49, 50, 51, 52] (by decide +kernel) (by decide +kernel)
set_option maxRecDepth 20000 in
theorem gX4_remove_X4_goesWell : GoodIn wsX4_remove (wsV RX4 61 RX4 yX4_goesWell wsX4_goesWell) := goodIn_app (goodIn_of _ (by decide +kernel)) ggX4_remove_X4_goesWell
theorem dX4_remove_0 : decode cX4_remove 0 = .ok (.iconst 0, 1) := by decide +kernel
theorem dX4_remove_1 : decode cX4_remove 1 = .ok (.istore_n 2, 1) := by decide +kernel
theorem dX4_remove_2 : decode cX4_remove 2 = .ok (.iconst 0, 1) := by decide +kernel
theorem dX4_remove_3 : decode cX4_remove 3 = .ok (.istore_n 3, 1) := by decide +kernel
theorem dX4_remove_4 : decode cX4_remove 4 = .ok (.iconst 0, 1) := by decide +kernel
theorem dX4_remove_5 : decode cX4_remove 5 = .ok (.istore 4, 2) := by decide +kernel
theorem dX4_remove_7 : decode cX4_remove 7 = .ok (.iload 4, 2) := by decide +kernel
theorem dX4_remove_9 : decode cX4_remove 9 = .ok (.aload_n 0, 1) := by decide +kernel
theorem dX4_remove_10 : decode cX4_remove 10 = .ok (.getfield 55, 3) := by decide +kernel
theorem dX4_remove_13 : decode cX4_remove 13 = .ok (.if_icmp .ge 38, 3) := by decide +kernel
theorem dX4_remove_16 : decode cX4_remove 16 = .ok (.aload_n 0, 1) := by decide +kernel
theorem dX4_remove_17 : decode cX4_remove 17 = .ok (.iload_n 1, 1) := by decide +kernel
theorem dX4_remove_18 : decode cX4_remove 18 = .ok (.invokevirtual 65, 3) := by decide +kernel
theorem dX4_remove_21 : decode cX4_remove 21 = .ok (.ifCond .eq 30, 3) := by decide +kernel
theorem dX4_remove_24 : decode cX4_remove 24 = .ok (.iload_n 2, 1) := by decide +kernel
theorem dX4_remove_25 : decode cX4_remove 25 = .ok (.ifCond .ne 14, 3) := by decide +kernel
theorem dX4_remove_28 : decode cX4_remove 28 = .ok (.aload_n 0, 1) := by decide +kernel
theorem dX4_remove_29 : decode cX4_remove 29 = .ok (.iload 4, 2) := by decide +kernel
theorem dX4_remove_31 : decode cX4_remove 31 = .ok (.iload_n 1, 1) := by decide +kernel
theorem dX4_remove_32 : decode cX4_remove 32 = .ok (.invokevirtual 78, 3) := by decide +kernel
theorem dX4_remove_35 : decode cX4_remove 35 = .ok (.iconst (-1), 1) := by decide +kernel
theorem dX4_remove_36 : decode cX4_remove 36 = .ok (.if_icmp .eq 7, 3) := by decide +kernel
theorem dX4_remove_39 : decode cX4_remove 39 = .ok (.iconst 1, 1) := by decide +kernel
theorem dX4_remove_40 : decode cX4_remove 40 = .ok (.goto 4, 3) := by decide +kernel
theorem dX4_remove_43 : decode cX4_remove 43 = .ok (.iconst 0, 1) := by decide +kernel
theorem dX4_remove_44 : decode cX4_remove 44 = .ok (.istore_n 2, 1) := by decide +kernel
theorem dX4_remove_45 : decode cX4_remove 45 = .ok (.iinc 4 1, 3) := by decide +kernel
theorem dX4_remove_48 : decode cX4_remove 48 = .ok (.goto (-41), 3) := by decide +kernel
theorem dX4_remove_51 : decode cX4_remove 51 = .ok (.iconst 0, 1) := by decide +kernel
theorem dX4_remove_52 : decode cX4_remove 52 = .ok (.istore 4, 2) := by decide +kernel
theorem dX4_remove_54 : decode cX4_remove 54 = .ok (.iload 4, 2) := by decide +kernel
theorem dX4_remove_56 : decode cX4_remove 56 = .ok (.bipush 30, 2) := by decide +kernel
theorem dX4_remove_58 : decode cX4_remove 58 = .ok (.if_icmp .ge 69, 3) := by decide +kernel
theorem dX4_remove_61 : decode cX4_remove 61 = .ok (.aload_n 0, 1) := by decide +kernel
theorem dX4_remove_62 : decode cX4_remove 62 = .ok (.iload_n 1, 1) := by decide +kernel
theorem dX4_remove_63 : decode cX4_remove 63 = .ok (.invokevirtual 65, 3) := by decide +kernel
theorem dX4_remove_66 : decode cX4_remove 66 = .ok (.ifCond .eq 61, 3) := by decide +kernel
theorem dX4_remove_69 : decode cX4_remove 69 = .ok (.iload_n 2, 1) := by decide +kernel
theorem dX4_remove_70 : decode cX4_remove 70 = .ok (.ifCond .ne 27, 3) := by decide +kernel
theorem dX4_remove_73 : decode cX4_remove 73 = .ok (.aload_n 0, 1) := by decide +kernel
theorem dX4_remove_74 : decode cX4_remove 74 = .ok (.iload 4, 2) := by decide +kernel
theorem dX4_remove_76 : decode cX4_remove 76 = .ok (.iload_n 1, 1) := by decide +kernel
theorem dX4_remove_77 : decode cX4_remove 77 = .ok (.invokevirtual 82, 3) := by decide +kernel
theorem dX4_remove_80 : decode cX4_remove 80 = .ok (.ifCond .eq 21, 3) := by decide +kernel
theorem dX4_remove_83 : decode cX4_remove 83 = .ok (.aload_n 0, 1) := by decide +kernel
theorem dX4_remove_84 : decode cX4_remove 84 = .ok (.iload 4, 2) := by decide +kernel
theorem dX4_remove_86 : decode cX4_remove 86 = .ok (.iload_n 1, 1) := by decide +kernel
theorem dX4_remove_87 : decode cX4_remove 87 = .ok (.invokevirtual 85, 3) := by decide +kernel
theorem dX4_remove_90 : decode cX4_remove 90 = .ok (.invokestatic 68, 3) := by decide +kernel
theorem dX4_remove_93 : decode cX4_remove 93 = .ok (.iconst 4, 1) := by decide +kernel
theorem dX4_remove_94 : decode cX4_remove 94 = .ok (.if_icmp .le 7, 3) := by decide +kernel
theorem dX4_remove_97 : decode cX4_remove 97 = .ok (.iconst 1, 1) := by decide +kernel
theorem dX4_remove_98 : decode cX4_remove 98 = .ok (.goto 4, 3) := by decide +kernel
theorem dX4_remove_101 : decode cX4_remove 101 = .ok (.iconst 0, 1) := by decide +kernel
theorem dX4_remove_102 : decode cX4_remove 102 = .ok (.istore_n 2, 1) := by decide +kernel
theorem dX4_remove_103 : decode cX4_remove 103 = .ok (.iload_n 3, 1) := by decide +kernel
theorem dX4_remove_104 : decode cX4_remove 104 = .ok (.aload_n 0, 1) := by decide +kernel
theorem dX4_remove_105 : decode cX4_remove 105 = .ok (.iload 4, 2) := by decide +kernel
theorem dX4_remove_107 : decode cX4_remove 107 = .ok (.iload_n 1, 1) := by decide +kernel
theorem dX4_remove_108 : decode cX4_remove 108 = .ok (.invokevirtual 82, 3) := by decide +kernel
theorem dX4_remove_111 : decode cX4_remove 111 = .ok (.ifCond .eq 7, 3) := by decide +kernel
theorem dX4_remove_114 : decode cX4_remove 114 = .ok (.iconst 1, 1) := by decide +kernel
theorem dX4_remove_115 : decode cX4_remove 115 = .ok (.goto 4, 3) := by decide +kernel
theorem dX4_remove_118 : decode cX4_remove 118 = .ok (.iconst 0, 1) := by decide +kernel
theorem dX4_remove_119 : decode cX4_remove 119 = .ok (.iadd, 1) := by decide +kernel
theorem dX4_remove_120 : decode cX4_remove 120 = .ok (.istore_n 3, 1) := by decide +kernel
theorem dX4_remove_121 : decode cX4_remove 121 = .ok (.iinc 4 1, 3) := by decide +kernel
theorem dX4_remove_124 : decode cX4_remove 124 = .ok (.goto (-70), 3) := by decide +kernel
theorem dX4_remove_127 : decode cX4_remove 127 = .ok (.aload_n 0, 1) := by decide +kernel
theorem dX4_remove_128 : decode cX4_remove 128 = .ok (.aload_n 0, 1) := by decide +kernel
theorem dX4_remove_129 : decode cX4_remove 129 = .ok (.iload_n 1, 1) := by decide +kernel
theorem dX4_remove_130 : decode cX4_remove 130 = .ok (.invokevirtual 65, 3) := by decide +kernel
theorem dX4_remove_133 : decode cX4_remove 133 = .ok (.ifCond .ne 7, 3) := by decide +kernel
theorem dX4_remove_136 : decode cX4_remove 136 = .ok (.iconst 1, 1) := by decide +kernel
theorem dX4_remove_137 : decode cX4_remove 137 = .ok (.goto 12, 3) := by decide +kernel
theorem dX4_remove_140 : decode cX4_remove 140 = .ok (.iload_n 2, 1) := by decide +kernel
theorem dX4_remove_141 : decode cX4_remove 141 = .ok (.ifCond .eq 7, 3) := by decide +kernel
theorem dX4_remove_144 : decode cX4_remove 144 = .ok (.iconst 2, 1) := by decide +kernel
theorem dX4_remove_145 : decode cX4_remove 145 = .ok (.goto 4, 3) := by decide +kernel
theorem dX4_remove_148 : decode cX4_remove 148 = .ok (.iconst 0, 1) := by decide +kernel
theorem dX4_remove_149 : decode cX4_remove 149 = .ok (.invokevirtual 61, 3) := by decide +kernel
theorem dX4_remove_152 : decode cX4_remove 152 = .ok (.ifCond .ne 5, 3) := by decide +kernel
theorem dX4_remove_155 : decode cX4_remove 155 = .ok (.iconst 0, 1) := by decide +kernel
theorem dX4_remove_156 : decode cX4_remove 156 = .ok (.ireturn, 1) := by decide +kernel
theorem dX4_remove_157 : decode cX4_remove 157 = .ok (.iconst 0, 1) := by decide +kernel
theorem dX4_remove_158 : decode cX4_remove 158 = .ok (.istore 4, 2) := by decide +kernel
theorem dX4_remove_160 : decode cX4_remove 160 = .ok (.iload 4, 2) := by decide +kernel
theorem dX4_remove_162 : decode cX4_remove 162 = .ok (.bipush 30, 2) := by decide +kernel
theorem dX4_remove_164 : decode cX4_remove 164 = .ok (.if_icmp .ge 43, 3) := by decide +kernel
theorem dX4_remove_167 : decode cX4_remove 167 = .ok (.aload_n 0, 1) := by decide +kernel
theorem dX4_remove_168 : decode cX4_remove 168 = .ok (.getfield 7, 3) := by decide +kernel
theorem dX4_remove_171 : decode cX4_remove 171 = .ok (.iload 4, 2) := by decide +kernel
theorem dX4_remove_173 : decode cX4_remove 173 = .ok (.aload_n 0, 1) := by decide +kernel
theorem dX4_remove_174 : decode cX4_remove 174 = .ok (.iload 4, 2) := by decide +kernel
theorem dX4_remove_176 : decode cX4_remove 176 = .ok (.iload_n 1, 1) := by decide +kernel
theorem dX4_remove_177 : decode cX4_remove 177 = .ok (.invokevirtual 82, 3) := by decide +kernel
theorem dX4_remove_180 : decode cX4_remove 180 = .ok (.ifCond .eq 13, 3) := by decide +kernel
theorem dX4_remove_183 : decode cX4_remove 183 = .ok (.aload_n 0, 1) := by decide +kernel
theorem dX4_remove_184 : decode cX4_remove 184 = .ok (.iload 4, 2) := by decide +kernel
theorem dX4_remove_186 : decode cX4_remove 186 = .ok (.iload_n 1, 1) := by decide +kernel
theorem dX4_remove_187 : decode cX4_remove 187 = .ok (.invokevirtual 85, 3) := by decide +kernel
theorem dX4_remove_190 : decode cX4_remove 190 = .ok (.goto 10, 3) := by decide +kernel
theorem dX4_remove_193 : decode cX4_remove 193 = .ok (.aload_n 0, 1) := by decide +kernel
theorem dX4_remove_194 : decode cX4_remove 194 = .ok (.getfield 7, 3) := by decide +kernel
theorem dX4_remove_197 : decode cX4_remove 197 = .ok (.iload 4, 2) := by decide +kernel
theorem dX4_remove_199 : decode cX4_remove 199 = .ok (.iaload, 1) := by decide +kernel
theorem dX4_remove_200 : decode cX4_remove 200 = .ok (.iastore, 1) := by decide +kernel
theorem dX4_remove_201 : decode cX4_remove 201 = .ok (.iinc 4 1, 3) := by decide +kernel
theorem dX4_remove_204 : decode cX4_remove 204 = .ok (.goto (-44), 3) := by decide +kernel
theorem dX4_remove_207 : decode cX4_remove 207 = .ok (.aload_n 0, 1) := by decide +kernel
theorem dX4_remove_208 : decode cX4_remove 208 = .ok (.dup, 1) := by decide +kernel
theorem dX4_remove_209 : decode cX4_remove 209 = .ok (.getfield 48, 3) := by decide +kernel
theorem dX4_remove_212 : decode cX4_remove 212 = .ok (.iconst 1, 1) := by decide +kernel
theorem dX4_remove_213 : decode cX4_remove 213 = .ok (.iload_n 1, 1) := by decide +kernel
theorem dX4_remove_214 : decode cX4_remove 214 = .ok (.ishl, 1) := by decide +kernel
theorem dX4_remove_215 : decode cX4_remove 215 = .ok (.iconst (-1), 1) := by decide +kernel
theorem dX4_remove_216 : decode cX4_remove 216 = .ok (.ixor, 1) := by decide +kernel
theorem dX4_remove_217 : decode cX4_remove 217 = .ok (.iand, 1) := by decide +kernel
theorem dX4_remove_218 : decode cX4_remove 218 = .ok (.putfield 48, 3) := by decide +kernel
theorem dX4_remove_221 : decode cX4_remove 221 = .ok (.aload_n 0, 1) := by decide +kernel
theorem dX4_remove_222 : decode cX4_remove 222 = .ok (.getfield 13, 3) := by decide +kernel
theorem dX4_remove_225 : decode cX4_remove 225 = .ok (.iload_n 1, 1) := by decide +kernel
theorem dX4_remove_226 : decode cX4_remove 226 = .ok (.iconst 0, 1) := by decide +kernel
theorem dX4_remove_227 : decode cX4_remove 227 = .ok (.iastore, 1) := by decide +kernel
theorem dX4_remove_228 : decode cX4_remove 228 = .ok (.iload_n 3, 1) := by decide +kernel
theorem dX4_remove_229 : decode cX4_remove 229 = .ok (.ireturn, 1) := by decide +kernel
set_option maxRecDepth 20000 in
theorem ggX4_setCount_X4_isSense : GoodIn wsX4_setCount wsX4_isSense := goodIn_r _ [6, 7, 8, 9, 5, 10, 11, 12, 13, 19, 20, 21, 22, 23, 24, 25, 26, 27, 28, 29, 30, 31, 32, 33] (by decide +kernel) (by decide +kernel)
set_option maxRecDepth 20000 in
theorem gX4_setCount_X4_isSense : GoodIn wsX4_setCount (wsV RX4 65 RX4 yX4_isSense wsX4_isSense) := goodIn_app (goodIn_of _ (by decide +kernel)) ggX4_setCount_X4_isSense
set_option maxRecDepth 20000 in
theorem ggX4_setCount_X4_in : GoodIn wsX4_setCount wsX4_in := goodIn_r _ [10] (by decide +kernel) (by decide +kernel)
set_option maxRecDepth 20000 in
theorem gX4_setCount_X4_in : GoodIn wsX4_setCount (va_wsS RX4 44 yX4_in wsX4_in) := goodIn_app (goodIn_of _ (by decide +kernel)) ggX4_setCount_X4_in
set_option maxRecDepth 20000 in
theorem ggX4_setCount_X4_goesWell : GoodIn wsX4_setCount wsX4_goesWell := goodIn_r _ [17, 18, 19, 20, 21, 22, 23, 24, 25, 26, 27, 28, 29, 30, 31, 32, 33] (by decide +kernel) (by decide +kernel)
set_option maxRecDepth 20000 in
theorem gX4_setCount_X4_goesWell : GoodIn wsX4_setCount (wsV RX4 61 RX4 yX4_goesWell wsX4_goesWell) := goodIn_app (goodIn_of _ (by decide +kernel)) ggX4_setCount_X4_goesWell
theorem dX4_setCount_0 : decode cX4_setCount 0 = .ok (.aload_n 0, 1) := by decide +kernel
theorem dX4_setCount_1 : decode cX4_setCount 1 = .ok (.aload_n 0, 1) := by decide +kernel
theorem dX4_setCount_2 : decode cX4_setCount 2 = .ok (.iload_n 1, 1) := by decide +kernel
theorem dX4_setCount_3 : decode cX4_setCount 3 = .ok (.invokevirtual 65, 3) := by decide +kernel
theorem dX4_setCount_6 : decode cX4_setCount 6 = .ok (.ifCond .ne 7, 3) := by decide +kernel
theorem dX4_setCount_9 : decode cX4_setCount 9 = .ok (.iconst 1, 1) := by decide +kernel
theorem dX4_setCount_10 : decode cX4_setCount 10 = .ok (.goto 19, 3) := by decide +kernel
theorem dX4_setCount_13 : decode cX4_setCount 13 = .ok (.iload_n 2, 1) := by decide +kernel
theorem dX4_setCount_14 : decode cX4_setCount 14 = .ok (.iconst 0, 1) := by decide +kernel
theorem dX4_setCount_15 : decode cX4_setCount 15 = .ok (.sipush 1000, 3) := by decide +kernel
theorem dX4_setCount_18 : decode cX4_setCount 18 = .ok (.invokestatic 44, 3) := by decide +kernel
theorem dX4_setCount_21 : decode cX4_setCount 21 = .ok (.ifCond .eq 7, 3) := by decide +kernel
theorem dX4_setCount_24 : decode cX4_setCount 24 = .ok (.iconst 0, 1) := by decide +kernel
theorem dX4_setCount_25 : decode cX4_setCount 25 = .ok (.goto 4, 3) := by decide +kernel
theorem dX4_setCount_28 : decode cX4_setCount 28 = .ok (.iconst 2, 1) := by decide +kernel
theorem dX4_setCount_29 : decode cX4_setCount 29 = .ok (.invokevirtual 61, 3) := by decide +kernel
theorem dX4_setCount_32 : decode cX4_setCount 32 = .ok (.ifCond .ne 5, 3) := by decide +kernel
theorem dX4_setCount_35 : decode cX4_setCount 35 = .ok (.iconst 0, 1) := by decide +kernel
theorem dX4_setCount_36 : decode cX4_setCount 36 = .ok (.ireturn, 1) := by decide +kernel
theorem dX4_setCount_37 : decode cX4_setCount 37 = .ok (.aload_n 0, 1) := by decide +kernel
theorem dX4_setCount_38 : decode cX4_setCount 38 = .ok (.getfield 13, 3) := by decide +kernel
theorem dX4_setCount_41 : decode cX4_setCount 41 = .ok (.iload_n 1, 1) := by decide +kernel
theorem dX4_setCount_42 : decode cX4_setCount 42 = .ok (.iaload, 1) := by decide +kernel
theorem dX4_setCount_43 : decode cX4_setCount 43 = .ok (.istore_n 3, 1) := by decide +kernel
theorem dX4_setCount_44 : decode cX4_setCount 44 = .ok (.aload_n 0, 1) := by decide +kernel
theorem dX4_setCount_45 : decode cX4_setCount 45 = .ok (.getfield 13, 3) := by decide +kernel
theorem dX4_setCount_48 : decode cX4_setCount 48 = .ok (.iload_n 1, 1) := by decide +kernel
theorem dX4_setCount_49 : decode cX4_setCount 49 = .ok (.iload_n 2, 1) := by decide +kernel
theorem dX4_setCount_50 : decode cX4_setCount 50 = .ok (.iastore, 1) := by decide +kernel
theorem dX4_setCount_51 : decode cX4_setCount 51 = .ok (.iload_n 3, 1) := by decide +kernel
theorem dX4_setCount_52 : decode cX4_setCount 52 = .ok (.ireturn, 1) := by decide +kernel
set_option maxRecDepth 20000 in
theorem ggX4_addWord_X4_goesWell : GoodIn wsX4_addWord wsX4_goesWell := goodIn_r _ [8, 9, 10, 11, 12, 13, 14, 15, 16, 17, 18, 19, 20, 21, 22, 23, 24] (by decide +kernel) (by decide +kernel)
set_option maxRecDepth 20000 in
theorem gX4_addWord_X4_goesWell : GoodIn wsX4_addWord (wsV RX4 61 RX4 yX4_goesWell wsX4_goesWell) := goodIn_app (goodIn_of _ (by decide +kernel)) ggX4_addWord_X4_goesWell
theorem dX4_addWord_0 : decode cX4_addWord 0 = .ok (.aload_n 0, 1) := by decide +kernel
theorem dX4_addWord_1 : decode cX4_addWord 1 = .ok (.aload_n 0, 1) := by decide +kernel
theorem dX4_addWord_2 : decode cX4_addWord 2 = .ok (.getfield 55, 3) := by decide +kernel
theorem dX4_addWord_5 : decode cX4_addWord 5 = .ok (.bipush 10, 2) := by decide +kernel
theorem dX4_addWord_7 : decode cX4_addWord 7 = .ok (.if_icmp .ne 7, 3) := by decide +kernel
theorem dX4_addWord_10 : decode cX4_addWord 10 = .ok (.iconst 1, 1) := by decide +kernel
theorem dX4_addWord_11 : decode cX4_addWord 11 = .ok (.goto 4, 3) := by decide +kernel
theorem dX4_addWord_14 : decode cX4_addWord 14 = .ok (.iconst 0, 1) := by decide +kernel
theorem dX4_addWord_15 : decode cX4_addWord 15 = .ok (.invokevirtual 61, 3) := by decide +kernel
theorem dX4_addWord_18 : decode cX4_addWord 18 = .ok (.ifCond .ne 5, 3) := by decide +kernel
theorem dX4_addWord_21 : decode cX4_addWord 21 = .ok (.iconst 0, 1) := by decide +kernel
theorem dX4_addWord_22 : decode cX4_addWord 22 = .ok (.ireturn, 1) := by decide +kernel
theorem dX4_addWord_23 : decode cX4_addWord 23 = .ok (.aload_n 0, 1) := by decide +kernel
theorem dX4_addWord_24 : decode cX4_addWord 24 = .ok (.getfield 19, 3) := by decide +kernel
theorem dX4_addWord_27 : decode cX4_addWord 27 = .ok (.aload_n 0, 1) := by decide +kernel
theorem dX4_addWord_28 : decode cX4_addWord 28 = .ok (.getfield 55, 3) := by decide +kernel
theorem dX4_addWord_31 : decode cX4_addWord 31 = .ok (.iconst 0, 1) := by decide +kernel
theorem dX4_addWord_32 : decode cX4_addWord 32 = .ok (.iastore, 1) := by decide +kernel
theorem dX4_addWord_33 : decode cX4_addWord 33 = .ok (.aload_n 0, 1) := by decide +kernel
theorem dX4_addWord_34 : decode cX4_addWord 34 = .ok (.getfield 22, 3) := by decide +kernel
theorem dX4_addWord_37 : decode cX4_addWord 37 = .ok (.aload_n 0, 1) := by decide +kernel
theorem dX4_addWord_38 : decode cX4_addWord 38 = .ok (.getfield 55, 3) := by decide +kernel
theorem dX4_addWord_41 : decode cX4_addWord 41 = .ok (.iconst (-1), 1) := by decide +kernel
theorem dX4_addWord_42 : decode cX4_addWord 42 = .ok (.iastore, 1) := by decide +kernel
theorem dX4_addWord_43 : decode cX4_addWord 43 = .ok (.aload_n 0, 1) := by decide +kernel
theorem dX4_addWord_44 : decode cX4_addWord 44 = .ok (.dup, 1) := by decide +kernel
theorem dX4_addWord_45 : decode cX4_addWord 45 = .ok (.getfield 55, 3) := by decide +kernel
theorem dX4_addWord_48 : decode cX4_addWord 48 = .ok (.iconst 1, 1) := by decide +kernel
theorem dX4_addWord_49 : decode cX4_addWord 49 = .ok (.iadd, 1) := by decide +kernel
theorem dX4_addWord_50 : decode cX4_addWord 50 = .ok (.putfield 55, 3) := by decide +kernel
theorem dX4_addWord_53 : decode cX4_addWord 53 = .ok (.aload_n 0, 1) := by decide +kernel
theorem dX4_addWord_54 : decode cX4_addWord 54 = .ok (.getfield 55, 3) := by decide +kernel
theorem dX4_addWord_57 : decode cX4_addWord 57 = .ok (.iconst 1, 1) := by decide +kernel
theorem dX4_addWord_58 : decode cX4_addWord 58 = .ok (.isub, 1) := by decide +kernel
theorem dX4_addWord_59 : decode cX4_addWord 59 = .ok (.ireturn, 1) := by decide +kernel
set_option maxRecDepth 20000 in
theorem ggX4_give_X4_isWord : GoodIn wsX4_give wsX4_isWord := goodIn_r _ [7, 8, 9, 10, 6, 11, 29, 30, 31, 32, 33, 34, 35, 36, 37, 38, 39, 40, 41, 42, 43] (by decide +kernel) (by decide +kernel)
set_option maxRecDepth 20000 in
theorem gX4_give_X4_isWord : GoodIn wsX4_give (wsV RX4 88 RX4 yX4_isWord wsX4_isWord) := goodIn_app (goodIn_of _ (by decide +kernel)) ggX4_give_X4_isWord
set_option maxRecDepth 20000 in
theorem ggX4_give_X4_isSense : GoodIn wsX4_give wsX4_isSense := goodIn_r _ [15, 16, 9, 10, 6, 11, 17, 18, 19, 29, 30, 31, 32, 33, 34, 35, 36, 37, 38, 39, 40, 41, 42, 43] (by decide +kernel) (by decide +kernel)
set_option maxRecDepth 20000 in
theorem gX4_give_X4_isSense : GoodIn wsX4_give (wsV RX4 65 RX4 yX4_isSense wsX4_isSense) := goodIn_app (goodIn_of _ (by decide +kernel)) ggX4_give_X4_isSense
set_option maxRecDepth 20000 in
theorem ggX4_give_X4_placeOf : GoodIn wsX4_give wsX4_placeOf := goodIn_r _ [23, 1, 2, 29, 30, 31, 32, 33, 34, 35, 36, 37, 38, 39, 40, 41, 42, 43] (by decide +kernel) (by decide +kernel)
set_option maxRecDepth 20000 in
theorem gX4_give_X4_placeOf : GoodIn wsX4_give (wsV RX4 78 RX4 yX4_placeOf wsX4_placeOf) := goodIn_app (goodIn_of _ (by decide +kernel)) ggX4_give_X4_placeOf
set_option maxRecDepth 20000 in
theorem ggX4_give_X4_goesWell : GoodIn wsX4_give wsX4_goesWell := goodIn_r _ [27, 28, 29, 30, 31, 32, 33, 34, 35, 36, 37, 38, 39, 40, 41, 42, 43] (by decide +kernel) (by decide +kernel)
set_option maxRecDepth 20000 in
theorem gX4_give_X4_goesWell : GoodIn wsX4_give (wsV RX4 61 RX4 yX4_goesWell wsX4_goesWell) := goodIn_app (goodIn_of _ (by decide +kernel)) ggX4_give_X4_goesWell
theorem dX4_give_0 : decode cX4_give 0 = .ok (.aload_n 0, 1) := by decide +kernel
theorem dX4_give_1 : decode cX4_give 1 = .ok (.iload_n 1, 1) := by decide +kernel
theorem dX4_give_2 : decode cX4_give 2 = .ok (.invokevirtual 88, 3) := by decide +kernel
theorem dX4_give_5 : decode cX4_give 5 = .ok (.ifCond .eq 15, 3) := by decide +kernel
theorem dX4_give_8 : decode cX4_give 8 = .ok (.aload_n 0, 1) := by decide +kernel
theorem dX4_give_9 : decode cX4_give 9 = .ok (.iload_n 2, 1) := by decide +kernel
theorem dX4_give_10 : decode cX4_give 10 = .ok (.invokevirtual 65, 3) := by decide +kernel
theorem dX4_give_13 : decode cX4_give 13 = .ok (.ifCond .eq 7, 3) := by decide +kernel
theorem dX4_give_16 : decode cX4_give 16 = .ok (.iconst 1, 1) := by decide +kernel
theorem dX4_give_17 : decode cX4_give 17 = .ok (.goto 4, 3) := by decide +kernel
theorem dX4_give_20 : decode cX4_give 20 = .ok (.iconst 0, 1) := by decide +kernel
theorem dX4_give_21 : decode cX4_give 21 = .ok (.istore_n 3, 1) := by decide +kernel
theorem dX4_give_22 : decode cX4_give 22 = .ok (.iload_n 3, 1) := by decide +kernel
theorem dX4_give_23 : decode cX4_give 23 = .ok (.ifCond .eq 27, 3) := by decide +kernel
theorem dX4_give_26 : decode cX4_give 26 = .ok (.aload_n 0, 1) := by decide +kernel
theorem dX4_give_27 : decode cX4_give 27 = .ok (.iload_n 1, 1) := by decide +kernel
theorem dX4_give_28 : decode cX4_give 28 = .ok (.iload_n 2, 1) := by decide +kernel
theorem dX4_give_29 : decode cX4_give 29 = .ok (.invokevirtual 78, 3) := by decide +kernel
theorem dX4_give_32 : decode cX4_give 32 = .ok (.iconst (-1), 1) := by decide +kernel
theorem dX4_give_33 : decode cX4_give 33 = .ok (.if_icmp .ne 13, 3) := by decide +kernel
theorem dX4_give_36 : decode cX4_give 36 = .ok (.aload_n 0, 1) := by decide +kernel
theorem dX4_give_37 : decode cX4_give 37 = .ok (.getfield 19, 3) := by decide +kernel
theorem dX4_give_40 : decode cX4_give 40 = .ok (.iload_n 1, 1) := by decide +kernel
theorem dX4_give_41 : decode cX4_give 41 = .ok (.iaload, 1) := by decide +kernel
theorem dX4_give_42 : decode cX4_give 42 = .ok (.iconst 5, 1) := by decide +kernel
theorem dX4_give_43 : decode cX4_give 43 = .ok (.if_icmp .ne 7, 3) := by decide +kernel
theorem dX4_give_46 : decode cX4_give 46 = .ok (.iconst 1, 1) := by decide +kernel
theorem dX4_give_47 : decode cX4_give 47 = .ok (.goto 4, 3) := by decide +kernel
theorem dX4_give_50 : decode cX4_give 50 = .ok (.iconst 0, 1) := by decide +kernel
theorem dX4_give_51 : decode cX4_give 51 = .ok (.istore 4, 2) := by decide +kernel
theorem dX4_give_53 : decode cX4_give 53 = .ok (.aload_n 0, 1) := by decide +kernel
theorem dX4_give_54 : decode cX4_give 54 = .ok (.iload_n 3, 1) := by decide +kernel
theorem dX4_give_55 : decode cX4_give 55 = .ok (.ifCond .ne 7, 3) := by decide +kernel
theorem dX4_give_58 : decode cX4_give 58 = .ok (.iconst 1, 1) := by decide +kernel
theorem dX4_give_59 : decode cX4_give 59 = .ok (.goto 13, 3) := by decide +kernel
theorem dX4_give_62 : decode cX4_give 62 = .ok (.iload 4, 2) := by decide +kernel
theorem dX4_give_64 : decode cX4_give 64 = .ok (.ifCond .eq 7, 3) := by decide +kernel
theorem dX4_give_67 : decode cX4_give 67 = .ok (.iconst 2, 1) := by decide +kernel
theorem dX4_give_68 : decode cX4_give 68 = .ok (.goto 4, 3) := by decide +kernel
theorem dX4_give_71 : decode cX4_give 71 = .ok (.iconst 0, 1) := by decide +kernel
theorem dX4_give_72 : decode cX4_give 72 = .ok (.invokevirtual 61, 3) := by decide +kernel
theorem dX4_give_75 : decode cX4_give 75 = .ok (.ifCond .ne 5, 3) := by decide +kernel
theorem dX4_give_78 : decode cX4_give 78 = .ok (.iconst 0, 1) := by decide +kernel
theorem dX4_give_79 : decode cX4_give 79 = .ok (.ireturn, 1) := by decide +kernel
theorem dX4_give_80 : decode cX4_give 80 = .ok (.aload_n 0, 1) := by decide +kernel
theorem dX4_give_81 : decode cX4_give 81 = .ok (.getfield 16, 3) := by decide +kernel
theorem dX4_give_84 : decode cX4_give 84 = .ok (.iconst 5, 1) := by decide +kernel
theorem dX4_give_85 : decode cX4_give 85 = .ok (.iload_n 1, 1) := by decide +kernel
theorem dX4_give_86 : decode cX4_give 86 = .ok (.imul, 1) := by decide +kernel
theorem dX4_give_87 : decode cX4_give 87 = .ok (.aload_n 0, 1) := by decide +kernel
theorem dX4_give_88 : decode cX4_give 88 = .ok (.getfield 19, 3) := by decide +kernel
theorem dX4_give_91 : decode cX4_give 91 = .ok (.iload_n 1, 1) := by decide +kernel
theorem dX4_give_92 : decode cX4_give 92 = .ok (.iaload, 1) := by decide +kernel
theorem dX4_give_93 : decode cX4_give 93 = .ok (.iadd, 1) := by decide +kernel
theorem dX4_give_94 : decode cX4_give 94 = .ok (.iload_n 2, 1) := by decide +kernel
theorem dX4_give_95 : decode cX4_give 95 = .ok (.iastore, 1) := by decide +kernel
theorem dX4_give_96 : decode cX4_give 96 = .ok (.aload_n 0, 1) := by decide +kernel
theorem dX4_give_97 : decode cX4_give 97 = .ok (.getfield 19, 3) := by decide +kernel
theorem dX4_give_100 : decode cX4_give 100 = .ok (.iload_n 1, 1) := by decide +kernel
theorem dX4_give_101 : decode cX4_give 101 = .ok (.dup2, 1) := by decide +kernel
theorem dX4_give_102 : decode cX4_give 102 = .ok (.iaload, 1) := by decide +kernel
theorem dX4_give_103 : decode cX4_give 103 = .ok (.iconst 1, 1) := by decide +kernel
theorem dX4_give_104 : decode cX4_give 104 = .ok (.iadd, 1) := by decide +kernel
theorem dX4_give_105 : decode cX4_give 105 = .ok (.iastore, 1) := by decide +kernel
theorem dX4_give_106 : decode cX4_give 106 = .ok (.aload_n 0, 1) := by decide +kernel
theorem dX4_give_107 : decode cX4_give 107 = .ok (.getfield 19, 3) := by decide +kernel
theorem dX4_give_110 : decode cX4_give 110 = .ok (.iload_n 1, 1) := by decide +kernel
theorem dX4_give_111 : decode cX4_give 111 = .ok (.iaload, 1) := by decide +kernel
theorem dX4_give_112 : decode cX4_give 112 = .ok (.ireturn, 1) := by decide +kernel
theorem dX4_isSaid_0 : decode cX4_isSaid 0 = .ok (.iconst 0, 1) := by decide +kernel
theorem dX4_isSaid_1 : decode cX4_isSaid 1 = .ok (.istore_n 2, 1) := by decide +kernel
theorem dX4_isSaid_2 : decode cX4_isSaid 2 = .ok (.iconst 0, 1) := by decide +kernel
theorem dX4_isSaid_3 : decode cX4_isSaid 3 = .ok (.istore_n 3, 1) := by decide +kernel
theorem dX4_isSaid_4 : decode cX4_isSaid 4 = .ok (.iload_n 3, 1) := by decide +kernel
theorem dX4_isSaid_5 : decode cX4_isSaid 5 = .ok (.aload_n 0, 1) := by decide +kernel
theorem dX4_isSaid_6 : decode cX4_isSaid 6 = .ok (.getfield 91, 3) := by decide +kernel
theorem dX4_isSaid_9 : decode cX4_isSaid 9 = .ok (.if_icmp .ge 29, 3) := by decide +kernel
theorem dX4_isSaid_12 : decode cX4_isSaid 12 = .ok (.iload_n 2, 1) := by decide +kernel
theorem dX4_isSaid_13 : decode cX4_isSaid 13 = .ok (.ifCond .ne 13, 3) := by decide +kernel
theorem dX4_isSaid_16 : decode cX4_isSaid 16 = .ok (.aload_n 0, 1) := by decide +kernel
theorem dX4_isSaid_17 : decode cX4_isSaid 17 = .ok (.getfield 25, 3) := by decide +kernel
theorem dX4_isSaid_20 : decode cX4_isSaid 20 = .ok (.iload_n 3, 1) := by decide +kernel
theorem dX4_isSaid_21 : decode cX4_isSaid 21 = .ok (.iaload, 1) := by decide +kernel
theorem dX4_isSaid_22 : decode cX4_isSaid 22 = .ok (.iload_n 1, 1) := by decide +kernel
theorem dX4_isSaid_23 : decode cX4_isSaid 23 = .ok (.if_icmp .ne 7, 3) := by decide +kernel
theorem dX4_isSaid_26 : decode cX4_isSaid 26 = .ok (.iconst 1, 1) := by decide +kernel
theorem dX4_isSaid_27 : decode cX4_isSaid 27 = .ok (.goto 4, 3) := by decide +kernel
theorem dX4_isSaid_30 : decode cX4_isSaid 30 = .ok (.iconst 0, 1) := by decide +kernel
theorem dX4_isSaid_31 : decode cX4_isSaid 31 = .ok (.istore_n 2, 1) := by decide +kernel
theorem dX4_isSaid_32 : decode cX4_isSaid 32 = .ok (.iinc 3 1, 3) := by decide +kernel
theorem dX4_isSaid_35 : decode cX4_isSaid 35 = .ok (.goto (-31), 3) := by decide +kernel
theorem dX4_isSaid_38 : decode cX4_isSaid 38 = .ok (.iload_n 2, 1) := by decide +kernel
theorem dX4_isSaid_39 : decode cX4_isSaid 39 = .ok (.ireturn, 1) := by decide +kernel
set_option maxRecDepth 20000 in
theorem ggX4_take_X4_isWord : GoodIn wsX4_take wsX4_isWord := goodIn_r _ [8, 9, 10, 11, 7, 12, 36, 37, 38, 39, 40, 41, 42, 43, 44, 45, 46, 47, 48, 49, 50] (by decide +kernel) (by decide +kernel)
set_option maxRecDepth 20000 in
theorem gX4_take_X4_isWord : GoodIn wsX4_take (wsV RX4 88 RX4 yX4_isWord wsX4_isWord) := goodIn_app (goodIn_of _ (by decide +kernel)) ggX4_take_X4_isWord
set_option maxRecDepth 20000 in
theorem ggX4_take_X4_isSense : GoodIn wsX4_take wsX4_isSense := goodIn_r _ [16, 17, 10, 11, 7, 12, 18, 19, 20, 36, 37, 38, 39, 40, 41, 42, 43, 44, 45, 46, 47, 48, 49, 50] (by decide +kernel) (by decide +kernel)
set_option maxRecDepth 20000 in
theorem gX4_take_X4_isSense : GoodIn wsX4_take (wsV RX4 65 RX4 yX4_isSense wsX4_isSense) := goodIn_app (goodIn_of _ (by decide +kernel)) ggX4_take_X4_isSense
set_option maxRecDepth 20000 in
theorem ggX4_take_X4_placeOf : GoodIn wsX4_take wsX4_placeOf := goodIn_r _ [24, 1, 2, 36, 37, 38, 39, 40, 41, 42, 43, 44, 45, 46, 47, 48, 49, 50] (by decide +kernel) (by decide +kernel)
set_option maxRecDepth 20000 in
theorem gX4_take_X4_placeOf : GoodIn wsX4_take (wsV RX4 78 RX4 yX4_placeOf wsX4_placeOf) := goodIn_app (goodIn_of _ (by decide +kernel)) ggX4_take_X4_placeOf
set_option maxRecDepth 20000 in
theorem ggX4_take_X4_isSaid : GoodIn wsX4_take wsX4_isSaid := goodIn_r _ [28, 29, 30, 36, 37, 38, 39, 40, 41, 42, 43, 44, 45, 46, 47, 48, 49, 50] (by decide +kernel) (by decide +kernel)
set_option maxRecDepth 20000 in
theorem gX4_take_X4_isSaid : GoodIn wsX4_take (wsV RX4 94 RX4 yX4_isSaid wsX4_isSaid) := goodIn_app (goodIn_of _ (by decide +kernel)) ggX4_take_X4_isSaid
set_option maxRecDepth 20000 in
theorem ggX4_take_X4_goesWell : GoodIn wsX4_take wsX4_goesWell := goodIn_r _ [34, 35, 36, 37, 38, 39, 40, 41, 42, 43, 44, 45, 46, 47, 48, 49, 50] (by decide +kernel) (by decide +kernel)
set_option maxRecDepth 20000 in
theorem gX4_take_X4_goesWell : GoodIn wsX4_take (wsV RX4 61 RX4 yX4_goesWell wsX4_goesWell) := goodIn_app (goodIn_of _ (by decide +kernel)) ggX4_take_X4_goesWell
theorem dX4_take_0 : decode cX4_take 0 = .ok (.aload_n 0, 1) := by decide +kernel
theorem dX4_take_1 : decode cX4_take 1 = .ok (.iload_n 1, 1) := by decide +kernel
theorem dX4_take_2 : decode cX4_take 2 = .ok (.invokevirtual 88, 3) := by decide +kernel
theorem dX4_take_5 : decode cX4_take 5 = .ok (.ifCond .eq 15, 3) := by decide +kernel
theorem dX4_take_8 : decode cX4_take 8 = .ok (.aload_n 0, 1) := by decide +kernel
theorem dX4_take_9 : decode cX4_take 9 = .ok (.iload_n 2, 1) := by decide +kernel
theorem dX4_take_10 : decode cX4_take 10 = .ok (.invokevirtual 65, 3) := by decide +kernel
theorem dX4_take_13 : decode cX4_take 13 = .ok (.ifCond .eq 7, 3) := by decide +kernel
theorem dX4_take_16 : decode cX4_take 16 = .ok (.iconst 1, 1) := by decide +kernel
theorem dX4_take_17 : decode cX4_take 17 = .ok (.goto 4, 3) := by decide +kernel
theorem dX4_take_20 : decode cX4_take 20 = .ok (.iconst 0, 1) := by decide +kernel
theorem dX4_take_21 : decode cX4_take 21 = .ok (.istore_n 3, 1) := by decide +kernel
theorem dX4_take_22 : decode cX4_take 22 = .ok (.iload_n 3, 1) := by decide +kernel
theorem dX4_take_23 : decode cX4_take 23 = .ok (.ifCond .eq 12, 3) := by decide +kernel
theorem dX4_take_26 : decode cX4_take 26 = .ok (.aload_n 0, 1) := by decide +kernel
theorem dX4_take_27 : decode cX4_take 27 = .ok (.iload_n 1, 1) := by decide +kernel
theorem dX4_take_28 : decode cX4_take 28 = .ok (.iload_n 2, 1) := by decide +kernel
theorem dX4_take_29 : decode cX4_take 29 = .ok (.invokevirtual 78, 3) := by decide +kernel
theorem dX4_take_32 : decode cX4_take 32 = .ok (.goto 4, 3) := by decide +kernel
theorem dX4_take_35 : decode cX4_take 35 = .ok (.iconst (-1), 1) := by decide +kernel
theorem dX4_take_36 : decode cX4_take 36 = .ok (.istore 4, 2) := by decide +kernel
theorem dX4_take_38 : decode cX4_take 38 = .ok (.iload 4, 2) := by decide +kernel
theorem dX4_take_40 : decode cX4_take 40 = .ok (.iconst (-1), 1) := by decide +kernel
theorem dX4_take_41 : decode cX4_take 41 = .ok (.if_icmp .eq 21, 3) := by decide +kernel
theorem dX4_take_44 : decode cX4_take 44 = .ok (.aload_n 0, 1) := by decide +kernel
theorem dX4_take_45 : decode cX4_take 45 = .ok (.getfield 19, 3) := by decide +kernel
theorem dX4_take_48 : decode cX4_take 48 = .ok (.iload_n 1, 1) := by decide +kernel
theorem dX4_take_49 : decode cX4_take 49 = .ok (.iaload, 1) := by decide +kernel
theorem dX4_take_50 : decode cX4_take 50 = .ok (.iconst 1, 1) := by decide +kernel
theorem dX4_take_51 : decode cX4_take 51 = .ok (.if_icmp .ne 15, 3) := by decide +kernel
theorem dX4_take_54 : decode cX4_take 54 = .ok (.aload_n 0, 1) := by decide +kernel
theorem dX4_take_55 : decode cX4_take 55 = .ok (.iload_n 1, 1) := by decide +kernel
theorem dX4_take_56 : decode cX4_take 56 = .ok (.invokevirtual 94, 3) := by decide +kernel
theorem dX4_take_59 : decode cX4_take 59 = .ok (.ifCond .eq 7, 3) := by decide +kernel
theorem dX4_take_62 : decode cX4_take 62 = .ok (.iconst 1, 1) := by decide +kernel
theorem dX4_take_63 : decode cX4_take 63 = .ok (.goto 4, 3) := by decide +kernel
theorem dX4_take_66 : decode cX4_take 66 = .ok (.iconst 0, 1) := by decide +kernel
theorem dX4_take_67 : decode cX4_take 67 = .ok (.istore 5, 2) := by decide +kernel
theorem dX4_take_69 : decode cX4_take 69 = .ok (.aload_n 0, 1) := by decide +kernel
theorem dX4_take_70 : decode cX4_take 70 = .ok (.iload_n 3, 1) := by decide +kernel
theorem dX4_take_71 : decode cX4_take 71 = .ok (.ifCond .ne 7, 3) := by decide +kernel
theorem dX4_take_74 : decode cX4_take 74 = .ok (.iconst 1, 1) := by decide +kernel
theorem dX4_take_75 : decode cX4_take 75 = .ok (.goto 13, 3) := by decide +kernel
theorem dX4_take_78 : decode cX4_take 78 = .ok (.iload 5, 2) := by decide +kernel
theorem dX4_take_80 : decode cX4_take 80 = .ok (.ifCond .eq 7, 3) := by decide +kernel
theorem dX4_take_83 : decode cX4_take 83 = .ok (.iconst 2, 1) := by decide +kernel
theorem dX4_take_84 : decode cX4_take 84 = .ok (.goto 4, 3) := by decide +kernel
theorem dX4_take_87 : decode cX4_take 87 = .ok (.iconst 0, 1) := by decide +kernel
theorem dX4_take_88 : decode cX4_take 88 = .ok (.invokevirtual 61, 3) := by decide +kernel
theorem dX4_take_91 : decode cX4_take 91 = .ok (.ifCond .ne 5, 3) := by decide +kernel
theorem dX4_take_94 : decode cX4_take 94 = .ok (.iconst 0, 1) := by decide +kernel
theorem dX4_take_95 : decode cX4_take 95 = .ok (.ireturn, 1) := by decide +kernel
theorem dX4_take_96 : decode cX4_take 96 = .ok (.aload_n 0, 1) := by decide +kernel
theorem dX4_take_97 : decode cX4_take 97 = .ok (.getfield 19, 3) := by decide +kernel
theorem dX4_take_100 : decode cX4_take 100 = .ok (.iload_n 1, 1) := by decide +kernel
theorem dX4_take_101 : decode cX4_take 101 = .ok (.dup2, 1) := by decide +kernel
theorem dX4_take_102 : decode cX4_take 102 = .ok (.iaload, 1) := by decide +kernel
theorem dX4_take_103 : decode cX4_take 103 = .ok (.iconst 1, 1) := by decide +kernel
theorem dX4_take_104 : decode cX4_take 104 = .ok (.isub, 1) := by decide +kernel
theorem dX4_take_105 : decode cX4_take 105 = .ok (.iastore, 1) := by decide +kernel
theorem dX4_take_106 : decode cX4_take 106 = .ok (.iload 4, 2) := by decide +kernel
theorem dX4_take_108 : decode cX4_take 108 = .ok (.istore 6, 2) := by decide +kernel
theorem dX4_take_110 : decode cX4_take 110 = .ok (.iload 6, 2) := by decide +kernel
theorem dX4_take_112 : decode cX4_take 112 = .ok (.aload_n 0, 1) := by decide +kernel
theorem dX4_take_113 : decode cX4_take 113 = .ok (.getfield 19, 3) := by decide +kernel
theorem dX4_take_116 : decode cX4_take 116 = .ok (.iload_n 1, 1) := by decide +kernel
theorem dX4_take_117 : decode cX4_take 117 = .ok (.iaload, 1) := by decide +kernel
theorem dX4_take_118 : decode cX4_take 118 = .ok (.if_icmp .ge 33, 3) := by decide +kernel
theorem dX4_take_121 : decode cX4_take 121 = .ok (.aload_n 0, 1) := by decide +kernel
theorem dX4_take_122 : decode cX4_take 122 = .ok (.getfield 16, 3) := by decide +kernel
theorem dX4_take_125 : decode cX4_take 125 = .ok (.iconst 5, 1) := by decide +kernel
theorem dX4_take_126 : decode cX4_take 126 = .ok (.iload_n 1, 1) := by decide +kernel
theorem dX4_take_127 : decode cX4_take 127 = .ok (.imul, 1) := by decide +kernel
theorem dX4_take_128 : decode cX4_take 128 = .ok (.iload 6, 2) := by decide +kernel
theorem dX4_take_130 : decode cX4_take 130 = .ok (.iadd, 1) := by decide +kernel
theorem dX4_take_131 : decode cX4_take 131 = .ok (.aload_n 0, 1) := by decide +kernel
theorem dX4_take_132 : decode cX4_take 132 = .ok (.getfield 16, 3) := by decide +kernel
theorem dX4_take_135 : decode cX4_take 135 = .ok (.iconst 5, 1) := by decide +kernel
theorem dX4_take_136 : decode cX4_take 136 = .ok (.iload_n 1, 1) := by decide +kernel
theorem dX4_take_137 : decode cX4_take 137 = .ok (.imul, 1) := by decide +kernel
theorem dX4_take_138 : decode cX4_take 138 = .ok (.iload 6, 2) := by decide +kernel
theorem dX4_take_140 : decode cX4_take 140 = .ok (.iadd, 1) := by decide +kernel
theorem dX4_take_141 : decode cX4_take 141 = .ok (.iconst 1, 1) := by decide +kernel
theorem dX4_take_142 : decode cX4_take 142 = .ok (.iadd, 1) := by decide +kernel
theorem dX4_take_143 : decode cX4_take 143 = .ok (.iaload, 1) := by decide +kernel
theorem dX4_take_144 : decode cX4_take 144 = .ok (.iastore, 1) := by decide +kernel
theorem dX4_take_145 : decode cX4_take 145 = .ok (.iinc 6 1, 3) := by decide +kernel
theorem dX4_take_148 : decode cX4_take 148 = .ok (.goto (-38), 3) := by decide +kernel
theorem dX4_take_151 : decode cX4_take 151 = .ok (.aload_n 0, 1) := by decide +kernel
theorem dX4_take_152 : decode cX4_take 152 = .ok (.getfield 22, 3) := by decide +kernel
theorem dX4_take_155 : decode cX4_take 155 = .ok (.iload_n 1, 1) := by decide +kernel
theorem dX4_take_156 : decode cX4_take 156 = .ok (.aload_n 0, 1) := by decide +kernel
theorem dX4_take_157 : decode cX4_take 157 = .ok (.getfield 22, 3) := by decide +kernel
theorem dX4_take_160 : decode cX4_take 160 = .ok (.iload_n 1, 1) := by decide +kernel
theorem dX4_take_161 : decode cX4_take 161 = .ok (.iaload, 1) := by decide +kernel
theorem dX4_take_162 : decode cX4_take 162 = .ok (.iload_n 2, 1) := by decide +kernel
theorem dX4_take_163 : decode cX4_take 163 = .ok (.if_icmp .ne 7, 3) := by decide +kernel
theorem dX4_take_166 : decode cX4_take 166 = .ok (.iconst (-1), 1) := by decide +kernel
theorem dX4_take_167 : decode cX4_take 167 = .ok (.goto 9, 3) := by decide +kernel
theorem dX4_take_170 : decode cX4_take 170 = .ok (.aload_n 0, 1) := by decide +kernel
theorem dX4_take_171 : decode cX4_take 171 = .ok (.getfield 22, 3) := by decide +kernel
theorem dX4_take_174 : decode cX4_take 174 = .ok (.iload_n 1, 1) := by decide +kernel
theorem dX4_take_175 : decode cX4_take 175 = .ok (.iaload, 1) := by decide +kernel
theorem dX4_take_176 : decode cX4_take 176 = .ok (.iastore, 1) := by decide +kernel
theorem dX4_take_177 : decode cX4_take 177 = .ok (.aload_n 0, 1) := by decide +kernel
theorem dX4_take_178 : decode cX4_take 178 = .ok (.getfield 19, 3) := by decide +kernel
theorem dX4_take_181 : decode cX4_take 181 = .ok (.iload_n 1, 1) := by decide +kernel
theorem dX4_take_182 : decode cX4_take 182 = .ok (.iaload, 1) := by decide +kernel
theorem dX4_take_183 : decode cX4_take 183 = .ok (.ireturn, 1) := by decide +kernel
set_option maxRecDepth 20000 in
theorem ggX4_lock_X4_isWord : GoodIn wsX4_lock wsX4_isWord := goodIn_r _ [6, 7, 8, 9, 5, 10, 22, 23, 24, 25, 26, 27, 28, 29, 30, 31, 32, 33, 34, 35, 36] (by decide +kernel) (by decide +kernel)
set_option maxRecDepth 20000 in
theorem gX4_lock_X4_isWord : GoodIn wsX4_lock (wsV RX4 88 RX4 yX4_isWord wsX4_isWord) := goodIn_app (goodIn_of _ (by decide +kernel)) ggX4_lock_X4_isWord
set_option maxRecDepth 20000 in
theorem ggX4_lock_X4_placeOf : GoodIn wsX4_lock wsX4_placeOf := goodIn_r _ [14, 15, 16, 22, 23, 24, 25, 26, 27, 28, 29, 30, 31, 32, 33, 34, 35, 36] (by decide +kernel) (by decide +kernel)
set_option maxRecDepth 20000 in
theorem gX4_lock_X4_placeOf : GoodIn wsX4_lock (wsV RX4 78 RX4 yX4_placeOf wsX4_placeOf) := goodIn_app (goodIn_of _ (by decide +kernel)) ggX4_lock_X4_placeOf
set_option maxRecDepth 20000 in
theorem ggX4_lock_X4_goesWell : GoodIn wsX4_lock wsX4_goesWell := goodIn_r _ [20, 21, 22, 23, 24, 25, 26, 27, 28, 29, 30, 31, 32, 33, 34, 35, 36] (by decide +kernel) (by decide +kernel)
set_option maxRecDepth 20000 in
theorem gX4_lock_X4_goesWell : GoodIn wsX4_lock (wsV RX4 61 RX4 yX4_goesWell wsX4_goesWell) := goodIn_app (goodIn_of _ (by decide +kernel)) ggX4_lock_X4_goesWell
theorem dX4_lock_0 : decode cX4_lock 0 = .ok (.aload_n 0, 1) := by decide +kernel
theorem dX4_lock_1 : decode cX4_lock 1 = .ok (.aload_n 0, 1) := by decide +kernel
theorem dX4_lock_2 : decode cX4_lock 2 = .ok (.iload_n 1, 1) := by decide +kernel
theorem dX4_lock_3 : decode cX4_lock 3 = .ok (.invokevirtual 88, 3) := by decide +kernel
theorem dX4_lock_6 : decode cX4_lock 6 = .ok (.ifCond .ne 7, 3) := by decide +kernel
theorem dX4_lock_9 : decode cX4_lock 9 = .ok (.iconst 1, 1) := by decide +kernel
theorem dX4_lock_10 : decode cX4_lock 10 = .ok (.goto 23, 3) := by decide +kernel
theorem dX4_lock_13 : decode cX4_lock 13 = .ok (.iload_n 2, 1) := by decide +kernel
theorem dX4_lock_14 : decode cX4_lock 14 = .ok (.iconst (-1), 1) := by decide +kernel
theorem dX4_lock_15 : decode cX4_lock 15 = .ok (.if_icmp .eq 13, 3) := by decide +kernel
theorem dX4_lock_18 : decode cX4_lock 18 = .ok (.aload_n 0, 1) := by decide +kernel
theorem dX4_lock_19 : decode cX4_lock 19 = .ok (.iload_n 1, 1) := by decide +kernel
theorem dX4_lock_20 : decode cX4_lock 20 = .ok (.iload_n 2, 1) := by decide +kernel
theorem dX4_lock_21 : decode cX4_lock 21 = .ok (.invokevirtual 78, 3) := by decide +kernel
theorem dX4_lock_24 : decode cX4_lock 24 = .ok (.iconst (-1), 1) := by decide +kernel
theorem dX4_lock_25 : decode cX4_lock 25 = .ok (.if_icmp .eq 7, 3) := by decide +kernel
theorem dX4_lock_28 : decode cX4_lock 28 = .ok (.iconst 0, 1) := by decide +kernel
theorem dX4_lock_29 : decode cX4_lock 29 = .ok (.goto 4, 3) := by decide +kernel
theorem dX4_lock_32 : decode cX4_lock 32 = .ok (.iconst 2, 1) := by decide +kernel
theorem dX4_lock_33 : decode cX4_lock 33 = .ok (.invokevirtual 61, 3) := by decide +kernel
theorem dX4_lock_36 : decode cX4_lock 36 = .ok (.ifCond .ne 5, 3) := by decide +kernel
theorem dX4_lock_39 : decode cX4_lock 39 = .ok (.iconst 0, 1) := by decide +kernel
theorem dX4_lock_40 : decode cX4_lock 40 = .ok (.ireturn, 1) := by decide +kernel
theorem dX4_lock_41 : decode cX4_lock 41 = .ok (.aload_n 0, 1) := by decide +kernel
theorem dX4_lock_42 : decode cX4_lock 42 = .ok (.getfield 22, 3) := by decide +kernel
theorem dX4_lock_45 : decode cX4_lock 45 = .ok (.iload_n 1, 1) := by decide +kernel
theorem dX4_lock_46 : decode cX4_lock 46 = .ok (.iaload, 1) := by decide +kernel
theorem dX4_lock_47 : decode cX4_lock 47 = .ok (.istore_n 3, 1) := by decide +kernel
theorem dX4_lock_48 : decode cX4_lock 48 = .ok (.aload_n 0, 1) := by decide +kernel
theorem dX4_lock_49 : decode cX4_lock 49 = .ok (.getfield 22, 3) := by decide +kernel
theorem dX4_lock_52 : decode cX4_lock 52 = .ok (.iload_n 1, 1) := by decide +kernel
theorem dX4_lock_53 : decode cX4_lock 53 = .ok (.iload_n 2, 1) := by decide +kernel
theorem dX4_lock_54 : decode cX4_lock 54 = .ok (.iastore, 1) := by decide +kernel
theorem dX4_lock_55 : decode cX4_lock 55 = .ok (.iload_n 3, 1) := by decide +kernel
theorem dX4_lock_56 : decode cX4_lock 56 = .ok (.ireturn, 1) := by decide +kernel
set_option maxRecDepth 20000 in
theorem ggX4_say_X4_isWord : GoodIn wsX4_say wsX4_isWord := goodIn_r _ [8, 9, 10, 11, 7, 12, 18, 19, 20, 21, 22, 23, 24, 25, 26, 27, 28, 29, 30, 31, 32] (by decide +kernel) (by decide +kernel)
set_option maxRecDepth 20000 in
theorem gX4_say_X4_isWord : GoodIn wsX4_say (wsV RX4 88 RX4 yX4_isWord wsX4_isWord) := goodIn_app (goodIn_of _ (by decide +kernel)) ggX4_say_X4_isWord
set_option maxRecDepth 20000 in
theorem ggX4_say_X4_goesWell : GoodIn wsX4_say wsX4_goesWell := goodIn_r _ [16, 17, 18, 19, 20, 21, 22, 23, 24, 25, 26, 27, 28, 29, 30, 31, 32] (by decide +kernel) (by decide +kernel)
set_option maxRecDepth 20000 in
theorem gX4_say_X4_goesWell : GoodIn wsX4_say (wsV RX4 61 RX4 yX4_goesWell wsX4_goesWell) := goodIn_app (goodIn_of _ (by decide +kernel)) ggX4_say_X4_goesWell
theorem dX4_say_0 : decode cX4_say 0 = .ok (.aload_n 0, 1) := by decide +kernel
theorem dX4_say_1 : decode cX4_say 1 = .ok (.aload_n 0, 1) := by decide +kernel
theorem dX4_say_2 : decode cX4_say 2 = .ok (.iload_n 1, 1) := by decide +kernel
theorem dX4_say_3 : decode cX4_say 3 = .ok (.invokevirtual 88, 3) := by decide +kernel
theorem dX4_say_6 : decode cX4_say 6 = .ok (.ifCond .ne 7, 3) := by decide +kernel
theorem dX4_say_9 : decode cX4_say 9 = .ok (.iconst 1, 1) := by decide +kernel
theorem dX4_say_10 : decode cX4_say 10 = .ok (.goto 26, 3) := by decide +kernel
theorem dX4_say_13 : decode cX4_say 13 = .ok (.aload_n 0, 1) := by decide +kernel
theorem dX4_say_14 : decode cX4_say 14 = .ok (.getfield 91, 3) := by decide +kernel
theorem dX4_say_17 : decode cX4_say 17 = .ok (.bipush 6, 2) := by decide +kernel
theorem dX4_say_19 : decode cX4_say 19 = .ok (.if_icmp .eq 12, 3) := by decide +kernel
theorem dX4_say_22 : decode cX4_say 22 = .ok (.aload_n 0, 1) := by decide +kernel
theorem dX4_say_23 : decode cX4_say 23 = .ok (.getfield 19, 3) := by decide +kernel
theorem dX4_say_26 : decode cX4_say 26 = .ok (.iload_n 1, 1) := by decide +kernel
theorem dX4_say_27 : decode cX4_say 27 = .ok (.iaload, 1) := by decide +kernel
theorem dX4_say_28 : decode cX4_say 28 = .ok (.ifCond .ne 7, 3) := by decide +kernel
theorem dX4_say_31 : decode cX4_say 31 = .ok (.iconst 2, 1) := by decide +kernel
theorem dX4_say_32 : decode cX4_say 32 = .ok (.goto 4, 3) := by decide +kernel
theorem dX4_say_35 : decode cX4_say 35 = .ok (.iconst 0, 1) := by decide +kernel
theorem dX4_say_36 : decode cX4_say 36 = .ok (.invokevirtual 61, 3) := by decide +kernel
theorem dX4_say_39 : decode cX4_say 39 = .ok (.ifCond .ne 5, 3) := by decide +kernel
theorem dX4_say_42 : decode cX4_say 42 = .ok (.iconst 0, 1) := by decide +kernel
theorem dX4_say_43 : decode cX4_say 43 = .ok (.ireturn, 1) := by decide +kernel
theorem dX4_say_44 : decode cX4_say 44 = .ok (.aload_n 0, 1) := by decide +kernel
theorem dX4_say_45 : decode cX4_say 45 = .ok (.getfield 25, 3) := by decide +kernel
theorem dX4_say_48 : decode cX4_say 48 = .ok (.aload_n 0, 1) := by decide +kernel
theorem dX4_say_49 : decode cX4_say 49 = .ok (.getfield 91, 3) := by decide +kernel
theorem dX4_say_52 : decode cX4_say 52 = .ok (.iload_n 1, 1) := by decide +kernel
theorem dX4_say_53 : decode cX4_say 53 = .ok (.iastore, 1) := by decide +kernel
theorem dX4_say_54 : decode cX4_say 54 = .ok (.aload_n 0, 1) := by decide +kernel
theorem dX4_say_55 : decode cX4_say 55 = .ok (.dup, 1) := by decide +kernel
theorem dX4_say_56 : decode cX4_say 56 = .ok (.getfield 91, 3) := by decide +kernel
theorem dX4_say_59 : decode cX4_say 59 = .ok (.iconst 1, 1) := by decide +kernel
theorem dX4_say_60 : decode cX4_say 60 = .ok (.iadd, 1) := by decide +kernel
theorem dX4_say_61 : decode cX4_say 61 = .ok (.putfield 91, 3) := by decide +kernel
theorem dX4_say_64 : decode cX4_say 64 = .ok (.aload_n 0, 1) := by decide +kernel
theorem dX4_say_65 : decode cX4_say 65 = .ok (.getfield 91, 3) := by decide +kernel
theorem dX4_say_68 : decode cX4_say 68 = .ok (.ireturn, 1) := by decide +kernel
theorem dX4_hush_0 : decode cX4_hush 0 = .ok (.aload_n 0, 1) := by decide +kernel
theorem dX4_hush_1 : decode cX4_hush 1 = .ok (.iconst 0, 1) := by decide +kernel
theorem dX4_hush_2 : decode cX4_hush 2 = .ok (.putfield 40, 3) := by decide +kernel
theorem dX4_hush_5 : decode cX4_hush 5 = .ok (.aload_n 0, 1) := by decide +kernel
theorem dX4_hush_6 : decode cX4_hush 6 = .ok (.getfield 91, 3) := by decide +kernel
theorem dX4_hush_9 : decode cX4_hush 9 = .ok (.istore_n 1, 1) := by decide +kernel
theorem dX4_hush_10 : decode cX4_hush 10 = .ok (.aload_n 0, 1) := by decide +kernel
theorem dX4_hush_11 : decode cX4_hush 11 = .ok (.iconst 0, 1) := by decide +kernel
theorem dX4_hush_12 : decode cX4_hush 12 = .ok (.putfield 91, 3) := by decide +kernel
theorem dX4_hush_15 : decode cX4_hush 15 = .ok (.iload_n 1, 1) := by decide +kernel
theorem dX4_hush_16 : decode cX4_hush 16 = .ok (.ireturn, 1) := by decide +kernel
theorem dX4_senses_0 : decode cX4_senses 0 = .ok (.aload_n 0, 1) := by decide +kernel
theorem dX4_senses_1 : decode cX4_senses 1 = .ok (.iconst 0, 1) := by decide +kernel
theorem dX4_senses_2 : decode cX4_senses 2 = .ok (.putfield 40, 3) := by decide +kernel
theorem dX4_senses_5 : decode cX4_senses 5 = .ok (.aload_n 0, 1) := by decide +kernel
theorem dX4_senses_6 : decode cX4_senses 6 = .ok (.getfield 48, 3) := by decide +kernel
theorem dX4_senses_9 : decode cX4_senses 9 = .ok (.ireturn, 1) := by decide +kernel
set_option maxRecDepth 20000 in
theorem ggX4_parents_X4_isSense : GoodIn wsX4_parents wsX4_isSense := goodIn_r _ [6, 7, 8, 9, 5, 10, 11, 12, 13, 19, 20, 21, 22, 23, 24, 25, 26, 27, 28, 29, 30, 31, 32, 33] (by decide +kernel) (by decide +kernel)
set_option maxRecDepth 20000 in
theorem gX4_parents_X4_isSense : GoodIn wsX4_parents (wsV RX4 65 RX4 yX4_isSense wsX4_isSense) := goodIn_app (goodIn_of _ (by decide +kernel)) ggX4_parents_X4_isSense
set_option maxRecDepth 20000 in
theorem ggX4_parents_X4_goesWell : GoodIn wsX4_parents wsX4_goesWell := goodIn_r _ [17, 18, 19, 20, 21, 22, 23, 24, 25, 26, 27, 28, 29, 30, 31, 32, 33] (by decide +kernel) (by decide +kernel)
set_option maxRecDepth 20000 in
theorem gX4_parents_X4_goesWell : GoodIn wsX4_parents (wsV RX4 61 RX4 yX4_goesWell wsX4_goesWell) := goodIn_app (goodIn_of _ (by decide +kernel)) ggX4_parents_X4_goesWell
theorem dX4_parents_0 : decode cX4_parents 0 = .ok (.aload_n 0, 1) := by decide +kernel
theorem dX4_parents_1 : decode cX4_parents 1 = .ok (.aload_n 0, 1) := by decide +kernel
theorem dX4_parents_2 : decode cX4_parents 2 = .ok (.iload_n 1, 1) := by decide +kernel
theorem dX4_parents_3 : decode cX4_parents 3 = .ok (.invokevirtual 65, 3) := by decide +kernel
theorem dX4_parents_6 : decode cX4_parents 6 = .ok (.ifCond .eq 7, 3) := by decide +kernel
theorem dX4_parents_9 : decode cX4_parents 9 = .ok (.iconst 0, 1) := by decide +kernel
theorem dX4_parents_10 : decode cX4_parents 10 = .ok (.goto 4, 3) := by decide +kernel
theorem dX4_parents_13 : decode cX4_parents 13 = .ok (.iconst 1, 1) := by decide +kernel
theorem dX4_parents_14 : decode cX4_parents 14 = .ok (.invokevirtual 61, 3) := by decide +kernel
theorem dX4_parents_17 : decode cX4_parents 17 = .ok (.ifCond .eq 12, 3) := by decide +kernel
theorem dX4_parents_20 : decode cX4_parents 20 = .ok (.aload_n 0, 1) := by decide +kernel
theorem dX4_parents_21 : decode cX4_parents 21 = .ok (.getfield 7, 3) := by decide +kernel
theorem dX4_parents_24 : decode cX4_parents 24 = .ok (.iload_n 1, 1) := by decide +kernel
theorem dX4_parents_25 : decode cX4_parents 25 = .ok (.iaload, 1) := by decide +kernel
theorem dX4_parents_26 : decode cX4_parents 26 = .ok (.goto 4, 3) := by decide +kernel
theorem dX4_parents_29 : decode cX4_parents 29 = .ok (.iconst 0, 1) := by decide +kernel
theorem dX4_parents_30 : decode cX4_parents 30 = .ok (.ireturn, 1) := by decide +kernel
set_option maxRecDepth 20000 in
theorem ggX4_above_X4_isSense : GoodIn wsX4_above wsX4_isSense := goodIn_r _ [5, 6, 7, 8, 4, 9, 10, 11, 12, 28, 29, 30, 31, 32, 33, 34, 35, 36, 37, 38, 39, 40, 41, 42] (by decide +kernel) (by decide +kernel)
set_option maxRecDepth 20000 in
theorem gX4_above_X4_isSense : GoodIn wsX4_above (wsV RX4 65 RX4 yX4_isSense wsX4_isSense) := goodIn_app (goodIn_of _ (by decide +kernel)) ggX4_above_X4_isSense
set_option maxRecDepth 20000 in
theorem ggX4_above_X4_goesWell : GoodIn wsX4_above wsX4_goesWell := goodIn_r _ [16, 17, 28, 29, 30, 31, 32, 33, 34, 35, 36, 37, 38, 39, 40, 41, 42] (by decide +kernel) (by decide +kernel)
set_option maxRecDepth 20000 in
theorem gX4_above_X4_goesWell : GoodIn wsX4_above (wsV RX4 61 RX4 yX4_goesWell wsX4_goesWell) := goodIn_app (goodIn_of _ (by decide +kernel)) ggX4_above_X4_goesWell
set_option maxRecDepth 20000 in
theorem ggX4_above_X4_layUp : GoodIn wsX4_above wsX4_layUp := goodIn_r _ [21, 22, 6, 23, 10, 11, 4, 12, 28, 29, 30, 31, 32, 33, 34, 35, 36, 37, 38, 39, 40, 41, 42] (by decide +kernel) (by decide +kernel)
set_option maxRecDepth 20000 in
theorem gX4_above_X4_layUp : GoodIn wsX4_above (wsV RX4 72 RX4 yX4_layUp wsX4_layUp) := goodIn_app (goodIn_of _ (by decide +kernel)) ggX4_above_X4_layUp
set_option maxRecDepth 20000 in
theorem ggX4_above_X4_covers : GoodIn wsX4_above wsX4_covers := goodIn_r _ [27, 22, 28, 29, 30, 31, 32, 33, 34, 35, 36, 37, 38, 39, 40, 41, 42] (by decide +kernel) (by decide +kernel)
set_option maxRecDepth 20000 in
theorem gX4_above_X4_covers : GoodIn wsX4_above (wsV RX4 75 RX4 yX4_covers wsX4_covers) := goodIn_app (goodIn_of _ (by decide +kernel)) ggX4_above_X4_covers
theorem dX4_above_0 : decode cX4_above 0 = .ok (.aload_n 0, 1) := by decide +kernel
theorem dX4_above_1 : decode cX4_above 1 = .ok (.aload_n 0, 1) := by decide +kernel
theorem dX4_above_2 : decode cX4_above 2 = .ok (.iload_n 1, 1) := by decide +kernel
theorem dX4_above_3 : decode cX4_above 3 = .ok (.invokevirtual 65, 3) := by decide +kernel
theorem dX4_above_6 : decode cX4_above 6 = .ok (.ifCond .eq 7, 3) := by decide +kernel
theorem dX4_above_9 : decode cX4_above 9 = .ok (.iconst 0, 1) := by decide +kernel
theorem dX4_above_10 : decode cX4_above 10 = .ok (.goto 4, 3) := by decide +kernel
theorem dX4_above_13 : decode cX4_above 13 = .ok (.iconst 1, 1) := by decide +kernel
theorem dX4_above_14 : decode cX4_above 14 = .ok (.invokevirtual 61, 3) := by decide +kernel
theorem dX4_above_17 : decode cX4_above 17 = .ok (.ifCond .ne 5, 3) := by decide +kernel
theorem dX4_above_20 : decode cX4_above 20 = .ok (.iconst 0, 1) := by decide +kernel
theorem dX4_above_21 : decode cX4_above 21 = .ok (.ireturn, 1) := by decide +kernel
theorem dX4_above_22 : decode cX4_above 22 = .ok (.aload_n 0, 1) := by decide +kernel
theorem dX4_above_23 : decode cX4_above 23 = .ok (.invokevirtual 72, 3) := by decide +kernel
theorem dX4_above_26 : decode cX4_above 26 = .ok (.iconst 0, 1) := by decide +kernel
theorem dX4_above_27 : decode cX4_above 27 = .ok (.istore_n 2, 1) := by decide +kernel
theorem dX4_above_28 : decode cX4_above 28 = .ok (.iconst 0, 1) := by decide +kernel
theorem dX4_above_29 : decode cX4_above 29 = .ok (.istore_n 3, 1) := by decide +kernel
theorem dX4_above_30 : decode cX4_above 30 = .ok (.iload_n 3, 1) := by decide +kernel
theorem dX4_above_31 : decode cX4_above 31 = .ok (.bipush 30, 2) := by decide +kernel
theorem dX4_above_33 : decode cX4_above 33 = .ok (.if_icmp .ge 33, 3) := by decide +kernel
theorem dX4_above_36 : decode cX4_above 36 = .ok (.iload_n 2, 1) := by decide +kernel
theorem dX4_above_37 : decode cX4_above 37 = .ok (.iload_n 3, 1) := by decide +kernel
theorem dX4_above_38 : decode cX4_above 38 = .ok (.iload_n 1, 1) := by decide +kernel
theorem dX4_above_39 : decode cX4_above 39 = .ok (.if_icmp .eq 18, 3) := by decide +kernel
theorem dX4_above_42 : decode cX4_above 42 = .ok (.aload_n 0, 1) := by decide +kernel
theorem dX4_above_43 : decode cX4_above 43 = .ok (.iload_n 3, 1) := by decide +kernel
theorem dX4_above_44 : decode cX4_above 44 = .ok (.iload_n 1, 1) := by decide +kernel
theorem dX4_above_45 : decode cX4_above 45 = .ok (.invokevirtual 75, 3) := by decide +kernel
theorem dX4_above_48 : decode cX4_above 48 = .ok (.ifCond .eq 9, 3) := by decide +kernel
theorem dX4_above_51 : decode cX4_above 51 = .ok (.iconst 1, 1) := by decide +kernel
theorem dX4_above_52 : decode cX4_above 52 = .ok (.iload_n 3, 1) := by decide +kernel
theorem dX4_above_53 : decode cX4_above 53 = .ok (.ishl, 1) := by decide +kernel
theorem dX4_above_54 : decode cX4_above 54 = .ok (.goto 4, 3) := by decide +kernel
theorem dX4_above_57 : decode cX4_above 57 = .ok (.iconst 0, 1) := by decide +kernel
theorem dX4_above_58 : decode cX4_above 58 = .ok (.ior, 1) := by decide +kernel
theorem dX4_above_59 : decode cX4_above 59 = .ok (.istore_n 2, 1) := by decide +kernel
theorem dX4_above_60 : decode cX4_above 60 = .ok (.iinc 3 1, 3) := by decide +kernel
theorem dX4_above_63 : decode cX4_above 63 = .ok (.goto (-33), 3) := by decide +kernel
theorem dX4_above_66 : decode cX4_above 66 = .ok (.iload_n 2, 1) := by decide +kernel
theorem dX4_above_67 : decode cX4_above 67 = .ok (.ireturn, 1) := by decide +kernel
set_option maxRecDepth 20000 in
theorem ggX4_below_X4_isSense : GoodIn wsX4_below wsX4_isSense := goodIn_r _ [5, 6, 7, 8, 4, 9, 10, 11, 12, 28, 29, 30, 31, 32, 33, 34, 35, 36, 37, 38, 39, 40, 41, 42] (by decide +kernel) (by decide +kernel)
set_option maxRecDepth 20000 in
theorem gX4_below_X4_isSense : GoodIn wsX4_below (wsV RX4 65 RX4 yX4_isSense wsX4_isSense) := goodIn_app (goodIn_of _ (by decide +kernel)) ggX4_below_X4_isSense
set_option maxRecDepth 20000 in
theorem ggX4_below_X4_goesWell : GoodIn wsX4_below wsX4_goesWell := goodIn_r _ [16, 17, 28, 29, 30, 31, 32, 33, 34, 35, 36, 37, 38, 39, 40, 41, 42] (by decide +kernel) (by decide +kernel)
set_option maxRecDepth 20000 in
theorem gX4_below_X4_goesWell : GoodIn wsX4_below (wsV RX4 61 RX4 yX4_goesWell wsX4_goesWell) := goodIn_app (goodIn_of _ (by decide +kernel)) ggX4_below_X4_goesWell
set_option maxRecDepth 20000 in
theorem ggX4_below_X4_layUp : GoodIn wsX4_below wsX4_layUp := goodIn_r _ [21, 22, 6, 23, 10, 11, 4, 12, 28, 29, 30, 31, 32, 33, 34, 35, 36, 37, 38, 39, 40, 41, 42] (by decide +kernel) (by decide +kernel)
set_option maxRecDepth 20000 in
theorem gX4_below_X4_layUp : GoodIn wsX4_below (wsV RX4 72 RX4 yX4_layUp wsX4_layUp) := goodIn_app (goodIn_of _ (by decide +kernel)) ggX4_below_X4_layUp
set_option maxRecDepth 20000 in
theorem ggX4_below_X4_covers : GoodIn wsX4_below wsX4_covers := goodIn_r _ [27, 22, 28, 29, 30, 31, 32, 33, 34, 35, 36, 37, 38, 39, 40, 41, 42] (by decide +kernel) (by decide +kernel)
set_option maxRecDepth 20000 in
theorem gX4_below_X4_covers : GoodIn wsX4_below (wsV RX4 75 RX4 yX4_covers wsX4_covers) := goodIn_app (goodIn_of _ (by decide +kernel)) ggX4_below_X4_covers
theorem dX4_below_0 : decode cX4_below 0 = .ok (.aload_n 0, 1) := by decide +kernel
theorem dX4_below_1 : decode cX4_below 1 = .ok (.aload_n 0, 1) := by decide +kernel
theorem dX4_below_2 : decode cX4_below 2 = .ok (.iload_n 1, 1) := by decide +kernel
theorem dX4_below_3 : decode cX4_below 3 = .ok (.invokevirtual 65, 3) := by decide +kernel
theorem dX4_below_6 : decode cX4_below 6 = .ok (.ifCond .eq 7, 3) := by decide +kernel
theorem dX4_below_9 : decode cX4_below 9 = .ok (.iconst 0, 1) := by decide +kernel
theorem dX4_below_10 : decode cX4_below 10 = .ok (.goto 4, 3) := by decide +kernel
theorem dX4_below_13 : decode cX4_below 13 = .ok (.iconst 1, 1) := by decide +kernel
theorem dX4_below_14 : decode cX4_below 14 = .ok (.invokevirtual 61, 3) := by decide +kernel
theorem dX4_below_17 : decode cX4_below 17 = .ok (.ifCond .ne 5, 3) := by decide +kernel
theorem dX4_below_20 : decode cX4_below 20 = .ok (.iconst 0, 1) := by decide +kernel
theorem dX4_below_21 : decode cX4_below 21 = .ok (.ireturn, 1) := by decide +kernel
theorem dX4_below_22 : decode cX4_below 22 = .ok (.aload_n 0, 1) := by decide +kernel
theorem dX4_below_23 : decode cX4_below 23 = .ok (.invokevirtual 72, 3) := by decide +kernel
theorem dX4_below_26 : decode cX4_below 26 = .ok (.iconst 0, 1) := by decide +kernel
theorem dX4_below_27 : decode cX4_below 27 = .ok (.istore_n 2, 1) := by decide +kernel
theorem dX4_below_28 : decode cX4_below 28 = .ok (.iconst 0, 1) := by decide +kernel
theorem dX4_below_29 : decode cX4_below 29 = .ok (.istore_n 3, 1) := by decide +kernel
theorem dX4_below_30 : decode cX4_below 30 = .ok (.iload_n 3, 1) := by decide +kernel
theorem dX4_below_31 : decode cX4_below 31 = .ok (.bipush 30, 2) := by decide +kernel
theorem dX4_below_33 : decode cX4_below 33 = .ok (.if_icmp .ge 33, 3) := by decide +kernel
theorem dX4_below_36 : decode cX4_below 36 = .ok (.iload_n 2, 1) := by decide +kernel
theorem dX4_below_37 : decode cX4_below 37 = .ok (.iload_n 3, 1) := by decide +kernel
theorem dX4_below_38 : decode cX4_below 38 = .ok (.iload_n 1, 1) := by decide +kernel
theorem dX4_below_39 : decode cX4_below 39 = .ok (.if_icmp .eq 18, 3) := by decide +kernel
theorem dX4_below_42 : decode cX4_below 42 = .ok (.aload_n 0, 1) := by decide +kernel
theorem dX4_below_43 : decode cX4_below 43 = .ok (.iload_n 1, 1) := by decide +kernel
theorem dX4_below_44 : decode cX4_below 44 = .ok (.iload_n 3, 1) := by decide +kernel
theorem dX4_below_45 : decode cX4_below 45 = .ok (.invokevirtual 75, 3) := by decide +kernel
theorem dX4_below_48 : decode cX4_below 48 = .ok (.ifCond .eq 9, 3) := by decide +kernel
theorem dX4_below_51 : decode cX4_below 51 = .ok (.iconst 1, 1) := by decide +kernel
theorem dX4_below_52 : decode cX4_below 52 = .ok (.iload_n 3, 1) := by decide +kernel
theorem dX4_below_53 : decode cX4_below 53 = .ok (.ishl, 1) := by decide +kernel
theorem dX4_below_54 : decode cX4_below 54 = .ok (.goto 4, 3) := by decide +kernel
theorem dX4_below_57 : decode cX4_below 57 = .ok (.iconst 0, 1) := by decide +kernel
theorem dX4_below_58 : decode cX4_below 58 = .ok (.ior, 1) := by decide +kernel
theorem dX4_below_59 : decode cX4_below 59 = .ok (.istore_n 2, 1) := by decide +kernel
theorem dX4_below_60 : decode cX4_below 60 = .ok (.iinc 3 1, 3) := by decide +kernel
theorem dX4_below_63 : decode cX4_below 63 = .ok (.goto (-33), 3) := by decide +kernel
theorem dX4_below_66 : decode cX4_below 66 = .ok (.iload_n 2, 1) := by decide +kernel
theorem dX4_below_67 : decode cX4_below 67 = .ok (.ireturn, 1) := by decide +kernel
set_option maxRecDepth 20000 in
theorem ggX4_massOf_X4_has : GoodIn wsX4_massOf wsX4_has := goodIn_r _ [6] (by decide +kernel) (by decide +kernel)
set_option maxRecDepth 20000 in
theorem gX4_massOf_X4_has : GoodIn wsX4_massOf (va_wsS RX4 51 yX4_has wsX4_has) := goodIn_app (goodIn_of _ (by decide +kernel)) ggX4_massOf_X4_has
set_option maxRecDepth 20000 in
theorem ggX4_massOf_X4_covers : GoodIn wsX4_massOf wsX4_covers := goodIn_r _ [10, 11, 12, 13, 14, 15, 16, 17, 18, 19, 20, 21, 22, 23, 24, 25, 26] (by decide +kernel) (by decide +kernel)
set_option maxRecDepth 20000 in
theorem gX4_massOf_X4_covers : GoodIn wsX4_massOf (wsV RX4 75 RX4 yX4_covers wsX4_covers) := goodIn_app (goodIn_of _ (by decide +kernel)) ggX4_massOf_X4_covers
theorem dX4_massOf_0 : decode cX4_massOf 0 = .ok (.iconst 0, 1) := by decide +kernel
theorem dX4_massOf_1 : decode cX4_massOf 1 = .ok (.istore_n 2, 1) := by decide +kernel
theorem dX4_massOf_2 : decode cX4_massOf 2 = .ok (.iconst 0, 1) := by decide +kernel
theorem dX4_massOf_3 : decode cX4_massOf 3 = .ok (.istore_n 3, 1) := by decide +kernel
theorem dX4_massOf_4 : decode cX4_massOf 4 = .ok (.iload_n 3, 1) := by decide +kernel
theorem dX4_massOf_5 : decode cX4_massOf 5 = .ok (.bipush 30, 2) := by decide +kernel
theorem dX4_massOf_7 : decode cX4_massOf 7 = .ok (.if_icmp .ge 42, 3) := by decide +kernel
theorem dX4_massOf_10 : decode cX4_massOf 10 = .ok (.iload_n 2, 1) := by decide +kernel
theorem dX4_massOf_11 : decode cX4_massOf 11 = .ok (.aload_n 0, 1) := by decide +kernel
theorem dX4_massOf_12 : decode cX4_massOf 12 = .ok (.getfield 48, 3) := by decide +kernel
theorem dX4_massOf_15 : decode cX4_massOf 15 = .ok (.iload_n 3, 1) := by decide +kernel
theorem dX4_massOf_16 : decode cX4_massOf 16 = .ok (.invokestatic 51, 3) := by decide +kernel
theorem dX4_massOf_19 : decode cX4_massOf 19 = .ok (.ifCond .eq 21, 3) := by decide +kernel
theorem dX4_massOf_22 : decode cX4_massOf 22 = .ok (.aload_n 0, 1) := by decide +kernel
theorem dX4_massOf_23 : decode cX4_massOf 23 = .ok (.iload_n 1, 1) := by decide +kernel
theorem dX4_massOf_24 : decode cX4_massOf 24 = .ok (.iload_n 3, 1) := by decide +kernel
theorem dX4_massOf_25 : decode cX4_massOf 25 = .ok (.invokevirtual 75, 3) := by decide +kernel
theorem dX4_massOf_28 : decode cX4_massOf 28 = .ok (.ifCond .eq 12, 3) := by decide +kernel
theorem dX4_massOf_31 : decode cX4_massOf 31 = .ok (.aload_n 0, 1) := by decide +kernel
theorem dX4_massOf_32 : decode cX4_massOf 32 = .ok (.getfield 13, 3) := by decide +kernel
theorem dX4_massOf_35 : decode cX4_massOf 35 = .ok (.iload_n 3, 1) := by decide +kernel
theorem dX4_massOf_36 : decode cX4_massOf 36 = .ok (.iaload, 1) := by decide +kernel
theorem dX4_massOf_37 : decode cX4_massOf 37 = .ok (.goto 4, 3) := by decide +kernel
theorem dX4_massOf_40 : decode cX4_massOf 40 = .ok (.iconst 0, 1) := by decide +kernel
theorem dX4_massOf_41 : decode cX4_massOf 41 = .ok (.iadd, 1) := by decide +kernel
theorem dX4_massOf_42 : decode cX4_massOf 42 = .ok (.istore_n 2, 1) := by decide +kernel
theorem dX4_massOf_43 : decode cX4_massOf 43 = .ok (.iinc 3 1, 3) := by decide +kernel
theorem dX4_massOf_46 : decode cX4_massOf 46 = .ok (.goto (-42), 3) := by decide +kernel
theorem dX4_massOf_49 : decode cX4_massOf 49 = .ok (.iload_n 2, 1) := by decide +kernel
theorem dX4_massOf_50 : decode cX4_massOf 50 = .ok (.ireturn, 1) := by decide +kernel
set_option maxRecDepth 20000 in
theorem ggX4_mass_X4_massByWalks : GoodIn wsX4_mass wsX4_massByWalks := goodIn_r _ [5, 6, 7, 8, 4, 9, 10, 11, 12, 13, 14, 15, 16, 17, 18, 19, 20, 21, 22, 23, 24, 25, 26, 27, 28, 29, 30, 31, 32, 33, 34, 35, 36, 37, 38, 39, 40, 41, 42, 43, 44, 45, 46, 47, 48, 49, 50, 51] (by decide +kernel) (by decide +kernel)
set_option maxRecDepth 20000 in
theorem gX4_mass_X4_massByWalks : GoodIn wsX4_mass (wsV RX4 97 RX4 yX4_massByWalks wsX4_massByWalks) := goodIn_app (goodIn_of _ (by decide +kernel)) ggX4_mass_X4_massByWalks
theorem dX4_mass_0 : decode cX4_mass 0 = .ok (.aload_n 0, 1) := by decide +kernel
theorem dX4_mass_1 : decode cX4_mass 1 = .ok (.iload_n 1, 1) := by decide +kernel
theorem dX4_mass_2 : decode cX4_mass 2 = .ok (.invokevirtual 97, 3) := by decide +kernel
theorem dX4_mass_5 : decode cX4_mass 5 = .ok (.ireturn, 1) := by decide +kernel
set_option maxRecDepth 20000 in
theorem ggX4_massByWalks_X4_isSense : GoodIn wsX4_massByWalks wsX4_isSense := goodIn_r _ [5, 6, 7, 8, 4, 9, 10, 11, 12, 33, 34, 35, 36, 37, 38, 39, 40, 41, 42, 43, 44, 45, 46, 47] (by decide +kernel) (by decide +kernel)
set_option maxRecDepth 20000 in
theorem gX4_massByWalks_X4_isSense : GoodIn wsX4_massByWalks (wsV RX4 65 RX4 yX4_isSense wsX4_isSense) := goodIn_app (goodIn_of _ (by decide +kernel)) ggX4_massByWalks_X4_isSense
set_option maxRecDepth 20000 in
theorem ggX4_massByWalks_X4_goesWell : GoodIn wsX4_massByWalks wsX4_goesWell := goodIn_r _ [16, 17, 33, 34, 35, 36, 37, 38, 39, 40, 41, 42, 43, 44, 45, 46, 47] (by decide +kernel) (by decide +kernel)
set_option maxRecDepth 20000 in
theorem gX4_massByWalks_X4_goesWell : GoodIn wsX4_massByWalks (wsV RX4 61 RX4 yX4_goesWell wsX4_goesWell) := goodIn_app (goodIn_of _ (by decide +kernel)) ggX4_massByWalks_X4_goesWell
set_option maxRecDepth 20000 in
theorem ggX4_massByWalks_X4_layUp : GoodIn wsX4_massByWalks wsX4_layUp := goodIn_r _ [21, 22, 6, 23, 10, 11, 4, 12, 33, 34, 35, 36, 37, 38, 39, 40, 41, 42, 43, 44, 45, 46, 47] (by decide +kernel) (by decide +kernel)
set_option maxRecDepth 20000 in
theorem gX4_massByWalks_X4_layUp : GoodIn wsX4_massByWalks (wsV RX4 72 RX4 yX4_layUp wsX4_layUp) := goodIn_app (goodIn_of _ (by decide +kernel)) ggX4_massByWalks_X4_layUp
set_option maxRecDepth 20000 in
theorem ggX4_massByWalks_X4_massOf : GoodIn wsX4_massByWalks wsX4_massOf := goodIn_r _ [27, 6, 28, 10, 11, 4, 12, 29, 30, 31, 32, 22, 33, 34, 35, 36, 37, 38, 39, 40, 41, 42, 43, 44, 45, 46, 47] (by decide +kernel) (by decide +kernel)
set_option maxRecDepth 20000 in
theorem gX4_massByWalks_X4_massOf : GoodIn wsX4_massByWalks (wsV RX4 100 RX4 yX4_massOf wsX4_massOf) := goodIn_app (goodIn_of _ (by decide +kernel)) ggX4_massByWalks_X4_massOf
theorem dX4_massByWalks_0 : decode cX4_massByWalks 0 = .ok (.aload_n 0, 1) := by decide +kernel
theorem dX4_massByWalks_1 : decode cX4_massByWalks 1 = .ok (.aload_n 0, 1) := by decide +kernel
theorem dX4_massByWalks_2 : decode cX4_massByWalks 2 = .ok (.iload_n 1, 1) := by decide +kernel
theorem dX4_massByWalks_3 : decode cX4_massByWalks 3 = .ok (.invokevirtual 65, 3) := by decide +kernel
theorem dX4_massByWalks_6 : decode cX4_massByWalks 6 = .ok (.ifCond .eq 7, 3) := by decide +kernel
theorem dX4_massByWalks_9 : decode cX4_massByWalks 9 = .ok (.iconst 0, 1) := by decide +kernel
theorem dX4_massByWalks_10 : decode cX4_massByWalks 10 = .ok (.goto 4, 3) := by decide +kernel
theorem dX4_massByWalks_13 : decode cX4_massByWalks 13 = .ok (.iconst 1, 1) := by decide +kernel
theorem dX4_massByWalks_14 : decode cX4_massByWalks 14 = .ok (.invokevirtual 61, 3) := by decide +kernel
theorem dX4_massByWalks_17 : decode cX4_massByWalks 17 = .ok (.ifCond .ne 5, 3) := by decide +kernel
theorem dX4_massByWalks_20 : decode cX4_massByWalks 20 = .ok (.iconst 0, 1) := by decide +kernel
theorem dX4_massByWalks_21 : decode cX4_massByWalks 21 = .ok (.ireturn, 1) := by decide +kernel
theorem dX4_massByWalks_22 : decode cX4_massByWalks 22 = .ok (.aload_n 0, 1) := by decide +kernel
theorem dX4_massByWalks_23 : decode cX4_massByWalks 23 = .ok (.invokevirtual 72, 3) := by decide +kernel
theorem dX4_massByWalks_26 : decode cX4_massByWalks 26 = .ok (.aload_n 0, 1) := by decide +kernel
theorem dX4_massByWalks_27 : decode cX4_massByWalks 27 = .ok (.iload_n 1, 1) := by decide +kernel
theorem dX4_massByWalks_28 : decode cX4_massByWalks 28 = .ok (.invokevirtual 100, 3) := by decide +kernel
theorem dX4_massByWalks_31 : decode cX4_massByWalks 31 = .ok (.ireturn, 1) := by decide +kernel
set_option maxRecDepth 20000 in
theorem ggX4_depthOf_X4_has : GoodIn wsX4_depthOf wsX4_has := goodIn_r _ [7] (by decide +kernel) (by decide +kernel)
set_option maxRecDepth 20000 in
theorem gX4_depthOf_X4_has : GoodIn wsX4_depthOf (va_wsS RX4 51 yX4_has wsX4_has) := goodIn_app (goodIn_of _ (by decide +kernel)) ggX4_depthOf_X4_has
theorem dX4_depthOf_0 : decode cX4_depthOf 0 = .ok (.sipush 1000, 3) := by decide +kernel
theorem dX4_depthOf_3 : decode cX4_depthOf 3 = .ok (.istore_n 2, 1) := by decide +kernel
theorem dX4_depthOf_4 : decode cX4_depthOf 4 = .ok (.iconst 0, 1) := by decide +kernel
theorem dX4_depthOf_5 : decode cX4_depthOf 5 = .ok (.istore_n 3, 1) := by decide +kernel
theorem dX4_depthOf_6 : decode cX4_depthOf 6 = .ok (.iload_n 3, 1) := by decide +kernel
theorem dX4_depthOf_7 : decode cX4_depthOf 7 = .ok (.bipush 30, 2) := by decide +kernel
theorem dX4_depthOf_9 : decode cX4_depthOf 9 = .ok (.if_icmp .ge 61, 3) := by decide +kernel
theorem dX4_depthOf_12 : decode cX4_depthOf 12 = .ok (.aload_n 0, 1) := by decide +kernel
theorem dX4_depthOf_13 : decode cX4_depthOf 13 = .ok (.getfield 48, 3) := by decide +kernel
theorem dX4_depthOf_16 : decode cX4_depthOf 16 = .ok (.iload_n 3, 1) := by decide +kernel
theorem dX4_depthOf_17 : decode cX4_depthOf 17 = .ok (.invokestatic 51, 3) := by decide +kernel
theorem dX4_depthOf_20 : decode cX4_depthOf 20 = .ok (.ifCond .eq 26, 3) := by decide +kernel
theorem dX4_depthOf_23 : decode cX4_depthOf 23 = .ok (.aload_n 0, 1) := by decide +kernel
theorem dX4_depthOf_24 : decode cX4_depthOf 24 = .ok (.getfield 7, 3) := by decide +kernel
theorem dX4_depthOf_27 : decode cX4_depthOf 27 = .ok (.iload_n 3, 1) := by decide +kernel
theorem dX4_depthOf_28 : decode cX4_depthOf 28 = .ok (.iaload, 1) := by decide +kernel
theorem dX4_depthOf_29 : decode cX4_depthOf 29 = .ok (.ifCond .ne 17, 3) := by decide +kernel
theorem dX4_depthOf_32 : decode cX4_depthOf 32 = .ok (.aload_n 0, 1) := by decide +kernel
theorem dX4_depthOf_33 : decode cX4_depthOf 33 = .ok (.getfield 28, 3) := by decide +kernel
theorem dX4_depthOf_36 : decode cX4_depthOf 36 = .ok (.bipush 30, 2) := by decide +kernel
theorem dX4_depthOf_38 : decode cX4_depthOf 38 = .ok (.iload_n 1, 1) := by decide +kernel
theorem dX4_depthOf_39 : decode cX4_depthOf 39 = .ok (.imul, 1) := by decide +kernel
theorem dX4_depthOf_40 : decode cX4_depthOf 40 = .ok (.iload_n 3, 1) := by decide +kernel
theorem dX4_depthOf_41 : decode cX4_depthOf 41 = .ok (.iadd, 1) := by decide +kernel
theorem dX4_depthOf_42 : decode cX4_depthOf 42 = .ok (.iaload, 1) := by decide +kernel
theorem dX4_depthOf_43 : decode cX4_depthOf 43 = .ok (.goto 6, 3) := by decide +kernel
theorem dX4_depthOf_46 : decode cX4_depthOf 46 = .ok (.sipush 1000, 3) := by decide +kernel
theorem dX4_depthOf_49 : decode cX4_depthOf 49 = .ok (.istore 4, 2) := by decide +kernel
theorem dX4_depthOf_51 : decode cX4_depthOf 51 = .ok (.iload 4, 2) := by decide +kernel
theorem dX4_depthOf_53 : decode cX4_depthOf 53 = .ok (.iload_n 2, 1) := by decide +kernel
theorem dX4_depthOf_54 : decode cX4_depthOf 54 = .ok (.if_icmp .ge 8, 3) := by decide +kernel
theorem dX4_depthOf_57 : decode cX4_depthOf 57 = .ok (.iload 4, 2) := by decide +kernel
theorem dX4_depthOf_59 : decode cX4_depthOf 59 = .ok (.goto 4, 3) := by decide +kernel
theorem dX4_depthOf_62 : decode cX4_depthOf 62 = .ok (.iload_n 2, 1) := by decide +kernel
theorem dX4_depthOf_63 : decode cX4_depthOf 63 = .ok (.istore_n 2, 1) := by decide +kernel
theorem dX4_depthOf_64 : decode cX4_depthOf 64 = .ok (.iinc 3 1, 3) := by decide +kernel
theorem dX4_depthOf_67 : decode cX4_depthOf 67 = .ok (.goto (-61), 3) := by decide +kernel
theorem dX4_depthOf_70 : decode cX4_depthOf 70 = .ok (.iload_n 2, 1) := by decide +kernel
theorem dX4_depthOf_71 : decode cX4_depthOf 71 = .ok (.ireturn, 1) := by decide +kernel
set_option maxRecDepth 20000 in
theorem ggX4_depth_X4_isSense : GoodIn wsX4_depth wsX4_isSense := goodIn_r _ [5, 6, 7, 8, 4, 9, 10, 11, 12, 28, 29, 30, 31, 32, 33, 34, 35, 36, 37, 38, 39, 40, 41, 42] (by decide +kernel) (by decide +kernel)
set_option maxRecDepth 20000 in
theorem gX4_depth_X4_isSense : GoodIn wsX4_depth (wsV RX4 65 RX4 yX4_isSense wsX4_isSense) := goodIn_app (goodIn_of _ (by decide +kernel)) ggX4_depth_X4_isSense
set_option maxRecDepth 20000 in
theorem ggX4_depth_X4_goesWell : GoodIn wsX4_depth wsX4_goesWell := goodIn_r _ [16, 17, 28, 29, 30, 31, 32, 33, 34, 35, 36, 37, 38, 39, 40, 41, 42] (by decide +kernel) (by decide +kernel)
set_option maxRecDepth 20000 in
theorem gX4_depth_X4_goesWell : GoodIn wsX4_depth (wsV RX4 61 RX4 yX4_goesWell wsX4_goesWell) := goodIn_app (goodIn_of _ (by decide +kernel)) ggX4_depth_X4_goesWell
set_option maxRecDepth 20000 in
theorem ggX4_depth_X4_layUp : GoodIn wsX4_depth wsX4_layUp := goodIn_r _ [21, 22, 6, 23, 10, 11, 4, 12, 28, 29, 30, 31, 32, 33, 34, 35, 36, 37, 38, 39, 40, 41, 42] (by decide +kernel) (by decide +kernel)
set_option maxRecDepth 20000 in
theorem gX4_depth_X4_layUp : GoodIn wsX4_depth (wsV RX4 72 RX4 yX4_layUp wsX4_layUp) := goodIn_app (goodIn_of _ (by decide +kernel)) ggX4_depth_X4_layUp
set_option maxRecDepth 20000 in
theorem ggX4_depth_X4_depthOf : GoodIn wsX4_depth wsX4_depthOf := goodIn_r _ [27, 6, 23, 22, 10, 11, 4, 12, 28, 29, 30, 31, 32, 33, 34, 35, 36, 37, 38, 39, 40, 41, 42] (by decide +kernel) (by decide +kernel)
set_option maxRecDepth 20000 in
theorem gX4_depth_X4_depthOf : GoodIn wsX4_depth (wsV RX4 103 RX4 yX4_depthOf wsX4_depthOf) := goodIn_app (goodIn_of _ (by decide +kernel)) ggX4_depth_X4_depthOf
theorem dX4_depth_0 : decode cX4_depth 0 = .ok (.aload_n 0, 1) := by decide +kernel
theorem dX4_depth_1 : decode cX4_depth 1 = .ok (.aload_n 0, 1) := by decide +kernel
theorem dX4_depth_2 : decode cX4_depth 2 = .ok (.iload_n 1, 1) := by decide +kernel
theorem dX4_depth_3 : decode cX4_depth 3 = .ok (.invokevirtual 65, 3) := by decide +kernel
theorem dX4_depth_6 : decode cX4_depth 6 = .ok (.ifCond .eq 7, 3) := by decide +kernel
theorem dX4_depth_9 : decode cX4_depth 9 = .ok (.iconst 0, 1) := by decide +kernel
theorem dX4_depth_10 : decode cX4_depth 10 = .ok (.goto 4, 3) := by decide +kernel
theorem dX4_depth_13 : decode cX4_depth 13 = .ok (.iconst 1, 1) := by decide +kernel
theorem dX4_depth_14 : decode cX4_depth 14 = .ok (.invokevirtual 61, 3) := by decide +kernel
theorem dX4_depth_17 : decode cX4_depth 17 = .ok (.ifCond .ne 5, 3) := by decide +kernel
theorem dX4_depth_20 : decode cX4_depth 20 = .ok (.iconst 0, 1) := by decide +kernel
theorem dX4_depth_21 : decode cX4_depth 21 = .ok (.ireturn, 1) := by decide +kernel
theorem dX4_depth_22 : decode cX4_depth 22 = .ok (.aload_n 0, 1) := by decide +kernel
theorem dX4_depth_23 : decode cX4_depth 23 = .ok (.invokevirtual 72, 3) := by decide +kernel
theorem dX4_depth_26 : decode cX4_depth 26 = .ok (.aload_n 0, 1) := by decide +kernel
theorem dX4_depth_27 : decode cX4_depth 27 = .ok (.iload_n 1, 1) := by decide +kernel
theorem dX4_depth_28 : decode cX4_depth 28 = .ok (.invokevirtual 103, 3) := by decide +kernel
theorem dX4_depth_31 : decode cX4_depth 31 = .ok (.ireturn, 1) := by decide +kernel
set_option maxRecDepth 20000 in
theorem ggX4_sharedOf_X4_has : GoodIn wsX4_sharedOf wsX4_has := goodIn_r _ [5] (by decide +kernel) (by decide +kernel)
set_option maxRecDepth 20000 in
theorem gX4_sharedOf_X4_has : GoodIn wsX4_sharedOf (va_wsS RX4 51 yX4_has wsX4_has) := goodIn_app (goodIn_of _ (by decide +kernel)) ggX4_sharedOf_X4_has
set_option maxRecDepth 20000 in
theorem ggX4_sharedOf_X4_covers : GoodIn wsX4_sharedOf wsX4_covers := goodIn_r _ [9, 10, 21, 22, 23, 24, 25, 26, 27, 28, 29, 30, 31, 32, 33, 34, 35] (by decide +kernel) (by decide +kernel)
set_option maxRecDepth 20000 in
theorem gX4_sharedOf_X4_covers : GoodIn wsX4_sharedOf (wsV RX4 75 RX4 yX4_covers wsX4_covers) := goodIn_app (goodIn_of _ (by decide +kernel)) ggX4_sharedOf_X4_covers
set_option maxRecDepth 20000 in
theorem ggX4_sharedOf_X4_massOf : GoodIn wsX4_sharedOf wsX4_massOf := goodIn_r _ [14, 1, 15, 2, 3, 4, 5, 6, 7, 8, 9, 10, 21, 22, 23, 24, 25, 26, 27, 28, 29, 30, 31, 32, 33, 34, 35] (by decide +kernel) (by decide +kernel)
set_option maxRecDepth 20000 in
theorem gX4_sharedOf_X4_massOf : GoodIn wsX4_sharedOf (wsV RX4 100 RX4 yX4_massOf wsX4_massOf) := goodIn_app (goodIn_of _ (by decide +kernel)) ggX4_sharedOf_X4_massOf
set_option maxRecDepth 20000 in
theorem ggX4_sharedOf_X4_depthOf : GoodIn wsX4_sharedOf wsX4_depthOf := goodIn_r _ [19, 1, 20, 10, 2, 3, 4, 5, 21, 22, 23, 24, 25, 26, 27, 28, 29, 30, 31, 32, 33, 34, 35] (by decide +kernel) (by decide +kernel)
set_option maxRecDepth 20000 in
theorem gX4_sharedOf_X4_depthOf : GoodIn wsX4_sharedOf (wsV RX4 103 RX4 yX4_depthOf wsX4_depthOf) := goodIn_app (goodIn_of _ (by decide +kernel)) ggX4_sharedOf_X4_depthOf
theorem dX4_sharedOf_0 : decode cX4_sharedOf 0 = .ok (.iconst (-1), 1) := by decide +kernel
theorem dX4_sharedOf_1 : decode cX4_sharedOf 1 = .ok (.istore_n 3, 1) := by decide +kernel
theorem dX4_sharedOf_2 : decode cX4_sharedOf 2 = .ok (.iconst 0, 1) := by decide +kernel
theorem dX4_sharedOf_3 : decode cX4_sharedOf 3 = .ok (.istore 4, 2) := by decide +kernel
theorem dX4_sharedOf_5 : decode cX4_sharedOf 5 = .ok (.iload 4, 2) := by decide +kernel
theorem dX4_sharedOf_7 : decode cX4_sharedOf 7 = .ok (.bipush 30, 2) := by decide +kernel
theorem dX4_sharedOf_9 : decode cX4_sharedOf 9 = .ok (.if_icmp .ge 107, 3) := by decide +kernel
theorem dX4_sharedOf_12 : decode cX4_sharedOf 12 = .ok (.aload_n 0, 1) := by decide +kernel
theorem dX4_sharedOf_13 : decode cX4_sharedOf 13 = .ok (.getfield 48, 3) := by decide +kernel
theorem dX4_sharedOf_16 : decode cX4_sharedOf 16 = .ok (.iload 4, 2) := by decide +kernel
theorem dX4_sharedOf_18 : decode cX4_sharedOf 18 = .ok (.invokestatic 51, 3) := by decide +kernel
theorem dX4_sharedOf_21 : decode cX4_sharedOf 21 = .ok (.ifCond .eq 89, 3) := by decide +kernel
theorem dX4_sharedOf_24 : decode cX4_sharedOf 24 = .ok (.aload_n 0, 1) := by decide +kernel
theorem dX4_sharedOf_25 : decode cX4_sharedOf 25 = .ok (.iload 4, 2) := by decide +kernel
theorem dX4_sharedOf_27 : decode cX4_sharedOf 27 = .ok (.iload_n 1, 1) := by decide +kernel
theorem dX4_sharedOf_28 : decode cX4_sharedOf 28 = .ok (.invokevirtual 75, 3) := by decide +kernel
theorem dX4_sharedOf_31 : decode cX4_sharedOf 31 = .ok (.ifCond .eq 79, 3) := by decide +kernel
theorem dX4_sharedOf_34 : decode cX4_sharedOf 34 = .ok (.aload_n 0, 1) := by decide +kernel
theorem dX4_sharedOf_35 : decode cX4_sharedOf 35 = .ok (.iload 4, 2) := by decide +kernel
theorem dX4_sharedOf_37 : decode cX4_sharedOf 37 = .ok (.iload_n 2, 1) := by decide +kernel
theorem dX4_sharedOf_38 : decode cX4_sharedOf 38 = .ok (.invokevirtual 75, 3) := by decide +kernel
theorem dX4_sharedOf_41 : decode cX4_sharedOf 41 = .ok (.ifCond .eq 69, 3) := by decide +kernel
theorem dX4_sharedOf_44 : decode cX4_sharedOf 44 = .ok (.iload_n 3, 1) := by decide +kernel
theorem dX4_sharedOf_45 : decode cX4_sharedOf 45 = .ok (.iconst (-1), 1) := by decide +kernel
theorem dX4_sharedOf_46 : decode cX4_sharedOf 46 = .ok (.if_icmp .ne 7, 3) := by decide +kernel
theorem dX4_sharedOf_49 : decode cX4_sharedOf 49 = .ok (.iconst (-1), 1) := by decide +kernel
theorem dX4_sharedOf_50 : decode cX4_sharedOf 50 = .ok (.goto 15, 3) := by decide +kernel
theorem dX4_sharedOf_53 : decode cX4_sharedOf 53 = .ok (.aload_n 0, 1) := by decide +kernel
theorem dX4_sharedOf_54 : decode cX4_sharedOf 54 = .ok (.iload 4, 2) := by decide +kernel
theorem dX4_sharedOf_56 : decode cX4_sharedOf 56 = .ok (.invokevirtual 100, 3) := by decide +kernel
theorem dX4_sharedOf_59 : decode cX4_sharedOf 59 = .ok (.aload_n 0, 1) := by decide +kernel
theorem dX4_sharedOf_60 : decode cX4_sharedOf 60 = .ok (.iload_n 3, 1) := by decide +kernel
theorem dX4_sharedOf_61 : decode cX4_sharedOf 61 = .ok (.invokevirtual 100, 3) := by decide +kernel
theorem dX4_sharedOf_64 : decode cX4_sharedOf 64 = .ok (.isub, 1) := by decide +kernel
theorem dX4_sharedOf_65 : decode cX4_sharedOf 65 = .ok (.istore 5, 2) := by decide +kernel
theorem dX4_sharedOf_67 : decode cX4_sharedOf 67 = .ok (.iload 5, 2) := by decide +kernel
theorem dX4_sharedOf_69 : decode cX4_sharedOf 69 = .ok (.ifCond .lt 22, 3) := by decide +kernel
theorem dX4_sharedOf_72 : decode cX4_sharedOf 72 = .ok (.iload 5, 2) := by decide +kernel
theorem dX4_sharedOf_74 : decode cX4_sharedOf 74 = .ok (.ifCond .ne 21, 3) := by decide +kernel
theorem dX4_sharedOf_77 : decode cX4_sharedOf 77 = .ok (.aload_n 0, 1) := by decide +kernel
theorem dX4_sharedOf_78 : decode cX4_sharedOf 78 = .ok (.iload 4, 2) := by decide +kernel
theorem dX4_sharedOf_80 : decode cX4_sharedOf 80 = .ok (.invokevirtual 103, 3) := by decide +kernel
theorem dX4_sharedOf_83 : decode cX4_sharedOf 83 = .ok (.aload_n 0, 1) := by decide +kernel
theorem dX4_sharedOf_84 : decode cX4_sharedOf 84 = .ok (.iload_n 3, 1) := by decide +kernel
theorem dX4_sharedOf_85 : decode cX4_sharedOf 85 = .ok (.invokevirtual 103, 3) := by decide +kernel
theorem dX4_sharedOf_88 : decode cX4_sharedOf 88 = .ok (.if_icmp .le 7, 3) := by decide +kernel
theorem dX4_sharedOf_91 : decode cX4_sharedOf 91 = .ok (.iconst 1, 1) := by decide +kernel
theorem dX4_sharedOf_92 : decode cX4_sharedOf 92 = .ok (.goto 4, 3) := by decide +kernel
theorem dX4_sharedOf_95 : decode cX4_sharedOf 95 = .ok (.iconst 0, 1) := by decide +kernel
theorem dX4_sharedOf_96 : decode cX4_sharedOf 96 = .ok (.istore 6, 2) := by decide +kernel
theorem dX4_sharedOf_98 : decode cX4_sharedOf 98 = .ok (.iload 6, 2) := by decide +kernel
theorem dX4_sharedOf_100 : decode cX4_sharedOf 100 = .ok (.ifCond .eq 8, 3) := by decide +kernel
theorem dX4_sharedOf_103 : decode cX4_sharedOf 103 = .ok (.iload 4, 2) := by decide +kernel
theorem dX4_sharedOf_105 : decode cX4_sharedOf 105 = .ok (.goto 4, 3) := by decide +kernel
theorem dX4_sharedOf_108 : decode cX4_sharedOf 108 = .ok (.iload_n 3, 1) := by decide +kernel
theorem dX4_sharedOf_109 : decode cX4_sharedOf 109 = .ok (.istore_n 3, 1) := by decide +kernel
theorem dX4_sharedOf_110 : decode cX4_sharedOf 110 = .ok (.iinc 4 1, 3) := by decide +kernel
theorem dX4_sharedOf_113 : decode cX4_sharedOf 113 = .ok (.goto (-108), 3) := by decide +kernel
theorem dX4_sharedOf_116 : decode cX4_sharedOf 116 = .ok (.iload_n 3, 1) := by decide +kernel
theorem dX4_sharedOf_117 : decode cX4_sharedOf 117 = .ok (.ireturn, 1) := by decide +kernel
set_option maxRecDepth 20000 in
theorem ggX4_shared_X4_isSense : GoodIn wsX4_shared wsX4_isSense := goodIn_r _ [5, 6, 7, 8, 4, 9, 10, 11, 12, 41, 42, 43, 44, 45, 46, 47, 48, 49, 50, 51, 52, 53, 54, 55] (by decide +kernel) (by decide +kernel)
set_option maxRecDepth 20000 in
theorem gX4_shared_X4_isSense : GoodIn wsX4_shared (wsV RX4 65 RX4 yX4_isSense wsX4_isSense) := goodIn_app (goodIn_of _ (by decide +kernel)) ggX4_shared_X4_isSense
set_option maxRecDepth 20000 in
theorem ggX4_shared_X4_goesWell : GoodIn wsX4_shared wsX4_goesWell := goodIn_r _ [16, 17, 41, 42, 43, 44, 45, 46, 47, 48, 49, 50, 51, 52, 53, 54, 55] (by decide +kernel) (by decide +kernel)
set_option maxRecDepth 20000 in
theorem gX4_shared_X4_goesWell : GoodIn wsX4_shared (wsV RX4 61 RX4 yX4_goesWell wsX4_goesWell) := goodIn_app (goodIn_of _ (by decide +kernel)) ggX4_shared_X4_goesWell
set_option maxRecDepth 20000 in
theorem ggX4_shared_X4_layUp : GoodIn wsX4_shared wsX4_layUp := goodIn_r _ [21, 22, 6, 23, 10, 11, 4, 12, 41, 42, 43, 44, 45, 46, 47, 48, 49, 50, 51, 52, 53, 54, 55] (by decide +kernel) (by decide +kernel)
set_option maxRecDepth 20000 in
theorem gX4_shared_X4_layUp : GoodIn wsX4_shared (wsV RX4 72 RX4 yX4_layUp wsX4_layUp) := goodIn_app (goodIn_of _ (by decide +kernel)) ggX4_shared_X4_layUp
set_option maxRecDepth 20000 in
theorem ggX4_shared_X4_sharedOf : GoodIn wsX4_shared wsX4_sharedOf := goodIn_r _ [27, 6, 10, 11, 4, 12, 28, 29, 30, 31, 22, 32, 33, 34, 35, 36, 37, 38, 39, 40, 23, 41, 42, 43, 44, 45, 46, 47, 48, 49, 50, 51, 52, 53, 54, 55] (by decide +kernel) (by decide +kernel)
set_option maxRecDepth 20000 in
theorem gX4_shared_X4_sharedOf : GoodIn wsX4_shared (wsV RX4 106 RX4 yX4_sharedOf wsX4_sharedOf) := goodIn_app (goodIn_of _ (by decide +kernel)) ggX4_shared_X4_sharedOf
theorem dX4_shared_0 : decode cX4_shared 0 = .ok (.aload_n 0, 1) := by decide +kernel
theorem dX4_shared_1 : decode cX4_shared 1 = .ok (.aload_n 0, 1) := by decide +kernel
theorem dX4_shared_2 : decode cX4_shared 2 = .ok (.iload_n 1, 1) := by decide +kernel
theorem dX4_shared_3 : decode cX4_shared 3 = .ok (.invokevirtual 65, 3) := by decide +kernel
theorem dX4_shared_6 : decode cX4_shared 6 = .ok (.ifCond .eq 15, 3) := by decide +kernel
theorem dX4_shared_9 : decode cX4_shared 9 = .ok (.aload_n 0, 1) := by decide +kernel
theorem dX4_shared_10 : decode cX4_shared 10 = .ok (.iload_n 2, 1) := by decide +kernel
theorem dX4_shared_11 : decode cX4_shared 11 = .ok (.invokevirtual 65, 3) := by decide +kernel
theorem dX4_shared_14 : decode cX4_shared 14 = .ok (.ifCond .eq 7, 3) := by decide +kernel
theorem dX4_shared_17 : decode cX4_shared 17 = .ok (.iconst 0, 1) := by decide +kernel
theorem dX4_shared_18 : decode cX4_shared 18 = .ok (.goto 4, 3) := by decide +kernel
theorem dX4_shared_21 : decode cX4_shared 21 = .ok (.iconst 1, 1) := by decide +kernel
theorem dX4_shared_22 : decode cX4_shared 22 = .ok (.invokevirtual 61, 3) := by decide +kernel
theorem dX4_shared_25 : decode cX4_shared 25 = .ok (.ifCond .ne 5, 3) := by decide +kernel
theorem dX4_shared_28 : decode cX4_shared 28 = .ok (.iconst 0, 1) := by decide +kernel
theorem dX4_shared_29 : decode cX4_shared 29 = .ok (.ireturn, 1) := by decide +kernel
theorem dX4_shared_30 : decode cX4_shared 30 = .ok (.aload_n 0, 1) := by decide +kernel
theorem dX4_shared_31 : decode cX4_shared 31 = .ok (.invokevirtual 72, 3) := by decide +kernel
theorem dX4_shared_34 : decode cX4_shared 34 = .ok (.aload_n 0, 1) := by decide +kernel
theorem dX4_shared_35 : decode cX4_shared 35 = .ok (.iload_n 1, 1) := by decide +kernel
theorem dX4_shared_36 : decode cX4_shared 36 = .ok (.iload_n 2, 1) := by decide +kernel
theorem dX4_shared_37 : decode cX4_shared 37 = .ok (.invokevirtual 106, 3) := by decide +kernel
theorem dX4_shared_40 : decode cX4_shared 40 = .ok (.ireturn, 1) := by decide +kernel
theorem dX4_distanceOf_0 : decode cX4_distanceOf 0 = .ok (.sipush 1000, 3) := by decide +kernel
theorem dX4_distanceOf_3 : decode cX4_distanceOf 3 = .ok (.istore_n 3, 1) := by decide +kernel
theorem dX4_distanceOf_4 : decode cX4_distanceOf 4 = .ok (.iconst 0, 1) := by decide +kernel
theorem dX4_distanceOf_5 : decode cX4_distanceOf 5 = .ok (.istore 4, 2) := by decide +kernel
theorem dX4_distanceOf_7 : decode cX4_distanceOf 7 = .ok (.iload 4, 2) := by decide +kernel
theorem dX4_distanceOf_9 : decode cX4_distanceOf 9 = .ok (.bipush 30, 2) := by decide +kernel
theorem dX4_distanceOf_11 : decode cX4_distanceOf 11 = .ok (.if_icmp .ge 49, 3) := by decide +kernel
theorem dX4_distanceOf_14 : decode cX4_distanceOf 14 = .ok (.aload_n 0, 1) := by decide +kernel
theorem dX4_distanceOf_15 : decode cX4_distanceOf 15 = .ok (.getfield 28, 3) := by decide +kernel
theorem dX4_distanceOf_18 : decode cX4_distanceOf 18 = .ok (.bipush 30, 2) := by decide +kernel
theorem dX4_distanceOf_20 : decode cX4_distanceOf 20 = .ok (.iload_n 1, 1) := by decide +kernel
theorem dX4_distanceOf_21 : decode cX4_distanceOf 21 = .ok (.imul, 1) := by decide +kernel
theorem dX4_distanceOf_22 : decode cX4_distanceOf 22 = .ok (.iload 4, 2) := by decide +kernel
theorem dX4_distanceOf_24 : decode cX4_distanceOf 24 = .ok (.iadd, 1) := by decide +kernel
theorem dX4_distanceOf_25 : decode cX4_distanceOf 25 = .ok (.iaload, 1) := by decide +kernel
theorem dX4_distanceOf_26 : decode cX4_distanceOf 26 = .ok (.aload_n 0, 1) := by decide +kernel
theorem dX4_distanceOf_27 : decode cX4_distanceOf 27 = .ok (.getfield 28, 3) := by decide +kernel
theorem dX4_distanceOf_30 : decode cX4_distanceOf 30 = .ok (.bipush 30, 2) := by decide +kernel
theorem dX4_distanceOf_32 : decode cX4_distanceOf 32 = .ok (.iload_n 2, 1) := by decide +kernel
theorem dX4_distanceOf_33 : decode cX4_distanceOf 33 = .ok (.imul, 1) := by decide +kernel
theorem dX4_distanceOf_34 : decode cX4_distanceOf 34 = .ok (.iload 4, 2) := by decide +kernel
theorem dX4_distanceOf_36 : decode cX4_distanceOf 36 = .ok (.iadd, 1) := by decide +kernel
theorem dX4_distanceOf_37 : decode cX4_distanceOf 37 = .ok (.iaload, 1) := by decide +kernel
theorem dX4_distanceOf_38 : decode cX4_distanceOf 38 = .ok (.iadd, 1) := by decide +kernel
theorem dX4_distanceOf_39 : decode cX4_distanceOf 39 = .ok (.istore 5, 2) := by decide +kernel
theorem dX4_distanceOf_41 : decode cX4_distanceOf 41 = .ok (.iload 5, 2) := by decide +kernel
theorem dX4_distanceOf_43 : decode cX4_distanceOf 43 = .ok (.iload_n 3, 1) := by decide +kernel
theorem dX4_distanceOf_44 : decode cX4_distanceOf 44 = .ok (.if_icmp .ge 8, 3) := by decide +kernel
theorem dX4_distanceOf_47 : decode cX4_distanceOf 47 = .ok (.iload 5, 2) := by decide +kernel
theorem dX4_distanceOf_49 : decode cX4_distanceOf 49 = .ok (.goto 4, 3) := by decide +kernel
theorem dX4_distanceOf_52 : decode cX4_distanceOf 52 = .ok (.iload_n 3, 1) := by decide +kernel
theorem dX4_distanceOf_53 : decode cX4_distanceOf 53 = .ok (.istore_n 3, 1) := by decide +kernel
theorem dX4_distanceOf_54 : decode cX4_distanceOf 54 = .ok (.iinc 4 1, 3) := by decide +kernel
theorem dX4_distanceOf_57 : decode cX4_distanceOf 57 = .ok (.goto (-50), 3) := by decide +kernel
theorem dX4_distanceOf_60 : decode cX4_distanceOf 60 = .ok (.iload_n 3, 1) := by decide +kernel
theorem dX4_distanceOf_61 : decode cX4_distanceOf 61 = .ok (.sipush 1000, 3) := by decide +kernel
theorem dX4_distanceOf_64 : decode cX4_distanceOf 64 = .ok (.if_icmp .ge 7, 3) := by decide +kernel
theorem dX4_distanceOf_67 : decode cX4_distanceOf 67 = .ok (.iload_n 3, 1) := by decide +kernel
theorem dX4_distanceOf_68 : decode cX4_distanceOf 68 = .ok (.goto 4, 3) := by decide +kernel
theorem dX4_distanceOf_71 : decode cX4_distanceOf 71 = .ok (.iconst (-1), 1) := by decide +kernel
theorem dX4_distanceOf_72 : decode cX4_distanceOf 72 = .ok (.ireturn, 1) := by decide +kernel
set_option maxRecDepth 20000 in
theorem ggX4_distance_X4_isSense : GoodIn wsX4_distance wsX4_isSense := goodIn_r _ [5, 6, 7, 8, 4, 9, 10, 11, 12, 28, 29, 30, 31, 32, 33, 34, 35, 36, 37, 38, 39, 40, 41, 42] (by decide +kernel) (by decide +kernel)
set_option maxRecDepth 20000 in
theorem gX4_distance_X4_isSense : GoodIn wsX4_distance (wsV RX4 65 RX4 yX4_isSense wsX4_isSense) := goodIn_app (goodIn_of _ (by decide +kernel)) ggX4_distance_X4_isSense
set_option maxRecDepth 20000 in
theorem ggX4_distance_X4_goesWell : GoodIn wsX4_distance wsX4_goesWell := goodIn_r _ [16, 17, 28, 29, 30, 31, 32, 33, 34, 35, 36, 37, 38, 39, 40, 41, 42] (by decide +kernel) (by decide +kernel)
set_option maxRecDepth 20000 in
theorem gX4_distance_X4_goesWell : GoodIn wsX4_distance (wsV RX4 61 RX4 yX4_goesWell wsX4_goesWell) := goodIn_app (goodIn_of _ (by decide +kernel)) ggX4_distance_X4_goesWell
set_option maxRecDepth 20000 in
theorem ggX4_distance_X4_layUp : GoodIn wsX4_distance wsX4_layUp := goodIn_r _ [21, 22, 6, 23, 10, 11, 4, 12, 28, 29, 30, 31, 32, 33, 34, 35, 36, 37, 38, 39, 40, 41, 42] (by decide +kernel) (by decide +kernel)
set_option maxRecDepth 20000 in
theorem gX4_distance_X4_layUp : GoodIn wsX4_distance (wsV RX4 72 RX4 yX4_layUp wsX4_layUp) := goodIn_app (goodIn_of _ (by decide +kernel)) ggX4_distance_X4_layUp
set_option maxRecDepth 20000 in
theorem ggX4_distance_X4_distanceOf : GoodIn wsX4_distance wsX4_distanceOf := goodIn_r _ [27, 22, 28, 29, 30, 31, 32, 33, 34, 35, 36, 37, 38, 39, 40, 41, 42] (by decide +kernel) (by decide +kernel)
set_option maxRecDepth 20000 in
theorem gX4_distance_X4_distanceOf : GoodIn wsX4_distance (wsV RX4 109 RX4 yX4_distanceOf wsX4_distanceOf) := goodIn_app (goodIn_of _ (by decide +kernel)) ggX4_distance_X4_distanceOf
theorem dX4_distance_0 : decode cX4_distance 0 = .ok (.aload_n 0, 1) := by decide +kernel
theorem dX4_distance_1 : decode cX4_distance 1 = .ok (.aload_n 0, 1) := by decide +kernel
theorem dX4_distance_2 : decode cX4_distance 2 = .ok (.iload_n 1, 1) := by decide +kernel
theorem dX4_distance_3 : decode cX4_distance 3 = .ok (.invokevirtual 65, 3) := by decide +kernel
theorem dX4_distance_6 : decode cX4_distance 6 = .ok (.ifCond .eq 15, 3) := by decide +kernel
theorem dX4_distance_9 : decode cX4_distance 9 = .ok (.aload_n 0, 1) := by decide +kernel
theorem dX4_distance_10 : decode cX4_distance 10 = .ok (.iload_n 2, 1) := by decide +kernel
theorem dX4_distance_11 : decode cX4_distance 11 = .ok (.invokevirtual 65, 3) := by decide +kernel
theorem dX4_distance_14 : decode cX4_distance 14 = .ok (.ifCond .eq 7, 3) := by decide +kernel
theorem dX4_distance_17 : decode cX4_distance 17 = .ok (.iconst 0, 1) := by decide +kernel
theorem dX4_distance_18 : decode cX4_distance 18 = .ok (.goto 4, 3) := by decide +kernel
theorem dX4_distance_21 : decode cX4_distance 21 = .ok (.iconst 1, 1) := by decide +kernel
theorem dX4_distance_22 : decode cX4_distance 22 = .ok (.invokevirtual 61, 3) := by decide +kernel
theorem dX4_distance_25 : decode cX4_distance 25 = .ok (.ifCond .ne 5, 3) := by decide +kernel
theorem dX4_distance_28 : decode cX4_distance 28 = .ok (.iconst 0, 1) := by decide +kernel
theorem dX4_distance_29 : decode cX4_distance 29 = .ok (.ireturn, 1) := by decide +kernel
theorem dX4_distance_30 : decode cX4_distance 30 = .ok (.aload_n 0, 1) := by decide +kernel
theorem dX4_distance_31 : decode cX4_distance 31 = .ok (.invokevirtual 72, 3) := by decide +kernel
theorem dX4_distance_34 : decode cX4_distance 34 = .ok (.aload_n 0, 1) := by decide +kernel
theorem dX4_distance_35 : decode cX4_distance 35 = .ok (.iload_n 1, 1) := by decide +kernel
theorem dX4_distance_36 : decode cX4_distance 36 = .ok (.iload_n 2, 1) := by decide +kernel
theorem dX4_distance_37 : decode cX4_distance 37 = .ok (.invokevirtual 109, 3) := by decide +kernel
theorem dX4_distance_40 : decode cX4_distance 40 = .ok (.ireturn, 1) := by decide +kernel
set_option maxRecDepth 20000 in
theorem ggX4_likenessOf_X4_sharedOf : GoodIn wsX4_likenessOf wsX4_sharedOf := goodIn_r _ [7, 1, 8, 9, 6, 10, 11, 12, 13, 14, 15, 16, 17, 18, 19, 2, 20, 21, 22, 23, 24, 29, 30, 31, 32, 33, 34, 35, 36, 37, 38, 39, 40, 41, 42, 43] (by decide +kernel) (by decide +kernel)
set_option maxRecDepth 20000 in
theorem gX4_likenessOf_X4_sharedOf : GoodIn wsX4_likenessOf (wsV RX4 106 RX4 yX4_sharedOf wsX4_sharedOf) := goodIn_app (goodIn_of _ (by decide +kernel)) ggX4_likenessOf_X4_sharedOf
set_option maxRecDepth 20000 in
theorem ggX4_likenessOf_X4_distanceOf : GoodIn wsX4_likenessOf wsX4_distanceOf := goodIn_r _ [28, 15, 29, 30, 31, 32, 33, 34, 35, 36, 37, 38, 39, 40, 41, 42, 43] (by decide +kernel) (by decide +kernel)
set_option maxRecDepth 20000 in
theorem gX4_likenessOf_X4_distanceOf : GoodIn wsX4_likenessOf (wsV RX4 109 RX4 yX4_distanceOf wsX4_distanceOf) := goodIn_app (goodIn_of _ (by decide +kernel)) ggX4_likenessOf_X4_distanceOf
set_option maxRecDepth 20000 in
theorem ggX4_likenessOf_X4_depthOf : GoodIn wsX4_likenessOf wsX4_depthOf := goodIn_r _ [23, 1, 24, 15, 8, 9, 6, 10, 29, 30, 31, 32, 33, 34, 35, 36, 37, 38, 39, 40, 41, 42, 43] (by decide +kernel) (by decide +kernel)
set_option maxRecDepth 20000 in
theorem gX4_likenessOf_X4_depthOf : GoodIn wsX4_likenessOf (wsV RX4 103 RX4 yX4_depthOf wsX4_depthOf) := goodIn_app (goodIn_of _ (by decide +kernel)) ggX4_likenessOf_X4_depthOf
set_option maxRecDepth 20000 in
theorem ggX4_likenessOf_X4_has : GoodIn wsX4_likenessOf wsX4_has := goodIn_r _ [10] (by decide +kernel) (by decide +kernel)
set_option maxRecDepth 20000 in
theorem gX4_likenessOf_X4_has : GoodIn wsX4_likenessOf (va_wsS RX4 51 yX4_has wsX4_has) := goodIn_app (goodIn_of _ (by decide +kernel)) ggX4_likenessOf_X4_has
set_option maxRecDepth 20000 in
theorem ggX4_likenessOf_X4_massOf : GoodIn wsX4_likenessOf wsX4_massOf := goodIn_r _ [19, 1, 2, 8, 9, 6, 10, 11, 12, 13, 14, 15, 29, 30, 31, 32, 33, 34, 35, 36, 37, 38, 39, 40, 41, 42, 43] (by decide +kernel) (by decide +kernel)
set_option maxRecDepth 20000 in
theorem gX4_likenessOf_X4_massOf : GoodIn wsX4_likenessOf (wsV RX4 100 RX4 yX4_massOf wsX4_massOf) := goodIn_app (goodIn_of _ (by decide +kernel)) ggX4_likenessOf_X4_massOf
theorem dX4_likenessOf_0 : decode cX4_likenessOf 0 = .ok (.aload_n 0, 1) := by decide +kernel
theorem dX4_likenessOf_1 : decode cX4_likenessOf 1 = .ok (.iload_n 1, 1) := by decide +kernel
theorem dX4_likenessOf_2 : decode cX4_likenessOf 2 = .ok (.iload_n 2, 1) := by decide +kernel
theorem dX4_likenessOf_3 : decode cX4_likenessOf 3 = .ok (.invokevirtual 106, 3) := by decide +kernel
theorem dX4_likenessOf_6 : decode cX4_likenessOf 6 = .ok (.istore 4, 2) := by decide +kernel
theorem dX4_likenessOf_8 : decode cX4_likenessOf 8 = .ok (.iload 4, 2) := by decide +kernel
theorem dX4_likenessOf_10 : decode cX4_likenessOf 10 = .ok (.iconst (-1), 1) := by decide +kernel
theorem dX4_likenessOf_11 : decode cX4_likenessOf 11 = .ok (.if_icmp .ne 5, 3) := by decide +kernel
theorem dX4_likenessOf_14 : decode cX4_likenessOf 14 = .ok (.iconst 0, 1) := by decide +kernel
theorem dX4_likenessOf_15 : decode cX4_likenessOf 15 = .ok (.ireturn, 1) := by decide +kernel
theorem dX4_likenessOf_16 : decode cX4_likenessOf 16 = .ok (.iload_n 3, 1) := by decide +kernel
theorem dX4_likenessOf_17 : decode cX4_likenessOf 17 = .ok (.ifCond .ne 16, 3) := by decide +kernel
theorem dX4_likenessOf_20 : decode cX4_likenessOf 20 = .ok (.sipush 10000, 3) := by decide +kernel
theorem dX4_likenessOf_23 : decode cX4_likenessOf 23 = .ok (.iconst 1, 1) := by decide +kernel
theorem dX4_likenessOf_24 : decode cX4_likenessOf 24 = .ok (.aload_n 0, 1) := by decide +kernel
theorem dX4_likenessOf_25 : decode cX4_likenessOf 25 = .ok (.iload_n 1, 1) := by decide +kernel
theorem dX4_likenessOf_26 : decode cX4_likenessOf 26 = .ok (.iload_n 2, 1) := by decide +kernel
theorem dX4_likenessOf_27 : decode cX4_likenessOf 27 = .ok (.invokevirtual 109, 3) := by decide +kernel
theorem dX4_likenessOf_30 : decode cX4_likenessOf 30 = .ok (.iadd, 1) := by decide +kernel
theorem dX4_likenessOf_31 : decode cX4_likenessOf 31 = .ok (.idiv, 1) := by decide +kernel
theorem dX4_likenessOf_32 : decode cX4_likenessOf 32 = .ok (.ireturn, 1) := by decide +kernel
theorem dX4_likenessOf_33 : decode cX4_likenessOf 33 = .ok (.iload_n 3, 1) := by decide +kernel
theorem dX4_likenessOf_34 : decode cX4_likenessOf 34 = .ok (.iconst 1, 1) := by decide +kernel
theorem dX4_likenessOf_35 : decode cX4_likenessOf 35 = .ok (.if_icmp .ne 48, 3) := by decide +kernel
theorem dX4_likenessOf_38 : decode cX4_likenessOf 38 = .ok (.sipush 20000, 3) := by decide +kernel
theorem dX4_likenessOf_41 : decode cX4_likenessOf 41 = .ok (.aload_n 0, 1) := by decide +kernel
theorem dX4_likenessOf_42 : decode cX4_likenessOf 42 = .ok (.iload 4, 2) := by decide +kernel
theorem dX4_likenessOf_44 : decode cX4_likenessOf 44 = .ok (.invokevirtual 103, 3) := by decide +kernel
theorem dX4_likenessOf_47 : decode cX4_likenessOf 47 = .ok (.iconst 1, 1) := by decide +kernel
theorem dX4_likenessOf_48 : decode cX4_likenessOf 48 = .ok (.iadd, 1) := by decide +kernel
theorem dX4_likenessOf_49 : decode cX4_likenessOf 49 = .ok (.imul, 1) := by decide +kernel
theorem dX4_likenessOf_50 : decode cX4_likenessOf 50 = .ok (.aload_n 0, 1) := by decide +kernel
theorem dX4_likenessOf_51 : decode cX4_likenessOf 51 = .ok (.iload_n 1, 1) := by decide +kernel
theorem dX4_likenessOf_52 : decode cX4_likenessOf 52 = .ok (.invokevirtual 103, 3) := by decide +kernel
theorem dX4_likenessOf_55 : decode cX4_likenessOf 55 = .ok (.aload_n 0, 1) := by decide +kernel
theorem dX4_likenessOf_56 : decode cX4_likenessOf 56 = .ok (.iload_n 2, 1) := by decide +kernel
theorem dX4_likenessOf_57 : decode cX4_likenessOf 57 = .ok (.invokevirtual 103, 3) := by decide +kernel
theorem dX4_likenessOf_60 : decode cX4_likenessOf 60 = .ok (.iadd, 1) := by decide +kernel
theorem dX4_likenessOf_61 : decode cX4_likenessOf 61 = .ok (.iconst 2, 1) := by decide +kernel
theorem dX4_likenessOf_62 : decode cX4_likenessOf 62 = .ok (.iadd, 1) := by decide +kernel
theorem dX4_likenessOf_63 : decode cX4_likenessOf 63 = .ok (.idiv, 1) := by decide +kernel
theorem dX4_likenessOf_64 : decode cX4_likenessOf 64 = .ok (.istore 5, 2) := by decide +kernel
theorem dX4_likenessOf_66 : decode cX4_likenessOf 66 = .ok (.iload 5, 2) := by decide +kernel
theorem dX4_likenessOf_68 : decode cX4_likenessOf 68 = .ok (.sipush 10000, 3) := by decide +kernel
theorem dX4_likenessOf_71 : decode cX4_likenessOf 71 = .ok (.if_icmp .ge 8, 3) := by decide +kernel
theorem dX4_likenessOf_74 : decode cX4_likenessOf 74 = .ok (.iload 5, 2) := by decide +kernel
theorem dX4_likenessOf_76 : decode cX4_likenessOf 76 = .ok (.goto 6, 3) := by decide +kernel
theorem dX4_likenessOf_79 : decode cX4_likenessOf 79 = .ok (.sipush 10000, 3) := by decide +kernel
theorem dX4_likenessOf_82 : decode cX4_likenessOf 82 = .ok (.ireturn, 1) := by decide +kernel
theorem dX4_likenessOf_83 : decode cX4_likenessOf 83 = .ok (.iconst 0, 1) := by decide +kernel
theorem dX4_likenessOf_84 : decode cX4_likenessOf 84 = .ok (.istore 5, 2) := by decide +kernel
theorem dX4_likenessOf_86 : decode cX4_likenessOf 86 = .ok (.iconst 0, 1) := by decide +kernel
theorem dX4_likenessOf_87 : decode cX4_likenessOf 87 = .ok (.istore 6, 2) := by decide +kernel
theorem dX4_likenessOf_89 : decode cX4_likenessOf 89 = .ok (.iload 6, 2) := by decide +kernel
theorem dX4_likenessOf_91 : decode cX4_likenessOf 91 = .ok (.bipush 30, 2) := by decide +kernel
theorem dX4_likenessOf_93 : decode cX4_likenessOf 93 = .ok (.if_icmp .ge 37, 3) := by decide +kernel
theorem dX4_likenessOf_96 : decode cX4_likenessOf 96 = .ok (.iload 5, 2) := by decide +kernel
theorem dX4_likenessOf_98 : decode cX4_likenessOf 98 = .ok (.aload_n 0, 1) := by decide +kernel
theorem dX4_likenessOf_99 : decode cX4_likenessOf 99 = .ok (.getfield 48, 3) := by decide +kernel
theorem dX4_likenessOf_102 : decode cX4_likenessOf 102 = .ok (.iload 6, 2) := by decide +kernel
theorem dX4_likenessOf_104 : decode cX4_likenessOf 104 = .ok (.invokestatic 51, 3) := by decide +kernel
theorem dX4_likenessOf_107 : decode cX4_likenessOf 107 = .ok (.ifCond .eq 13, 3) := by decide +kernel
theorem dX4_likenessOf_110 : decode cX4_likenessOf 110 = .ok (.aload_n 0, 1) := by decide +kernel
theorem dX4_likenessOf_111 : decode cX4_likenessOf 111 = .ok (.getfield 13, 3) := by decide +kernel
theorem dX4_likenessOf_114 : decode cX4_likenessOf 114 = .ok (.iload 6, 2) := by decide +kernel
theorem dX4_likenessOf_116 : decode cX4_likenessOf 116 = .ok (.iaload, 1) := by decide +kernel
theorem dX4_likenessOf_117 : decode cX4_likenessOf 117 = .ok (.goto 4, 3) := by decide +kernel
theorem dX4_likenessOf_120 : decode cX4_likenessOf 120 = .ok (.iconst 0, 1) := by decide +kernel
theorem dX4_likenessOf_121 : decode cX4_likenessOf 121 = .ok (.iadd, 1) := by decide +kernel
theorem dX4_likenessOf_122 : decode cX4_likenessOf 122 = .ok (.istore 5, 2) := by decide +kernel
theorem dX4_likenessOf_124 : decode cX4_likenessOf 124 = .ok (.iinc 6 1, 3) := by decide +kernel
theorem dX4_likenessOf_127 : decode cX4_likenessOf 127 = .ok (.goto (-38), 3) := by decide +kernel
theorem dX4_likenessOf_130 : decode cX4_likenessOf 130 = .ok (.iload 5, 2) := by decide +kernel
theorem dX4_likenessOf_132 : decode cX4_likenessOf 132 = .ok (.ifCond .ne 7, 3) := by decide +kernel
theorem dX4_likenessOf_135 : decode cX4_likenessOf 135 = .ok (.iconst 0, 1) := by decide +kernel
theorem dX4_likenessOf_136 : decode cX4_likenessOf 136 = .ok (.goto 19, 3) := by decide +kernel
theorem dX4_likenessOf_139 : decode cX4_likenessOf 139 = .ok (.sipush 10000, 3) := by decide +kernel
theorem dX4_likenessOf_142 : decode cX4_likenessOf 142 = .ok (.iload 5, 2) := by decide +kernel
theorem dX4_likenessOf_144 : decode cX4_likenessOf 144 = .ok (.aload_n 0, 1) := by decide +kernel
theorem dX4_likenessOf_145 : decode cX4_likenessOf 145 = .ok (.iload 4, 2) := by decide +kernel
theorem dX4_likenessOf_147 : decode cX4_likenessOf 147 = .ok (.invokevirtual 100, 3) := by decide +kernel
theorem dX4_likenessOf_150 : decode cX4_likenessOf 150 = .ok (.isub, 1) := by decide +kernel
theorem dX4_likenessOf_151 : decode cX4_likenessOf 151 = .ok (.imul, 1) := by decide +kernel
theorem dX4_likenessOf_152 : decode cX4_likenessOf 152 = .ok (.iload 5, 2) := by decide +kernel
theorem dX4_likenessOf_154 : decode cX4_likenessOf 154 = .ok (.idiv, 1) := by decide +kernel
theorem dX4_likenessOf_155 : decode cX4_likenessOf 155 = .ok (.ireturn, 1) := by decide +kernel
set_option maxRecDepth 20000 in
theorem ggX4_isMeasure_X4_in : GoodIn wsX4_isMeasure wsX4_in := goodIn_r _ [4] (by decide +kernel) (by decide +kernel)
set_option maxRecDepth 20000 in
theorem gX4_isMeasure_X4_in : GoodIn wsX4_isMeasure (va_wsS RX4 44 yX4_in wsX4_in) := goodIn_app (goodIn_of _ (by decide +kernel)) ggX4_isMeasure_X4_in
theorem dX4_isMeasure_0 : decode cX4_isMeasure 0 = .ok (.iload_n 0, 1) := by decide +kernel
theorem dX4_isMeasure_1 : decode cX4_isMeasure 1 = .ok (.iconst 0, 1) := by decide +kernel
theorem dX4_isMeasure_2 : decode cX4_isMeasure 2 = .ok (.iconst 2, 1) := by decide +kernel
theorem dX4_isMeasure_3 : decode cX4_isMeasure 3 = .ok (.invokestatic 44, 3) := by decide +kernel
theorem dX4_isMeasure_6 : decode cX4_isMeasure 6 = .ok (.ireturn, 1) := by decide +kernel
set_option maxRecDepth 20000 in
theorem ggX4_likeness_X4_isSense : GoodIn wsX4_likeness wsX4_isSense := goodIn_r _ [5, 6, 7, 8, 4, 9, 10, 11, 12, 52, 53, 54, 55, 56, 57, 58, 59, 60, 61, 62, 63, 64, 65, 66] (by decide +kernel) (by decide +kernel)
set_option maxRecDepth 20000 in
theorem gX4_likeness_X4_isSense : GoodIn wsX4_likeness (wsV RX4 65 RX4 yX4_isSense wsX4_isSense) := goodIn_app (goodIn_of _ (by decide +kernel)) ggX4_likeness_X4_isSense
set_option maxRecDepth 20000 in
theorem ggX4_likeness_X4_isMeasure : GoodIn wsX4_likeness wsX4_isMeasure := goodIn_r _ [15, 7, 8, 4, 9] (by decide +kernel) (by decide +kernel)
set_option maxRecDepth 20000 in
theorem gX4_likeness_X4_isMeasure : GoodIn wsX4_likeness (va_wsS RX4 112 yX4_isMeasure wsX4_isMeasure) := goodIn_app (goodIn_of _ (by decide +kernel)) ggX4_likeness_X4_isMeasure
set_option maxRecDepth 20000 in
theorem ggX4_likeness_X4_goesWell : GoodIn wsX4_likeness wsX4_goesWell := goodIn_r _ [19, 20, 52, 53, 54, 55, 56, 57, 58, 59, 60, 61, 62, 63, 64, 65, 66] (by decide +kernel) (by decide +kernel)
set_option maxRecDepth 20000 in
theorem gX4_likeness_X4_goesWell : GoodIn wsX4_likeness (wsV RX4 61 RX4 yX4_goesWell wsX4_goesWell) := goodIn_app (goodIn_of _ (by decide +kernel)) ggX4_likeness_X4_goesWell
set_option maxRecDepth 20000 in
theorem ggX4_likeness_X4_layUp : GoodIn wsX4_likeness wsX4_layUp := goodIn_r _ [24, 25, 6, 26, 10, 11, 4, 12, 52, 53, 54, 55, 56, 57, 58, 59, 60, 61, 62, 63, 64, 65, 66] (by decide +kernel) (by decide +kernel)
set_option maxRecDepth 20000 in
theorem gX4_likeness_X4_layUp : GoodIn wsX4_likeness (wsV RX4 72 RX4 yX4_layUp wsX4_layUp) := goodIn_app (goodIn_of _ (by decide +kernel)) ggX4_likeness_X4_layUp
set_option maxRecDepth 20000 in
theorem ggX4_likeness_X4_likenessOf : GoodIn wsX4_likeness wsX4_likenessOf := goodIn_r _ [30, 6, 31, 32, 33, 34, 4, 35, 10, 11, 12, 36, 37, 38, 39, 25, 40, 41, 42, 43, 44, 45, 46, 47, 26, 48, 49, 50, 51, 52, 53, 54, 55, 56, 57, 58, 59, 60, 61, 62, 63, 64, 65, 66] (by decide +kernel) (by decide +kernel)
set_option maxRecDepth 20000 in
theorem gX4_likeness_X4_likenessOf : GoodIn wsX4_likeness (wsV RX4 115 RX4 yX4_likenessOf wsX4_likenessOf) := goodIn_app (goodIn_of _ (by decide +kernel)) ggX4_likeness_X4_likenessOf
theorem dX4_likeness_0 : decode cX4_likeness 0 = .ok (.aload_n 0, 1) := by decide +kernel
theorem dX4_likeness_1 : decode cX4_likeness 1 = .ok (.iload_n 1, 1) := by decide +kernel
theorem dX4_likeness_2 : decode cX4_likeness 2 = .ok (.invokevirtual 65, 3) := by decide +kernel
theorem dX4_likeness_5 : decode cX4_likeness 5 = .ok (.ifCond .eq 15, 3) := by decide +kernel
theorem dX4_likeness_8 : decode cX4_likeness 8 = .ok (.aload_n 0, 1) := by decide +kernel
theorem dX4_likeness_9 : decode cX4_likeness 9 = .ok (.iload_n 2, 1) := by decide +kernel
theorem dX4_likeness_10 : decode cX4_likeness 10 = .ok (.invokevirtual 65, 3) := by decide +kernel
theorem dX4_likeness_13 : decode cX4_likeness 13 = .ok (.ifCond .eq 7, 3) := by decide +kernel
theorem dX4_likeness_16 : decode cX4_likeness 16 = .ok (.iconst 1, 1) := by decide +kernel
theorem dX4_likeness_17 : decode cX4_likeness 17 = .ok (.goto 4, 3) := by decide +kernel
theorem dX4_likeness_20 : decode cX4_likeness 20 = .ok (.iconst 0, 1) := by decide +kernel
theorem dX4_likeness_21 : decode cX4_likeness 21 = .ok (.istore 4, 2) := by decide +kernel
theorem dX4_likeness_23 : decode cX4_likeness 23 = .ok (.aload_n 0, 1) := by decide +kernel
theorem dX4_likeness_24 : decode cX4_likeness 24 = .ok (.iload 4, 2) := by decide +kernel
theorem dX4_likeness_26 : decode cX4_likeness 26 = .ok (.ifCond .ne 7, 3) := by decide +kernel
theorem dX4_likeness_29 : decode cX4_likeness 29 = .ok (.iconst 1, 1) := by decide +kernel
theorem dX4_likeness_30 : decode cX4_likeness 30 = .ok (.goto 15, 3) := by decide +kernel
theorem dX4_likeness_33 : decode cX4_likeness 33 = .ok (.iload_n 3, 1) := by decide +kernel
theorem dX4_likeness_34 : decode cX4_likeness 34 = .ok (.invokestatic 112, 3) := by decide +kernel
theorem dX4_likeness_37 : decode cX4_likeness 37 = .ok (.ifCond .eq 7, 3) := by decide +kernel
theorem dX4_likeness_40 : decode cX4_likeness 40 = .ok (.iconst 0, 1) := by decide +kernel
theorem dX4_likeness_41 : decode cX4_likeness 41 = .ok (.goto 4, 3) := by decide +kernel
theorem dX4_likeness_44 : decode cX4_likeness 44 = .ok (.iconst 2, 1) := by decide +kernel
theorem dX4_likeness_45 : decode cX4_likeness 45 = .ok (.invokevirtual 61, 3) := by decide +kernel
theorem dX4_likeness_48 : decode cX4_likeness 48 = .ok (.ifCond .ne 5, 3) := by decide +kernel
theorem dX4_likeness_51 : decode cX4_likeness 51 = .ok (.iconst 0, 1) := by decide +kernel
theorem dX4_likeness_52 : decode cX4_likeness 52 = .ok (.ireturn, 1) := by decide +kernel
theorem dX4_likeness_53 : decode cX4_likeness 53 = .ok (.aload_n 0, 1) := by decide +kernel
theorem dX4_likeness_54 : decode cX4_likeness 54 = .ok (.invokevirtual 72, 3) := by decide +kernel
theorem dX4_likeness_57 : decode cX4_likeness 57 = .ok (.aload_n 0, 1) := by decide +kernel
theorem dX4_likeness_58 : decode cX4_likeness 58 = .ok (.iload_n 1, 1) := by decide +kernel
theorem dX4_likeness_59 : decode cX4_likeness 59 = .ok (.iload_n 2, 1) := by decide +kernel
theorem dX4_likeness_60 : decode cX4_likeness 60 = .ok (.iload_n 3, 1) := by decide +kernel
theorem dX4_likeness_61 : decode cX4_likeness 61 = .ok (.invokevirtual 115, 3) := by decide +kernel
theorem dX4_likeness_64 : decode cX4_likeness 64 = .ok (.ireturn, 1) := by decide +kernel
theorem dX4_optionsAt_0 : decode cX4_optionsAt 0 = .ok (.aload_n 0, 1) := by decide +kernel
theorem dX4_optionsAt_1 : decode cX4_optionsAt 1 = .ok (.getfield 22, 3) := by decide +kernel
theorem dX4_optionsAt_4 : decode cX4_optionsAt 4 = .ok (.aload_n 0, 1) := by decide +kernel
theorem dX4_optionsAt_5 : decode cX4_optionsAt 5 = .ok (.getfield 25, 3) := by decide +kernel
theorem dX4_optionsAt_8 : decode cX4_optionsAt 8 = .ok (.iload_n 1, 1) := by decide +kernel
theorem dX4_optionsAt_9 : decode cX4_optionsAt 9 = .ok (.iaload, 1) := by decide +kernel
theorem dX4_optionsAt_10 : decode cX4_optionsAt 10 = .ok (.iaload, 1) := by decide +kernel
theorem dX4_optionsAt_11 : decode cX4_optionsAt 11 = .ok (.iconst (-1), 1) := by decide +kernel
theorem dX4_optionsAt_12 : decode cX4_optionsAt 12 = .ok (.if_icmp .ne 17, 3) := by decide +kernel
theorem dX4_optionsAt_15 : decode cX4_optionsAt 15 = .ok (.aload_n 0, 1) := by decide +kernel
theorem dX4_optionsAt_16 : decode cX4_optionsAt 16 = .ok (.getfield 19, 3) := by decide +kernel
theorem dX4_optionsAt_19 : decode cX4_optionsAt 19 = .ok (.aload_n 0, 1) := by decide +kernel
theorem dX4_optionsAt_20 : decode cX4_optionsAt 20 = .ok (.getfield 25, 3) := by decide +kernel
theorem dX4_optionsAt_23 : decode cX4_optionsAt 23 = .ok (.iload_n 1, 1) := by decide +kernel
theorem dX4_optionsAt_24 : decode cX4_optionsAt 24 = .ok (.iaload, 1) := by decide +kernel
theorem dX4_optionsAt_25 : decode cX4_optionsAt 25 = .ok (.iaload, 1) := by decide +kernel
theorem dX4_optionsAt_26 : decode cX4_optionsAt 26 = .ok (.goto 4, 3) := by decide +kernel
theorem dX4_optionsAt_29 : decode cX4_optionsAt 29 = .ok (.iconst 1, 1) := by decide +kernel
theorem dX4_optionsAt_30 : decode cX4_optionsAt 30 = .ok (.ireturn, 1) := by decide +kernel
theorem dX4_senseAt_0 : decode cX4_senseAt 0 = .ok (.aload_n 0, 1) := by decide +kernel
theorem dX4_senseAt_1 : decode cX4_senseAt 1 = .ok (.getfield 25, 3) := by decide +kernel
theorem dX4_senseAt_4 : decode cX4_senseAt 4 = .ok (.iload_n 1, 1) := by decide +kernel
theorem dX4_senseAt_5 : decode cX4_senseAt 5 = .ok (.iaload, 1) := by decide +kernel
theorem dX4_senseAt_6 : decode cX4_senseAt 6 = .ok (.istore_n 3, 1) := by decide +kernel
theorem dX4_senseAt_7 : decode cX4_senseAt 7 = .ok (.aload_n 0, 1) := by decide +kernel
theorem dX4_senseAt_8 : decode cX4_senseAt 8 = .ok (.getfield 22, 3) := by decide +kernel
theorem dX4_senseAt_11 : decode cX4_senseAt 11 = .ok (.iload_n 3, 1) := by decide +kernel
theorem dX4_senseAt_12 : decode cX4_senseAt 12 = .ok (.iaload, 1) := by decide +kernel
theorem dX4_senseAt_13 : decode cX4_senseAt 13 = .ok (.iconst (-1), 1) := by decide +kernel
theorem dX4_senseAt_14 : decode cX4_senseAt 14 = .ok (.if_icmp .ne 16, 3) := by decide +kernel
theorem dX4_senseAt_17 : decode cX4_senseAt 17 = .ok (.aload_n 0, 1) := by decide +kernel
theorem dX4_senseAt_18 : decode cX4_senseAt 18 = .ok (.getfield 16, 3) := by decide +kernel
theorem dX4_senseAt_21 : decode cX4_senseAt 21 = .ok (.iconst 5, 1) := by decide +kernel
theorem dX4_senseAt_22 : decode cX4_senseAt 22 = .ok (.iload_n 3, 1) := by decide +kernel
theorem dX4_senseAt_23 : decode cX4_senseAt 23 = .ok (.imul, 1) := by decide +kernel
theorem dX4_senseAt_24 : decode cX4_senseAt 24 = .ok (.iload_n 2, 1) := by decide +kernel
theorem dX4_senseAt_25 : decode cX4_senseAt 25 = .ok (.iadd, 1) := by decide +kernel
theorem dX4_senseAt_26 : decode cX4_senseAt 26 = .ok (.iaload, 1) := by decide +kernel
theorem dX4_senseAt_27 : decode cX4_senseAt 27 = .ok (.goto 9, 3) := by decide +kernel
theorem dX4_senseAt_30 : decode cX4_senseAt 30 = .ok (.aload_n 0, 1) := by decide +kernel
theorem dX4_senseAt_31 : decode cX4_senseAt 31 = .ok (.getfield 22, 3) := by decide +kernel
theorem dX4_senseAt_34 : decode cX4_senseAt 34 = .ok (.iload_n 3, 1) := by decide +kernel
theorem dX4_senseAt_35 : decode cX4_senseAt 35 = .ok (.iaload, 1) := by decide +kernel
theorem dX4_senseAt_36 : decode cX4_senseAt 36 = .ok (.ireturn, 1) := by decide +kernel
set_option maxRecDepth 20000 in
theorem ggX4_choices_X4_optionsAt : GoodIn wsX4_choices wsX4_optionsAt := goodIn_r _ [7, 8, 9, 10, 11, 12, 13, 14, 15, 16, 17, 18, 19, 20, 21, 22, 23, 24, 25] (by decide +kernel) (by decide +kernel)
set_option maxRecDepth 20000 in
theorem gX4_choices_X4_optionsAt : GoodIn wsX4_choices (wsV RX4 119 RX4 yX4_optionsAt wsX4_optionsAt) := goodIn_app (goodIn_of _ (by decide +kernel)) ggX4_choices_X4_optionsAt
theorem dX4_choices_0 : decode cX4_choices 0 = .ok (.aload_n 0, 1) := by decide +kernel
theorem dX4_choices_1 : decode cX4_choices 1 = .ok (.iconst 0, 1) := by decide +kernel
theorem dX4_choices_2 : decode cX4_choices 2 = .ok (.putfield 40, 3) := by decide +kernel
theorem dX4_choices_5 : decode cX4_choices 5 = .ok (.iconst 1, 1) := by decide +kernel
theorem dX4_choices_6 : decode cX4_choices 6 = .ok (.istore_n 1, 1) := by decide +kernel
theorem dX4_choices_7 : decode cX4_choices 7 = .ok (.iconst 0, 1) := by decide +kernel
theorem dX4_choices_8 : decode cX4_choices 8 = .ok (.istore_n 2, 1) := by decide +kernel
theorem dX4_choices_9 : decode cX4_choices 9 = .ok (.iload_n 2, 1) := by decide +kernel
theorem dX4_choices_10 : decode cX4_choices 10 = .ok (.aload_n 0, 1) := by decide +kernel
theorem dX4_choices_11 : decode cX4_choices 11 = .ok (.getfield 91, 3) := by decide +kernel
theorem dX4_choices_14 : decode cX4_choices 14 = .ok (.if_icmp .ge 17, 3) := by decide +kernel
theorem dX4_choices_17 : decode cX4_choices 17 = .ok (.iload_n 1, 1) := by decide +kernel
theorem dX4_choices_18 : decode cX4_choices 18 = .ok (.aload_n 0, 1) := by decide +kernel
theorem dX4_choices_19 : decode cX4_choices 19 = .ok (.iload_n 2, 1) := by decide +kernel
theorem dX4_choices_20 : decode cX4_choices 20 = .ok (.invokevirtual 119, 3) := by decide +kernel
theorem dX4_choices_23 : decode cX4_choices 23 = .ok (.imul, 1) := by decide +kernel
theorem dX4_choices_24 : decode cX4_choices 24 = .ok (.istore_n 1, 1) := by decide +kernel
theorem dX4_choices_25 : decode cX4_choices 25 = .ok (.iinc 2 1, 3) := by decide +kernel
theorem dX4_choices_28 : decode cX4_choices 28 = .ok (.goto (-19), 3) := by decide +kernel
theorem dX4_choices_31 : decode cX4_choices 31 = .ok (.iload_n 1, 1) := by decide +kernel
theorem dX4_choices_32 : decode cX4_choices 32 = .ok (.ireturn, 1) := by decide +kernel
set_option maxRecDepth 20000 in
theorem ggX4_layLikes_X4_layUp : GoodIn wsX4_layLikes wsX4_layUp := goodIn_r _ [7, 8, 1, 9, 10, 11, 6, 12, 50, 51, 52, 53, 54, 55, 56, 57, 58, 59, 60, 61, 62, 63, 64] (by decide +kernel) (by decide +kernel)
set_option maxRecDepth 20000 in
theorem gX4_layLikes_X4_layUp : GoodIn wsX4_layLikes (wsV RX4 72 RX4 yX4_layUp wsX4_layUp) := goodIn_app (goodIn_of _ (by decide +kernel)) ggX4_layLikes_X4_layUp
set_option maxRecDepth 20000 in
theorem ggX4_layLikes_X4_has : GoodIn wsX4_layLikes wsX4_has := goodIn_r _ [12] (by decide +kernel) (by decide +kernel)
set_option maxRecDepth 20000 in
theorem gX4_layLikes_X4_has : GoodIn wsX4_layLikes (va_wsS RX4 51 yX4_has wsX4_has) := goodIn_app (goodIn_of _ (by decide +kernel)) ggX4_layLikes_X4_has
set_option maxRecDepth 20000 in
theorem ggX4_layLikes_X4_canStand : GoodIn wsX4_layLikes wsX4_canStand := goodIn_r _ [16, 17, 18, 19, 20, 21, 6, 22, 23, 24, 50, 51, 52, 53, 54, 55, 56, 57, 58, 59, 60, 61, 62, 63, 64] (by decide +kernel) (by decide +kernel)
set_option maxRecDepth 20000 in
theorem gX4_layLikes_X4_canStand : GoodIn wsX4_layLikes (wsV RX4 122 RX4 yX4_canStand wsX4_canStand) := goodIn_app (goodIn_of _ (by decide +kernel)) ggX4_layLikes_X4_canStand
set_option maxRecDepth 20000 in
theorem ggX4_layLikes_X4_likenessOf : GoodIn wsX4_layLikes wsX4_likenessOf := goodIn_r _ [28, 1, 29, 30, 31, 32, 6, 33, 10, 11, 12, 34, 35, 36, 37, 8, 38, 39, 40, 41, 42, 43, 44, 45, 9, 46, 47, 48, 49, 50, 51, 52, 53, 54, 55, 56, 57, 58, 59, 60, 61, 62, 63, 64] (by decide +kernel) (by decide +kernel)
set_option maxRecDepth 20000 in
theorem gX4_layLikes_X4_likenessOf : GoodIn wsX4_layLikes (wsV RX4 115 RX4 yX4_likenessOf wsX4_likenessOf) := goodIn_app (goodIn_of _ (by decide +kernel)) ggX4_layLikes_X4_likenessOf
theorem dX4_layLikes_0 : decode cX4_layLikes 0 = .ok (.aload_n 0, 1) := by decide +kernel
theorem dX4_layLikes_1 : decode cX4_layLikes 1 = .ok (.invokevirtual 72, 3) := by decide +kernel
theorem dX4_layLikes_4 : decode cX4_layLikes 4 = .ok (.iconst 0, 1) := by decide +kernel
theorem dX4_layLikes_5 : decode cX4_layLikes 5 = .ok (.istore_n 2, 1) := by decide +kernel
theorem dX4_layLikes_6 : decode cX4_layLikes 6 = .ok (.iload_n 2, 1) := by decide +kernel
theorem dX4_layLikes_7 : decode cX4_layLikes 7 = .ok (.sipush 900, 3) := by decide +kernel
theorem dX4_layLikes_10 : decode cX4_layLikes 10 = .ok (.if_icmp .ge 92, 3) := by decide +kernel
theorem dX4_layLikes_13 : decode cX4_layLikes 13 = .ok (.aload_n 0, 1) := by decide +kernel
theorem dX4_layLikes_14 : decode cX4_layLikes 14 = .ok (.getfield 48, 3) := by decide +kernel
theorem dX4_layLikes_17 : decode cX4_layLikes 17 = .ok (.iload_n 2, 1) := by decide +kernel
theorem dX4_layLikes_18 : decode cX4_layLikes 18 = .ok (.bipush 30, 2) := by decide +kernel
theorem dX4_layLikes_20 : decode cX4_layLikes 20 = .ok (.idiv, 1) := by decide +kernel
theorem dX4_layLikes_21 : decode cX4_layLikes 21 = .ok (.invokestatic 51, 3) := by decide +kernel
theorem dX4_layLikes_24 : decode cX4_layLikes 24 = .ok (.ifCond .eq 43, 3) := by decide +kernel
theorem dX4_layLikes_27 : decode cX4_layLikes 27 = .ok (.aload_n 0, 1) := by decide +kernel
theorem dX4_layLikes_28 : decode cX4_layLikes 28 = .ok (.getfield 48, 3) := by decide +kernel
theorem dX4_layLikes_31 : decode cX4_layLikes 31 = .ok (.iload_n 2, 1) := by decide +kernel
theorem dX4_layLikes_32 : decode cX4_layLikes 32 = .ok (.bipush 30, 2) := by decide +kernel
theorem dX4_layLikes_34 : decode cX4_layLikes 34 = .ok (.irem, 1) := by decide +kernel
theorem dX4_layLikes_35 : decode cX4_layLikes 35 = .ok (.invokestatic 51, 3) := by decide +kernel
theorem dX4_layLikes_38 : decode cX4_layLikes 38 = .ok (.ifCond .eq 29, 3) := by decide +kernel
theorem dX4_layLikes_41 : decode cX4_layLikes 41 = .ok (.aload_n 0, 1) := by decide +kernel
theorem dX4_layLikes_42 : decode cX4_layLikes 42 = .ok (.iload_n 2, 1) := by decide +kernel
theorem dX4_layLikes_43 : decode cX4_layLikes 43 = .ok (.bipush 30, 2) := by decide +kernel
theorem dX4_layLikes_45 : decode cX4_layLikes 45 = .ok (.idiv, 1) := by decide +kernel
theorem dX4_layLikes_46 : decode cX4_layLikes 46 = .ok (.invokevirtual 122, 3) := by decide +kernel
theorem dX4_layLikes_49 : decode cX4_layLikes 49 = .ok (.ifCond .eq 18, 3) := by decide +kernel
theorem dX4_layLikes_52 : decode cX4_layLikes 52 = .ok (.aload_n 0, 1) := by decide +kernel
theorem dX4_layLikes_53 : decode cX4_layLikes 53 = .ok (.iload_n 2, 1) := by decide +kernel
theorem dX4_layLikes_54 : decode cX4_layLikes 54 = .ok (.bipush 30, 2) := by decide +kernel
theorem dX4_layLikes_56 : decode cX4_layLikes 56 = .ok (.irem, 1) := by decide +kernel
theorem dX4_layLikes_57 : decode cX4_layLikes 57 = .ok (.invokevirtual 122, 3) := by decide +kernel
theorem dX4_layLikes_60 : decode cX4_layLikes 60 = .ok (.ifCond .eq 7, 3) := by decide +kernel
theorem dX4_layLikes_63 : decode cX4_layLikes 63 = .ok (.iconst 1, 1) := by decide +kernel
theorem dX4_layLikes_64 : decode cX4_layLikes 64 = .ok (.goto 4, 3) := by decide +kernel
theorem dX4_layLikes_67 : decode cX4_layLikes 67 = .ok (.iconst 0, 1) := by decide +kernel
theorem dX4_layLikes_68 : decode cX4_layLikes 68 = .ok (.istore_n 3, 1) := by decide +kernel
theorem dX4_layLikes_69 : decode cX4_layLikes 69 = .ok (.aload_n 0, 1) := by decide +kernel
theorem dX4_layLikes_70 : decode cX4_layLikes 70 = .ok (.getfield 31, 3) := by decide +kernel
theorem dX4_layLikes_73 : decode cX4_layLikes 73 = .ok (.iload_n 2, 1) := by decide +kernel
theorem dX4_layLikes_74 : decode cX4_layLikes 74 = .ok (.iload_n 3, 1) := by decide +kernel
theorem dX4_layLikes_75 : decode cX4_layLikes 75 = .ok (.ifCond .eq 19, 3) := by decide +kernel
theorem dX4_layLikes_78 : decode cX4_layLikes 78 = .ok (.aload_n 0, 1) := by decide +kernel
theorem dX4_layLikes_79 : decode cX4_layLikes 79 = .ok (.iload_n 2, 1) := by decide +kernel
theorem dX4_layLikes_80 : decode cX4_layLikes 80 = .ok (.bipush 30, 2) := by decide +kernel
theorem dX4_layLikes_82 : decode cX4_layLikes 82 = .ok (.idiv, 1) := by decide +kernel
theorem dX4_layLikes_83 : decode cX4_layLikes 83 = .ok (.iload_n 2, 1) := by decide +kernel
theorem dX4_layLikes_84 : decode cX4_layLikes 84 = .ok (.bipush 30, 2) := by decide +kernel
theorem dX4_layLikes_86 : decode cX4_layLikes 86 = .ok (.irem, 1) := by decide +kernel
theorem dX4_layLikes_87 : decode cX4_layLikes 87 = .ok (.iload_n 1, 1) := by decide +kernel
theorem dX4_layLikes_88 : decode cX4_layLikes 88 = .ok (.invokevirtual 115, 3) := by decide +kernel
theorem dX4_layLikes_91 : decode cX4_layLikes 91 = .ok (.goto 4, 3) := by decide +kernel
theorem dX4_layLikes_94 : decode cX4_layLikes 94 = .ok (.iconst 0, 1) := by decide +kernel
theorem dX4_layLikes_95 : decode cX4_layLikes 95 = .ok (.iastore, 1) := by decide +kernel
theorem dX4_layLikes_96 : decode cX4_layLikes 96 = .ok (.iinc 2 1, 3) := by decide +kernel
theorem dX4_layLikes_99 : decode cX4_layLikes 99 = .ok (.goto (-93), 3) := by decide +kernel
theorem dX4_layLikes_102 : decode cX4_layLikes 102 = .ok (.return_, 1) := by decide +kernel
set_option maxRecDepth 20000 in
theorem ggX4_canStand_X4_placeOf : GoodIn wsX4_canStand wsX4_placeOf := goodIn_r _ [7, 8, 9, 10, 11, 12, 13, 14, 15, 16, 17, 18, 19, 20, 21, 22, 23, 24] (by decide +kernel) (by decide +kernel)
set_option maxRecDepth 20000 in
theorem gX4_canStand_X4_placeOf : GoodIn wsX4_canStand (wsV RX4 78 RX4 yX4_placeOf wsX4_placeOf) := goodIn_app (goodIn_of _ (by decide +kernel)) ggX4_canStand_X4_placeOf
theorem dX4_canStand_0 : decode cX4_canStand 0 = .ok (.iconst 0, 1) := by decide +kernel
theorem dX4_canStand_1 : decode cX4_canStand 1 = .ok (.istore_n 2, 1) := by decide +kernel
theorem dX4_canStand_2 : decode cX4_canStand 2 = .ok (.iconst 0, 1) := by decide +kernel
theorem dX4_canStand_3 : decode cX4_canStand 3 = .ok (.istore_n 3, 1) := by decide +kernel
theorem dX4_canStand_4 : decode cX4_canStand 4 = .ok (.iload_n 3, 1) := by decide +kernel
theorem dX4_canStand_5 : decode cX4_canStand 5 = .ok (.aload_n 0, 1) := by decide +kernel
theorem dX4_canStand_6 : decode cX4_canStand 6 = .ok (.getfield 91, 3) := by decide +kernel
theorem dX4_canStand_9 : decode cX4_canStand 9 = .ok (.if_icmp .ge 34, 3) := by decide +kernel
theorem dX4_canStand_12 : decode cX4_canStand 12 = .ok (.iload_n 2, 1) := by decide +kernel
theorem dX4_canStand_13 : decode cX4_canStand 13 = .ok (.ifCond .ne 18, 3) := by decide +kernel
theorem dX4_canStand_16 : decode cX4_canStand 16 = .ok (.aload_n 0, 1) := by decide +kernel
theorem dX4_canStand_17 : decode cX4_canStand 17 = .ok (.aload_n 0, 1) := by decide +kernel
theorem dX4_canStand_18 : decode cX4_canStand 18 = .ok (.getfield 25, 3) := by decide +kernel
theorem dX4_canStand_21 : decode cX4_canStand 21 = .ok (.iload_n 3, 1) := by decide +kernel
theorem dX4_canStand_22 : decode cX4_canStand 22 = .ok (.iaload, 1) := by decide +kernel
theorem dX4_canStand_23 : decode cX4_canStand 23 = .ok (.iload_n 1, 1) := by decide +kernel
theorem dX4_canStand_24 : decode cX4_canStand 24 = .ok (.invokevirtual 78, 3) := by decide +kernel
theorem dX4_canStand_27 : decode cX4_canStand 27 = .ok (.iconst (-1), 1) := by decide +kernel
theorem dX4_canStand_28 : decode cX4_canStand 28 = .ok (.if_icmp .eq 7, 3) := by decide +kernel
theorem dX4_canStand_31 : decode cX4_canStand 31 = .ok (.iconst 1, 1) := by decide +kernel
theorem dX4_canStand_32 : decode cX4_canStand 32 = .ok (.goto 4, 3) := by decide +kernel
theorem dX4_canStand_35 : decode cX4_canStand 35 = .ok (.iconst 0, 1) := by decide +kernel
theorem dX4_canStand_36 : decode cX4_canStand 36 = .ok (.istore_n 2, 1) := by decide +kernel
theorem dX4_canStand_37 : decode cX4_canStand 37 = .ok (.iinc 3 1, 3) := by decide +kernel
theorem dX4_canStand_40 : decode cX4_canStand 40 = .ok (.goto (-36), 3) := by decide +kernel
theorem dX4_canStand_43 : decode cX4_canStand 43 = .ok (.iload_n 2, 1) := by decide +kernel
theorem dX4_canStand_44 : decode cX4_canStand 44 = .ok (.ireturn, 1) := by decide +kernel
set_option maxRecDepth 20000 in
theorem ggX4_goOn_X4_optionsAt : GoodIn wsX4_goOn wsX4_optionsAt := goodIn_r _ [7, 8, 9, 10, 11, 12, 13, 14, 15, 16, 17, 18, 19, 20, 21, 22, 23, 24, 25] (by decide +kernel) (by decide +kernel)
set_option maxRecDepth 20000 in
theorem gX4_goOn_X4_optionsAt : GoodIn wsX4_goOn (wsV RX4 119 RX4 yX4_optionsAt wsX4_optionsAt) := goodIn_app (goodIn_of _ (by decide +kernel)) ggX4_goOn_X4_optionsAt
theorem dX4_goOn_0 : decode cX4_goOn 0 = .ok (.aload_n 0, 1) := by decide +kernel
theorem dX4_goOn_1 : decode cX4_goOn 1 = .ok (.getfield 91, 3) := by decide +kernel
theorem dX4_goOn_4 : decode cX4_goOn 4 = .ok (.iconst 1, 1) := by decide +kernel
theorem dX4_goOn_5 : decode cX4_goOn 5 = .ok (.isub, 1) := by decide +kernel
theorem dX4_goOn_6 : decode cX4_goOn 6 = .ok (.istore_n 1, 1) := by decide +kernel
theorem dX4_goOn_7 : decode cX4_goOn 7 = .ok (.iload_n 1, 1) := by decide +kernel
theorem dX4_goOn_8 : decode cX4_goOn 8 = .ok (.ifCond .lt 32, 3) := by decide +kernel
theorem dX4_goOn_11 : decode cX4_goOn 11 = .ok (.aload_n 0, 1) := by decide +kernel
theorem dX4_goOn_12 : decode cX4_goOn 12 = .ok (.getfield 34, 3) := by decide +kernel
theorem dX4_goOn_15 : decode cX4_goOn 15 = .ok (.iload_n 1, 1) := by decide +kernel
theorem dX4_goOn_16 : decode cX4_goOn 16 = .ok (.iaload, 1) := by decide +kernel
theorem dX4_goOn_17 : decode cX4_goOn 17 = .ok (.aload_n 0, 1) := by decide +kernel
theorem dX4_goOn_18 : decode cX4_goOn 18 = .ok (.iload_n 1, 1) := by decide +kernel
theorem dX4_goOn_19 : decode cX4_goOn 19 = .ok (.invokevirtual 119, 3) := by decide +kernel
theorem dX4_goOn_22 : decode cX4_goOn 22 = .ok (.iconst 1, 1) := by decide +kernel
theorem dX4_goOn_23 : decode cX4_goOn 23 = .ok (.isub, 1) := by decide +kernel
theorem dX4_goOn_24 : decode cX4_goOn 24 = .ok (.if_icmp .ne 16, 3) := by decide +kernel
theorem dX4_goOn_27 : decode cX4_goOn 27 = .ok (.aload_n 0, 1) := by decide +kernel
theorem dX4_goOn_28 : decode cX4_goOn 28 = .ok (.getfield 34, 3) := by decide +kernel
theorem dX4_goOn_31 : decode cX4_goOn 31 = .ok (.iload_n 1, 1) := by decide +kernel
theorem dX4_goOn_32 : decode cX4_goOn 32 = .ok (.iconst 0, 1) := by decide +kernel
theorem dX4_goOn_33 : decode cX4_goOn 33 = .ok (.iastore, 1) := by decide +kernel
theorem dX4_goOn_34 : decode cX4_goOn 34 = .ok (.iinc 1 (-1), 3) := by decide +kernel
theorem dX4_goOn_37 : decode cX4_goOn 37 = .ok (.goto (-30), 3) := by decide +kernel
theorem dX4_goOn_40 : decode cX4_goOn 40 = .ok (.iload_n 1, 1) := by decide +kernel
theorem dX4_goOn_41 : decode cX4_goOn 41 = .ok (.ifCond .lt 13, 3) := by decide +kernel
theorem dX4_goOn_44 : decode cX4_goOn 44 = .ok (.aload_n 0, 1) := by decide +kernel
theorem dX4_goOn_45 : decode cX4_goOn 45 = .ok (.getfield 34, 3) := by decide +kernel
theorem dX4_goOn_48 : decode cX4_goOn 48 = .ok (.iload_n 1, 1) := by decide +kernel
theorem dX4_goOn_49 : decode cX4_goOn 49 = .ok (.dup2, 1) := by decide +kernel
theorem dX4_goOn_50 : decode cX4_goOn 50 = .ok (.iaload, 1) := by decide +kernel
theorem dX4_goOn_51 : decode cX4_goOn 51 = .ok (.iconst 1, 1) := by decide +kernel
theorem dX4_goOn_52 : decode cX4_goOn 52 = .ok (.iadd, 1) := by decide +kernel
theorem dX4_goOn_53 : decode cX4_goOn 53 = .ok (.iastore, 1) := by decide +kernel
theorem dX4_goOn_54 : decode cX4_goOn 54 = .ok (.iload_n 1, 1) := by decide +kernel
theorem dX4_goOn_55 : decode cX4_goOn 55 = .ok (.ifCond .lt 7, 3) := by decide +kernel
theorem dX4_goOn_58 : decode cX4_goOn 58 = .ok (.iconst 1, 1) := by decide +kernel
theorem dX4_goOn_59 : decode cX4_goOn 59 = .ok (.goto 4, 3) := by decide +kernel
theorem dX4_goOn_62 : decode cX4_goOn 62 = .ok (.iconst 0, 1) := by decide +kernel
theorem dX4_goOn_63 : decode cX4_goOn 63 = .ok (.ireturn, 1) := by decide +kernel
set_option maxRecDepth 20000 in
theorem ggX4_worth_X4_senseAt : GoodIn wsX4_worth wsX4_senseAt := goodIn_r _ [8, 9, 10, 11, 12, 13, 14, 15, 16, 17, 18, 19, 20, 21, 22, 23, 24, 25, 26] (by decide +kernel) (by decide +kernel)
set_option maxRecDepth 20000 in
theorem gX4_worth_X4_senseAt : GoodIn wsX4_worth (wsV RX4 125 RX4 yX4_senseAt wsX4_senseAt) := goodIn_app (goodIn_of _ (by decide +kernel)) ggX4_worth_X4_senseAt
theorem dX4_worth_0 : decode cX4_worth 0 = .ok (.iconst 0, 1) := by decide +kernel
theorem dX4_worth_1 : decode cX4_worth 1 = .ok (.istore_n 1, 1) := by decide +kernel
theorem dX4_worth_2 : decode cX4_worth 2 = .ok (.iconst 0, 1) := by decide +kernel
theorem dX4_worth_3 : decode cX4_worth 3 = .ok (.istore_n 2, 1) := by decide +kernel
theorem dX4_worth_4 : decode cX4_worth 4 = .ok (.iload_n 2, 1) := by decide +kernel
theorem dX4_worth_5 : decode cX4_worth 5 = .ok (.aload_n 0, 1) := by decide +kernel
theorem dX4_worth_6 : decode cX4_worth 6 = .ok (.getfield 91, 3) := by decide +kernel
theorem dX4_worth_9 : decode cX4_worth 9 = .ok (.if_icmp .ge 56, 3) := by decide +kernel
theorem dX4_worth_12 : decode cX4_worth 12 = .ok (.iconst 0, 1) := by decide +kernel
theorem dX4_worth_13 : decode cX4_worth 13 = .ok (.istore_n 3, 1) := by decide +kernel
theorem dX4_worth_14 : decode cX4_worth 14 = .ok (.iload_n 3, 1) := by decide +kernel
theorem dX4_worth_15 : decode cX4_worth 15 = .ok (.iload_n 2, 1) := by decide +kernel
theorem dX4_worth_16 : decode cX4_worth 16 = .ok (.if_icmp .ge 43, 3) := by decide +kernel
theorem dX4_worth_19 : decode cX4_worth 19 = .ok (.iload_n 1, 1) := by decide +kernel
theorem dX4_worth_20 : decode cX4_worth 20 = .ok (.aload_n 0, 1) := by decide +kernel
theorem dX4_worth_21 : decode cX4_worth 21 = .ok (.getfield 31, 3) := by decide +kernel
theorem dX4_worth_24 : decode cX4_worth 24 = .ok (.bipush 30, 2) := by decide +kernel
theorem dX4_worth_26 : decode cX4_worth 26 = .ok (.aload_n 0, 1) := by decide +kernel
theorem dX4_worth_27 : decode cX4_worth 27 = .ok (.iload_n 3, 1) := by decide +kernel
theorem dX4_worth_28 : decode cX4_worth 28 = .ok (.aload_n 0, 1) := by decide +kernel
theorem dX4_worth_29 : decode cX4_worth 29 = .ok (.getfield 34, 3) := by decide +kernel
theorem dX4_worth_32 : decode cX4_worth 32 = .ok (.iload_n 3, 1) := by decide +kernel
theorem dX4_worth_33 : decode cX4_worth 33 = .ok (.iaload, 1) := by decide +kernel
theorem dX4_worth_34 : decode cX4_worth 34 = .ok (.invokevirtual 125, 3) := by decide +kernel
theorem dX4_worth_37 : decode cX4_worth 37 = .ok (.imul, 1) := by decide +kernel
theorem dX4_worth_38 : decode cX4_worth 38 = .ok (.aload_n 0, 1) := by decide +kernel
theorem dX4_worth_39 : decode cX4_worth 39 = .ok (.iload_n 2, 1) := by decide +kernel
theorem dX4_worth_40 : decode cX4_worth 40 = .ok (.aload_n 0, 1) := by decide +kernel
theorem dX4_worth_41 : decode cX4_worth 41 = .ok (.getfield 34, 3) := by decide +kernel
theorem dX4_worth_44 : decode cX4_worth 44 = .ok (.iload_n 2, 1) := by decide +kernel
theorem dX4_worth_45 : decode cX4_worth 45 = .ok (.iaload, 1) := by decide +kernel
theorem dX4_worth_46 : decode cX4_worth 46 = .ok (.invokevirtual 125, 3) := by decide +kernel
theorem dX4_worth_49 : decode cX4_worth 49 = .ok (.iadd, 1) := by decide +kernel
theorem dX4_worth_50 : decode cX4_worth 50 = .ok (.iaload, 1) := by decide +kernel
theorem dX4_worth_51 : decode cX4_worth 51 = .ok (.iadd, 1) := by decide +kernel
theorem dX4_worth_52 : decode cX4_worth 52 = .ok (.istore_n 1, 1) := by decide +kernel
theorem dX4_worth_53 : decode cX4_worth 53 = .ok (.iinc 3 1, 3) := by decide +kernel
theorem dX4_worth_56 : decode cX4_worth 56 = .ok (.goto (-42), 3) := by decide +kernel
theorem dX4_worth_59 : decode cX4_worth 59 = .ok (.iinc 2 1, 3) := by decide +kernel
theorem dX4_worth_62 : decode cX4_worth 62 = .ok (.goto (-58), 3) := by decide +kernel
theorem dX4_worth_65 : decode cX4_worth 65 = .ok (.iload_n 1, 1) := by decide +kernel
theorem dX4_worth_66 : decode cX4_worth 66 = .ok (.ireturn, 1) := by decide +kernel
set_option maxRecDepth 20000 in
theorem ggX4_tryAll_X4_layLikes : GoodIn wsX4_tryAll wsX4_layLikes := goodIn_r _ [8, 9, 10, 11, 12, 13, 7, 14, 15, 16, 17, 18, 19, 20, 21, 22, 23, 2, 24, 25, 26, 27, 28, 29, 30, 31, 32, 33, 34, 35, 36, 37, 38, 39, 40, 41, 42, 43, 44, 45, 46, 47, 48, 49, 50, 51, 52, 53, 54, 55, 73, 74, 75, 76, 77, 78, 79, 80, 81, 82, 83, 84, 85, 86, 87] (by decide +kernel) (by decide +kernel)
set_option maxRecDepth 20000 in
theorem gX4_tryAll_X4_layLikes : GoodIn wsX4_tryAll (wsV RX4 128 RX4 yX4_layLikes wsX4_layLikes) := goodIn_app (goodIn_of _ (by decide +kernel)) ggX4_tryAll_X4_layLikes
set_option maxRecDepth 20000 in
theorem ggX4_tryAll_X4_worth : GoodIn wsX4_tryAll wsX4_worth := goodIn_r _ [59, 2, 10, 1, 60, 61, 62, 7, 63, 24, 64, 30, 73, 74, 75, 76, 77, 78, 79, 80, 81, 82, 83, 84, 85, 86, 87] (by decide +kernel) (by decide +kernel)
set_option maxRecDepth 20000 in
theorem gX4_tryAll_X4_worth : GoodIn wsX4_tryAll (wsV RX4 132 RX4 yX4_worth wsX4_worth) := goodIn_app (goodIn_of _ (by decide +kernel)) ggX4_tryAll_X4_worth
set_option maxRecDepth 20000 in
theorem ggX4_tryAll_X4_senseAt : GoodIn wsX4_tryAll wsX4_senseAt := goodIn_r _ [63, 24, 64, 30, 73, 74, 75, 76, 77, 78, 79, 80, 81, 82, 83, 84, 85, 86, 87] (by decide +kernel) (by decide +kernel)
set_option maxRecDepth 20000 in
theorem gX4_tryAll_X4_senseAt : GoodIn wsX4_tryAll (wsV RX4 125 RX4 yX4_senseAt wsX4_senseAt) := goodIn_app (goodIn_of _ (by decide +kernel)) ggX4_tryAll_X4_senseAt
set_option maxRecDepth 20000 in
theorem ggX4_tryAll_X4_goOn : GoodIn wsX4_tryAll wsX4_goOn := goodIn_r _ [68, 2, 1, 69, 70, 71, 7, 72, 64, 24, 29, 73, 74, 75, 76, 77, 78, 79, 80, 81, 82, 83, 84, 85, 86, 87] (by decide +kernel) (by decide +kernel)
set_option maxRecDepth 20000 in
theorem gX4_tryAll_X4_goOn : GoodIn wsX4_tryAll (wsV RX4 136 RX4 yX4_goOn wsX4_goOn) := goodIn_app (goodIn_of _ (by decide +kernel)) ggX4_tryAll_X4_goOn
theorem dX4_tryAll_0 : decode cX4_tryAll 0 = .ok (.aload_n 0, 1) := by decide +kernel
theorem dX4_tryAll_1 : decode cX4_tryAll 1 = .ok (.iload_n 1, 1) := by decide +kernel
theorem dX4_tryAll_2 : decode cX4_tryAll 2 = .ok (.invokevirtual 128, 3) := by decide +kernel
theorem dX4_tryAll_5 : decode cX4_tryAll 5 = .ok (.iconst 0, 1) := by decide +kernel
theorem dX4_tryAll_6 : decode cX4_tryAll 6 = .ok (.istore_n 2, 1) := by decide +kernel
theorem dX4_tryAll_7 : decode cX4_tryAll 7 = .ok (.iload_n 2, 1) := by decide +kernel
theorem dX4_tryAll_8 : decode cX4_tryAll 8 = .ok (.bipush 6, 2) := by decide +kernel
theorem dX4_tryAll_10 : decode cX4_tryAll 10 = .ok (.if_icmp .ge 16, 3) := by decide +kernel
theorem dX4_tryAll_13 : decode cX4_tryAll 13 = .ok (.aload_n 0, 1) := by decide +kernel
theorem dX4_tryAll_14 : decode cX4_tryAll 14 = .ok (.getfield 34, 3) := by decide +kernel
theorem dX4_tryAll_17 : decode cX4_tryAll 17 = .ok (.iload_n 2, 1) := by decide +kernel
theorem dX4_tryAll_18 : decode cX4_tryAll 18 = .ok (.iconst 0, 1) := by decide +kernel
theorem dX4_tryAll_19 : decode cX4_tryAll 19 = .ok (.iastore, 1) := by decide +kernel
theorem dX4_tryAll_20 : decode cX4_tryAll 20 = .ok (.iinc 2 1, 3) := by decide +kernel
theorem dX4_tryAll_23 : decode cX4_tryAll 23 = .ok (.goto (-16), 3) := by decide +kernel
theorem dX4_tryAll_26 : decode cX4_tryAll 26 = .ok (.iconst (-1), 1) := by decide +kernel
theorem dX4_tryAll_27 : decode cX4_tryAll 27 = .ok (.istore_n 2, 1) := by decide +kernel
theorem dX4_tryAll_28 : decode cX4_tryAll 28 = .ok (.iconst 1, 1) := by decide +kernel
theorem dX4_tryAll_29 : decode cX4_tryAll 29 = .ok (.istore_n 3, 1) := by decide +kernel
theorem dX4_tryAll_30 : decode cX4_tryAll 30 = .ok (.iload_n 3, 1) := by decide +kernel
theorem dX4_tryAll_31 : decode cX4_tryAll 31 = .ok (.ifCond .eq 64, 3) := by decide +kernel
theorem dX4_tryAll_34 : decode cX4_tryAll 34 = .ok (.aload_n 0, 1) := by decide +kernel
theorem dX4_tryAll_35 : decode cX4_tryAll 35 = .ok (.invokevirtual 132, 3) := by decide +kernel
theorem dX4_tryAll_38 : decode cX4_tryAll 38 = .ok (.istore 4, 2) := by decide +kernel
theorem dX4_tryAll_40 : decode cX4_tryAll 40 = .ok (.iload 4, 2) := by decide +kernel
theorem dX4_tryAll_42 : decode cX4_tryAll 42 = .ok (.iload_n 2, 1) := by decide +kernel
theorem dX4_tryAll_43 : decode cX4_tryAll 43 = .ok (.if_icmp .le 44, 3) := by decide +kernel
theorem dX4_tryAll_46 : decode cX4_tryAll 46 = .ok (.iload 4, 2) := by decide +kernel
theorem dX4_tryAll_48 : decode cX4_tryAll 48 = .ok (.istore_n 2, 1) := by decide +kernel
theorem dX4_tryAll_49 : decode cX4_tryAll 49 = .ok (.iconst 0, 1) := by decide +kernel
theorem dX4_tryAll_50 : decode cX4_tryAll 50 = .ok (.istore 5, 2) := by decide +kernel
theorem dX4_tryAll_52 : decode cX4_tryAll 52 = .ok (.iload 5, 2) := by decide +kernel
theorem dX4_tryAll_54 : decode cX4_tryAll 54 = .ok (.aload_n 0, 1) := by decide +kernel
theorem dX4_tryAll_55 : decode cX4_tryAll 55 = .ok (.getfield 91, 3) := by decide +kernel
theorem dX4_tryAll_58 : decode cX4_tryAll 58 = .ok (.if_icmp .ge 29, 3) := by decide +kernel
theorem dX4_tryAll_61 : decode cX4_tryAll 61 = .ok (.aload_n 0, 1) := by decide +kernel
theorem dX4_tryAll_62 : decode cX4_tryAll 62 = .ok (.getfield 37, 3) := by decide +kernel
theorem dX4_tryAll_65 : decode cX4_tryAll 65 = .ok (.iload 5, 2) := by decide +kernel
theorem dX4_tryAll_67 : decode cX4_tryAll 67 = .ok (.aload_n 0, 1) := by decide +kernel
theorem dX4_tryAll_68 : decode cX4_tryAll 68 = .ok (.iload 5, 2) := by decide +kernel
theorem dX4_tryAll_70 : decode cX4_tryAll 70 = .ok (.aload_n 0, 1) := by decide +kernel
theorem dX4_tryAll_71 : decode cX4_tryAll 71 = .ok (.getfield 34, 3) := by decide +kernel
theorem dX4_tryAll_74 : decode cX4_tryAll 74 = .ok (.iload 5, 2) := by decide +kernel
theorem dX4_tryAll_76 : decode cX4_tryAll 76 = .ok (.iaload, 1) := by decide +kernel
theorem dX4_tryAll_77 : decode cX4_tryAll 77 = .ok (.invokevirtual 125, 3) := by decide +kernel
theorem dX4_tryAll_80 : decode cX4_tryAll 80 = .ok (.iastore, 1) := by decide +kernel
theorem dX4_tryAll_81 : decode cX4_tryAll 81 = .ok (.iinc 5 1, 3) := by decide +kernel
theorem dX4_tryAll_84 : decode cX4_tryAll 84 = .ok (.goto (-32), 3) := by decide +kernel
theorem dX4_tryAll_87 : decode cX4_tryAll 87 = .ok (.aload_n 0, 1) := by decide +kernel
theorem dX4_tryAll_88 : decode cX4_tryAll 88 = .ok (.invokevirtual 136, 3) := by decide +kernel
theorem dX4_tryAll_91 : decode cX4_tryAll 91 = .ok (.istore_n 3, 1) := by decide +kernel
theorem dX4_tryAll_92 : decode cX4_tryAll 92 = .ok (.goto (-62), 3) := by decide +kernel
theorem dX4_tryAll_95 : decode cX4_tryAll 95 = .ok (.iload_n 2, 1) := by decide +kernel
theorem dX4_tryAll_96 : decode cX4_tryAll 96 = .ok (.ireturn, 1) := by decide +kernel
set_option maxRecDepth 20000 in
theorem ggX4_bestWorth_X4_greatestWorth : GoodIn wsX4_bestWorth wsX4_greatestWorth := goodIn_r _ [5, 6, 7, 4, 8, 9, 10, 11, 12, 13, 14, 15, 16, 17, 18, 19, 20, 21, 22, 23, 24, 25, 26, 27, 28, 29, 30, 31, 32, 33, 34, 35, 36, 37, 38, 39, 40, 41, 42, 43, 44, 45, 46, 47, 48, 49, 50, 51, 52, 53, 54, 55, 56, 57, 58, 59, 60, 61, 62, 63, 64, 65, 66, 67, 68, 69, 70, 71, 72, 73, 74, 75, 76, 77, 78, 79, 80, 81, 82, 83, 84, 85, 86, 87, 88, 89, 90, 91, 92, 93, 94, 95, 96, 97, 98, 99, 100, 101, 102, 103, 104, 105, 106] (by decide +kernel) (by decide +kernel)
set_option maxRecDepth 20000 in
theorem gX4_bestWorth_X4_greatestWorth : GoodIn wsX4_bestWorth (wsV RX4 140 RX4 yX4_greatestWorth wsX4_greatestWorth) := goodIn_app (goodIn_of _ (by decide +kernel)) ggX4_bestWorth_X4_greatestWorth
theorem dX4_bestWorth_0 : decode cX4_bestWorth 0 = .ok (.aload_n 0, 1) := by decide +kernel
theorem dX4_bestWorth_1 : decode cX4_bestWorth 1 = .ok (.iload_n 1, 1) := by decide +kernel
theorem dX4_bestWorth_2 : decode cX4_bestWorth 2 = .ok (.invokevirtual 140, 3) := by decide +kernel
theorem dX4_bestWorth_5 : decode cX4_bestWorth 5 = .ok (.ireturn, 1) := by decide +kernel
set_option maxRecDepth 20000 in
theorem ggX4_greatestWorth_X4_isMeasure : GoodIn wsX4_greatestWorth wsX4_isMeasure := goodIn_r _ [4, 5, 6, 3, 7] (by decide +kernel) (by decide +kernel)
set_option maxRecDepth 20000 in
theorem gX4_greatestWorth_X4_isMeasure : GoodIn wsX4_greatestWorth (va_wsS RX4 112 yX4_isMeasure wsX4_isMeasure) := goodIn_app (goodIn_of _ (by decide +kernel)) ggX4_greatestWorth_X4_isMeasure
set_option maxRecDepth 20000 in
theorem ggX4_greatestWorth_X4_goesWell : GoodIn wsX4_greatestWorth wsX4_goesWell := goodIn_r _ [11, 12, 88, 89, 90, 91, 92, 93, 94, 95, 96, 97, 98, 99, 100, 101, 102] (by decide +kernel) (by decide +kernel)
set_option maxRecDepth 20000 in
theorem gX4_greatestWorth_X4_goesWell : GoodIn wsX4_greatestWorth (wsV RX4 61 RX4 yX4_goesWell wsX4_goesWell) := goodIn_app (goodIn_of _ (by decide +kernel)) ggX4_greatestWorth_X4_goesWell
set_option maxRecDepth 20000 in
theorem ggX4_greatestWorth_X4_tryAll : GoodIn wsX4_greatestWorth wsX4_tryAll := goodIn_r _ [16, 17, 18, 19, 20, 21, 22, 3, 23, 24, 25, 26, 27, 28, 29, 30, 31, 32, 33, 34, 35, 36, 37, 38, 39, 40, 41, 42, 43, 44, 45, 46, 47, 48, 49, 50, 51, 52, 53, 54, 55, 56, 57, 58, 59, 60, 61, 62, 63, 64, 65, 66, 67, 68, 69, 70, 71, 72, 73, 74, 75, 76, 77, 78, 79, 80, 81, 82, 83, 84, 85, 86, 87, 88, 89, 90, 91, 92, 93, 94, 95, 96, 97, 98, 99, 100, 101, 102] (by decide +kernel) (by decide +kernel)
set_option maxRecDepth 20000 in
theorem gX4_greatestWorth_X4_tryAll : GoodIn wsX4_greatestWorth (wsV RX4 143 RX4 yX4_tryAll wsX4_tryAll) := goodIn_app (goodIn_of _ (by decide +kernel)) ggX4_greatestWorth_X4_tryAll
theorem dX4_greatestWorth_0 : decode cX4_greatestWorth 0 = .ok (.aload_n 0, 1) := by decide +kernel
theorem dX4_greatestWorth_1 : decode cX4_greatestWorth 1 = .ok (.iload_n 1, 1) := by decide +kernel
theorem dX4_greatestWorth_2 : decode cX4_greatestWorth 2 = .ok (.invokestatic 112, 3) := by decide +kernel
theorem dX4_greatestWorth_5 : decode cX4_greatestWorth 5 = .ok (.ifCond .eq 7, 3) := by decide +kernel
theorem dX4_greatestWorth_8 : decode cX4_greatestWorth 8 = .ok (.iconst 0, 1) := by decide +kernel
theorem dX4_greatestWorth_9 : decode cX4_greatestWorth 9 = .ok (.goto 4, 3) := by decide +kernel
theorem dX4_greatestWorth_12 : decode cX4_greatestWorth 12 = .ok (.iconst 1, 1) := by decide +kernel
theorem dX4_greatestWorth_13 : decode cX4_greatestWorth 13 = .ok (.invokevirtual 61, 3) := by decide +kernel
theorem dX4_greatestWorth_16 : decode cX4_greatestWorth 16 = .ok (.ifCond .eq 11, 3) := by decide +kernel
theorem dX4_greatestWorth_19 : decode cX4_greatestWorth 19 = .ok (.aload_n 0, 1) := by decide +kernel
theorem dX4_greatestWorth_20 : decode cX4_greatestWorth 20 = .ok (.iload_n 1, 1) := by decide +kernel
theorem dX4_greatestWorth_21 : decode cX4_greatestWorth 21 = .ok (.invokevirtual 143, 3) := by decide +kernel
theorem dX4_greatestWorth_24 : decode cX4_greatestWorth 24 = .ok (.goto 4, 3) := by decide +kernel
theorem dX4_greatestWorth_27 : decode cX4_greatestWorth 27 = .ok (.iconst 0, 1) := by decide +kernel
theorem dX4_greatestWorth_28 : decode cX4_greatestWorth 28 = .ok (.ireturn, 1) := by decide +kernel
set_option maxRecDepth 20000 in
theorem ggX4_chosen_X4_in : GoodIn wsX4_chosen wsX4_in := goodIn_r _ [6] (by decide +kernel) (by decide +kernel)
set_option maxRecDepth 20000 in
theorem gX4_chosen_X4_in : GoodIn wsX4_chosen (va_wsS RX4 44 yX4_in wsX4_in) := goodIn_app (goodIn_of _ (by decide +kernel)) ggX4_chosen_X4_in
set_option maxRecDepth 20000 in
theorem ggX4_chosen_X4_isMeasure : GoodIn wsX4_chosen wsX4_isMeasure := goodIn_r _ [9, 3, 4, 5, 6] (by decide +kernel) (by decide +kernel)
set_option maxRecDepth 20000 in
theorem gX4_chosen_X4_isMeasure : GoodIn wsX4_chosen (va_wsS RX4 112 yX4_isMeasure wsX4_isMeasure) := goodIn_app (goodIn_of _ (by decide +kernel)) ggX4_chosen_X4_isMeasure
set_option maxRecDepth 20000 in
theorem ggX4_chosen_X4_goesWell : GoodIn wsX4_chosen wsX4_goesWell := goodIn_r _ [13, 14, 88, 89, 90, 91, 92, 93, 94, 95, 96, 97, 98, 99, 100, 101, 102] (by decide +kernel) (by decide +kernel)
set_option maxRecDepth 20000 in
theorem gX4_chosen_X4_goesWell : GoodIn wsX4_chosen (wsV RX4 61 RX4 yX4_goesWell wsX4_goesWell) := goodIn_app (goodIn_of _ (by decide +kernel)) ggX4_chosen_X4_goesWell
set_option maxRecDepth 20000 in
theorem ggX4_chosen_X4_tryAll : GoodIn wsX4_chosen wsX4_tryAll := goodIn_r _ [18, 19, 1, 2, 20, 21, 22, 5, 23, 24, 25, 26, 27, 28, 29, 30, 31, 32, 33, 34, 35, 36, 37, 38, 39, 40, 41, 42, 43, 44, 45, 46, 47, 48, 49, 50, 51, 52, 53, 54, 55, 56, 57, 58, 59, 60, 61, 62, 63, 64, 65, 66, 67, 68, 69, 70, 71, 72, 73, 74, 75, 76, 77, 78, 79, 80, 81, 82, 83, 84, 85, 86, 87, 88, 89, 90, 91, 92, 93, 94, 95, 96, 97, 98, 99, 100, 101, 102] (by decide +kernel) (by decide +kernel)
set_option maxRecDepth 20000 in
theorem gX4_chosen_X4_tryAll : GoodIn wsX4_chosen (wsV RX4 143 RX4 yX4_tryAll wsX4_tryAll) := goodIn_app (goodIn_of _ (by decide +kernel)) ggX4_chosen_X4_tryAll
theorem dX4_chosen_0 : decode cX4_chosen 0 = .ok (.aload_n 0, 1) := by decide +kernel
theorem dX4_chosen_1 : decode cX4_chosen 1 = .ok (.iload_n 1, 1) := by decide +kernel
theorem dX4_chosen_2 : decode cX4_chosen 2 = .ok (.iconst 0, 1) := by decide +kernel
theorem dX4_chosen_3 : decode cX4_chosen 3 = .ok (.aload_n 0, 1) := by decide +kernel
theorem dX4_chosen_4 : decode cX4_chosen 4 = .ok (.getfield 91, 3) := by decide +kernel
theorem dX4_chosen_7 : decode cX4_chosen 7 = .ok (.iconst 1, 1) := by decide +kernel
theorem dX4_chosen_8 : decode cX4_chosen 8 = .ok (.isub, 1) := by decide +kernel
theorem dX4_chosen_9 : decode cX4_chosen 9 = .ok (.invokestatic 44, 3) := by decide +kernel
theorem dX4_chosen_12 : decode cX4_chosen 12 = .ok (.ifCond .ne 7, 3) := by decide +kernel
theorem dX4_chosen_15 : decode cX4_chosen 15 = .ok (.iconst 1, 1) := by decide +kernel
theorem dX4_chosen_16 : decode cX4_chosen 16 = .ok (.goto 15, 3) := by decide +kernel
theorem dX4_chosen_19 : decode cX4_chosen 19 = .ok (.iload_n 2, 1) := by decide +kernel
theorem dX4_chosen_20 : decode cX4_chosen 20 = .ok (.invokestatic 112, 3) := by decide +kernel
theorem dX4_chosen_23 : decode cX4_chosen 23 = .ok (.ifCond .eq 7, 3) := by decide +kernel
theorem dX4_chosen_26 : decode cX4_chosen 26 = .ok (.iconst 0, 1) := by decide +kernel
theorem dX4_chosen_27 : decode cX4_chosen 27 = .ok (.goto 4, 3) := by decide +kernel
theorem dX4_chosen_30 : decode cX4_chosen 30 = .ok (.iconst 2, 1) := by decide +kernel
theorem dX4_chosen_31 : decode cX4_chosen 31 = .ok (.invokevirtual 61, 3) := by decide +kernel
theorem dX4_chosen_34 : decode cX4_chosen 34 = .ok (.ifCond .ne 5, 3) := by decide +kernel
theorem dX4_chosen_37 : decode cX4_chosen 37 = .ok (.iconst 0, 1) := by decide +kernel
theorem dX4_chosen_38 : decode cX4_chosen 38 = .ok (.ireturn, 1) := by decide +kernel
theorem dX4_chosen_39 : decode cX4_chosen 39 = .ok (.aload_n 0, 1) := by decide +kernel
theorem dX4_chosen_40 : decode cX4_chosen 40 = .ok (.iload_n 2, 1) := by decide +kernel
theorem dX4_chosen_41 : decode cX4_chosen 41 = .ok (.invokevirtual 143, 3) := by decide +kernel
theorem dX4_chosen_44 : decode cX4_chosen 44 = .ok (.istore_n 3, 1) := by decide +kernel
theorem dX4_chosen_45 : decode cX4_chosen 45 = .ok (.aload_n 0, 1) := by decide +kernel
theorem dX4_chosen_46 : decode cX4_chosen 46 = .ok (.getfield 37, 3) := by decide +kernel
theorem dX4_chosen_49 : decode cX4_chosen 49 = .ok (.iload_n 1, 1) := by decide +kernel
theorem dX4_chosen_50 : decode cX4_chosen 50 = .ok (.iaload, 1) := by decide +kernel
theorem dX4_chosen_51 : decode cX4_chosen 51 = .ok (.ireturn, 1) := by decide +kernel
