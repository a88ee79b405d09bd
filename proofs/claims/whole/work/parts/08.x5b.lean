theorem dX5_like_3 : decode cX5_like 3 = .ok (.istore_n 3, 1) := by decide +kernel
theorem dX5_like_4 : decode cX5_like 4 = .ok (.iload_n 3, 1) := by decide +kernel
theorem dX5_like_5 : decode cX5_like 5 = .ok (.aload_n 0, 1) := by decide +kernel
theorem dX5_like_6 : decode cX5_like 6 = .ok (.sipush 189, 3) := by decide +kernel
theorem dX5_like_9 : decode cX5_like 9 = .ok (.iaload, 1) := by decide +kernel
theorem dX5_like_10 : decode cX5_like 10 = .ok (.if_icmp .ge 29, 3) := by decide +kernel
theorem dX5_like_13 : decode cX5_like 13 = .ok (.iload_n 2, 1) := by decide +kernel
theorem dX5_like_14 : decode cX5_like 14 = .ok (.aload_n 0, 1) := by decide +kernel
theorem dX5_like_15 : decode cX5_like 15 = .ok (.bipush 11, 2) := by decide +kernel
theorem dX5_like_17 : decode cX5_like 17 = .ok (.iload_n 3, 1) := by decide +kernel
theorem dX5_like_18 : decode cX5_like 18 = .ok (.imul, 1) := by decide +kernel
theorem dX5_like_19 : decode cX5_like 19 = .ok (.iconst 3, 1) := by decide +kernel
theorem dX5_like_20 : decode cX5_like 20 = .ok (.iadd, 1) := by decide +kernel
theorem dX5_like_21 : decode cX5_like 21 = .ok (.iaload, 1) := by decide +kernel
theorem dX5_like_22 : decode cX5_like 22 = .ok (.iload_n 1, 1) := by decide +kernel
theorem dX5_like_23 : decode cX5_like 23 = .ok (.if_icmp .ne 7, 3) := by decide +kernel
theorem dX5_like_26 : decode cX5_like 26 = .ok (.iconst 1, 1) := by decide +kernel
theorem dX5_like_27 : decode cX5_like 27 = .ok (.goto 4, 3) := by decide +kernel
theorem dX5_like_30 : decode cX5_like 30 = .ok (.iconst 0, 1) := by decide +kernel
theorem dX5_like_31 : decode cX5_like 31 = .ok (.iadd, 1) := by decide +kernel
theorem dX5_like_32 : decode cX5_like 32 = .ok (.istore_n 2, 1) := by decide +kernel
theorem dX5_like_33 : decode cX5_like 33 = .ok (.iinc 3 1, 3) := by decide +kernel
theorem dX5_like_36 : decode cX5_like 36 = .ok (.goto (-32), 3) := by decide +kernel
theorem dX5_like_39 : decode cX5_like 39 = .ok (.iload_n 2, 1) := by decide +kernel
theorem dX5_like_40 : decode cX5_like 40 = .ok (.ireturn, 1) := by decide +kernel
set_option maxRecDepth 20000 in
theorem ggX5_counted_X5_like : GoodIn wsX5_counted wsX5_like := goodIn_r _ [4] (by decide +kernel) (by decide +kernel)
set_option maxRecDepth 20000 in
theorem gX5_counted_X5_like : GoodIn wsX5_counted (va_wsS RX5 73 yX5_like wsX5_like) := goodIn_app (goodIn_of _ (by decide +kernel)) ggX5_counted_X5_like
theorem dX5_counted_0 : decode cX5_counted 0 = .ok (.iload_n 1, 1) := by decide +kernel
theorem dX5_counted_1 : decode cX5_counted 1 = .ok (.tableswitch 116 0 14 #[75, 81, 116, 116, 116, 116, 116, 116, 116, 87, 93, 93, 93, 104, 110], 75) := by decide +kernel
theorem dX5_counted_76 : decode cX5_counted 76 = .ok (.aload_n 0, 1) := by decide +kernel
theorem dX5_counted_77 : decode cX5_counted 77 = .ok (.sipush 188, 3) := by decide +kernel
theorem dX5_counted_80 : decode cX5_counted 80 = .ok (.iaload, 1) := by decide +kernel
theorem dX5_counted_81 : decode cX5_counted 81 = .ok (.ireturn, 1) := by decide +kernel
theorem dX5_counted_82 : decode cX5_counted 82 = .ok (.aload_n 0, 1) := by decide +kernel
theorem dX5_counted_83 : decode cX5_counted 83 = .ok (.sipush 189, 3) := by decide +kernel
theorem dX5_counted_86 : decode cX5_counted 86 = .ok (.iaload, 1) := by decide +kernel
theorem dX5_counted_87 : decode cX5_counted 87 = .ok (.ireturn, 1) := by decide +kernel
theorem dX5_counted_88 : decode cX5_counted 88 = .ok (.aload_n 0, 1) := by decide +kernel
theorem dX5_counted_89 : decode cX5_counted 89 = .ok (.sipush 187, 3) := by decide +kernel
theorem dX5_counted_92 : decode cX5_counted 92 = .ok (.iaload, 1) := by decide +kernel
theorem dX5_counted_93 : decode cX5_counted 93 = .ok (.ireturn, 1) := by decide +kernel
theorem dX5_counted_94 : decode cX5_counted 94 = .ok (.aload_n 0, 1) := by decide +kernel
theorem dX5_counted_95 : decode cX5_counted 95 = .ok (.sipush 184, 3) := by decide +kernel
theorem dX5_counted_98 : decode cX5_counted 98 = .ok (.iload_n 1, 1) := by decide +kernel
theorem dX5_counted_99 : decode cX5_counted 99 = .ok (.iadd, 1) := by decide +kernel
theorem dX5_counted_100 : decode cX5_counted 100 = .ok (.bipush 10, 2) := by decide +kernel
theorem dX5_counted_102 : decode cX5_counted 102 = .ok (.isub, 1) := by decide +kernel
theorem dX5_counted_103 : decode cX5_counted 103 = .ok (.iaload, 1) := by decide +kernel
theorem dX5_counted_104 : decode cX5_counted 104 = .ok (.ireturn, 1) := by decide +kernel
theorem dX5_counted_105 : decode cX5_counted 105 = .ok (.aload_n 0, 1) := by decide +kernel
theorem dX5_counted_106 : decode cX5_counted 106 = .ok (.sipush 191, 3) := by decide +kernel
theorem dX5_counted_109 : decode cX5_counted 109 = .ok (.iaload, 1) := by decide +kernel
theorem dX5_counted_110 : decode cX5_counted 110 = .ok (.ireturn, 1) := by decide +kernel
theorem dX5_counted_111 : decode cX5_counted 111 = .ok (.aload_n 0, 1) := by decide +kernel
theorem dX5_counted_112 : decode cX5_counted 112 = .ok (.sipush 192, 3) := by decide +kernel
theorem dX5_counted_115 : decode cX5_counted 115 = .ok (.iaload, 1) := by decide +kernel
theorem dX5_counted_116 : decode cX5_counted 116 = .ok (.ireturn, 1) := by decide +kernel
theorem dX5_counted_117 : decode cX5_counted 117 = .ok (.aload_n 0, 1) := by decide +kernel
theorem dX5_counted_118 : decode cX5_counted 118 = .ok (.iload_n 1, 1) := by decide +kernel
theorem dX5_counted_119 : decode cX5_counted 119 = .ok (.iconst 2, 1) := by decide +kernel
theorem dX5_counted_120 : decode cX5_counted 120 = .ok (.isub, 1) := by decide +kernel
theorem dX5_counted_121 : decode cX5_counted 121 = .ok (.invokestatic 73, 3) := by decide +kernel
theorem dX5_counted_124 : decode cX5_counted 124 = .ok (.ireturn, 1) := by decide +kernel
set_option maxRecDepth 20000 in
theorem ggX5_count_X5_isIn : GoodIn wsX5_count wsX5_isIn := goodIn_r _ [6] (by decide +kernel) (by decide +kernel)
set_option maxRecDepth 20000 in
theorem gX5_count_X5_isIn : GoodIn wsX5_count (va_wsS RX5 20 yX5_isIn wsX5_isIn) := goodIn_app (goodIn_of _ (by decide +kernel)) ggX5_count_X5_isIn
set_option maxRecDepth 20000 in
theorem ggX5_count_X5_counted : GoodIn wsX5_count wsX5_counted := goodIn_r _ [9, 10, 11, 5, 12] (by decide +kernel) (by decide +kernel)
set_option maxRecDepth 20000 in
theorem gX5_count_X5_counted : GoodIn wsX5_count (va_wsS RX5 76 yX5_counted wsX5_counted) := goodIn_app (goodIn_of _ (by decide +kernel)) ggX5_count_X5_counted
set_option maxRecDepth 20000 in
theorem ggX5_count_X5_no : GoodIn wsX5_count wsX5_no := goodIn_r _ [16, 1, 17, 18, 19] (by decide +kernel) (by decide +kernel)
set_option maxRecDepth 20000 in
theorem gX5_count_X5_no : GoodIn wsX5_count (wsV RX5 37 RX5 yX5_no wsX5_no) := goodIn_app (goodIn_of _ (by decide +kernel)) ggX5_count_X5_no
theorem dX5_count_0 : decode cX5_count 0 = .ok (.aload_n 0, 1) := by decide +kernel
theorem dX5_count_1 : decode cX5_count 1 = .ok (.iconst 0, 1) := by decide +kernel
theorem dX5_count_2 : decode cX5_count 2 = .ok (.putfield 1, 3) := by decide +kernel
theorem dX5_count_5 : decode cX5_count 5 = .ok (.iload_n 1, 1) := by decide +kernel
theorem dX5_count_6 : decode cX5_count 6 = .ok (.iconst 0, 1) := by decide +kernel
theorem dX5_count_7 : decode cX5_count 7 = .ok (.bipush 14, 2) := by decide +kernel
theorem dX5_count_9 : decode cX5_count 9 = .ok (.invokestatic 20, 3) := by decide +kernel
theorem dX5_count_12 : decode cX5_count 12 = .ok (.ifCond .eq 14, 3) := by decide +kernel
theorem dX5_count_15 : decode cX5_count 15 = .ok (.aload_n 0, 1) := by decide +kernel
theorem dX5_count_16 : decode cX5_count 16 = .ok (.getfield 13, 3) := by decide +kernel
theorem dX5_count_19 : decode cX5_count 19 = .ok (.iload_n 1, 1) := by decide +kernel
theorem dX5_count_20 : decode cX5_count 20 = .ok (.invokestatic 76, 3) := by decide +kernel
theorem dX5_count_23 : decode cX5_count 23 = .ok (.goto 8, 3) := by decide +kernel
theorem dX5_count_26 : decode cX5_count 26 = .ok (.aload_n 0, 1) := by decide +kernel
theorem dX5_count_27 : decode cX5_count 27 = .ok (.iconst 1, 1) := by decide +kernel
theorem dX5_count_28 : decode cX5_count 28 = .ok (.invokevirtual 37, 3) := by decide +kernel
theorem dX5_count_31 : decode cX5_count 31 = .ok (.ireturn, 1) := by decide +kernel
theorem dX5_first_0 : decode cX5_first 0 = .ok (.iconst 0, 1) := by decide +kernel
theorem dX5_first_1 : decode cX5_first 1 = .ok (.istore_n 2, 1) := by decide +kernel
theorem dX5_first_2 : decode cX5_first 2 = .ok (.iload_n 2, 1) := by decide +kernel
theorem dX5_first_3 : decode cX5_first 3 = .ok (.aload_n 0, 1) := by decide +kernel
theorem dX5_first_4 : decode cX5_first 4 = .ok (.sipush 189, 3) := by decide +kernel
theorem dX5_first_7 : decode cX5_first 7 = .ok (.iaload, 1) := by decide +kernel
theorem dX5_first_8 : decode cX5_first 8 = .ok (.if_icmp .ge 23, 3) := by decide +kernel
theorem dX5_first_11 : decode cX5_first 11 = .ok (.aload_n 0, 1) := by decide +kernel
theorem dX5_first_12 : decode cX5_first 12 = .ok (.bipush 11, 2) := by decide +kernel
theorem dX5_first_14 : decode cX5_first 14 = .ok (.iload_n 2, 1) := by decide +kernel
theorem dX5_first_15 : decode cX5_first 15 = .ok (.imul, 1) := by decide +kernel
theorem dX5_first_16 : decode cX5_first 16 = .ok (.iconst 3, 1) := by decide +kernel
theorem dX5_first_17 : decode cX5_first 17 = .ok (.iadd, 1) := by decide +kernel
theorem dX5_first_18 : decode cX5_first 18 = .ok (.iaload, 1) := by decide +kernel
theorem dX5_first_19 : decode cX5_first 19 = .ok (.iload_n 1, 1) := by decide +kernel
theorem dX5_first_20 : decode cX5_first 20 = .ok (.if_icmp .ne 5, 3) := by decide +kernel
theorem dX5_first_23 : decode cX5_first 23 = .ok (.iload_n 2, 1) := by decide +kernel
theorem dX5_first_24 : decode cX5_first 24 = .ok (.ireturn, 1) := by decide +kernel
theorem dX5_first_25 : decode cX5_first 25 = .ok (.iinc 2 1, 3) := by decide +kernel
theorem dX5_first_28 : decode cX5_first 28 = .ok (.goto (-26), 3) := by decide +kernel
theorem dX5_first_31 : decode cX5_first 31 = .ok (.iconst (-1), 1) := by decide +kernel
theorem dX5_first_32 : decode cX5_first 32 = .ok (.ireturn, 1) := by decide +kernel
set_option maxRecDepth 20000 in
theorem ggX5_gild_X5_first : GoodIn wsX5_gild wsX5_first := goodIn_r _ [4] (by decide +kernel) (by decide +kernel)
set_option maxRecDepth 20000 in
theorem gX5_gild_X5_first : GoodIn wsX5_gild (va_wsS RX5 79 yX5_first wsX5_first) := goodIn_app (goodIn_of _ (by decide +kernel)) ggX5_gild_X5_first
set_option maxRecDepth 20000 in
theorem ggX5_gild_X5_thick : GoodIn wsX5_gild wsX5_thick := goodIn_r _ [7] (by decide +kernel) (by decide +kernel)
set_option maxRecDepth 20000 in
theorem gX5_gild_X5_thick : GoodIn wsX5_gild (va_wsS RX5 82 yX5_thick wsX5_thick) := goodIn_app (goodIn_of _ (by decide +kernel)) ggX5_gild_X5_thick
theorem dX5_gild_0 : decode cX5_gild 0 = .ok (.aload_n 0, 1) := by decide +kernel
theorem dX5_gild_1 : decode cX5_gild 1 = .ok (.iconst 4, 1) := by decide +kernel
theorem dX5_gild_2 : decode cX5_gild 2 = .ok (.invokestatic 79, 3) := by decide +kernel
theorem dX5_gild_5 : decode cX5_gild 5 = .ok (.istore_n 1, 1) := by decide +kernel
theorem dX5_gild_6 : decode cX5_gild 6 = .ok (.iload_n 1, 1) := by decide +kernel
theorem dX5_gild_7 : decode cX5_gild 7 = .ok (.ifCond .ge 4, 3) := by decide +kernel
theorem dX5_gild_10 : decode cX5_gild 10 = .ok (.return_, 1) := by decide +kernel
theorem dX5_gild_11 : decode cX5_gild 11 = .ok (.bipush 11, 2) := by decide +kernel
theorem dX5_gild_13 : decode cX5_gild 13 = .ok (.iload_n 1, 1) := by decide +kernel
theorem dX5_gild_14 : decode cX5_gild 14 = .ok (.imul, 1) := by decide +kernel
theorem dX5_gild_15 : decode cX5_gild 15 = .ok (.istore_n 2, 1) := by decide +kernel
theorem dX5_gild_16 : decode cX5_gild 16 = .ok (.iconst 1, 1) := by decide +kernel
theorem dX5_gild_17 : decode cX5_gild 17 = .ok (.aload_n 0, 1) := by decide +kernel
theorem dX5_gild_18 : decode cX5_gild 18 = .ok (.iload_n 2, 1) := by decide +kernel
theorem dX5_gild_19 : decode cX5_gild 19 = .ok (.invokestatic 82, 3) := by decide +kernel
theorem dX5_gild_22 : decode cX5_gild 22 = .ok (.bipush 16, 2) := by decide +kernel
theorem dX5_gild_24 : decode cX5_gild 24 = .ok (.idiv, 1) := by decide +kernel
theorem dX5_gild_25 : decode cX5_gild 25 = .ok (.iadd, 1) := by decide +kernel
theorem dX5_gild_26 : decode cX5_gild 26 = .ok (.istore_n 3, 1) := by decide +kernel
theorem dX5_gild_27 : decode cX5_gild 27 = .ok (.aload_n 0, 1) := by decide +kernel
theorem dX5_gild_28 : decode cX5_gild 28 = .ok (.sipush 186, 3) := by decide +kernel
theorem dX5_gild_31 : decode cX5_gild 31 = .ok (.iaload, 1) := by decide +kernel
theorem dX5_gild_32 : decode cX5_gild 32 = .ok (.iload_n 3, 1) := by decide +kernel
theorem dX5_gild_33 : decode cX5_gild 33 = .ok (.if_icmp .ge 4, 3) := by decide +kernel
theorem dX5_gild_36 : decode cX5_gild 36 = .ok (.return_, 1) := by decide +kernel
theorem dX5_gild_37 : decode cX5_gild 37 = .ok (.aload_n 0, 1) := by decide +kernel
theorem dX5_gild_38 : decode cX5_gild 38 = .ok (.sipush 186, 3) := by decide +kernel
theorem dX5_gild_41 : decode cX5_gild 41 = .ok (.dup2, 1) := by decide +kernel
theorem dX5_gild_42 : decode cX5_gild 42 = .ok (.iaload, 1) := by decide +kernel
theorem dX5_gild_43 : decode cX5_gild 43 = .ok (.iload_n 3, 1) := by decide +kernel
theorem dX5_gild_44 : decode cX5_gild 44 = .ok (.isub, 1) := by decide +kernel
theorem dX5_gild_45 : decode cX5_gild 45 = .ok (.iastore, 1) := by decide +kernel
theorem dX5_gild_46 : decode cX5_gild 46 = .ok (.aload_n 0, 1) := by decide +kernel
theorem dX5_gild_47 : decode cX5_gild 47 = .ok (.iload_n 2, 1) := by decide +kernel
theorem dX5_gild_48 : decode cX5_gild 48 = .ok (.bipush 9, 2) := by decide +kernel
theorem dX5_gild_50 : decode cX5_gild 50 = .ok (.iadd, 1) := by decide +kernel
theorem dX5_gild_51 : decode cX5_gild 51 = .ok (.dup2, 1) := by decide +kernel
theorem dX5_gild_52 : decode cX5_gild 52 = .ok (.iaload, 1) := by decide +kernel
theorem dX5_gild_53 : decode cX5_gild 53 = .ok (.iconst 1, 1) := by decide +kernel
theorem dX5_gild_54 : decode cX5_gild 54 = .ok (.iadd, 1) := by decide +kernel
theorem dX5_gild_55 : decode cX5_gild 55 = .ok (.iastore, 1) := by decide +kernel
theorem dX5_gild_56 : decode cX5_gild 56 = .ok (.aload_n 0, 1) := by decide +kernel
theorem dX5_gild_57 : decode cX5_gild 57 = .ok (.iload_n 2, 1) := by decide +kernel
theorem dX5_gild_58 : decode cX5_gild 58 = .ok (.bipush 9, 2) := by decide +kernel
theorem dX5_gild_60 : decode cX5_gild 60 = .ok (.iadd, 1) := by decide +kernel
theorem dX5_gild_61 : decode cX5_gild 61 = .ok (.iaload, 1) := by decide +kernel
theorem dX5_gild_62 : decode cX5_gild 62 = .ok (.aload_n 0, 1) := by decide +kernel
theorem dX5_gild_63 : decode cX5_gild 63 = .ok (.iload_n 2, 1) := by decide +kernel
theorem dX5_gild_64 : decode cX5_gild 64 = .ok (.iconst 2, 1) := by decide +kernel
theorem dX5_gild_65 : decode cX5_gild 65 = .ok (.iadd, 1) := by decide +kernel
theorem dX5_gild_66 : decode cX5_gild 66 = .ok (.iaload, 1) := by decide +kernel
theorem dX5_gild_67 : decode cX5_gild 67 = .ok (.if_icmp .ne 9, 3) := by decide +kernel
theorem dX5_gild_70 : decode cX5_gild 70 = .ok (.aload_n 0, 1) := by decide +kernel
theorem dX5_gild_71 : decode cX5_gild 71 = .ok (.iload_n 2, 1) := by decide +kernel
theorem dX5_gild_72 : decode cX5_gild 72 = .ok (.iconst 3, 1) := by decide +kernel
theorem dX5_gild_73 : decode cX5_gild 73 = .ok (.iadd, 1) := by decide +kernel
theorem dX5_gild_74 : decode cX5_gild 74 = .ok (.iconst 5, 1) := by decide +kernel
theorem dX5_gild_75 : decode cX5_gild 75 = .ok (.iastore, 1) := by decide +kernel
theorem dX5_gild_76 : decode cX5_gild 76 = .ok (.return_, 1) := by decide +kernel
theorem dX5_board_0 : decode cX5_board 0 = .ok (.aload_n 0, 1) := by decide +kernel
theorem dX5_board_1 : decode cX5_board 1 = .ok (.iload_n 1, 1) := by decide +kernel
theorem dX5_board_2 : decode cX5_board 2 = .ok (.iconst 3, 1) := by decide +kernel
theorem dX5_board_3 : decode cX5_board 3 = .ok (.iadd, 1) := by decide +kernel
theorem dX5_board_4 : decode cX5_board 4 = .ok (.iaload, 1) := by decide +kernel
theorem dX5_board_5 : decode cX5_board 5 = .ok (.iconst 3, 1) := by decide +kernel
theorem dX5_board_6 : decode cX5_board 6 = .ok (.if_icmp .ne 12, 3) := by decide +kernel
theorem dX5_board_9 : decode cX5_board 9 = .ok (.aload_n 0, 1) := by decide +kernel
theorem dX5_board_10 : decode cX5_board 10 = .ok (.sipush 185, 3) := by decide +kernel
theorem dX5_board_13 : decode cX5_board 13 = .ok (.iaload, 1) := by decide +kernel
theorem dX5_board_14 : decode cX5_board 14 = .ok (.iconst 2, 1) := by decide +kernel
theorem dX5_board_15 : decode cX5_board 15 = .ok (.if_icmp .ge 4, 3) := by decide +kernel
theorem dX5_board_18 : decode cX5_board 18 = .ok (.return_, 1) := by decide +kernel
theorem dX5_board_19 : decode cX5_board 19 = .ok (.aload_n 0, 1) := by decide +kernel
theorem dX5_board_20 : decode cX5_board 20 = .ok (.sipush 185, 3) := by decide +kernel
theorem dX5_board_23 : decode cX5_board 23 = .ok (.dup2, 1) := by decide +kernel
theorem dX5_board_24 : decode cX5_board 24 = .ok (.iaload, 1) := by decide +kernel
theorem dX5_board_25 : decode cX5_board 25 = .ok (.iconst 2, 1) := by decide +kernel
theorem dX5_board_26 : decode cX5_board 26 = .ok (.isub, 1) := by decide +kernel
theorem dX5_board_27 : decode cX5_board 27 = .ok (.iastore, 1) := by decide +kernel
theorem dX5_board_28 : decode cX5_board 28 = .ok (.aload_n 0, 1) := by decide +kernel
theorem dX5_board_29 : decode cX5_board 29 = .ok (.iload_n 1, 1) := by decide +kernel
theorem dX5_board_30 : decode cX5_board 30 = .ok (.iconst 3, 1) := by decide +kernel
theorem dX5_board_31 : decode cX5_board 31 = .ok (.iadd, 1) := by decide +kernel
theorem dX5_board_32 : decode cX5_board 32 = .ok (.aload_n 0, 1) := by decide +kernel
theorem dX5_board_33 : decode cX5_board 33 = .ok (.iload_n 1, 1) := by decide +kernel
theorem dX5_board_34 : decode cX5_board 34 = .ok (.iconst 2, 1) := by decide +kernel
theorem dX5_board_35 : decode cX5_board 35 = .ok (.iadd, 1) := by decide +kernel
theorem dX5_board_36 : decode cX5_board 36 = .ok (.iaload, 1) := by decide +kernel
theorem dX5_board_37 : decode cX5_board 37 = .ok (.ifCond .ne 7, 3) := by decide +kernel
theorem dX5_board_40 : decode cX5_board 40 = .ok (.iconst 5, 1) := by decide +kernel
theorem dX5_board_41 : decode cX5_board 41 = .ok (.goto 4, 3) := by decide +kernel
theorem dX5_board_44 : decode cX5_board 44 = .ok (.iconst 4, 1) := by decide +kernel
theorem dX5_board_45 : decode cX5_board 45 = .ok (.iastore, 1) := by decide +kernel
theorem dX5_board_46 : decode cX5_board 46 = .ok (.return_, 1) := by decide +kernel
theorem dX5_dry_0 : decode cX5_dry 0 = .ok (.aload_n 0, 1) := by decide +kernel
theorem dX5_dry_1 : decode cX5_dry 1 = .ok (.iload_n 1, 1) := by decide +kernel
theorem dX5_dry_2 : decode cX5_dry 2 = .ok (.iconst 3, 1) := by decide +kernel
theorem dX5_dry_3 : decode cX5_dry 3 = .ok (.iadd, 1) := by decide +kernel
theorem dX5_dry_4 : decode cX5_dry 4 = .ok (.iaload, 1) := by decide +kernel
theorem dX5_dry_5 : decode cX5_dry 5 = .ok (.iconst 2, 1) := by decide +kernel
theorem dX5_dry_6 : decode cX5_dry 6 = .ok (.if_icmp .eq 4, 3) := by decide +kernel
theorem dX5_dry_9 : decode cX5_dry 9 = .ok (.return_, 1) := by decide +kernel
theorem dX5_dry_10 : decode cX5_dry 10 = .ok (.aload_n 0, 1) := by decide +kernel
theorem dX5_dry_11 : decode cX5_dry 11 = .ok (.iload_n 1, 1) := by decide +kernel
theorem dX5_dry_12 : decode cX5_dry 12 = .ok (.bipush 8, 2) := by decide +kernel
theorem dX5_dry_14 : decode cX5_dry 14 = .ok (.iadd, 1) := by decide +kernel
theorem dX5_dry_15 : decode cX5_dry 15 = .ok (.dup2, 1) := by decide +kernel
theorem dX5_dry_16 : decode cX5_dry 16 = .ok (.iaload, 1) := by decide +kernel
theorem dX5_dry_17 : decode cX5_dry 17 = .ok (.iconst 1, 1) := by decide +kernel
theorem dX5_dry_18 : decode cX5_dry 18 = .ok (.isub, 1) := by decide +kernel
theorem dX5_dry_19 : decode cX5_dry 19 = .ok (.iastore, 1) := by decide +kernel
theorem dX5_dry_20 : decode cX5_dry 20 = .ok (.aload_n 0, 1) := by decide +kernel
theorem dX5_dry_21 : decode cX5_dry 21 = .ok (.iload_n 1, 1) := by decide +kernel
theorem dX5_dry_22 : decode cX5_dry 22 = .ok (.bipush 8, 2) := by decide +kernel
theorem dX5_dry_24 : decode cX5_dry 24 = .ok (.iadd, 1) := by decide +kernel
theorem dX5_dry_25 : decode cX5_dry 25 = .ok (.iaload, 1) := by decide +kernel
theorem dX5_dry_26 : decode cX5_dry 26 = .ok (.ifCond .ne 9, 3) := by decide +kernel
theorem dX5_dry_29 : decode cX5_dry 29 = .ok (.aload_n 0, 1) := by decide +kernel
theorem dX5_dry_30 : decode cX5_dry 30 = .ok (.iload_n 1, 1) := by decide +kernel
theorem dX5_dry_31 : decode cX5_dry 31 = .ok (.iconst 3, 1) := by decide +kernel
theorem dX5_dry_32 : decode cX5_dry 32 = .ok (.iadd, 1) := by decide +kernel
theorem dX5_dry_33 : decode cX5_dry 33 = .ok (.iconst 3, 1) := by decide +kernel
theorem dX5_dry_34 : decode cX5_dry 34 = .ok (.iastore, 1) := by decide +kernel
theorem dX5_dry_35 : decode cX5_dry 35 = .ok (.return_, 1) := by decide +kernel
set_option maxRecDepth 20000 in
theorem ggX5_sew_X5_rate : GoodIn wsX5_sew wsX5_rate := goodIn_r _ [4, 5, 6, 7, 8] (by decide +kernel) (by decide +kernel)
set_option maxRecDepth 20000 in
theorem gX5_sew_X5_rate : GoodIn wsX5_sew (va_wsS RX5 64 yX5_rate wsX5_rate) := goodIn_app (goodIn_of _ (by decide +kernel)) ggX5_sew_X5_rate
set_option maxRecDepth 20000 in
theorem ggX5_sew_X5_stitches : GoodIn wsX5_sew wsX5_stitches := goodIn_r _ [11] (by decide +kernel) (by decide +kernel)
set_option maxRecDepth 20000 in
theorem gX5_sew_X5_stitches : GoodIn wsX5_sew (va_wsS RX5 30 yX5_stitches wsX5_stitches) := goodIn_app (goodIn_of _ (by decide +kernel)) ggX5_sew_X5_stitches
set_option maxRecDepth 20000 in
theorem ggX5_sew_X5_thick : GoodIn wsX5_sew wsX5_thick := goodIn_r _ [14] (by decide +kernel) (by decide +kernel)
set_option maxRecDepth 20000 in
theorem gX5_sew_X5_thick : GoodIn wsX5_sew (va_wsS RX5 82 yX5_thick wsX5_thick) := goodIn_app (goodIn_of _ (by decide +kernel)) ggX5_sew_X5_thick
theorem dX5_sew_0 : decode cX5_sew 0 = .ok (.sipush 165, 3) := by decide +kernel
theorem dX5_sew_3 : decode cX5_sew 3 = .ok (.iconst 3, 1) := by decide +kernel
theorem dX5_sew_4 : decode cX5_sew 4 = .ok (.iload_n 1, 1) := by decide +kernel
theorem dX5_sew_5 : decode cX5_sew 5 = .ok (.imul, 1) := by decide +kernel
theorem dX5_sew_6 : decode cX5_sew 6 = .ok (.iadd, 1) := by decide +kernel
theorem dX5_sew_7 : decode cX5_sew 7 = .ok (.istore_n 2, 1) := by decide +kernel
theorem dX5_sew_8 : decode cX5_sew 8 = .ok (.aload_n 0, 1) := by decide +kernel
theorem dX5_sew_9 : decode cX5_sew 9 = .ok (.iload_n 1, 1) := by decide +kernel
theorem dX5_sew_10 : decode cX5_sew 10 = .ok (.invokestatic 64, 3) := by decide +kernel
theorem dX5_sew_13 : decode cX5_sew 13 = .ok (.istore_n 3, 1) := by decide +kernel
theorem dX5_sew_14 : decode cX5_sew 14 = .ok (.iconst 1, 1) := by decide +kernel
theorem dX5_sew_15 : decode cX5_sew 15 = .ok (.istore 4, 2) := by decide +kernel
theorem dX5_sew_17 : decode cX5_sew 17 = .ok (.iload 4, 2) := by decide +kernel
theorem dX5_sew_19 : decode cX5_sew 19 = .ok (.iload_n 3, 1) := by decide +kernel
theorem dX5_sew_20 : decode cX5_sew 20 = .ok (.if_icmp .gt 197, 3) := by decide +kernel
theorem dX5_sew_23 : decode cX5_sew 23 = .ok (.aload_n 0, 1) := by decide +kernel
theorem dX5_sew_24 : decode cX5_sew 24 = .ok (.iload_n 2, 1) := by decide +kernel
theorem dX5_sew_25 : decode cX5_sew 25 = .ok (.iconst 1, 1) := by decide +kernel
theorem dX5_sew_26 : decode cX5_sew 26 = .ok (.iadd, 1) := by decide +kernel
theorem dX5_sew_27 : decode cX5_sew 27 = .ok (.iaload, 1) := by decide +kernel
theorem dX5_sew_28 : decode cX5_sew 28 = .ok (.ifCond .lt 189, 3) := by decide +kernel
theorem dX5_sew_31 : decode cX5_sew 31 = .ok (.aload_n 0, 1) := by decide +kernel
theorem dX5_sew_32 : decode cX5_sew 32 = .ok (.sipush 184, 3) := by decide +kernel
theorem dX5_sew_35 : decode cX5_sew 35 = .ok (.iaload, 1) := by decide +kernel
theorem dX5_sew_36 : decode cX5_sew 36 = .ok (.ifCond .le 181, 3) := by decide +kernel
theorem dX5_sew_39 : decode cX5_sew 39 = .ok (.bipush 11, 2) := by decide +kernel
theorem dX5_sew_41 : decode cX5_sew 41 = .ok (.aload_n 0, 1) := by decide +kernel
theorem dX5_sew_42 : decode cX5_sew 42 = .ok (.iload_n 2, 1) := by decide +kernel
theorem dX5_sew_43 : decode cX5_sew 43 = .ok (.iconst 1, 1) := by decide +kernel
theorem dX5_sew_44 : decode cX5_sew 44 = .ok (.iadd, 1) := by decide +kernel
theorem dX5_sew_45 : decode cX5_sew 45 = .ok (.iaload, 1) := by decide +kernel
theorem dX5_sew_46 : decode cX5_sew 46 = .ok (.imul, 1) := by decide +kernel
theorem dX5_sew_47 : decode cX5_sew 47 = .ok (.istore 5, 2) := by decide +kernel
theorem dX5_sew_49 : decode cX5_sew 49 = .ok (.aload_n 0, 1) := by decide +kernel
theorem dX5_sew_50 : decode cX5_sew 50 = .ok (.sipush 184, 3) := by decide +kernel
theorem dX5_sew_53 : decode cX5_sew 53 = .ok (.dup2, 1) := by decide +kernel
theorem dX5_sew_54 : decode cX5_sew 54 = .ok (.iaload, 1) := by decide +kernel
theorem dX5_sew_55 : decode cX5_sew 55 = .ok (.iconst 1, 1) := by decide +kernel
theorem dX5_sew_56 : decode cX5_sew 56 = .ok (.isub, 1) := by decide +kernel
theorem dX5_sew_57 : decode cX5_sew 57 = .ok (.iastore, 1) := by decide +kernel
theorem dX5_sew_58 : decode cX5_sew 58 = .ok (.aload_n 0, 1) := by decide +kernel
theorem dX5_sew_59 : decode cX5_sew 59 = .ok (.iload_n 2, 1) := by decide +kernel
theorem dX5_sew_60 : decode cX5_sew 60 = .ok (.iconst 2, 1) := by decide +kernel
theorem dX5_sew_61 : decode cX5_sew 61 = .ok (.iadd, 1) := by decide +kernel
theorem dX5_sew_62 : decode cX5_sew 62 = .ok (.dup2, 1) := by decide +kernel
theorem dX5_sew_63 : decode cX5_sew 63 = .ok (.iaload, 1) := by decide +kernel
theorem dX5_sew_64 : decode cX5_sew 64 = .ok (.iconst 1, 1) := by decide +kernel
theorem dX5_sew_65 : decode cX5_sew 65 = .ok (.iadd, 1) := by decide +kernel
theorem dX5_sew_66 : decode cX5_sew 66 = .ok (.iastore, 1) := by decide +kernel
theorem dX5_sew_67 : decode cX5_sew 67 = .ok (.aload_n 0, 1) := by decide +kernel
theorem dX5_sew_68 : decode cX5_sew 68 = .ok (.sipush 191, 3) := by decide +kernel
theorem dX5_sew_71 : decode cX5_sew 71 = .ok (.dup2, 1) := by decide +kernel
theorem dX5_sew_72 : decode cX5_sew 72 = .ok (.iaload, 1) := by decide +kernel
theorem dX5_sew_73 : decode cX5_sew 73 = .ok (.iconst 1, 1) := by decide +kernel
theorem dX5_sew_74 : decode cX5_sew 74 = .ok (.iadd, 1) := by decide +kernel
theorem dX5_sew_75 : decode cX5_sew 75 = .ok (.iastore, 1) := by decide +kernel
theorem dX5_sew_76 : decode cX5_sew 76 = .ok (.aload_n 0, 1) := by decide +kernel
theorem dX5_sew_77 : decode cX5_sew 77 = .ok (.iload 5, 2) := by decide +kernel
theorem dX5_sew_79 : decode cX5_sew 79 = .ok (.bipush 6, 2) := by decide +kernel
theorem dX5_sew_81 : decode cX5_sew 81 = .ok (.iadd, 1) := by decide +kernel
theorem dX5_sew_82 : decode cX5_sew 82 = .ok (.dup2, 1) := by decide +kernel
theorem dX5_sew_83 : decode cX5_sew 83 = .ok (.iaload, 1) := by decide +kernel
theorem dX5_sew_84 : decode cX5_sew 84 = .ok (.iconst 1, 1) := by decide +kernel
theorem dX5_sew_85 : decode cX5_sew 85 = .ok (.iadd, 1) := by decide +kernel
theorem dX5_sew_86 : decode cX5_sew 86 = .ok (.iastore, 1) := by decide +kernel
theorem dX5_sew_87 : decode cX5_sew 87 = .ok (.aload_n 0, 1) := by decide +kernel
theorem dX5_sew_88 : decode cX5_sew 88 = .ok (.iload 5, 2) := by decide +kernel
theorem dX5_sew_90 : decode cX5_sew 90 = .ok (.bipush 6, 2) := by decide +kernel
theorem dX5_sew_92 : decode cX5_sew 92 = .ok (.iadd, 1) := by decide +kernel
theorem dX5_sew_93 : decode cX5_sew 93 = .ok (.iaload, 1) := by decide +kernel
theorem dX5_sew_94 : decode cX5_sew 94 = .ok (.aload_n 0, 1) := by decide +kernel
theorem dX5_sew_95 : decode cX5_sew 95 = .ok (.iload 5, 2) := by decide +kernel
theorem dX5_sew_97 : decode cX5_sew 97 = .ok (.aload_n 0, 1) := by decide +kernel
theorem dX5_sew_98 : decode cX5_sew 98 = .ok (.iload 5, 2) := by decide +kernel
theorem dX5_sew_100 : decode cX5_sew 100 = .ok (.iconst 5, 1) := by decide +kernel
theorem dX5_sew_101 : decode cX5_sew 101 = .ok (.iadd, 1) := by decide +kernel
theorem dX5_sew_102 : decode cX5_sew 102 = .ok (.iaload, 1) := by decide +kernel
theorem dX5_sew_103 : decode cX5_sew 103 = .ok (.invokestatic 30, 3) := by decide +kernel
theorem dX5_sew_106 : decode cX5_sew 106 = .ok (.if_icmp .ge 6, 3) := by decide +kernel
theorem dX5_sew_109 : decode cX5_sew 109 = .ok (.goto 102, 3) := by decide +kernel
theorem dX5_sew_112 : decode cX5_sew 112 = .ok (.aload_n 0, 1) := by decide +kernel
theorem dX5_sew_113 : decode cX5_sew 113 = .ok (.iload 5, 2) := by decide +kernel
theorem dX5_sew_115 : decode cX5_sew 115 = .ok (.bipush 6, 2) := by decide +kernel
theorem dX5_sew_117 : decode cX5_sew 117 = .ok (.iadd, 1) := by decide +kernel
theorem dX5_sew_118 : decode cX5_sew 118 = .ok (.iconst 0, 1) := by decide +kernel
theorem dX5_sew_119 : decode cX5_sew 119 = .ok (.iastore, 1) := by decide +kernel
theorem dX5_sew_120 : decode cX5_sew 120 = .ok (.aload_n 0, 1) := by decide +kernel
theorem dX5_sew_121 : decode cX5_sew 121 = .ok (.iload 5, 2) := by decide +kernel
theorem dX5_sew_123 : decode cX5_sew 123 = .ok (.iconst 5, 1) := by decide +kernel
theorem dX5_sew_124 : decode cX5_sew 124 = .ok (.iadd, 1) := by decide +kernel
theorem dX5_sew_125 : decode cX5_sew 125 = .ok (.dup2, 1) := by decide +kernel
theorem dX5_sew_126 : decode cX5_sew 126 = .ok (.iaload, 1) := by decide +kernel
theorem dX5_sew_127 : decode cX5_sew 127 = .ok (.iconst 1, 1) := by decide +kernel
theorem dX5_sew_128 : decode cX5_sew 128 = .ok (.iadd, 1) := by decide +kernel
theorem dX5_sew_129 : decode cX5_sew 129 = .ok (.iastore, 1) := by decide +kernel
theorem dX5_sew_130 : decode cX5_sew 130 = .ok (.iload 4, 2) := by decide +kernel
theorem dX5_sew_132 : decode cX5_sew 132 = .ok (.bipush 10, 2) := by decide +kernel
theorem dX5_sew_134 : decode cX5_sew 134 = .ok (.if_icmp .lt 23, 3) := by decide +kernel
theorem dX5_sew_137 : decode cX5_sew 137 = .ok (.aload_n 0, 1) := by decide +kernel
theorem dX5_sew_138 : decode cX5_sew 138 = .ok (.iload 5, 2) := by decide +kernel
theorem dX5_sew_140 : decode cX5_sew 140 = .ok (.bipush 7, 2) := by decide +kernel
theorem dX5_sew_142 : decode cX5_sew 142 = .ok (.iadd, 1) := by decide +kernel
theorem dX5_sew_143 : decode cX5_sew 143 = .ok (.dup2, 1) := by decide +kernel
theorem dX5_sew_144 : decode cX5_sew 144 = .ok (.iaload, 1) := by decide +kernel
theorem dX5_sew_145 : decode cX5_sew 145 = .ok (.iconst 1, 1) := by decide +kernel
theorem dX5_sew_146 : decode cX5_sew 146 = .ok (.iadd, 1) := by decide +kernel
theorem dX5_sew_147 : decode cX5_sew 147 = .ok (.iastore, 1) := by decide +kernel
theorem dX5_sew_148 : decode cX5_sew 148 = .ok (.aload_n 0, 1) := by decide +kernel
theorem dX5_sew_149 : decode cX5_sew 149 = .ok (.sipush 192, 3) := by decide +kernel
theorem dX5_sew_152 : decode cX5_sew 152 = .ok (.dup2, 1) := by decide +kernel
theorem dX5_sew_153 : decode cX5_sew 153 = .ok (.iaload, 1) := by decide +kernel
theorem dX5_sew_154 : decode cX5_sew 154 = .ok (.iconst 1, 1) := by decide +kernel
theorem dX5_sew_155 : decode cX5_sew 155 = .ok (.iadd, 1) := by decide +kernel
theorem dX5_sew_156 : decode cX5_sew 156 = .ok (.iastore, 1) := by decide +kernel
theorem dX5_sew_157 : decode cX5_sew 157 = .ok (.aload_n 0, 1) := by decide +kernel
theorem dX5_sew_158 : decode cX5_sew 158 = .ok (.iload 5, 2) := by decide +kernel
theorem dX5_sew_160 : decode cX5_sew 160 = .ok (.iconst 5, 1) := by decide +kernel
theorem dX5_sew_161 : decode cX5_sew 161 = .ok (.iadd, 1) := by decide +kernel
theorem dX5_sew_162 : decode cX5_sew 162 = .ok (.iaload, 1) := by decide +kernel
theorem dX5_sew_163 : decode cX5_sew 163 = .ok (.aload_n 0, 1) := by decide +kernel
theorem dX5_sew_164 : decode cX5_sew 164 = .ok (.iload 5, 2) := by decide +kernel
theorem dX5_sew_166 : decode cX5_sew 166 = .ok (.iaload, 1) := by decide +kernel
theorem dX5_sew_167 : decode cX5_sew 167 = .ok (.if_icmp .ge 6, 3) := by decide +kernel
theorem dX5_sew_170 : decode cX5_sew 170 = .ok (.goto 41, 3) := by decide +kernel
theorem dX5_sew_173 : decode cX5_sew 173 = .ok (.aload_n 0, 1) := by decide +kernel
theorem dX5_sew_174 : decode cX5_sew 174 = .ok (.iload 5, 2) := by decide +kernel
theorem dX5_sew_176 : decode cX5_sew 176 = .ok (.iconst 3, 1) := by decide +kernel
theorem dX5_sew_177 : decode cX5_sew 177 = .ok (.iadd, 1) := by decide +kernel
theorem dX5_sew_178 : decode cX5_sew 178 = .ok (.iconst 2, 1) := by decide +kernel
theorem dX5_sew_179 : decode cX5_sew 179 = .ok (.iastore, 1) := by decide +kernel
theorem dX5_sew_180 : decode cX5_sew 180 = .ok (.aload_n 0, 1) := by decide +kernel
theorem dX5_sew_181 : decode cX5_sew 181 = .ok (.iload 5, 2) := by decide +kernel
theorem dX5_sew_183 : decode cX5_sew 183 = .ok (.iconst 4, 1) := by decide +kernel
theorem dX5_sew_184 : decode cX5_sew 184 = .ok (.iadd, 1) := by decide +kernel
theorem dX5_sew_185 : decode cX5_sew 185 = .ok (.iconst (-1), 1) := by decide +kernel
theorem dX5_sew_186 : decode cX5_sew 186 = .ok (.iastore, 1) := by decide +kernel
theorem dX5_sew_187 : decode cX5_sew 187 = .ok (.aload_n 0, 1) := by decide +kernel
theorem dX5_sew_188 : decode cX5_sew 188 = .ok (.iload 5, 2) := by decide +kernel
theorem dX5_sew_190 : decode cX5_sew 190 = .ok (.bipush 8, 2) := by decide +kernel
theorem dX5_sew_192 : decode cX5_sew 192 = .ok (.iadd, 1) := by decide +kernel
theorem dX5_sew_193 : decode cX5_sew 193 = .ok (.iconst 2, 1) := by decide +kernel
theorem dX5_sew_194 : decode cX5_sew 194 = .ok (.aload_n 0, 1) := by decide +kernel
theorem dX5_sew_195 : decode cX5_sew 195 = .ok (.iload 5, 2) := by decide +kernel
theorem dX5_sew_197 : decode cX5_sew 197 = .ok (.invokestatic 82, 3) := by decide +kernel
theorem dX5_sew_200 : decode cX5_sew 200 = .ok (.bipush 8, 2) := by decide +kernel
theorem dX5_sew_202 : decode cX5_sew 202 = .ok (.idiv, 1) := by decide +kernel
theorem dX5_sew_203 : decode cX5_sew 203 = .ok (.iadd, 1) := by decide +kernel
theorem dX5_sew_204 : decode cX5_sew 204 = .ok (.iastore, 1) := by decide +kernel
theorem dX5_sew_205 : decode cX5_sew 205 = .ok (.aload_n 0, 1) := by decide +kernel
theorem dX5_sew_206 : decode cX5_sew 206 = .ok (.iload_n 2, 1) := by decide +kernel
theorem dX5_sew_207 : decode cX5_sew 207 = .ok (.iconst 1, 1) := by decide +kernel
theorem dX5_sew_208 : decode cX5_sew 208 = .ok (.iadd, 1) := by decide +kernel
theorem dX5_sew_209 : decode cX5_sew 209 = .ok (.iconst (-1), 1) := by decide +kernel
theorem dX5_sew_210 : decode cX5_sew 210 = .ok (.iastore, 1) := by decide +kernel
theorem dX5_sew_211 : decode cX5_sew 211 = .ok (.iinc 4 1, 3) := by decide +kernel
theorem dX5_sew_214 : decode cX5_sew 214 = .ok (.goto (-197), 3) := by decide +kernel
theorem dX5_sew_217 : decode cX5_sew 217 = .ok (.return_, 1) := by decide +kernel
set_option maxRecDepth 20000 in
theorem ggX5_mount_X5_first : GoodIn wsX5_mount wsX5_first := goodIn_r _ [4] (by decide +kernel) (by decide +kernel)
set_option maxRecDepth 20000 in
theorem gX5_mount_X5_first : GoodIn wsX5_mount (va_wsS RX5 79 yX5_first wsX5_first) := goodIn_app (goodIn_of _ (by decide +kernel)) ggX5_mount_X5_first
theorem dX5_mount_0 : decode cX5_mount 0 = .ok (.sipush 165, 3) := by decide +kernel
theorem dX5_mount_3 : decode cX5_mount 3 = .ok (.iconst 3, 1) := by decide +kernel
theorem dX5_mount_4 : decode cX5_mount 4 = .ok (.iload_n 1, 1) := by decide +kernel
theorem dX5_mount_5 : decode cX5_mount 5 = .ok (.imul, 1) := by decide +kernel
theorem dX5_mount_6 : decode cX5_mount 6 = .ok (.iadd, 1) := by decide +kernel
theorem dX5_mount_7 : decode cX5_mount 7 = .ok (.istore_n 2, 1) := by decide +kernel
theorem dX5_mount_8 : decode cX5_mount 8 = .ok (.aload_n 0, 1) := by decide +kernel
theorem dX5_mount_9 : decode cX5_mount 9 = .ok (.iload_n 2, 1) := by decide +kernel
theorem dX5_mount_10 : decode cX5_mount 10 = .ok (.iconst 1, 1) := by decide +kernel
theorem dX5_mount_11 : decode cX5_mount 11 = .ok (.iadd, 1) := by decide +kernel
theorem dX5_mount_12 : decode cX5_mount 12 = .ok (.iaload, 1) := by decide +kernel
theorem dX5_mount_13 : decode cX5_mount 13 = .ok (.ifCond .ge 11, 3) := by decide +kernel
theorem dX5_mount_16 : decode cX5_mount 16 = .ok (.aload_n 0, 1) := by decide +kernel
theorem dX5_mount_17 : decode cX5_mount 17 = .ok (.iconst 0, 1) := by decide +kernel
theorem dX5_mount_18 : decode cX5_mount 18 = .ok (.invokestatic 79, 3) := by decide +kernel
theorem dX5_mount_21 : decode cX5_mount 21 = .ok (.goto 4, 3) := by decide +kernel
theorem dX5_mount_24 : decode cX5_mount 24 = .ok (.iconst (-1), 1) := by decide +kernel
theorem dX5_mount_25 : decode cX5_mount 25 = .ok (.istore_n 3, 1) := by decide +kernel
theorem dX5_mount_26 : decode cX5_mount 26 = .ok (.iload_n 3, 1) := by decide +kernel
theorem dX5_mount_27 : decode cX5_mount 27 = .ok (.ifCond .ge 4, 3) := by decide +kernel
theorem dX5_mount_30 : decode cX5_mount 30 = .ok (.return_, 1) := by decide +kernel
theorem dX5_mount_31 : decode cX5_mount 31 = .ok (.aload_n 0, 1) := by decide +kernel
theorem dX5_mount_32 : decode cX5_mount 32 = .ok (.iload_n 2, 1) := by decide +kernel
theorem dX5_mount_33 : decode cX5_mount 33 = .ok (.iconst 1, 1) := by decide +kernel
theorem dX5_mount_34 : decode cX5_mount 34 = .ok (.iadd, 1) := by decide +kernel
theorem dX5_mount_35 : decode cX5_mount 35 = .ok (.iload_n 3, 1) := by decide +kernel
theorem dX5_mount_36 : decode cX5_mount 36 = .ok (.iastore, 1) := by decide +kernel
theorem dX5_mount_37 : decode cX5_mount 37 = .ok (.aload_n 0, 1) := by decide +kernel
theorem dX5_mount_38 : decode cX5_mount 38 = .ok (.bipush 11, 2) := by decide +kernel
theorem dX5_mount_40 : decode cX5_mount 40 = .ok (.iload_n 3, 1) := by decide +kernel
theorem dX5_mount_41 : decode cX5_mount 41 = .ok (.imul, 1) := by decide +kernel
theorem dX5_mount_42 : decode cX5_mount 42 = .ok (.iconst 3, 1) := by decide +kernel
theorem dX5_mount_43 : decode cX5_mount 43 = .ok (.iadd, 1) := by decide +kernel
theorem dX5_mount_44 : decode cX5_mount 44 = .ok (.iconst 1, 1) := by decide +kernel
theorem dX5_mount_45 : decode cX5_mount 45 = .ok (.iastore, 1) := by decide +kernel
theorem dX5_mount_46 : decode cX5_mount 46 = .ok (.aload_n 0, 1) := by decide +kernel
theorem dX5_mount_47 : decode cX5_mount 47 = .ok (.bipush 11, 2) := by decide +kernel
theorem dX5_mount_49 : decode cX5_mount 49 = .ok (.iload_n 3, 1) := by decide +kernel
theorem dX5_mount_50 : decode cX5_mount 50 = .ok (.imul, 1) := by decide +kernel
theorem dX5_mount_51 : decode cX5_mount 51 = .ok (.iconst 4, 1) := by decide +kernel
theorem dX5_mount_52 : decode cX5_mount 52 = .ok (.iadd, 1) := by decide +kernel
theorem dX5_mount_53 : decode cX5_mount 53 = .ok (.iload_n 1, 1) := by decide +kernel
theorem dX5_mount_54 : decode cX5_mount 54 = .ok (.iastore, 1) := by decide +kernel
theorem dX5_mount_55 : decode cX5_mount 55 = .ok (.aload_n 0, 1) := by decide +kernel
theorem dX5_mount_56 : decode cX5_mount 56 = .ok (.bipush 11, 2) := by decide +kernel
theorem dX5_mount_58 : decode cX5_mount 58 = .ok (.iload_n 3, 1) := by decide +kernel
theorem dX5_mount_59 : decode cX5_mount 59 = .ok (.imul, 1) := by decide +kernel
theorem dX5_mount_60 : decode cX5_mount 60 = .ok (.bipush 10, 2) := by decide +kernel
theorem dX5_mount_62 : decode cX5_mount 62 = .ok (.iadd, 1) := by decide +kernel
theorem dX5_mount_63 : decode cX5_mount 63 = .ok (.aload_n 0, 1) := by decide +kernel
theorem dX5_mount_64 : decode cX5_mount 64 = .ok (.iload_n 2, 1) := by decide +kernel
theorem dX5_mount_65 : decode cX5_mount 65 = .ok (.iaload, 1) := by decide +kernel
theorem dX5_mount_66 : decode cX5_mount 66 = .ok (.iastore, 1) := by decide +kernel
theorem dX5_mount_67 : decode cX5_mount 67 = .ok (.return_, 1) := by decide +kernel
set_option maxRecDepth 20000 in
theorem ggX5_pass_X5_gild : GoodIn wsX5_pass wsX5_gild := goodIn_r _ [4, 5, 6, 3, 7, 8, 9, 10] (by decide +kernel) (by decide +kernel)
set_option maxRecDepth 20000 in
theorem gX5_pass_X5_gild : GoodIn wsX5_pass (va_wsS RX5 85 yX5_gild wsX5_gild) := goodIn_app (goodIn_of _ (by decide +kernel)) ggX5_pass_X5_gild
set_option maxRecDepth 20000 in
theorem ggX5_pass_X5_board : GoodIn wsX5_pass wsX5_board := goodIn_r _ [13] (by decide +kernel) (by decide +kernel)
set_option maxRecDepth 20000 in
theorem gX5_pass_X5_board : GoodIn wsX5_pass (va_wsS RX5 89 yX5_board wsX5_board) := goodIn_app (goodIn_of _ (by decide +kernel)) ggX5_pass_X5_board
set_option maxRecDepth 20000 in
theorem ggX5_pass_X5_dry : GoodIn wsX5_pass wsX5_dry := goodIn_r _ [16] (by decide +kernel) (by decide +kernel)
set_option maxRecDepth 20000 in
theorem gX5_pass_X5_dry : GoodIn wsX5_pass (va_wsS RX5 93 yX5_dry wsX5_dry) := goodIn_app (goodIn_of _ (by decide +kernel)) ggX5_pass_X5_dry
set_option maxRecDepth 20000 in
theorem ggX5_pass_X5_sew : GoodIn wsX5_pass wsX5_sew := goodIn_r _ [19, 20, 21, 3, 22, 23, 24, 25, 26, 27, 28, 29, 8, 9, 10] (by decide +kernel) (by decide +kernel)
set_option maxRecDepth 20000 in
theorem gX5_pass_X5_sew : GoodIn wsX5_pass (va_wsS RX5 96 yX5_sew wsX5_sew) := goodIn_app (goodIn_of _ (by decide +kernel)) ggX5_pass_X5_sew
set_option maxRecDepth 20000 in
theorem ggX5_pass_X5_mount : GoodIn wsX5_pass wsX5_mount := goodIn_r _ [32, 5, 6, 3, 7] (by decide +kernel) (by decide +kernel)
set_option maxRecDepth 20000 in
theorem gX5_pass_X5_mount : GoodIn wsX5_pass (va_wsS RX5 99 yX5_mount wsX5_mount) := goodIn_app (goodIn_of _ (by decide +kernel)) ggX5_pass_X5_mount
theorem dX5_pass_0 : decode cX5_pass 0 = .ok (.aload_n 0, 1) := by decide +kernel
theorem dX5_pass_1 : decode cX5_pass 1 = .ok (.invokestatic 85, 3) := by decide +kernel
theorem dX5_pass_4 : decode cX5_pass 4 = .ok (.iconst 0, 1) := by decide +kernel
theorem dX5_pass_5 : decode cX5_pass 5 = .ok (.istore_n 1, 1) := by decide +kernel
theorem dX5_pass_6 : decode cX5_pass 6 = .ok (.iload_n 1, 1) := by decide +kernel
theorem dX5_pass_7 : decode cX5_pass 7 = .ok (.aload_n 0, 1) := by decide +kernel
theorem dX5_pass_8 : decode cX5_pass 8 = .ok (.sipush 189, 3) := by decide +kernel
theorem dX5_pass_11 : decode cX5_pass 11 = .ok (.iaload, 1) := by decide +kernel
theorem dX5_pass_12 : decode cX5_pass 12 = .ok (.if_icmp .ge 17, 3) := by decide +kernel
theorem dX5_pass_15 : decode cX5_pass 15 = .ok (.aload_n 0, 1) := by decide +kernel
theorem dX5_pass_16 : decode cX5_pass 16 = .ok (.bipush 11, 2) := by decide +kernel
theorem dX5_pass_18 : decode cX5_pass 18 = .ok (.iload_n 1, 1) := by decide +kernel
theorem dX5_pass_19 : decode cX5_pass 19 = .ok (.imul, 1) := by decide +kernel
theorem dX5_pass_20 : decode cX5_pass 20 = .ok (.invokestatic 89, 3) := by decide +kernel
theorem dX5_pass_23 : decode cX5_pass 23 = .ok (.iinc 1 1, 3) := by decide +kernel
theorem dX5_pass_26 : decode cX5_pass 26 = .ok (.goto (-20), 3) := by decide +kernel
theorem dX5_pass_29 : decode cX5_pass 29 = .ok (.iconst 0, 1) := by decide +kernel
theorem dX5_pass_30 : decode cX5_pass 30 = .ok (.istore_n 1, 1) := by decide +kernel
theorem dX5_pass_31 : decode cX5_pass 31 = .ok (.iload_n 1, 1) := by decide +kernel
theorem dX5_pass_32 : decode cX5_pass 32 = .ok (.aload_n 0, 1) := by decide +kernel
theorem dX5_pass_33 : decode cX5_pass 33 = .ok (.sipush 189, 3) := by decide +kernel
theorem dX5_pass_36 : decode cX5_pass 36 = .ok (.iaload, 1) := by decide +kernel
theorem dX5_pass_37 : decode cX5_pass 37 = .ok (.if_icmp .ge 17, 3) := by decide +kernel
theorem dX5_pass_40 : decode cX5_pass 40 = .ok (.aload_n 0, 1) := by decide +kernel
theorem dX5_pass_41 : decode cX5_pass 41 = .ok (.bipush 11, 2) := by decide +kernel
theorem dX5_pass_43 : decode cX5_pass 43 = .ok (.iload_n 1, 1) := by decide +kernel
theorem dX5_pass_44 : decode cX5_pass 44 = .ok (.imul, 1) := by decide +kernel
theorem dX5_pass_45 : decode cX5_pass 45 = .ok (.invokestatic 93, 3) := by decide +kernel
theorem dX5_pass_48 : decode cX5_pass 48 = .ok (.iinc 1 1, 3) := by decide +kernel
theorem dX5_pass_51 : decode cX5_pass 51 = .ok (.goto (-20), 3) := by decide +kernel
theorem dX5_pass_54 : decode cX5_pass 54 = .ok (.iconst 0, 1) := by decide +kernel
theorem dX5_pass_55 : decode cX5_pass 55 = .ok (.istore_n 1, 1) := by decide +kernel
theorem dX5_pass_56 : decode cX5_pass 56 = .ok (.iload_n 1, 1) := by decide +kernel
theorem dX5_pass_57 : decode cX5_pass 57 = .ok (.iconst 3, 1) := by decide +kernel
theorem dX5_pass_58 : decode cX5_pass 58 = .ok (.if_icmp .ge 14, 3) := by decide +kernel
theorem dX5_pass_61 : decode cX5_pass 61 = .ok (.aload_n 0, 1) := by decide +kernel
theorem dX5_pass_62 : decode cX5_pass 62 = .ok (.iload_n 1, 1) := by decide +kernel
theorem dX5_pass_63 : decode cX5_pass 63 = .ok (.invokestatic 96, 3) := by decide +kernel
theorem dX5_pass_66 : decode cX5_pass 66 = .ok (.iinc 1 1, 3) := by decide +kernel
theorem dX5_pass_69 : decode cX5_pass 69 = .ok (.goto (-13), 3) := by decide +kernel
theorem dX5_pass_72 : decode cX5_pass 72 = .ok (.iconst 0, 1) := by decide +kernel
theorem dX5_pass_73 : decode cX5_pass 73 = .ok (.istore_n 1, 1) := by decide +kernel
theorem dX5_pass_74 : decode cX5_pass 74 = .ok (.iload_n 1, 1) := by decide +kernel
theorem dX5_pass_75 : decode cX5_pass 75 = .ok (.iconst 3, 1) := by decide +kernel
theorem dX5_pass_76 : decode cX5_pass 76 = .ok (.if_icmp .ge 14, 3) := by decide +kernel
theorem dX5_pass_79 : decode cX5_pass 79 = .ok (.aload_n 0, 1) := by decide +kernel
theorem dX5_pass_80 : decode cX5_pass 80 = .ok (.iload_n 1, 1) := by decide +kernel
theorem dX5_pass_81 : decode cX5_pass 81 = .ok (.invokestatic 99, 3) := by decide +kernel
theorem dX5_pass_84 : decode cX5_pass 84 = .ok (.iinc 1 1, 3) := by decide +kernel
theorem dX5_pass_87 : decode cX5_pass 87 = .ok (.goto (-13), 3) := by decide +kernel
theorem dX5_pass_90 : decode cX5_pass 90 = .ok (.aload_n 0, 1) := by decide +kernel
theorem dX5_pass_91 : decode cX5_pass 91 = .ok (.sipush 188, 3) := by decide +kernel
theorem dX5_pass_94 : decode cX5_pass 94 = .ok (.dup2, 1) := by decide +kernel
theorem dX5_pass_95 : decode cX5_pass 95 = .ok (.iaload, 1) := by decide +kernel
theorem dX5_pass_96 : decode cX5_pass 96 = .ok (.iconst 1, 1) := by decide +kernel
theorem dX5_pass_97 : decode cX5_pass 97 = .ok (.iadd, 1) := by decide +kernel
theorem dX5_pass_98 : decode cX5_pass 98 = .ok (.iastore, 1) := by decide +kernel
theorem dX5_pass_99 : decode cX5_pass 99 = .ok (.return_, 1) := by decide +kernel
set_option maxRecDepth 20000 in
theorem ggX5_passAll_X5_pass : GoodIn wsX5_passAll wsX5_pass := goodIn_r _ [4, 5, 6, 3, 7, 8, 9, 10, 11, 12, 13, 14, 15, 16, 17, 18, 19, 20, 21, 22, 23, 24, 25, 26, 27, 28, 29, 30, 31, 32, 33, 34, 35] (by decide +kernel) (by decide +kernel)
set_option maxRecDepth 20000 in
theorem gX5_passAll_X5_pass : GoodIn wsX5_passAll (va_wsS RX5 102 yX5_pass wsX5_pass) := goodIn_app (goodIn_of _ (by decide +kernel)) ggX5_passAll_X5_pass
theorem dX5_passAll_0 : decode cX5_passAll 0 = .ok (.iconst 0, 1) := by decide +kernel
theorem dX5_passAll_1 : decode cX5_passAll 1 = .ok (.istore_n 2, 1) := by decide +kernel
theorem dX5_passAll_2 : decode cX5_passAll 2 = .ok (.iload_n 2, 1) := by decide +kernel
theorem dX5_passAll_3 : decode cX5_passAll 3 = .ok (.iload_n 1, 1) := by decide +kernel
theorem dX5_passAll_4 : decode cX5_passAll 4 = .ok (.if_icmp .ge 13, 3) := by decide +kernel
theorem dX5_passAll_7 : decode cX5_passAll 7 = .ok (.aload_n 0, 1) := by decide +kernel
theorem dX5_passAll_8 : decode cX5_passAll 8 = .ok (.invokestatic 102, 3) := by decide +kernel
theorem dX5_passAll_11 : decode cX5_passAll 11 = .ok (.iinc 2 1, 3) := by decide +kernel
theorem dX5_passAll_14 : decode cX5_passAll 14 = .ok (.goto (-12), 3) := by decide +kernel
theorem dX5_passAll_17 : decode cX5_passAll 17 = .ok (.return_, 1) := by decide +kernel
theorem dX5_lookAhead_0 : decode cX5_lookAhead 0 = .ok (.aload_n 0, 1) := by decide +kernel
theorem dX5_lookAhead_1 : decode cX5_lookAhead 1 = .ok (.getfield 13, 3) := by decide +kernel
theorem dX5_lookAhead_4 : decode cX5_lookAhead 4 = .ok (.iconst 0, 1) := by decide +kernel
theorem dX5_lookAhead_5 : decode cX5_lookAhead 5 = .ok (.aload_n 0, 1) := by decide +kernel
theorem dX5_lookAhead_6 : decode cX5_lookAhead 6 = .ok (.getfield 17, 3) := by decide +kernel
theorem dX5_lookAhead_9 : decode cX5_lookAhead 9 = .ok (.iconst 0, 1) := by decide +kernel
theorem dX5_lookAhead_10 : decode cX5_lookAhead 10 = .ok (.aload_n 0, 1) := by decide +kernel
theorem dX5_lookAhead_11 : decode cX5_lookAhead 11 = .ok (.getfield 13, 3) := by decide +kernel
theorem dX5_lookAhead_14 : decode cX5_lookAhead 14 = .ok (.arraylength, 1) := by decide +kernel
theorem dX5_lookAhead_15 : decode cX5_lookAhead 15 = .ok (.invokestatic 105, 3) := by decide +kernel
theorem dX5_lookAhead_18 : decode cX5_lookAhead 18 = .ok (.return_, 1) := by decide +kernel
set_option maxRecDepth 20000 in
theorem ggX5_pass__X5_isIn : GoodIn wsX5_pass_ wsX5_isIn := goodIn_r _ [6] (by decide +kernel) (by decide +kernel)
set_option maxRecDepth 20000 in
theorem gX5_pass__X5_isIn : GoodIn wsX5_pass_ (va_wsS RX5 20 yX5_isIn wsX5_isIn) := goodIn_app (goodIn_of _ (by decide +kernel)) ggX5_pass__X5_isIn
set_option maxRecDepth 20000 in
theorem ggX5_pass__X5_no : GoodIn wsX5_pass_ wsX5_no := goodIn_r _ [10, 1, 51, 52, 53] (by decide +kernel) (by decide +kernel)
set_option maxRecDepth 20000 in
theorem gX5_pass__X5_no : GoodIn wsX5_pass_ (wsV RX5 37 RX5 yX5_no wsX5_no) := goodIn_app (goodIn_of _ (by decide +kernel)) ggX5_pass__X5_no
set_option maxRecDepth 20000 in
theorem ggX5_pass__X5_like : GoodIn wsX5_pass_ wsX5_like := goodIn_r _ [13] (by decide +kernel) (by decide +kernel)
set_option maxRecDepth 20000 in
theorem gX5_pass__X5_like : GoodIn wsX5_pass_ (va_wsS RX5 73 yX5_like wsX5_like) := goodIn_app (goodIn_of _ (by decide +kernel)) ggX5_pass__X5_like
set_option maxRecDepth 20000 in
theorem ggX5_pass__X5_passAll : GoodIn wsX5_pass_ wsX5_passAll := goodIn_r _ [16, 17, 18, 5, 19, 20, 21, 22, 23, 24, 25, 26, 27, 28, 29, 30, 31, 32, 33, 34, 35, 36, 37, 38, 39, 40, 41, 42, 43, 44, 45, 46, 47, 48, 49, 50] (by decide +kernel) (by decide +kernel)
set_option maxRecDepth 20000 in
theorem gX5_pass__X5_passAll : GoodIn wsX5_pass_ (va_wsS RX5 111 yX5_passAll wsX5_passAll) := goodIn_app (goodIn_of _ (by decide +kernel)) ggX5_pass__X5_passAll
theorem dX5_pass__0 : decode cX5_pass_ 0 = .ok (.aload_n 0, 1) := by decide +kernel
theorem dX5_pass__1 : decode cX5_pass_ 1 = .ok (.iconst 0, 1) := by decide +kernel
theorem dX5_pass__2 : decode cX5_pass_ 2 = .ok (.putfield 1, 3) := by decide +kernel
theorem dX5_pass__5 : decode cX5_pass_ 5 = .ok (.iload_n 1, 1) := by decide +kernel
theorem dX5_pass__6 : decode cX5_pass_ 6 = .ok (.iconst 1, 1) := by decide +kernel
theorem dX5_pass__7 : decode cX5_pass_ 7 = .ok (.bipush 120, 2) := by decide +kernel
theorem dX5_pass__9 : decode cX5_pass_ 9 = .ok (.invokestatic 20, 3) := by decide +kernel
theorem dX5_pass__12 : decode cX5_pass_ 12 = .ok (.ifCond .ne 9, 3) := by decide +kernel
theorem dX5_pass__15 : decode cX5_pass_ 15 = .ok (.aload_n 0, 1) := by decide +kernel
theorem dX5_pass__16 : decode cX5_pass_ 16 = .ok (.iconst 1, 1) := by decide +kernel
theorem dX5_pass__17 : decode cX5_pass_ 17 = .ok (.invokevirtual 37, 3) := by decide +kernel
theorem dX5_pass__20 : decode cX5_pass_ 20 = .ok (.ireturn, 1) := by decide +kernel
theorem dX5_pass__21 : decode cX5_pass_ 21 = .ok (.aload_n 0, 1) := by decide +kernel
theorem dX5_pass__22 : decode cX5_pass_ 22 = .ok (.getfield 13, 3) := by decide +kernel
theorem dX5_pass__25 : decode cX5_pass_ 25 = .ok (.iconst 5, 1) := by decide +kernel
theorem dX5_pass__26 : decode cX5_pass_ 26 = .ok (.invokestatic 73, 3) := by decide +kernel
theorem dX5_pass__29 : decode cX5_pass_ 29 = .ok (.istore_n 2, 1) := by decide +kernel
theorem dX5_pass__30 : decode cX5_pass_ 30 = .ok (.aload_n 0, 1) := by decide +kernel
theorem dX5_pass__31 : decode cX5_pass_ 31 = .ok (.getfield 13, 3) := by decide +kernel
theorem dX5_pass__34 : decode cX5_pass_ 34 = .ok (.iload_n 1, 1) := by decide +kernel
theorem dX5_pass__35 : decode cX5_pass_ 35 = .ok (.invokestatic 111, 3) := by decide +kernel
theorem dX5_pass__38 : decode cX5_pass_ 38 = .ok (.aload_n 0, 1) := by decide +kernel
theorem dX5_pass__39 : decode cX5_pass_ 39 = .ok (.getfield 13, 3) := by decide +kernel
theorem dX5_pass__42 : decode cX5_pass_ 42 = .ok (.iconst 5, 1) := by decide +kernel
theorem dX5_pass__43 : decode cX5_pass_ 43 = .ok (.invokestatic 73, 3) := by decide +kernel
theorem dX5_pass__46 : decode cX5_pass_ 46 = .ok (.iload_n 2, 1) := by decide +kernel
theorem dX5_pass__47 : decode cX5_pass_ 47 = .ok (.isub, 1) := by decide +kernel
theorem dX5_pass__48 : decode cX5_pass_ 48 = .ok (.ireturn, 1) := by decide +kernel
set_option maxRecDepth 20000 in
theorem ggX5_foresee_X5_isIn : GoodIn wsX5_foresee wsX5_isIn := goodIn_r _ [6] (by decide +kernel) (by decide +kernel)
set_option maxRecDepth 20000 in
theorem gX5_foresee_X5_isIn : GoodIn wsX5_foresee (va_wsS RX5 20 yX5_isIn wsX5_isIn) := goodIn_app (goodIn_of _ (by decide +kernel)) ggX5_foresee_X5_isIn
set_option maxRecDepth 20000 in
theorem ggX5_foresee_X5_no : GoodIn wsX5_foresee wsX5_no := goodIn_r _ [10, 1, 63, 64, 65] (by decide +kernel) (by decide +kernel)
set_option maxRecDepth 20000 in
theorem gX5_foresee_X5_no : GoodIn wsX5_foresee (wsV RX5 37 RX5 yX5_no wsX5_no) := goodIn_app (goodIn_of _ (by decide +kernel)) ggX5_foresee_X5_no
set_option maxRecDepth 20000 in
theorem ggX5_foresee_X5_lookAhead : GoodIn wsX5_foresee wsX5_lookAhead := goodIn_r _ [14, 15, 2, 16, 17, 18, 19, 63, 64, 65] (by decide +kernel) (by decide +kernel)
set_option maxRecDepth 20000 in
theorem gX5_foresee_X5_lookAhead : GoodIn wsX5_foresee (wsV RX5 114 RX5 yX5_lookAhead wsX5_lookAhead) := goodIn_app (goodIn_of _ (by decide +kernel)) ggX5_foresee_X5_lookAhead
set_option maxRecDepth 20000 in
theorem ggX5_foresee_X5_passAll : GoodIn wsX5_foresee wsX5_passAll := goodIn_r _ [22, 23, 24, 5, 25, 26, 27, 28, 29, 30, 31, 32, 33, 34, 35, 36, 37, 38, 39, 40, 41, 42, 43, 44, 45, 46, 47, 48, 49, 50, 51, 52, 53, 54, 55, 56] (by decide +kernel) (by decide +kernel)
set_option maxRecDepth 20000 in
theorem gX5_foresee_X5_passAll : GoodIn wsX5_foresee (va_wsS RX5 111 yX5_passAll wsX5_passAll) := goodIn_app (goodIn_of _ (by decide +kernel)) ggX5_foresee_X5_passAll
set_option maxRecDepth 20000 in
theorem ggX5_foresee_X5_counted : GoodIn wsX5_foresee wsX5_counted := goodIn_r _ [59, 60, 61, 5, 62] (by decide +kernel) (by decide +kernel)
set_option maxRecDepth 20000 in
theorem gX5_foresee_X5_counted : GoodIn wsX5_foresee (va_wsS RX5 76 yX5_counted wsX5_counted) := goodIn_app (goodIn_of _ (by decide +kernel)) ggX5_foresee_X5_counted
theorem dX5_foresee_0 : decode cX5_foresee 0 = .ok (.aload_n 0, 1) := by decide +kernel
theorem dX5_foresee_1 : decode cX5_foresee 1 = .ok (.iconst 0, 1) := by decide +kernel
theorem dX5_foresee_2 : decode cX5_foresee 2 = .ok (.putfield 1, 3) := by decide +kernel
theorem dX5_foresee_5 : decode cX5_foresee 5 = .ok (.iload_n 1, 1) := by decide +kernel
theorem dX5_foresee_6 : decode cX5_foresee 6 = .ok (.iconst 1, 1) := by decide +kernel
theorem dX5_foresee_7 : decode cX5_foresee 7 = .ok (.bipush 120, 2) := by decide +kernel
theorem dX5_foresee_9 : decode cX5_foresee 9 = .ok (.invokestatic 20, 3) := by decide +kernel
theorem dX5_foresee_12 : decode cX5_foresee 12 = .ok (.ifCond .ne 9, 3) := by decide +kernel
theorem dX5_foresee_15 : decode cX5_foresee 15 = .ok (.aload_n 0, 1) := by decide +kernel
theorem dX5_foresee_16 : decode cX5_foresee 16 = .ok (.iconst 1, 1) := by decide +kernel
theorem dX5_foresee_17 : decode cX5_foresee 17 = .ok (.invokevirtual 37, 3) := by decide +kernel
theorem dX5_foresee_20 : decode cX5_foresee 20 = .ok (.ireturn, 1) := by decide +kernel
theorem dX5_foresee_21 : decode cX5_foresee 21 = .ok (.iload_n 2, 1) := by decide +kernel
theorem dX5_foresee_22 : decode cX5_foresee 22 = .ok (.iconst 2, 1) := by decide +kernel
theorem dX5_foresee_23 : decode cX5_foresee 23 = .ok (.bipush 7, 2) := by decide +kernel
theorem dX5_foresee_25 : decode cX5_foresee 25 = .ok (.invokestatic 20, 3) := by decide +kernel
theorem dX5_foresee_28 : decode cX5_foresee 28 = .ok (.ifCond .ne 20, 3) := by decide +kernel
theorem dX5_foresee_31 : decode cX5_foresee 31 = .ok (.iload_n 2, 1) := by decide +kernel
theorem dX5_foresee_32 : decode cX5_foresee 32 = .ok (.bipush 10, 2) := by decide +kernel
theorem dX5_foresee_34 : decode cX5_foresee 34 = .ok (.bipush 14, 2) := by decide +kernel
theorem dX5_foresee_36 : decode cX5_foresee 36 = .ok (.invokestatic 20, 3) := by decide +kernel
theorem dX5_foresee_39 : decode cX5_foresee 39 = .ok (.ifCond .ne 9, 3) := by decide +kernel
theorem dX5_foresee_42 : decode cX5_foresee 42 = .ok (.aload_n 0, 1) := by decide +kernel
theorem dX5_foresee_43 : decode cX5_foresee 43 = .ok (.iconst 2, 1) := by decide +kernel
theorem dX5_foresee_44 : decode cX5_foresee 44 = .ok (.invokevirtual 37, 3) := by decide +kernel
theorem dX5_foresee_47 : decode cX5_foresee 47 = .ok (.ireturn, 1) := by decide +kernel
theorem dX5_foresee_48 : decode cX5_foresee 48 = .ok (.aload_n 0, 1) := by decide +kernel
theorem dX5_foresee_49 : decode cX5_foresee 49 = .ok (.invokevirtual 114, 3) := by decide +kernel
theorem dX5_foresee_52 : decode cX5_foresee 52 = .ok (.aload_n 0, 1) := by decide +kernel
theorem dX5_foresee_53 : decode cX5_foresee 53 = .ok (.getfield 17, 3) := by decide +kernel
theorem dX5_foresee_56 : decode cX5_foresee 56 = .ok (.iload_n 1, 1) := by decide +kernel
theorem dX5_foresee_57 : decode cX5_foresee 57 = .ok (.invokestatic 111, 3) := by decide +kernel
theorem dX5_foresee_60 : decode cX5_foresee 60 = .ok (.aload_n 0, 1) := by decide +kernel
theorem dX5_foresee_61 : decode cX5_foresee 61 = .ok (.getfield 17, 3) := by decide +kernel
theorem dX5_foresee_64 : decode cX5_foresee 64 = .ok (.iload_n 2, 1) := by decide +kernel
theorem dX5_foresee_65 : decode cX5_foresee 65 = .ok (.invokestatic 76, 3) := by decide +kernel
theorem dX5_foresee_68 : decode cX5_foresee 68 = .ok (.ireturn, 1) := by decide +kernel
set_option maxRecDepth 20000 in
theorem ggX5_doneIn_X5_lookAhead : GoodIn wsX5_doneIn wsX5_lookAhead := goodIn_r _ [6, 7, 1, 8, 9, 10, 11, 46, 47, 48] (by decide +kernel) (by decide +kernel)
set_option maxRecDepth 20000 in
theorem gX5_doneIn_X5_lookAhead : GoodIn wsX5_doneIn (wsV RX5 114 RX5 yX5_lookAhead wsX5_lookAhead) := goodIn_app (goodIn_of _ (by decide +kernel)) ggX5_doneIn_X5_lookAhead
set_option maxRecDepth 20000 in
theorem ggX5_doneIn_X5_pass : GoodIn wsX5_doneIn wsX5_pass := goodIn_r _ [14, 15, 16, 5, 17, 18, 19, 20, 21, 22, 23, 24, 25, 26, 27, 28, 29, 30, 31, 32, 33, 34, 35, 36, 37, 38, 39, 40, 41, 42, 43, 44, 45] (by decide +kernel) (by decide +kernel)
set_option maxRecDepth 20000 in
theorem gX5_doneIn_X5_pass : GoodIn wsX5_doneIn (va_wsS RX5 102 yX5_pass wsX5_pass) := goodIn_app (goodIn_of _ (by decide +kernel)) ggX5_doneIn_X5_pass
theorem dX5_doneIn_0 : decode cX5_doneIn 0 = .ok (.aload_n 0, 1) := by decide +kernel
theorem dX5_doneIn_1 : decode cX5_doneIn 1 = .ok (.invokevirtual 114, 3) := by decide +kernel
theorem dX5_doneIn_4 : decode cX5_doneIn 4 = .ok (.iconst 0, 1) := by decide +kernel
theorem dX5_doneIn_5 : decode cX5_doneIn 5 = .ok (.istore_n 2, 1) := by decide +kernel
theorem dX5_doneIn_6 : decode cX5_doneIn 6 = .ok (.iload_n 2, 1) := by decide +kernel
theorem dX5_doneIn_7 : decode cX5_doneIn 7 = .ok (.sipush 250, 3) := by decide +kernel
theorem dX5_doneIn_10 : decode cX5_doneIn 10 = .ok (.if_icmp .gt 33, 3) := by decide +kernel
theorem dX5_doneIn_13 : decode cX5_doneIn 13 = .ok (.aload_n 0, 1) := by decide +kernel
theorem dX5_doneIn_14 : decode cX5_doneIn 14 = .ok (.getfield 17, 3) := by decide +kernel
theorem dX5_doneIn_17 : decode cX5_doneIn 17 = .ok (.bipush 11, 2) := by decide +kernel
theorem dX5_doneIn_19 : decode cX5_doneIn 19 = .ok (.iload_n 1, 1) := by decide +kernel
theorem dX5_doneIn_20 : decode cX5_doneIn 20 = .ok (.imul, 1) := by decide +kernel
theorem dX5_doneIn_21 : decode cX5_doneIn 21 = .ok (.iconst 3, 1) := by decide +kernel
theorem dX5_doneIn_22 : decode cX5_doneIn 22 = .ok (.iadd, 1) := by decide +kernel
theorem dX5_doneIn_23 : decode cX5_doneIn 23 = .ok (.iaload, 1) := by decide +kernel
theorem dX5_doneIn_24 : decode cX5_doneIn 24 = .ok (.iconst 5, 1) := by decide +kernel
theorem dX5_doneIn_25 : decode cX5_doneIn 25 = .ok (.if_icmp .lt 5, 3) := by decide +kernel
theorem dX5_doneIn_28 : decode cX5_doneIn 28 = .ok (.iload_n 2, 1) := by decide +kernel
theorem dX5_doneIn_29 : decode cX5_doneIn 29 = .ok (.ireturn, 1) := by decide +kernel
theorem dX5_doneIn_30 : decode cX5_doneIn 30 = .ok (.aload_n 0, 1) := by decide +kernel
theorem dX5_doneIn_31 : decode cX5_doneIn 31 = .ok (.getfield 17, 3) := by decide +kernel
theorem dX5_doneIn_34 : decode cX5_doneIn 34 = .ok (.invokestatic 102, 3) := by decide +kernel
theorem dX5_doneIn_37 : decode cX5_doneIn 37 = .ok (.iinc 2 1, 3) := by decide +kernel
theorem dX5_doneIn_40 : decode cX5_doneIn 40 = .ok (.goto (-34), 3) := by decide +kernel
theorem dX5_doneIn_43 : decode cX5_doneIn 43 = .ok (.iconst (-1), 1) := by decide +kernel
theorem dX5_doneIn_44 : decode cX5_doneIn 44 = .ok (.ireturn, 1) := by decide +kernel
set_option maxRecDepth 20000 in
theorem ggX5_until_X5_isBook : GoodIn wsX5_until wsX5_isBook := goodIn_r _ [6, 7, 8, 9, 5, 10, 62, 63, 64] (by decide +kernel) (by decide +kernel)
set_option maxRecDepth 20000 in
theorem gX5_until_X5_isBook : GoodIn wsX5_until (wsV RX5 41 RX5 yX5_isBook wsX5_isBook) := goodIn_app (goodIn_of _ (by decide +kernel)) ggX5_until_X5_isBook
set_option maxRecDepth 20000 in
theorem ggX5_until_X5_doneIn : GoodIn wsX5_until wsX5_doneIn := goodIn_r _ [14, 15, 16, 17, 18, 5, 19, 7, 20, 21, 22, 23, 24, 25, 26, 27, 28, 29, 30, 31, 32, 33, 34, 35, 36, 37, 38, 39, 40, 41, 42, 43, 44, 45, 46, 47, 48, 49, 50, 51, 52, 53, 54, 55, 56, 57, 62, 63, 64] (by decide +kernel) (by decide +kernel)
set_option maxRecDepth 20000 in
theorem gX5_until_X5_doneIn : GoodIn wsX5_until (wsV RX5 117 RX5 yX5_doneIn wsX5_doneIn) := goodIn_app (goodIn_of _ (by decide +kernel)) ggX5_until_X5_doneIn
set_option maxRecDepth 20000 in
theorem ggX5_until_X5_no : GoodIn wsX5_until wsX5_no := goodIn_r _ [61, 1, 62, 63, 64] (by decide +kernel) (by decide +kernel)
set_option maxRecDepth 20000 in
theorem gX5_until_X5_no : GoodIn wsX5_until (wsV RX5 37 RX5 yX5_no wsX5_no) := goodIn_app (goodIn_of _ (by decide +kernel)) ggX5_until_X5_no
theorem dX5_until_0 : decode cX5_until 0 = .ok (.aload_n 0, 1) := by decide +kernel
theorem dX5_until_1 : decode cX5_until 1 = .ok (.iconst 0, 1) := by decide +kernel
theorem dX5_until_2 : decode cX5_until 2 = .ok (.putfield 1, 3) := by decide +kernel
theorem dX5_until_5 : decode cX5_until 5 = .ok (.aload_n 0, 1) := by decide +kernel
theorem dX5_until_6 : decode cX5_until 6 = .ok (.iload_n 1, 1) := by decide +kernel
theorem dX5_until_7 : decode cX5_until 7 = .ok (.invokevirtual 41, 3) := by decide +kernel
theorem dX5_until_10 : decode cX5_until 10 = .ok (.ifCond .eq 11, 3) := by decide +kernel
theorem dX5_until_13 : decode cX5_until 13 = .ok (.aload_n 0, 1) := by decide +kernel
theorem dX5_until_14 : decode cX5_until 14 = .ok (.iload_n 1, 1) := by decide +kernel
theorem dX5_until_15 : decode cX5_until 15 = .ok (.invokevirtual 117, 3) := by decide +kernel
theorem dX5_until_18 : decode cX5_until 18 = .ok (.goto 8, 3) := by decide +kernel
theorem dX5_until_21 : decode cX5_until 21 = .ok (.aload_n 0, 1) := by decide +kernel
theorem dX5_until_22 : decode cX5_until 22 = .ok (.iconst 1, 1) := by decide +kernel
theorem dX5_until_23 : decode cX5_until 23 = .ok (.invokevirtual 37, 3) := by decide +kernel
theorem dX5_until_26 : decode cX5_until 26 = .ok (.ireturn, 1) := by decide +kernel
set_option maxRecDepth 20000 in
theorem ggX5_next_X5_doneIn : GoodIn wsX5_next wsX5_doneIn := goodIn_r _ [7, 8, 9, 10, 11, 6, 12, 2, 13, 14, 15, 16, 17, 18, 19, 20, 21, 22, 23, 24, 25, 26, 27, 28, 29, 30, 31, 32, 33, 34, 35, 36, 37, 38, 39, 40, 41, 42, 43, 44, 45, 46, 47, 48, 49, 50, 51, 52, 53] (by decide +kernel) (by decide +kernel)
set_option maxRecDepth 20000 in
theorem gX5_next_X5_doneIn : GoodIn wsX5_next (wsV RX5 117 RX5 yX5_doneIn wsX5_doneIn) := goodIn_app (goodIn_of _ (by decide +kernel)) ggX5_next_X5_doneIn
theorem dX5_next_0 : decode cX5_next 0 = .ok (.aload_n 0, 1) := by decide +kernel
theorem dX5_next_1 : decode cX5_next 1 = .ok (.iconst 0, 1) := by decide +kernel
theorem dX5_next_2 : decode cX5_next 2 = .ok (.putfield 1, 3) := by decide +kernel
theorem dX5_next_5 : decode cX5_next 5 = .ok (.iconst (-1), 1) := by decide +kernel
theorem dX5_next_6 : decode cX5_next 6 = .ok (.istore_n 1, 1) := by decide +kernel
theorem dX5_next_7 : decode cX5_next 7 = .ok (.sipush 251, 3) := by decide +kernel
theorem dX5_next_10 : decode cX5_next 10 = .ok (.istore_n 2, 1) := by decide +kernel
theorem dX5_next_11 : decode cX5_next 11 = .ok (.iconst 0, 1) := by decide +kernel
theorem dX5_next_12 : decode cX5_next 12 = .ok (.istore_n 3, 1) := by decide +kernel
theorem dX5_next_13 : decode cX5_next 13 = .ok (.iload_n 3, 1) := by decide +kernel
theorem dX5_next_14 : decode cX5_next 14 = .ok (.aload_n 0, 1) := by decide +kernel
theorem dX5_next_15 : decode cX5_next 15 = .ok (.getfield 13, 3) := by decide +kernel
theorem dX5_next_18 : decode cX5_next 18 = .ok (.sipush 189, 3) := by decide +kernel
theorem dX5_next_21 : decode cX5_next 21 = .ok (.iaload, 1) := by decide +kernel
theorem dX5_next_22 : decode cX5_next 22 = .ok (.if_icmp .ge 54, 3) := by decide +kernel
theorem dX5_next_25 : decode cX5_next 25 = .ok (.aload_n 0, 1) := by decide +kernel
theorem dX5_next_26 : decode cX5_next 26 = .ok (.getfield 13, 3) := by decide +kernel
theorem dX5_next_29 : decode cX5_next 29 = .ok (.bipush 11, 2) := by decide +kernel
theorem dX5_next_31 : decode cX5_next 31 = .ok (.iload_n 3, 1) := by decide +kernel
theorem dX5_next_32 : decode cX5_next 32 = .ok (.imul, 1) := by decide +kernel
theorem dX5_next_33 : decode cX5_next 33 = .ok (.iconst 3, 1) := by decide +kernel
theorem dX5_next_34 : decode cX5_next 34 = .ok (.iadd, 1) := by decide +kernel
theorem dX5_next_35 : decode cX5_next 35 = .ok (.iaload, 1) := by decide +kernel
theorem dX5_next_36 : decode cX5_next 36 = .ok (.iconst 5, 1) := by decide +kernel
theorem dX5_next_37 : decode cX5_next 37 = .ok (.if_icmp .lt 7, 3) := by decide +kernel
theorem dX5_next_40 : decode cX5_next 40 = .ok (.iconst (-1), 1) := by decide +kernel
theorem dX5_next_41 : decode cX5_next 41 = .ok (.goto 8, 3) := by decide +kernel
theorem dX5_next_44 : decode cX5_next 44 = .ok (.aload_n 0, 1) := by decide +kernel
theorem dX5_next_45 : decode cX5_next 45 = .ok (.iload_n 3, 1) := by decide +kernel
theorem dX5_next_46 : decode cX5_next 46 = .ok (.invokevirtual 117, 3) := by decide +kernel
theorem dX5_next_49 : decode cX5_next 49 = .ok (.istore 4, 2) := by decide +kernel
theorem dX5_next_51 : decode cX5_next 51 = .ok (.iload 4, 2) := by decide +kernel
theorem dX5_next_53 : decode cX5_next 53 = .ok (.ifCond .lt 17, 3) := by decide +kernel
theorem dX5_next_56 : decode cX5_next 56 = .ok (.iload 4, 2) := by decide +kernel
theorem dX5_next_58 : decode cX5_next 58 = .ok (.iload_n 2, 1) := by decide +kernel
theorem dX5_next_59 : decode cX5_next 59 = .ok (.if_icmp .lt 6, 3) := by decide +kernel
theorem dX5_next_62 : decode cX5_next 62 = .ok (.goto 8, 3) := by decide +kernel
theorem dX5_next_65 : decode cX5_next 65 = .ok (.iload_n 3, 1) := by decide +kernel
theorem dX5_next_66 : decode cX5_next 66 = .ok (.istore_n 1, 1) := by decide +kernel
theorem dX5_next_67 : decode cX5_next 67 = .ok (.iload 4, 2) := by decide +kernel
theorem dX5_next_69 : decode cX5_next 69 = .ok (.istore_n 2, 1) := by decide +kernel
theorem dX5_next_70 : decode cX5_next 70 = .ok (.iinc 3 1, 3) := by decide +kernel
theorem dX5_next_73 : decode cX5_next 73 = .ok (.goto (-60), 3) := by decide +kernel
theorem dX5_next_76 : decode cX5_next 76 = .ok (.iload_n 1, 1) := by decide +kernel
theorem dX5_next_77 : decode cX5_next 77 = .ok (.ireturn, 1) := by decide +kernel
set_option maxRecDepth 20000 in
theorem ggX5_stitchesWith_X5_lookAhead : GoodIn wsX5_stitchesWith wsX5_lookAhead := goodIn_r _ [6, 7, 1, 8, 9, 10, 11, 49, 50, 51] (by decide +kernel) (by decide +kernel)
set_option maxRecDepth 20000 in
theorem gX5_stitchesWith_X5_lookAhead : GoodIn wsX5_stitchesWith (wsV RX5 114 RX5 yX5_lookAhead wsX5_lookAhead) := goodIn_app (goodIn_of _ (by decide +kernel)) ggX5_stitchesWith_X5_lookAhead
set_option maxRecDepth 20000 in
theorem ggX5_stitchesWith_X5_passAll : GoodIn wsX5_stitchesWith wsX5_passAll := goodIn_r _ [14, 15, 16, 5, 17, 18, 19, 20, 21, 22, 23, 24, 25, 26, 27, 28, 29, 30, 31, 32, 33, 34, 35, 36, 37, 38, 39, 40, 41, 42, 43, 44, 45, 46, 47, 48] (by decide +kernel) (by decide +kernel)
set_option maxRecDepth 20000 in
theorem gX5_stitchesWith_X5_passAll : GoodIn wsX5_stitchesWith (va_wsS RX5 111 yX5_passAll wsX5_passAll) := goodIn_app (goodIn_of _ (by decide +kernel)) ggX5_stitchesWith_X5_passAll
theorem dX5_stitchesWith_0 : decode cX5_stitchesWith 0 = .ok (.aload_n 0, 1) := by decide +kernel
theorem dX5_stitchesWith_1 : decode cX5_stitchesWith 1 = .ok (.invokevirtual 114, 3) := by decide +kernel
theorem dX5_stitchesWith_4 : decode cX5_stitchesWith 4 = .ok (.aload_n 0, 1) := by decide +kernel
theorem dX5_stitchesWith_5 : decode cX5_stitchesWith 5 = .ok (.getfield 17, 3) := by decide +kernel
theorem dX5_stitchesWith_8 : decode cX5_stitchesWith 8 = .ok (.sipush 174, 3) := by decide +kernel
theorem dX5_stitchesWith_11 : decode cX5_stitchesWith 11 = .ok (.iconst 2, 1) := by decide +kernel
theorem dX5_stitchesWith_12 : decode cX5_stitchesWith 12 = .ok (.iload_n 1, 1) := by decide +kernel
theorem dX5_stitchesWith_13 : decode cX5_stitchesWith 13 = .ok (.imul, 1) := by decide +kernel
theorem dX5_stitchesWith_14 : decode cX5_stitchesWith 14 = .ok (.iadd, 1) := by decide +kernel
theorem dX5_stitchesWith_15 : decode cX5_stitchesWith 15 = .ok (.iconst 1, 1) := by decide +kernel
theorem dX5_stitchesWith_16 : decode cX5_stitchesWith 16 = .ok (.iadd, 1) := by decide +kernel
theorem dX5_stitchesWith_17 : decode cX5_stitchesWith 17 = .ok (.iload_n 2, 1) := by decide +kernel
theorem dX5_stitchesWith_18 : decode cX5_stitchesWith 18 = .ok (.iastore, 1) := by decide +kernel
theorem dX5_stitchesWith_19 : decode cX5_stitchesWith 19 = .ok (.aload_n 0, 1) := by decide +kernel
theorem dX5_stitchesWith_20 : decode cX5_stitchesWith 20 = .ok (.getfield 17, 3) := by decide +kernel
theorem dX5_stitchesWith_23 : decode cX5_stitchesWith 23 = .ok (.bipush 12, 2) := by decide +kernel
theorem dX5_stitchesWith_25 : decode cX5_stitchesWith 25 = .ok (.invokestatic 111, 3) := by decide +kernel
theorem dX5_stitchesWith_28 : decode cX5_stitchesWith 28 = .ok (.aload_n 0, 1) := by decide +kernel
theorem dX5_stitchesWith_29 : decode cX5_stitchesWith 29 = .ok (.getfield 17, 3) := by decide +kernel
theorem dX5_stitchesWith_32 : decode cX5_stitchesWith 32 = .ok (.sipush 191, 3) := by decide +kernel
theorem dX5_stitchesWith_35 : decode cX5_stitchesWith 35 = .ok (.iaload, 1) := by decide +kernel
theorem dX5_stitchesWith_36 : decode cX5_stitchesWith 36 = .ok (.ireturn, 1) := by decide +kernel
set_option maxRecDepth 20000 in
theorem ggX5_advise_X5_isSewer : GoodIn wsX5_advise wsX5_isSewer := goodIn_r _ [6, 7, 8, 9, 5, 10, 69, 70, 71] (by decide +kernel) (by decide +kernel)
set_option maxRecDepth 20000 in
theorem gX5_advise_X5_isSewer : GoodIn wsX5_advise (wsV RX5 55 RX5 yX5_isSewer wsX5_isSewer) := goodIn_app (goodIn_of _ (by decide +kernel)) ggX5_advise_X5_isSewer
set_option maxRecDepth 20000 in
theorem ggX5_advise_X5_no : GoodIn wsX5_advise wsX5_no := goodIn_r _ [14, 1, 69, 70, 71] (by decide +kernel) (by decide +kernel)
set_option maxRecDepth 20000 in
theorem gX5_advise_X5_no : GoodIn wsX5_advise (wsV RX5 37 RX5 yX5_no wsX5_no) := goodIn_app (goodIn_of _ (by decide +kernel)) ggX5_advise_X5_no
set_option maxRecDepth 20000 in
theorem ggX5_advise_X5_others : GoodIn wsX5_advise wsX5_others := goodIn_r _ [18, 7, 69, 70, 71] (by decide +kernel) (by decide +kernel)
set_option maxRecDepth 20000 in
theorem gX5_advise_X5_others : GoodIn wsX5_advise (wsV RX5 58 RX5 yX5_others wsX5_others) := goodIn_app (goodIn_of _ (by decide +kernel)) ggX5_advise_X5_others
set_option maxRecDepth 20000 in
theorem ggX5_advise_X5_stitchesWith : GoodIn wsX5_advise wsX5_stitchesWith := goodIn_r _ [22, 23, 24, 25, 26, 5, 27, 7, 28, 29, 30, 31, 32, 33, 34, 35, 36, 37, 38, 39, 40, 41, 42, 43, 44, 45, 46, 47, 48, 49, 50, 51, 52, 53, 54, 55, 56, 57, 58, 59, 60, 61, 62, 63, 64, 65, 66, 67, 68, 69, 70, 71] (by decide +kernel) (by decide +kernel)
set_option maxRecDepth 20000 in
theorem gX5_advise_X5_stitchesWith : GoodIn wsX5_advise (wsV RX5 120 RX5 yX5_stitchesWith wsX5_stitchesWith) := goodIn_app (goodIn_of _ (by decide +kernel)) ggX5_advise_X5_stitchesWith
theorem dX5_advise_0 : decode cX5_advise 0 = .ok (.aload_n 0, 1) := by decide +kernel
theorem dX5_advise_1 : decode cX5_advise 1 = .ok (.iconst 0, 1) := by decide +kernel
theorem dX5_advise_2 : decode cX5_advise 2 = .ok (.putfield 1, 3) := by decide +kernel
theorem dX5_advise_5 : decode cX5_advise 5 = .ok (.aload_n 0, 1) := by decide +kernel
theorem dX5_advise_6 : decode cX5_advise 6 = .ok (.iload_n 1, 1) := by decide +kernel
theorem dX5_advise_7 : decode cX5_advise 7 = .ok (.invokevirtual 55, 3) := by decide +kernel
theorem dX5_advise_10 : decode cX5_advise 10 = .ok (.ifCond .ne 9, 3) := by decide +kernel
theorem dX5_advise_13 : decode cX5_advise 13 = .ok (.aload_n 0, 1) := by decide +kernel
theorem dX5_advise_14 : decode cX5_advise 14 = .ok (.iconst 1, 1) := by decide +kernel
theorem dX5_advise_15 : decode cX5_advise 15 = .ok (.invokevirtual 37, 3) := by decide +kernel
theorem dX5_advise_18 : decode cX5_advise 18 = .ok (.ireturn, 1) := by decide +kernel
theorem dX5_advise_19 : decode cX5_advise 19 = .ok (.iconst (-1), 1) := by decide +kernel
theorem dX5_advise_20 : decode cX5_advise 20 = .ok (.istore_n 2, 1) := by decide +kernel
theorem dX5_advise_21 : decode cX5_advise 21 = .ok (.iconst (-1), 1) := by decide +kernel
theorem dX5_advise_22 : decode cX5_advise 22 = .ok (.istore_n 3, 1) := by decide +kernel
theorem dX5_advise_23 : decode cX5_advise 23 = .ok (.iconst 0, 1) := by decide +kernel
theorem dX5_advise_24 : decode cX5_advise 24 = .ok (.istore 4, 2) := by decide +kernel
theorem dX5_advise_26 : decode cX5_advise 26 = .ok (.iload 4, 2) := by decide +kernel
theorem dX5_advise_28 : decode cX5_advise 28 = .ok (.iconst 3, 1) := by decide +kernel
theorem dX5_advise_29 : decode cX5_advise 29 = .ok (.if_icmp .ge 48, 3) := by decide +kernel
theorem dX5_advise_32 : decode cX5_advise 32 = .ok (.aload_n 0, 1) := by decide +kernel
theorem dX5_advise_33 : decode cX5_advise 33 = .ok (.iload_n 1, 1) := by decide +kernel
theorem dX5_advise_34 : decode cX5_advise 34 = .ok (.iload 4, 2) := by decide +kernel
theorem dX5_advise_36 : decode cX5_advise 36 = .ok (.invokevirtual 58, 3) := by decide +kernel
theorem dX5_advise_39 : decode cX5_advise 39 = .ok (.iconst 1, 1) := by decide +kernel
theorem dX5_advise_40 : decode cX5_advise 40 = .ok (.if_icmp .le 7, 3) := by decide +kernel
theorem dX5_advise_43 : decode cX5_advise 43 = .ok (.iconst (-1), 1) := by decide +kernel
theorem dX5_advise_44 : decode cX5_advise 44 = .ok (.goto 10, 3) := by decide +kernel
theorem dX5_advise_47 : decode cX5_advise 47 = .ok (.aload_n 0, 1) := by decide +kernel
theorem dX5_advise_48 : decode cX5_advise 48 = .ok (.iload_n 1, 1) := by decide +kernel
theorem dX5_advise_49 : decode cX5_advise 49 = .ok (.iload 4, 2) := by decide +kernel
theorem dX5_advise_51 : decode cX5_advise 51 = .ok (.invokevirtual 120, 3) := by decide +kernel
theorem dX5_advise_54 : decode cX5_advise 54 = .ok (.istore 5, 2) := by decide +kernel
theorem dX5_advise_56 : decode cX5_advise 56 = .ok (.iload 5, 2) := by decide +kernel
theorem dX5_advise_58 : decode cX5_advise 58 = .ok (.iload_n 3, 1) := by decide +kernel
theorem dX5_advise_59 : decode cX5_advise 59 = .ok (.if_icmp .gt 6, 3) := by decide +kernel
theorem dX5_advise_62 : decode cX5_advise 62 = .ok (.goto 9, 3) := by decide +kernel
theorem dX5_advise_65 : decode cX5_advise 65 = .ok (.iload 4, 2) := by decide +kernel
theorem dX5_advise_67 : decode cX5_advise 67 = .ok (.istore_n 2, 1) := by decide +kernel
theorem dX5_advise_68 : decode cX5_advise 68 = .ok (.iload 5, 2) := by decide +kernel
theorem dX5_advise_70 : decode cX5_advise 70 = .ok (.istore_n 3, 1) := by decide +kernel
theorem dX5_advise_71 : decode cX5_advise 71 = .ok (.iinc 4 1, 3) := by decide +kernel
theorem dX5_advise_74 : decode cX5_advise 74 = .ok (.goto (-48), 3) := by decide +kernel
theorem dX5_advise_77 : decode cX5_advise 77 = .ok (.iload_n 2, 1) := by decide +kernel
theorem dX5_advise_78 : decode cX5_advise 78 = .ok (.ireturn, 1) := by decide +kernel
set_option maxRecDepth 20000 in
theorem ggX5_worth_X5_worthOf : GoodIn wsX5_worth wsX5_worthOf := goodIn_r _ [6, 7, 8, 9, 10] (by decide +kernel) (by decide +kernel)
set_option maxRecDepth 20000 in
theorem gX5_worth_X5_worthOf : GoodIn wsX5_worth (va_wsS RX5 49 yX5_worthOf wsX5_worthOf) := goodIn_app (goodIn_of _ (by decide +kernel)) ggX5_worth_X5_worthOf
theorem dX5_worth_0 : decode cX5_worth 0 = .ok (.aload_n 0, 1) := by decide +kernel
theorem dX5_worth_1 : decode cX5_worth 1 = .ok (.iconst 0, 1) := by decide +kernel
theorem dX5_worth_2 : decode cX5_worth 2 = .ok (.putfield 1, 3) := by decide +kernel
theorem dX5_worth_5 : decode cX5_worth 5 = .ok (.iconst 0, 1) := by decide +kernel
theorem dX5_worth_6 : decode cX5_worth 6 = .ok (.istore_n 1, 1) := by decide +kernel
theorem dX5_worth_7 : decode cX5_worth 7 = .ok (.iconst 0, 1) := by decide +kernel
theorem dX5_worth_8 : decode cX5_worth 8 = .ok (.istore_n 2, 1) := by decide +kernel
theorem dX5_worth_9 : decode cX5_worth 9 = .ok (.iload_n 2, 1) := by decide +kernel
theorem dX5_worth_10 : decode cX5_worth 10 = .ok (.aload_n 0, 1) := by decide +kernel
theorem dX5_worth_11 : decode cX5_worth 11 = .ok (.getfield 13, 3) := by decide +kernel
theorem dX5_worth_14 : decode cX5_worth 14 = .ok (.sipush 189, 3) := by decide +kernel
theorem dX5_worth_17 : decode cX5_worth 17 = .ok (.iaload, 1) := by decide +kernel
theorem dX5_worth_18 : decode cX5_worth 18 = .ok (.if_icmp .ge 42, 3) := by decide +kernel
theorem dX5_worth_21 : decode cX5_worth 21 = .ok (.iload_n 1, 1) := by decide +kernel
theorem dX5_worth_22 : decode cX5_worth 22 = .ok (.aload_n 0, 1) := by decide +kernel
theorem dX5_worth_23 : decode cX5_worth 23 = .ok (.getfield 13, 3) := by decide +kernel
theorem dX5_worth_26 : decode cX5_worth 26 = .ok (.bipush 11, 2) := by decide +kernel
theorem dX5_worth_28 : decode cX5_worth 28 = .ok (.iload_n 2, 1) := by decide +kernel
theorem dX5_worth_29 : decode cX5_worth 29 = .ok (.imul, 1) := by decide +kernel
theorem dX5_worth_30 : decode cX5_worth 30 = .ok (.iconst 3, 1) := by decide +kernel
theorem dX5_worth_31 : decode cX5_worth 31 = .ok (.iadd, 1) := by decide +kernel
theorem dX5_worth_32 : decode cX5_worth 32 = .ok (.iaload, 1) := by decide +kernel
theorem dX5_worth_33 : decode cX5_worth 33 = .ok (.iconst 5, 1) := by decide +kernel
theorem dX5_worth_34 : decode cX5_worth 34 = .ok (.if_icmp .ne 17, 3) := by decide +kernel
theorem dX5_worth_37 : decode cX5_worth 37 = .ok (.aload_n 0, 1) := by decide +kernel
theorem dX5_worth_38 : decode cX5_worth 38 = .ok (.getfield 13, 3) := by decide +kernel
theorem dX5_worth_41 : decode cX5_worth 41 = .ok (.bipush 11, 2) := by decide +kernel
theorem dX5_worth_43 : decode cX5_worth 43 = .ok (.iload_n 2, 1) := by decide +kernel
theorem dX5_worth_44 : decode cX5_worth 44 = .ok (.imul, 1) := by decide +kernel
theorem dX5_worth_45 : decode cX5_worth 45 = .ok (.invokestatic 49, 3) := by decide +kernel
theorem dX5_worth_48 : decode cX5_worth 48 = .ok (.goto 4, 3) := by decide +kernel
theorem dX5_worth_51 : decode cX5_worth 51 = .ok (.iconst 0, 1) := by decide +kernel
theorem dX5_worth_52 : decode cX5_worth 52 = .ok (.iadd, 1) := by decide +kernel
theorem dX5_worth_53 : decode cX5_worth 53 = .ok (.istore_n 1, 1) := by decide +kernel
theorem dX5_worth_54 : decode cX5_worth 54 = .ok (.iinc 2 1, 3) := by decide +kernel
theorem dX5_worth_57 : decode cX5_worth 57 = .ok (.goto (-48), 3) := by decide +kernel
theorem dX5_worth_60 : decode cX5_worth 60 = .ok (.iload_n 1, 1) := by decide +kernel
theorem dX5_worth_61 : decode cX5_worth 61 = .ok (.ireturn, 1) := by decide +kernel
set_option maxRecDepth 20000 in
theorem ggX5_mean_X5_worthOf : GoodIn wsX5_mean wsX5_worthOf := goodIn_r _ [6, 7, 8, 9, 10] (by decide +kernel) (by decide +kernel)
set_option maxRecDepth 20000 in
theorem gX5_mean_X5_worthOf : GoodIn wsX5_mean (va_wsS RX5 49 yX5_worthOf wsX5_worthOf) := goodIn_app (goodIn_of _ (by decide +kernel)) ggX5_mean_X5_worthOf
theorem dX5_mean_0 : decode cX5_mean 0 = .ok (.aload_n 0, 1) := by decide +kernel
theorem dX5_mean_1 : decode cX5_mean 1 = .ok (.iconst 0, 1) := by decide +kernel
theorem dX5_mean_2 : decode cX5_mean 2 = .ok (.putfield 1, 3) := by decide +kernel
theorem dX5_mean_5 : decode cX5_mean 5 = .ok (.iconst 0, 1) := by decide +kernel
theorem dX5_mean_6 : decode cX5_mean 6 = .ok (.istore_n 1, 1) := by decide +kernel
theorem dX5_mean_7 : decode cX5_mean 7 = .ok (.iconst 0, 1) := by decide +kernel
theorem dX5_mean_8 : decode cX5_mean 8 = .ok (.istore_n 2, 1) := by decide +kernel
theorem dX5_mean_9 : decode cX5_mean 9 = .ok (.iconst 0, 1) := by decide +kernel
theorem dX5_mean_10 : decode cX5_mean 10 = .ok (.istore_n 3, 1) := by decide +kernel
theorem dX5_mean_11 : decode cX5_mean 11 = .ok (.iload_n 3, 1) := by decide +kernel
theorem dX5_mean_12 : decode cX5_mean 12 = .ok (.aload_n 0, 1) := by decide +kernel
theorem dX5_mean_13 : decode cX5_mean 13 = .ok (.getfield 13, 3) := by decide +kernel
theorem dX5_mean_16 : decode cX5_mean 16 = .ok (.sipush 189, 3) := by decide +kernel
theorem dX5_mean_19 : decode cX5_mean 19 = .ok (.iaload, 1) := by decide +kernel
theorem dX5_mean_20 : decode cX5_mean 20 = .ok (.if_icmp .ge 45, 3) := by decide +kernel
theorem dX5_mean_23 : decode cX5_mean 23 = .ok (.aload_n 0, 1) := by decide +kernel
theorem dX5_mean_24 : decode cX5_mean 24 = .ok (.getfield 13, 3) := by decide +kernel
theorem dX5_mean_27 : decode cX5_mean 27 = .ok (.bipush 11, 2) := by decide +kernel
theorem dX5_mean_29 : decode cX5_mean 29 = .ok (.iload_n 3, 1) := by decide +kernel
theorem dX5_mean_30 : decode cX5_mean 30 = .ok (.imul, 1) := by decide +kernel
theorem dX5_mean_31 : decode cX5_mean 31 = .ok (.iconst 3, 1) := by decide +kernel
theorem dX5_mean_32 : decode cX5_mean 32 = .ok (.iadd, 1) := by decide +kernel
theorem dX5_mean_33 : decode cX5_mean 33 = .ok (.iaload, 1) := by decide +kernel
theorem dX5_mean_34 : decode cX5_mean 34 = .ok (.bipush 6, 2) := by decide +kernel
theorem dX5_mean_36 : decode cX5_mean 36 = .ok (.if_icmp .ne 6, 3) := by decide +kernel
theorem dX5_mean_39 : decode cX5_mean 39 = .ok (.goto 20, 3) := by decide +kernel
theorem dX5_mean_42 : decode cX5_mean 42 = .ok (.iinc 1 1, 3) := by decide +kernel
theorem dX5_mean_45 : decode cX5_mean 45 = .ok (.iload_n 2, 1) := by decide +kernel
theorem dX5_mean_46 : decode cX5_mean 46 = .ok (.aload_n 0, 1) := by decide +kernel
theorem dX5_mean_47 : decode cX5_mean 47 = .ok (.getfield 13, 3) := by decide +kernel
theorem dX5_mean_50 : decode cX5_mean 50 = .ok (.bipush 11, 2) := by decide +kernel
theorem dX5_mean_52 : decode cX5_mean 52 = .ok (.iload_n 3, 1) := by decide +kernel
theorem dX5_mean_53 : decode cX5_mean 53 = .ok (.imul, 1) := by decide +kernel
theorem dX5_mean_54 : decode cX5_mean 54 = .ok (.invokestatic 49, 3) := by decide +kernel
theorem dX5_mean_57 : decode cX5_mean 57 = .ok (.iadd, 1) := by decide +kernel
theorem dX5_mean_58 : decode cX5_mean 58 = .ok (.istore_n 2, 1) := by decide +kernel
theorem dX5_mean_59 : decode cX5_mean 59 = .ok (.iinc 3 1, 3) := by decide +kernel
theorem dX5_mean_62 : decode cX5_mean 62 = .ok (.goto (-51), 3) := by decide +kernel
theorem dX5_mean_65 : decode cX5_mean 65 = .ok (.iload_n 1, 1) := by decide +kernel
theorem dX5_mean_66 : decode cX5_mean 66 = .ok (.ifCond .ne 7, 3) := by decide +kernel
theorem dX5_mean_69 : decode cX5_mean 69 = .ok (.dconst 0, 1) := by decide +kernel
theorem dX5_mean_70 : decode cX5_mean 70 = .ok (.goto 8, 3) := by decide +kernel
theorem dX5_mean_73 : decode cX5_mean 73 = .ok (.iload_n 2, 1) := by decide +kernel
theorem dX5_mean_74 : decode cX5_mean 74 = .ok (.i2d, 1) := by decide +kernel
theorem dX5_mean_75 : decode cX5_mean 75 = .ok (.iload_n 1, 1) := by decide +kernel
theorem dX5_mean_76 : decode cX5_mean 76 = .ok (.i2d, 1) := by decide +kernel
theorem dX5_mean_77 : decode cX5_mean 77 = .ok (.ddiv, 1) := by decide +kernel
theorem dX5_mean_78 : decode cX5_mean 78 = .ok (.dreturn, 1) := by decide +kernel
set_option maxRecDepth 20000 in
theorem ggX5_digest_X5_counted : GoodIn wsX5_digest wsX5_counted := goodIn_r _ [8, 9, 10, 7, 11] (by decide +kernel) (by decide +kernel)
set_option maxRecDepth 20000 in
theorem gX5_digest_X5_counted : GoodIn wsX5_digest (va_wsS RX5 76 yX5_counted wsX5_counted) := goodIn_app (goodIn_of _ (by decide +kernel)) ggX5_digest_X5_counted
set_option maxRecDepth 20000 in
theorem ggX5_digest_X5_frameTold : GoodIn wsX5_digest wsX5_frameTold := goodIn_r _ [15, 4, 16, 17, 18, 7, 19, 20, 21, 22, 23, 24, 25, 26, 27, 28, 29, 30, 31, 32, 33, 34, 35, 36, 37, 38, 39, 47, 48, 49] (by decide +kernel) (by decide +kernel)
set_option maxRecDepth 20000 in
theorem gX5_digest_X5_frameTold : GoodIn wsX5_digest (wsV RX5 70 RX5 yX5_frameTold wsX5_frameTold) := goodIn_app (goodIn_of _ (by decide +kernel)) ggX5_digest_X5_frameTold
set_option maxRecDepth 20000 in
theorem ggX5_digest_X5_bookTold : GoodIn wsX5_digest wsX5_bookTold := goodIn_r _ [43, 4, 44, 45, 7, 46, 23, 24, 25, 26, 47, 48, 49] (by decide +kernel) (by decide +kernel)
set_option maxRecDepth 20000 in
theorem gX5_digest_X5_bookTold : GoodIn wsX5_digest (wsV RX5 52 RX5 yX5_bookTold wsX5_bookTold) := goodIn_app (goodIn_of _ (by decide +kernel)) ggX5_digest_X5_bookTold
theorem dX5_digest_0 : decode cX5_digest 0 = .ok (.aload_n 0, 1) := by decide +kernel
theorem dX5_digest_1 : decode cX5_digest 1 = .ok (.iconst 0, 1) := by decide +kernel
theorem dX5_digest_2 : decode cX5_digest 2 = .ok (.putfield 1, 3) := by decide +kernel
theorem dX5_digest_5 : decode cX5_digest 5 = .ok (.ldc2_w 123, 3) := by decide +kernel
theorem dX5_digest_8 : decode cX5_digest 8 = .ok (.lstore_n 1, 1) := by decide +kernel
theorem dX5_digest_9 : decode cX5_digest 9 = .ok (.iconst 0, 1) := by decide +kernel
theorem dX5_digest_10 : decode cX5_digest 10 = .ok (.istore_n 3, 1) := by decide +kernel
theorem dX5_digest_11 : decode cX5_digest 11 = .ok (.iload_n 3, 1) := by decide +kernel
theorem dX5_digest_12 : decode cX5_digest 12 = .ok (.bipush 15, 2) := by decide +kernel
theorem dX5_digest_14 : decode cX5_digest 14 = .ok (.if_icmp .ge 25, 3) := by decide +kernel
theorem dX5_digest_17 : decode cX5_digest 17 = .ok (.lload_n 1, 1) := by decide +kernel
theorem dX5_digest_18 : decode cX5_digest 18 = .ok (.ldc2_w 125, 3) := by decide +kernel
theorem dX5_digest_21 : decode cX5_digest 21 = .ok (.lmul, 1) := by decide +kernel
theorem dX5_digest_22 : decode cX5_digest 22 = .ok (.aload_n 0, 1) := by decide +kernel
theorem dX5_digest_23 : decode cX5_digest 23 = .ok (.getfield 13, 3) := by decide +kernel
theorem dX5_digest_26 : decode cX5_digest 26 = .ok (.iload_n 3, 1) := by decide +kernel
theorem dX5_digest_27 : decode cX5_digest 27 = .ok (.invokestatic 76, 3) := by decide +kernel
theorem dX5_digest_30 : decode cX5_digest 30 = .ok (.i2l, 1) := by decide +kernel
theorem dX5_digest_31 : decode cX5_digest 31 = .ok (.ladd, 1) := by decide +kernel
theorem dX5_digest_32 : decode cX5_digest 32 = .ok (.lstore_n 1, 1) := by decide +kernel
theorem dX5_digest_33 : decode cX5_digest 33 = .ok (.iinc 3 1, 3) := by decide +kernel
theorem dX5_digest_36 : decode cX5_digest 36 = .ok (.goto (-25), 3) := by decide +kernel
theorem dX5_digest_39 : decode cX5_digest 39 = .ok (.iconst 0, 1) := by decide +kernel
theorem dX5_digest_40 : decode cX5_digest 40 = .ok (.istore_n 3, 1) := by decide +kernel
theorem dX5_digest_41 : decode cX5_digest 41 = .ok (.iload_n 3, 1) := by decide +kernel
theorem dX5_digest_42 : decode cX5_digest 42 = .ok (.bipush 18, 2) := by decide +kernel
theorem dX5_digest_44 : decode cX5_digest 44 = .ok (.if_icmp .ge 29, 3) := by decide +kernel
theorem dX5_digest_47 : decode cX5_digest 47 = .ok (.lload_n 1, 1) := by decide +kernel
theorem dX5_digest_48 : decode cX5_digest 48 = .ok (.ldc2_w 125, 3) := by decide +kernel
theorem dX5_digest_51 : decode cX5_digest 51 = .ok (.lmul, 1) := by decide +kernel
theorem dX5_digest_52 : decode cX5_digest 52 = .ok (.aload_n 0, 1) := by decide +kernel
theorem dX5_digest_53 : decode cX5_digest 53 = .ok (.iload_n 3, 1) := by decide +kernel
theorem dX5_digest_54 : decode cX5_digest 54 = .ok (.bipush 6, 2) := by decide +kernel
theorem dX5_digest_56 : decode cX5_digest 56 = .ok (.idiv, 1) := by decide +kernel
theorem dX5_digest_57 : decode cX5_digest 57 = .ok (.iload_n 3, 1) := by decide +kernel
theorem dX5_digest_58 : decode cX5_digest 58 = .ok (.bipush 6, 2) := by decide +kernel
theorem dX5_digest_60 : decode cX5_digest 60 = .ok (.irem, 1) := by decide +kernel
theorem dX5_digest_61 : decode cX5_digest 61 = .ok (.invokevirtual 70, 3) := by decide +kernel
theorem dX5_digest_64 : decode cX5_digest 64 = .ok (.i2l, 1) := by decide +kernel
theorem dX5_digest_65 : decode cX5_digest 65 = .ok (.ladd, 1) := by decide +kernel
theorem dX5_digest_66 : decode cX5_digest 66 = .ok (.lstore_n 1, 1) := by decide +kernel
theorem dX5_digest_67 : decode cX5_digest 67 = .ok (.iinc 3 1, 3) := by decide +kernel
theorem dX5_digest_70 : decode cX5_digest 70 = .ok (.goto (-29), 3) := by decide +kernel
theorem dX5_digest_73 : decode cX5_digest 73 = .ok (.iconst 0, 1) := by decide +kernel
theorem dX5_digest_74 : decode cX5_digest 74 = .ok (.istore_n 3, 1) := by decide +kernel
theorem dX5_digest_75 : decode cX5_digest 75 = .ok (.iload_n 3, 1) := by decide +kernel
theorem dX5_digest_76 : decode cX5_digest 76 = .ok (.iconst 2, 1) := by decide +kernel
theorem dX5_digest_77 : decode cX5_digest 77 = .ok (.aload_n 0, 1) := by decide +kernel
theorem dX5_digest_78 : decode cX5_digest 78 = .ok (.getfield 13, 3) := by decide +kernel
theorem dX5_digest_81 : decode cX5_digest 81 = .ok (.sipush 190, 3) := by decide +kernel
theorem dX5_digest_84 : decode cX5_digest 84 = .ok (.iaload, 1) := by decide +kernel
theorem dX5_digest_85 : decode cX5_digest 85 = .ok (.imul, 1) := by decide +kernel
theorem dX5_digest_86 : decode cX5_digest 86 = .ok (.if_icmp .ge 27, 3) := by decide +kernel
theorem dX5_digest_89 : decode cX5_digest 89 = .ok (.lload_n 1, 1) := by decide +kernel
theorem dX5_digest_90 : decode cX5_digest 90 = .ok (.ldc2_w 125, 3) := by decide +kernel
theorem dX5_digest_93 : decode cX5_digest 93 = .ok (.lmul, 1) := by decide +kernel
theorem dX5_digest_94 : decode cX5_digest 94 = .ok (.aload_n 0, 1) := by decide +kernel
theorem dX5_digest_95 : decode cX5_digest 95 = .ok (.getfield 13, 3) := by decide +kernel
theorem dX5_digest_98 : decode cX5_digest 98 = .ok (.sipush 174, 3) := by decide +kernel
theorem dX5_digest_101 : decode cX5_digest 101 = .ok (.iload_n 3, 1) := by decide +kernel
theorem dX5_digest_102 : decode cX5_digest 102 = .ok (.iadd, 1) := by decide +kernel
theorem dX5_digest_103 : decode cX5_digest 103 = .ok (.iaload, 1) := by decide +kernel
theorem dX5_digest_104 : decode cX5_digest 104 = .ok (.i2l, 1) := by decide +kernel
theorem dX5_digest_105 : decode cX5_digest 105 = .ok (.ladd, 1) := by decide +kernel
theorem dX5_digest_106 : decode cX5_digest 106 = .ok (.lstore_n 1, 1) := by decide +kernel
theorem dX5_digest_107 : decode cX5_digest 107 = .ok (.iinc 3 1, 3) := by decide +kernel
theorem dX5_digest_110 : decode cX5_digest 110 = .ok (.goto (-35), 3) := by decide +kernel
theorem dX5_digest_113 : decode cX5_digest 113 = .ok (.iconst 0, 1) := by decide +kernel
theorem dX5_digest_114 : decode cX5_digest 114 = .ok (.istore_n 3, 1) := by decide +kernel
theorem dX5_digest_115 : decode cX5_digest 115 = .ok (.iload_n 3, 1) := by decide +kernel
theorem dX5_digest_116 : decode cX5_digest 116 = .ok (.bipush 11, 2) := by decide +kernel
theorem dX5_digest_118 : decode cX5_digest 118 = .ok (.aload_n 0, 1) := by decide +kernel
theorem dX5_digest_119 : decode cX5_digest 119 = .ok (.getfield 13, 3) := by decide +kernel
theorem dX5_digest_122 : decode cX5_digest 122 = .ok (.sipush 189, 3) := by decide +kernel
theorem dX5_digest_125 : decode cX5_digest 125 = .ok (.iaload, 1) := by decide +kernel
theorem dX5_digest_126 : decode cX5_digest 126 = .ok (.imul, 1) := by decide +kernel
theorem dX5_digest_127 : decode cX5_digest 127 = .ok (.if_icmp .ge 29, 3) := by decide +kernel
theorem dX5_digest_130 : decode cX5_digest 130 = .ok (.lload_n 1, 1) := by decide +kernel
theorem dX5_digest_131 : decode cX5_digest 131 = .ok (.ldc2_w 125, 3) := by decide +kernel
theorem dX5_digest_134 : decode cX5_digest 134 = .ok (.lmul, 1) := by decide +kernel
theorem dX5_digest_135 : decode cX5_digest 135 = .ok (.aload_n 0, 1) := by decide +kernel
theorem dX5_digest_136 : decode cX5_digest 136 = .ok (.iload_n 3, 1) := by decide +kernel
theorem dX5_digest_137 : decode cX5_digest 137 = .ok (.bipush 11, 2) := by decide +kernel
theorem dX5_digest_139 : decode cX5_digest 139 = .ok (.idiv, 1) := by decide +kernel
theorem dX5_digest_140 : decode cX5_digest 140 = .ok (.iload_n 3, 1) := by decide +kernel
theorem dX5_digest_141 : decode cX5_digest 141 = .ok (.bipush 11, 2) := by decide +kernel
theorem dX5_digest_143 : decode cX5_digest 143 = .ok (.irem, 1) := by decide +kernel
theorem dX5_digest_144 : decode cX5_digest 144 = .ok (.invokevirtual 52, 3) := by decide +kernel
theorem dX5_digest_147 : decode cX5_digest 147 = .ok (.i2l, 1) := by decide +kernel
theorem dX5_digest_148 : decode cX5_digest 148 = .ok (.ladd, 1) := by decide +kernel
theorem dX5_digest_149 : decode cX5_digest 149 = .ok (.lstore_n 1, 1) := by decide +kernel
theorem dX5_digest_150 : decode cX5_digest 150 = .ok (.iinc 3 1, 3) := by decide +kernel
theorem dX5_digest_153 : decode cX5_digest 153 = .ok (.goto (-38), 3) := by decide +kernel
theorem dX5_digest_156 : decode cX5_digest 156 = .ok (.lload_n 1, 1) := by decide +kernel
theorem dX5_digest_157 : decode cX5_digest 157 = .ok (.lreturn, 1) := by decide +kernel
