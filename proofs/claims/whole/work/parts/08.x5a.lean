theorem dX5_thrown_0 : decode cX5_thrown 0 = .ok (.aload_n 0, 1) := by decide +kernel
theorem dX5_thrown_1 : decode cX5_thrown 1 = .ok (.getfield 1, 3) := by decide +kernel
theorem dX5_thrown_4 : decode cX5_thrown 4 = .ok (.ireturn, 1) := by decide +kernel
theorem dX5_no_0 : decode cX5_no 0 = .ok (.aload_n 0, 1) := by decide +kernel
theorem dX5_no_1 : decode cX5_no 1 = .ok (.iload_n 1, 1) := by decide +kernel
theorem dX5_no_2 : decode cX5_no 2 = .ok (.putfield 1, 3) := by decide +kernel
theorem dX5_no_5 : decode cX5_no 5 = .ok (.iconst 0, 1) := by decide +kernel
theorem dX5_no_6 : decode cX5_no 6 = .ok (.ireturn, 1) := by decide +kernel
theorem dX5_isIn_0 : decode cX5_isIn 0 = .ok (.iload_n 0, 1) := by decide +kernel
theorem dX5_isIn_1 : decode cX5_isIn 1 = .ok (.iload_n 1, 1) := by decide +kernel
theorem dX5_isIn_2 : decode cX5_isIn 2 = .ok (.if_icmp .lt 12, 3) := by decide +kernel
theorem dX5_isIn_5 : decode cX5_isIn 5 = .ok (.iload_n 0, 1) := by decide +kernel
theorem dX5_isIn_6 : decode cX5_isIn 6 = .ok (.iload_n 2, 1) := by decide +kernel
theorem dX5_isIn_7 : decode cX5_isIn 7 = .ok (.if_icmp .gt 7, 3) := by decide +kernel
theorem dX5_isIn_10 : decode cX5_isIn 10 = .ok (.iconst 1, 1) := by decide +kernel
theorem dX5_isIn_11 : decode cX5_isIn 11 = .ok (.goto 4, 3) := by decide +kernel
theorem dX5_isIn_14 : decode cX5_isIn 14 = .ok (.iconst 0, 1) := by decide +kernel
theorem dX5_isIn_15 : decode cX5_isIn 15 = .ok (.ireturn, 1) := by decide +kernel
theorem dX5_init_0 : decode cX5_init 0 = .ok (.aload_n 0, 1) := by decide +kernel
theorem dX5_init_1 : decode cX5_init 1 = .ok (.invokespecial 7, 3) := by decide +kernel
theorem dX5_init_4 : decode cX5_init 4 = .ok (.aload_n 0, 1) := by decide +kernel
theorem dX5_init_5 : decode cX5_init 5 = .ok (.sipush 193, 3) := by decide +kernel
theorem dX5_init_8 : decode cX5_init 8 = .ok (.newarray .int, 2) := by decide +kernel
theorem dX5_init_10 : decode cX5_init 10 = .ok (.putfield 13, 3) := by decide +kernel
theorem dX5_init_13 : decode cX5_init 13 = .ok (.aload_n 0, 1) := by decide +kernel
theorem dX5_init_14 : decode cX5_init 14 = .ok (.sipush 193, 3) := by decide +kernel
theorem dX5_init_17 : decode cX5_init 17 = .ok (.newarray .int, 2) := by decide +kernel
theorem dX5_init_19 : decode cX5_init 19 = .ok (.putfield 17, 3) := by decide +kernel
theorem dX5_init_22 : decode cX5_init 22 = .ok (.aload_n 0, 1) := by decide +kernel
theorem dX5_init_23 : decode cX5_init 23 = .ok (.getfield 13, 3) := by decide +kernel
theorem dX5_init_26 : decode cX5_init 26 = .ok (.sipush 184, 3) := by decide +kernel
theorem dX5_init_29 : decode cX5_init 29 = .ok (.sipush 300, 3) := by decide +kernel
theorem dX5_init_32 : decode cX5_init 32 = .ok (.iastore, 1) := by decide +kernel
theorem dX5_init_33 : decode cX5_init 33 = .ok (.aload_n 0, 1) := by decide +kernel
theorem dX5_init_34 : decode cX5_init 34 = .ok (.getfield 13, 3) := by decide +kernel
theorem dX5_init_37 : decode cX5_init 37 = .ok (.sipush 185, 3) := by decide +kernel
theorem dX5_init_40 : decode cX5_init 40 = .ok (.bipush 12, 2) := by decide +kernel
theorem dX5_init_42 : decode cX5_init 42 = .ok (.iastore, 1) := by decide +kernel
theorem dX5_init_43 : decode cX5_init 43 = .ok (.aload_n 0, 1) := by decide +kernel
theorem dX5_init_44 : decode cX5_init 44 = .ok (.getfield 13, 3) := by decide +kernel
theorem dX5_init_47 : decode cX5_init 47 = .ok (.sipush 186, 3) := by decide +kernel
theorem dX5_init_50 : decode cX5_init 50 = .ok (.bipush 20, 2) := by decide +kernel
theorem dX5_init_52 : decode cX5_init 52 = .ok (.iastore, 1) := by decide +kernel
theorem dX5_init_53 : decode cX5_init 53 = .ok (.aload_n 0, 1) := by decide +kernel
theorem dX5_init_54 : decode cX5_init 54 = .ok (.getfield 13, 3) := by decide +kernel
theorem dX5_init_57 : decode cX5_init 57 = .ok (.sipush 187, 3) := by decide +kernel
theorem dX5_init_60 : decode cX5_init 60 = .ok (.bipush 30, 2) := by decide +kernel
theorem dX5_init_62 : decode cX5_init 62 = .ok (.iastore, 1) := by decide +kernel
theorem dX5_init_63 : decode cX5_init 63 = .ok (.iconst 0, 1) := by decide +kernel
theorem dX5_init_64 : decode cX5_init 64 = .ok (.istore_n 1, 1) := by decide +kernel
theorem dX5_init_65 : decode cX5_init 65 = .ok (.iload_n 1, 1) := by decide +kernel
theorem dX5_init_66 : decode cX5_init 66 = .ok (.iconst 3, 1) := by decide +kernel
theorem dX5_init_67 : decode cX5_init 67 = .ok (.if_icmp .ge 37, 3) := by decide +kernel
theorem dX5_init_70 : decode cX5_init 70 = .ok (.aload_n 0, 1) := by decide +kernel
theorem dX5_init_71 : decode cX5_init 71 = .ok (.getfield 13, 3) := by decide +kernel
theorem dX5_init_74 : decode cX5_init 74 = .ok (.sipush 165, 3) := by decide +kernel
theorem dX5_init_77 : decode cX5_init 77 = .ok (.iconst 3, 1) := by decide +kernel
theorem dX5_init_78 : decode cX5_init 78 = .ok (.iload_n 1, 1) := by decide +kernel
theorem dX5_init_79 : decode cX5_init 79 = .ok (.imul, 1) := by decide +kernel
theorem dX5_init_80 : decode cX5_init 80 = .ok (.iadd, 1) := by decide +kernel
theorem dX5_init_81 : decode cX5_init 81 = .ok (.iconst 3, 1) := by decide +kernel
theorem dX5_init_82 : decode cX5_init 82 = .ok (.iastore, 1) := by decide +kernel
theorem dX5_init_83 : decode cX5_init 83 = .ok (.aload_n 0, 1) := by decide +kernel
theorem dX5_init_84 : decode cX5_init 84 = .ok (.getfield 13, 3) := by decide +kernel
theorem dX5_init_87 : decode cX5_init 87 = .ok (.sipush 165, 3) := by decide +kernel
theorem dX5_init_90 : decode cX5_init 90 = .ok (.iconst 3, 1) := by decide +kernel
theorem dX5_init_91 : decode cX5_init 91 = .ok (.iload_n 1, 1) := by decide +kernel
theorem dX5_init_92 : decode cX5_init 92 = .ok (.imul, 1) := by decide +kernel
theorem dX5_init_93 : decode cX5_init 93 = .ok (.iadd, 1) := by decide +kernel
theorem dX5_init_94 : decode cX5_init 94 = .ok (.iconst 1, 1) := by decide +kernel
theorem dX5_init_95 : decode cX5_init 95 = .ok (.iadd, 1) := by decide +kernel
theorem dX5_init_96 : decode cX5_init 96 = .ok (.iconst (-1), 1) := by decide +kernel
theorem dX5_init_97 : decode cX5_init 97 = .ok (.iastore, 1) := by decide +kernel
theorem dX5_init_98 : decode cX5_init 98 = .ok (.iinc 1 1, 3) := by decide +kernel
theorem dX5_init_101 : decode cX5_init 101 = .ok (.goto (-36), 3) := by decide +kernel
theorem dX5_init_104 : decode cX5_init 104 = .ok (.return_, 1) := by decide +kernel
set_option maxRecDepth 20000 in
theorem ggX5_isBook_X5_isIn : GoodIn wsX5_isBook wsX5_isIn := goodIn_r _ [5] (by decide +kernel) (by decide +kernel)
set_option maxRecDepth 20000 in
theorem gX5_isBook_X5_isIn : GoodIn wsX5_isBook (va_wsS RX5 20 yX5_isIn wsX5_isIn) := goodIn_app (goodIn_of _ (by decide +kernel)) ggX5_isBook_X5_isIn
theorem dX5_isBook_0 : decode cX5_isBook 0 = .ok (.iload_n 1, 1) := by decide +kernel
theorem dX5_isBook_1 : decode cX5_isBook 1 = .ok (.iconst 0, 1) := by decide +kernel
theorem dX5_isBook_2 : decode cX5_isBook 2 = .ok (.aload_n 0, 1) := by decide +kernel
theorem dX5_isBook_3 : decode cX5_isBook 3 = .ok (.getfield 13, 3) := by decide +kernel
theorem dX5_isBook_6 : decode cX5_isBook 6 = .ok (.sipush 189, 3) := by decide +kernel
theorem dX5_isBook_9 : decode cX5_isBook 9 = .ok (.iaload, 1) := by decide +kernel
theorem dX5_isBook_10 : decode cX5_isBook 10 = .ok (.iconst 1, 1) := by decide +kernel
theorem dX5_isBook_11 : decode cX5_isBook 11 = .ok (.isub, 1) := by decide +kernel
theorem dX5_isBook_12 : decode cX5_isBook 12 = .ok (.invokestatic 20, 3) := by decide +kernel
theorem dX5_isBook_15 : decode cX5_isBook 15 = .ok (.ireturn, 1) := by decide +kernel
set_option maxRecDepth 20000 in
theorem ggX5_isSewer_X5_isIn : GoodIn wsX5_isSewer wsX5_isIn := goodIn_r _ [5] (by decide +kernel) (by decide +kernel)
set_option maxRecDepth 20000 in
theorem gX5_isSewer_X5_isIn : GoodIn wsX5_isSewer (va_wsS RX5 20 yX5_isIn wsX5_isIn) := goodIn_app (goodIn_of _ (by decide +kernel)) ggX5_isSewer_X5_isIn
theorem dX5_isSewer_0 : decode cX5_isSewer 0 = .ok (.iload_n 1, 1) := by decide +kernel
theorem dX5_isSewer_1 : decode cX5_isSewer 1 = .ok (.iconst 0, 1) := by decide +kernel
theorem dX5_isSewer_2 : decode cX5_isSewer 2 = .ok (.aload_n 0, 1) := by decide +kernel
theorem dX5_isSewer_3 : decode cX5_isSewer 3 = .ok (.getfield 13, 3) := by decide +kernel
theorem dX5_isSewer_6 : decode cX5_isSewer 6 = .ok (.sipush 190, 3) := by decide +kernel
theorem dX5_isSewer_9 : decode cX5_isSewer 9 = .ok (.iaload, 1) := by decide +kernel
theorem dX5_isSewer_10 : decode cX5_isSewer 10 = .ok (.iconst 1, 1) := by decide +kernel
theorem dX5_isSewer_11 : decode cX5_isSewer 11 = .ok (.isub, 1) := by decide +kernel
theorem dX5_isSewer_12 : decode cX5_isSewer 12 = .ok (.invokestatic 20, 3) := by decide +kernel
theorem dX5_isSewer_15 : decode cX5_isSewer 15 = .ok (.ireturn, 1) := by decide +kernel
set_option maxRecDepth 20000 in
theorem ggX5_isFrame_X5_isIn : GoodIn wsX5_isFrame wsX5_isIn := goodIn_r _ [4] (by decide +kernel) (by decide +kernel)
set_option maxRecDepth 20000 in
theorem gX5_isFrame_X5_isIn : GoodIn wsX5_isFrame (va_wsS RX5 20 yX5_isIn wsX5_isIn) := goodIn_app (goodIn_of _ (by decide +kernel)) ggX5_isFrame_X5_isIn
theorem dX5_isFrame_0 : decode cX5_isFrame 0 = .ok (.iload_n 0, 1) := by decide +kernel
theorem dX5_isFrame_1 : decode cX5_isFrame 1 = .ok (.iconst 0, 1) := by decide +kernel
theorem dX5_isFrame_2 : decode cX5_isFrame 2 = .ok (.iconst 2, 1) := by decide +kernel
theorem dX5_isFrame_3 : decode cX5_isFrame 3 = .ok (.invokestatic 20, 3) := by decide +kernel
theorem dX5_isFrame_6 : decode cX5_isFrame 6 = .ok (.ireturn, 1) := by decide +kernel
theorem dX5_thick_0 : decode cX5_thick 0 = .ok (.aload_n 0, 1) := by decide +kernel
theorem dX5_thick_1 : decode cX5_thick 1 = .ok (.iload_n 1, 1) := by decide +kernel
theorem dX5_thick_2 : decode cX5_thick 2 = .ok (.iaload, 1) := by decide +kernel
theorem dX5_thick_3 : decode cX5_thick 3 = .ok (.aload_n 0, 1) := by decide +kernel
theorem dX5_thick_4 : decode cX5_thick 4 = .ok (.iload_n 1, 1) := by decide +kernel
theorem dX5_thick_5 : decode cX5_thick 5 = .ok (.iconst 1, 1) := by decide +kernel
theorem dX5_thick_6 : decode cX5_thick 6 = .ok (.iadd, 1) := by decide +kernel
theorem dX5_thick_7 : decode cX5_thick 7 = .ok (.iaload, 1) := by decide +kernel
theorem dX5_thick_8 : decode cX5_thick 8 = .ok (.imul, 1) := by decide +kernel
theorem dX5_thick_9 : decode cX5_thick 9 = .ok (.ireturn, 1) := by decide +kernel
theorem dX5_stitches_0 : decode cX5_stitches 0 = .ok (.aload_n 0, 1) := by decide +kernel
theorem dX5_stitches_1 : decode cX5_stitches 1 = .ok (.iload_n 1, 1) := by decide +kernel
theorem dX5_stitches_2 : decode cX5_stitches 2 = .ok (.bipush 10, 2) := by decide +kernel
theorem dX5_stitches_4 : decode cX5_stitches 4 = .ok (.iadd, 1) := by decide +kernel
theorem dX5_stitches_5 : decode cX5_stitches 5 = .ok (.iaload, 1) := by decide +kernel
theorem dX5_stitches_6 : decode cX5_stitches 6 = .ok (.iconst 2, 1) := by decide +kernel
theorem dX5_stitches_7 : decode cX5_stitches 7 = .ok (.iadd, 1) := by decide +kernel
theorem dX5_stitches_8 : decode cX5_stitches 8 = .ok (.iload_n 2, 1) := by decide +kernel
theorem dX5_stitches_9 : decode cX5_stitches 9 = .ok (.ifCond .ne 7, 3) := by decide +kernel
theorem dX5_stitches_12 : decode cX5_stitches 12 = .ok (.iconst 2, 1) := by decide +kernel
theorem dX5_stitches_13 : decode cX5_stitches 13 = .ok (.goto 4, 3) := by decide +kernel
theorem dX5_stitches_16 : decode cX5_stitches 16 = .ok (.iconst 0, 1) := by decide +kernel
theorem dX5_stitches_17 : decode cX5_stitches 17 = .ok (.iadd, 1) := by decide +kernel
theorem dX5_stitches_18 : decode cX5_stitches 18 = .ok (.iload_n 2, 1) := by decide +kernel
theorem dX5_stitches_19 : decode cX5_stitches 19 = .ok (.aload_n 0, 1) := by decide +kernel
theorem dX5_stitches_20 : decode cX5_stitches 20 = .ok (.iload_n 1, 1) := by decide +kernel
theorem dX5_stitches_21 : decode cX5_stitches 21 = .ok (.iaload, 1) := by decide +kernel
theorem dX5_stitches_22 : decode cX5_stitches 22 = .ok (.iconst 1, 1) := by decide +kernel
theorem dX5_stitches_23 : decode cX5_stitches 23 = .ok (.isub, 1) := by decide +kernel
theorem dX5_stitches_24 : decode cX5_stitches 24 = .ok (.if_icmp .ne 7, 3) := by decide +kernel
theorem dX5_stitches_27 : decode cX5_stitches 27 = .ok (.iconst 2, 1) := by decide +kernel
theorem dX5_stitches_28 : decode cX5_stitches 28 = .ok (.goto 4, 3) := by decide +kernel
theorem dX5_stitches_31 : decode cX5_stitches 31 = .ok (.iconst 0, 1) := by decide +kernel
theorem dX5_stitches_32 : decode cX5_stitches 32 = .ok (.iadd, 1) := by decide +kernel
theorem dX5_stitches_33 : decode cX5_stitches 33 = .ok (.ireturn, 1) := by decide +kernel
theorem dX5_worthOf_0 : decode cX5_worthOf 0 = .ok (.iconst 1, 1) := by decide +kernel
theorem dX5_worthOf_1 : decode cX5_worthOf 1 = .ok (.iconst 4, 1) := by decide +kernel
theorem dX5_worthOf_2 : decode cX5_worthOf 2 = .ok (.aload_n 0, 1) := by decide +kernel
theorem dX5_worthOf_3 : decode cX5_worthOf 3 = .ok (.iload_n 1, 1) := by decide +kernel
theorem dX5_worthOf_4 : decode cX5_worthOf 4 = .ok (.iaload, 1) := by decide +kernel
theorem dX5_worthOf_5 : decode cX5_worthOf 5 = .ok (.imul, 1) := by decide +kernel
theorem dX5_worthOf_6 : decode cX5_worthOf 6 = .ok (.iconst 2, 1) := by decide +kernel
theorem dX5_worthOf_7 : decode cX5_worthOf 7 = .ok (.aload_n 0, 1) := by decide +kernel
theorem dX5_worthOf_8 : decode cX5_worthOf 8 = .ok (.iload_n 1, 1) := by decide +kernel
theorem dX5_worthOf_9 : decode cX5_worthOf 9 = .ok (.bipush 10, 2) := by decide +kernel
theorem dX5_worthOf_11 : decode cX5_worthOf 11 = .ok (.iadd, 1) := by decide +kernel
theorem dX5_worthOf_12 : decode cX5_worthOf 12 = .ok (.iaload, 1) := by decide +kernel
theorem dX5_worthOf_13 : decode cX5_worthOf 13 = .ok (.imul, 1) := by decide +kernel
theorem dX5_worthOf_14 : decode cX5_worthOf 14 = .ok (.iadd, 1) := by decide +kernel
theorem dX5_worthOf_15 : decode cX5_worthOf 15 = .ok (.bipush 6, 2) := by decide +kernel
theorem dX5_worthOf_17 : decode cX5_worthOf 17 = .ok (.aload_n 0, 1) := by decide +kernel
theorem dX5_worthOf_18 : decode cX5_worthOf 18 = .ok (.iload_n 1, 1) := by decide +kernel
theorem dX5_worthOf_19 : decode cX5_worthOf 19 = .ok (.bipush 9, 2) := by decide +kernel
theorem dX5_worthOf_21 : decode cX5_worthOf 21 = .ok (.iadd, 1) := by decide +kernel
theorem dX5_worthOf_22 : decode cX5_worthOf 22 = .ok (.iaload, 1) := by decide +kernel
theorem dX5_worthOf_23 : decode cX5_worthOf 23 = .ok (.imul, 1) := by decide +kernel
theorem dX5_worthOf_24 : decode cX5_worthOf 24 = .ok (.iadd, 1) := by decide +kernel
theorem dX5_worthOf_25 : decode cX5_worthOf 25 = .ok (.iconst 3, 1) := by decide +kernel
theorem dX5_worthOf_26 : decode cX5_worthOf 26 = .ok (.aload_n 0, 1) := by decide +kernel
theorem dX5_worthOf_27 : decode cX5_worthOf 27 = .ok (.iload_n 1, 1) := by decide +kernel
theorem dX5_worthOf_28 : decode cX5_worthOf 28 = .ok (.bipush 7, 2) := by decide +kernel
theorem dX5_worthOf_30 : decode cX5_worthOf 30 = .ok (.iadd, 1) := by decide +kernel
theorem dX5_worthOf_31 : decode cX5_worthOf 31 = .ok (.iaload, 1) := by decide +kernel
theorem dX5_worthOf_32 : decode cX5_worthOf 32 = .ok (.imul, 1) := by decide +kernel
theorem dX5_worthOf_33 : decode cX5_worthOf 33 = .ok (.isub, 1) := by decide +kernel
theorem dX5_worthOf_34 : decode cX5_worthOf 34 = .ok (.invokestatic 24, 3) := by decide +kernel
theorem dX5_worthOf_37 : decode cX5_worthOf 37 = .ok (.ireturn, 1) := by decide +kernel
set_option maxRecDepth 20000 in
theorem ggX5_upTo_X5_stitches : GoodIn wsX5_upTo wsX5_stitches := goodIn_r _ [4] (by decide +kernel) (by decide +kernel)
set_option maxRecDepth 20000 in
theorem gX5_upTo_X5_stitches : GoodIn wsX5_upTo (va_wsS RX5 30 yX5_stitches wsX5_stitches) := goodIn_app (goodIn_of _ (by decide +kernel)) ggX5_upTo_X5_stitches
theorem dX5_upTo_0 : decode cX5_upTo 0 = .ok (.iconst 0, 1) := by decide +kernel
theorem dX5_upTo_1 : decode cX5_upTo 1 = .ok (.istore_n 3, 1) := by decide +kernel
theorem dX5_upTo_2 : decode cX5_upTo 2 = .ok (.iconst 0, 1) := by decide +kernel
theorem dX5_upTo_3 : decode cX5_upTo 3 = .ok (.istore 4, 2) := by decide +kernel
theorem dX5_upTo_5 : decode cX5_upTo 5 = .ok (.iload 4, 2) := by decide +kernel
theorem dX5_upTo_7 : decode cX5_upTo 7 = .ok (.iload_n 2, 1) := by decide +kernel
theorem dX5_upTo_8 : decode cX5_upTo 8 = .ok (.if_icmp .ge 19, 3) := by decide +kernel
theorem dX5_upTo_11 : decode cX5_upTo 11 = .ok (.iload_n 3, 1) := by decide +kernel
theorem dX5_upTo_12 : decode cX5_upTo 12 = .ok (.aload_n 0, 1) := by decide +kernel
theorem dX5_upTo_13 : decode cX5_upTo 13 = .ok (.iload_n 1, 1) := by decide +kernel
theorem dX5_upTo_14 : decode cX5_upTo 14 = .ok (.iload 4, 2) := by decide +kernel
theorem dX5_upTo_16 : decode cX5_upTo 16 = .ok (.invokestatic 30, 3) := by decide +kernel
theorem dX5_upTo_19 : decode cX5_upTo 19 = .ok (.iadd, 1) := by decide +kernel
theorem dX5_upTo_20 : decode cX5_upTo 20 = .ok (.istore_n 3, 1) := by decide +kernel
theorem dX5_upTo_21 : decode cX5_upTo 21 = .ok (.iinc 4 1, 3) := by decide +kernel
theorem dX5_upTo_24 : decode cX5_upTo 24 = .ok (.goto (-19), 3) := by decide +kernel
theorem dX5_upTo_27 : decode cX5_upTo 27 = .ok (.iload_n 3, 1) := by decide +kernel
theorem dX5_upTo_28 : decode cX5_upTo 28 = .ok (.ireturn, 1) := by decide +kernel
set_option maxRecDepth 20000 in
theorem ggX5_inBook_X5_upTo : GoodIn wsX5_inBook wsX5_upTo := goodIn_r _ [4, 5, 6, 3, 7] (by decide +kernel) (by decide +kernel)
set_option maxRecDepth 20000 in
theorem gX5_inBook_X5_upTo : GoodIn wsX5_inBook (va_wsS RX5 34 yX5_upTo wsX5_upTo) := goodIn_app (goodIn_of _ (by decide +kernel)) ggX5_inBook_X5_upTo
theorem dX5_inBook_0 : decode cX5_inBook 0 = .ok (.aload_n 0, 1) := by decide +kernel
theorem dX5_inBook_1 : decode cX5_inBook 1 = .ok (.iload_n 1, 1) := by decide +kernel
theorem dX5_inBook_2 : decode cX5_inBook 2 = .ok (.aload_n 0, 1) := by decide +kernel
theorem dX5_inBook_3 : decode cX5_inBook 3 = .ok (.iload_n 1, 1) := by decide +kernel
theorem dX5_inBook_4 : decode cX5_inBook 4 = .ok (.iconst 5, 1) := by decide +kernel
theorem dX5_inBook_5 : decode cX5_inBook 5 = .ok (.iadd, 1) := by decide +kernel
theorem dX5_inBook_6 : decode cX5_inBook 6 = .ok (.iaload, 1) := by decide +kernel
theorem dX5_inBook_7 : decode cX5_inBook 7 = .ok (.invokestatic 34, 3) := by decide +kernel
theorem dX5_inBook_10 : decode cX5_inBook 10 = .ok (.aload_n 0, 1) := by decide +kernel
theorem dX5_inBook_11 : decode cX5_inBook 11 = .ok (.iload_n 1, 1) := by decide +kernel
theorem dX5_inBook_12 : decode cX5_inBook 12 = .ok (.bipush 6, 2) := by decide +kernel
theorem dX5_inBook_14 : decode cX5_inBook 14 = .ok (.iadd, 1) := by decide +kernel
theorem dX5_inBook_15 : decode cX5_inBook 15 = .ok (.iaload, 1) := by decide +kernel
theorem dX5_inBook_16 : decode cX5_inBook 16 = .ok (.iadd, 1) := by decide +kernel
theorem dX5_inBook_17 : decode cX5_inBook 17 = .ok (.ireturn, 1) := by decide +kernel
set_option maxRecDepth 20000 in
theorem ggX5_order_X5_isIn : GoodIn wsX5_order wsX5_isIn := goodIn_r _ [6] (by decide +kernel) (by decide +kernel)
set_option maxRecDepth 20000 in
theorem gX5_order_X5_isIn : GoodIn wsX5_order (va_wsS RX5 20 yX5_isIn wsX5_isIn) := goodIn_app (goodIn_of _ (by decide +kernel)) ggX5_order_X5_isIn
set_option maxRecDepth 20000 in
theorem ggX5_order_X5_no : GoodIn wsX5_order wsX5_no := goodIn_r _ [10, 1, 11, 12, 13] (by decide +kernel) (by decide +kernel)
set_option maxRecDepth 20000 in
theorem gX5_order_X5_no : GoodIn wsX5_order (wsV RX5 37 RX5 yX5_no wsX5_no) := goodIn_app (goodIn_of _ (by decide +kernel)) ggX5_order_X5_no
theorem dX5_order_0 : decode cX5_order 0 = .ok (.aload_n 0, 1) := by decide +kernel
theorem dX5_order_1 : decode cX5_order 1 = .ok (.iconst 0, 1) := by decide +kernel
theorem dX5_order_2 : decode cX5_order 2 = .ok (.putfield 1, 3) := by decide +kernel
theorem dX5_order_5 : decode cX5_order 5 = .ok (.iload_n 1, 1) := by decide +kernel
theorem dX5_order_6 : decode cX5_order 6 = .ok (.iconst 1, 1) := by decide +kernel
theorem dX5_order_7 : decode cX5_order 7 = .ok (.bipush 24, 2) := by decide +kernel
theorem dX5_order_9 : decode cX5_order 9 = .ok (.invokestatic 20, 3) := by decide +kernel
theorem dX5_order_12 : decode cX5_order 12 = .ok (.ifCond .eq 22, 3) := by decide +kernel
theorem dX5_order_15 : decode cX5_order 15 = .ok (.iload_n 2, 1) := by decide +kernel
theorem dX5_order_16 : decode cX5_order 16 = .ok (.iconst 1, 1) := by decide +kernel
theorem dX5_order_17 : decode cX5_order 17 = .ok (.bipush 8, 2) := by decide +kernel
theorem dX5_order_19 : decode cX5_order 19 = .ok (.invokestatic 20, 3) := by decide +kernel
theorem dX5_order_22 : decode cX5_order 22 = .ok (.ifCond .eq 12, 3) := by decide +kernel
theorem dX5_order_25 : decode cX5_order 25 = .ok (.iload_n 3, 1) := by decide +kernel
theorem dX5_order_26 : decode cX5_order 26 = .ok (.iconst 0, 1) := by decide +kernel
theorem dX5_order_27 : decode cX5_order 27 = .ok (.iconst 3, 1) := by decide +kernel
theorem dX5_order_28 : decode cX5_order 28 = .ok (.invokestatic 20, 3) := by decide +kernel
theorem dX5_order_31 : decode cX5_order 31 = .ok (.ifCond .ne 9, 3) := by decide +kernel
theorem dX5_order_34 : decode cX5_order 34 = .ok (.aload_n 0, 1) := by decide +kernel
theorem dX5_order_35 : decode cX5_order 35 = .ok (.iconst 1, 1) := by decide +kernel
theorem dX5_order_36 : decode cX5_order 36 = .ok (.invokevirtual 37, 3) := by decide +kernel
theorem dX5_order_39 : decode cX5_order 39 = .ok (.ireturn, 1) := by decide +kernel
theorem dX5_order_40 : decode cX5_order 40 = .ok (.aload_n 0, 1) := by decide +kernel
theorem dX5_order_41 : decode cX5_order 41 = .ok (.getfield 13, 3) := by decide +kernel
theorem dX5_order_44 : decode cX5_order 44 = .ok (.sipush 189, 3) := by decide +kernel
theorem dX5_order_47 : decode cX5_order 47 = .ok (.iaload, 1) := by decide +kernel
theorem dX5_order_48 : decode cX5_order 48 = .ok (.bipush 15, 2) := by decide +kernel
theorem dX5_order_50 : decode cX5_order 50 = .ok (.if_icmp .ne 9, 3) := by decide +kernel
theorem dX5_order_53 : decode cX5_order 53 = .ok (.aload_n 0, 1) := by decide +kernel
theorem dX5_order_54 : decode cX5_order 54 = .ok (.iconst 2, 1) := by decide +kernel
theorem dX5_order_55 : decode cX5_order 55 = .ok (.invokevirtual 37, 3) := by decide +kernel
theorem dX5_order_58 : decode cX5_order 58 = .ok (.ireturn, 1) := by decide +kernel
theorem dX5_order_59 : decode cX5_order 59 = .ok (.bipush 11, 2) := by decide +kernel
theorem dX5_order_61 : decode cX5_order 61 = .ok (.aload_n 0, 1) := by decide +kernel
theorem dX5_order_62 : decode cX5_order 62 = .ok (.getfield 13, 3) := by decide +kernel
theorem dX5_order_65 : decode cX5_order 65 = .ok (.sipush 189, 3) := by decide +kernel
theorem dX5_order_68 : decode cX5_order 68 = .ok (.iaload, 1) := by decide +kernel
theorem dX5_order_69 : decode cX5_order 69 = .ok (.imul, 1) := by decide +kernel
theorem dX5_order_70 : decode cX5_order 70 = .ok (.istore 4, 2) := by decide +kernel
theorem dX5_order_72 : decode cX5_order 72 = .ok (.aload_n 0, 1) := by decide +kernel
theorem dX5_order_73 : decode cX5_order 73 = .ok (.getfield 13, 3) := by decide +kernel
theorem dX5_order_76 : decode cX5_order 76 = .ok (.iload 4, 2) := by decide +kernel
theorem dX5_order_78 : decode cX5_order 78 = .ok (.iload_n 1, 1) := by decide +kernel
theorem dX5_order_79 : decode cX5_order 79 = .ok (.iastore, 1) := by decide +kernel
theorem dX5_order_80 : decode cX5_order 80 = .ok (.aload_n 0, 1) := by decide +kernel
theorem dX5_order_81 : decode cX5_order 81 = .ok (.getfield 13, 3) := by decide +kernel
theorem dX5_order_84 : decode cX5_order 84 = .ok (.iload 4, 2) := by decide +kernel
theorem dX5_order_86 : decode cX5_order 86 = .ok (.iconst 1, 1) := by decide +kernel
theorem dX5_order_87 : decode cX5_order 87 = .ok (.iadd, 1) := by decide +kernel
theorem dX5_order_88 : decode cX5_order 88 = .ok (.iload_n 2, 1) := by decide +kernel
theorem dX5_order_89 : decode cX5_order 89 = .ok (.iastore, 1) := by decide +kernel
theorem dX5_order_90 : decode cX5_order 90 = .ok (.aload_n 0, 1) := by decide +kernel
theorem dX5_order_91 : decode cX5_order 91 = .ok (.getfield 13, 3) := by decide +kernel
theorem dX5_order_94 : decode cX5_order 94 = .ok (.iload 4, 2) := by decide +kernel
theorem dX5_order_96 : decode cX5_order 96 = .ok (.iconst 2, 1) := by decide +kernel
theorem dX5_order_97 : decode cX5_order 97 = .ok (.iadd, 1) := by decide +kernel
theorem dX5_order_98 : decode cX5_order 98 = .ok (.iload_n 3, 1) := by decide +kernel
theorem dX5_order_99 : decode cX5_order 99 = .ok (.iastore, 1) := by decide +kernel
theorem dX5_order_100 : decode cX5_order 100 = .ok (.aload_n 0, 1) := by decide +kernel
theorem dX5_order_101 : decode cX5_order 101 = .ok (.getfield 13, 3) := by decide +kernel
theorem dX5_order_104 : decode cX5_order 104 = .ok (.iload 4, 2) := by decide +kernel
theorem dX5_order_106 : decode cX5_order 106 = .ok (.iconst 4, 1) := by decide +kernel
theorem dX5_order_107 : decode cX5_order 107 = .ok (.iadd, 1) := by decide +kernel
theorem dX5_order_108 : decode cX5_order 108 = .ok (.iconst (-1), 1) := by decide +kernel
theorem dX5_order_109 : decode cX5_order 109 = .ok (.iastore, 1) := by decide +kernel
theorem dX5_order_110 : decode cX5_order 110 = .ok (.aload_n 0, 1) := by decide +kernel
theorem dX5_order_111 : decode cX5_order 111 = .ok (.getfield 13, 3) := by decide +kernel
theorem dX5_order_114 : decode cX5_order 114 = .ok (.sipush 189, 3) := by decide +kernel
theorem dX5_order_117 : decode cX5_order 117 = .ok (.dup2, 1) := by decide +kernel
theorem dX5_order_118 : decode cX5_order 118 = .ok (.iaload, 1) := by decide +kernel
theorem dX5_order_119 : decode cX5_order 119 = .ok (.iconst 1, 1) := by decide +kernel
theorem dX5_order_120 : decode cX5_order 120 = .ok (.iadd, 1) := by decide +kernel
theorem dX5_order_121 : decode cX5_order 121 = .ok (.iastore, 1) := by decide +kernel
theorem dX5_order_122 : decode cX5_order 122 = .ok (.aload_n 0, 1) := by decide +kernel
theorem dX5_order_123 : decode cX5_order 123 = .ok (.getfield 13, 3) := by decide +kernel
theorem dX5_order_126 : decode cX5_order 126 = .ok (.sipush 189, 3) := by decide +kernel
theorem dX5_order_129 : decode cX5_order 129 = .ok (.iaload, 1) := by decide +kernel
theorem dX5_order_130 : decode cX5_order 130 = .ok (.iconst 1, 1) := by decide +kernel
theorem dX5_order_131 : decode cX5_order 131 = .ok (.isub, 1) := by decide +kernel
theorem dX5_order_132 : decode cX5_order 132 = .ok (.ireturn, 1) := by decide +kernel
set_option maxRecDepth 20000 in
theorem ggX5_unpick_X5_isBook : GoodIn wsX5_unpick wsX5_isBook := goodIn_r _ [8, 2, 9, 10, 7, 11, 25, 26, 27] (by decide +kernel) (by decide +kernel)
set_option maxRecDepth 20000 in
theorem gX5_unpick_X5_isBook : GoodIn wsX5_unpick (wsV RX5 41 RX5 yX5_isBook wsX5_isBook) := goodIn_app (goodIn_of _ (by decide +kernel)) ggX5_unpick_X5_isBook
set_option maxRecDepth 20000 in
theorem ggX5_unpick_X5_no : GoodIn wsX5_unpick wsX5_no := goodIn_r _ [15, 1, 25, 26, 27] (by decide +kernel) (by decide +kernel)
set_option maxRecDepth 20000 in
theorem gX5_unpick_X5_no : GoodIn wsX5_unpick (wsV RX5 37 RX5 yX5_no wsX5_no) := goodIn_app (goodIn_of _ (by decide +kernel)) ggX5_unpick_X5_no
set_option maxRecDepth 20000 in
theorem ggX5_unpick_X5_inBook : GoodIn wsX5_unpick wsX5_inBook := goodIn_r _ [18, 19, 20, 7, 21, 22, 23, 24] (by decide +kernel) (by decide +kernel)
set_option maxRecDepth 20000 in
theorem gX5_unpick_X5_inBook : GoodIn wsX5_unpick (va_wsS RX5 45 yX5_inBook wsX5_inBook) := goodIn_app (goodIn_of _ (by decide +kernel)) ggX5_unpick_X5_inBook
theorem dX5_unpick_0 : decode cX5_unpick 0 = .ok (.aload_n 0, 1) := by decide +kernel
theorem dX5_unpick_1 : decode cX5_unpick 1 = .ok (.iconst 0, 1) := by decide +kernel
theorem dX5_unpick_2 : decode cX5_unpick 2 = .ok (.putfield 1, 3) := by decide +kernel
theorem dX5_unpick_5 : decode cX5_unpick 5 = .ok (.aload_n 0, 1) := by decide +kernel
theorem dX5_unpick_6 : decode cX5_unpick 6 = .ok (.iload_n 1, 1) := by decide +kernel
theorem dX5_unpick_7 : decode cX5_unpick 7 = .ok (.invokevirtual 41, 3) := by decide +kernel
theorem dX5_unpick_10 : decode cX5_unpick 10 = .ok (.ifCond .ne 9, 3) := by decide +kernel
theorem dX5_unpick_13 : decode cX5_unpick 13 = .ok (.aload_n 0, 1) := by decide +kernel
theorem dX5_unpick_14 : decode cX5_unpick 14 = .ok (.iconst 1, 1) := by decide +kernel
theorem dX5_unpick_15 : decode cX5_unpick 15 = .ok (.invokevirtual 37, 3) := by decide +kernel
theorem dX5_unpick_18 : decode cX5_unpick 18 = .ok (.ireturn, 1) := by decide +kernel
theorem dX5_unpick_19 : decode cX5_unpick 19 = .ok (.bipush 11, 2) := by decide +kernel
theorem dX5_unpick_21 : decode cX5_unpick 21 = .ok (.iload_n 1, 1) := by decide +kernel
theorem dX5_unpick_22 : decode cX5_unpick 22 = .ok (.imul, 1) := by decide +kernel
theorem dX5_unpick_23 : decode cX5_unpick 23 = .ok (.istore_n 2, 1) := by decide +kernel
theorem dX5_unpick_24 : decode cX5_unpick 24 = .ok (.aload_n 0, 1) := by decide +kernel
theorem dX5_unpick_25 : decode cX5_unpick 25 = .ok (.getfield 13, 3) := by decide +kernel
theorem dX5_unpick_28 : decode cX5_unpick 28 = .ok (.iload_n 2, 1) := by decide +kernel
theorem dX5_unpick_29 : decode cX5_unpick 29 = .ok (.iconst 3, 1) := by decide +kernel
theorem dX5_unpick_30 : decode cX5_unpick 30 = .ok (.iadd, 1) := by decide +kernel
theorem dX5_unpick_31 : decode cX5_unpick 31 = .ok (.iaload, 1) := by decide +kernel
theorem dX5_unpick_32 : decode cX5_unpick 32 = .ok (.iconst 1, 1) := by decide +kernel
theorem dX5_unpick_33 : decode cX5_unpick 33 = .ok (.if_icmp .eq 9, 3) := by decide +kernel
theorem dX5_unpick_36 : decode cX5_unpick 36 = .ok (.aload_n 0, 1) := by decide +kernel
theorem dX5_unpick_37 : decode cX5_unpick 37 = .ok (.iconst 2, 1) := by decide +kernel
theorem dX5_unpick_38 : decode cX5_unpick 38 = .ok (.invokevirtual 37, 3) := by decide +kernel
theorem dX5_unpick_41 : decode cX5_unpick 41 = .ok (.ireturn, 1) := by decide +kernel
theorem dX5_unpick_42 : decode cX5_unpick 42 = .ok (.aload_n 0, 1) := by decide +kernel
theorem dX5_unpick_43 : decode cX5_unpick 43 = .ok (.getfield 13, 3) := by decide +kernel
theorem dX5_unpick_46 : decode cX5_unpick 46 = .ok (.iload_n 2, 1) := by decide +kernel
theorem dX5_unpick_47 : decode cX5_unpick 47 = .ok (.invokestatic 45, 3) := by decide +kernel
theorem dX5_unpick_50 : decode cX5_unpick 50 = .ok (.istore_n 3, 1) := by decide +kernel
theorem dX5_unpick_51 : decode cX5_unpick 51 = .ok (.aload_n 0, 1) := by decide +kernel
theorem dX5_unpick_52 : decode cX5_unpick 52 = .ok (.getfield 13, 3) := by decide +kernel
theorem dX5_unpick_55 : decode cX5_unpick 55 = .ok (.sipush 165, 3) := by decide +kernel
theorem dX5_unpick_58 : decode cX5_unpick 58 = .ok (.iconst 3, 1) := by decide +kernel
theorem dX5_unpick_59 : decode cX5_unpick 59 = .ok (.aload_n 0, 1) := by decide +kernel
theorem dX5_unpick_60 : decode cX5_unpick 60 = .ok (.getfield 13, 3) := by decide +kernel
theorem dX5_unpick_63 : decode cX5_unpick 63 = .ok (.iload_n 2, 1) := by decide +kernel
theorem dX5_unpick_64 : decode cX5_unpick 64 = .ok (.iconst 4, 1) := by decide +kernel
theorem dX5_unpick_65 : decode cX5_unpick 65 = .ok (.iadd, 1) := by decide +kernel
theorem dX5_unpick_66 : decode cX5_unpick 66 = .ok (.iaload, 1) := by decide +kernel
theorem dX5_unpick_67 : decode cX5_unpick 67 = .ok (.imul, 1) := by decide +kernel
theorem dX5_unpick_68 : decode cX5_unpick 68 = .ok (.iadd, 1) := by decide +kernel
theorem dX5_unpick_69 : decode cX5_unpick 69 = .ok (.iconst 1, 1) := by decide +kernel
theorem dX5_unpick_70 : decode cX5_unpick 70 = .ok (.iadd, 1) := by decide +kernel
theorem dX5_unpick_71 : decode cX5_unpick 71 = .ok (.iconst (-1), 1) := by decide +kernel
theorem dX5_unpick_72 : decode cX5_unpick 72 = .ok (.iastore, 1) := by decide +kernel
theorem dX5_unpick_73 : decode cX5_unpick 73 = .ok (.aload_n 0, 1) := by decide +kernel
theorem dX5_unpick_74 : decode cX5_unpick 74 = .ok (.getfield 13, 3) := by decide +kernel
theorem dX5_unpick_77 : decode cX5_unpick 77 = .ok (.iload_n 2, 1) := by decide +kernel
theorem dX5_unpick_78 : decode cX5_unpick 78 = .ok (.iconst 4, 1) := by decide +kernel
theorem dX5_unpick_79 : decode cX5_unpick 79 = .ok (.iadd, 1) := by decide +kernel
theorem dX5_unpick_80 : decode cX5_unpick 80 = .ok (.iconst (-1), 1) := by decide +kernel
theorem dX5_unpick_81 : decode cX5_unpick 81 = .ok (.iastore, 1) := by decide +kernel
theorem dX5_unpick_82 : decode cX5_unpick 82 = .ok (.iconst 5, 1) := by decide +kernel
theorem dX5_unpick_83 : decode cX5_unpick 83 = .ok (.newarray .int, 2) := by decide +kernel
theorem dX5_unpick_85 : decode cX5_unpick 85 = .ok (.dup, 1) := by decide +kernel
theorem dX5_unpick_86 : decode cX5_unpick 86 = .ok (.iconst 0, 1) := by decide +kernel
theorem dX5_unpick_87 : decode cX5_unpick 87 = .ok (.iconst 3, 1) := by decide +kernel
theorem dX5_unpick_88 : decode cX5_unpick 88 = .ok (.iastore, 1) := by decide +kernel
theorem dX5_unpick_89 : decode cX5_unpick 89 = .ok (.dup, 1) := by decide +kernel
theorem dX5_unpick_90 : decode cX5_unpick 90 = .ok (.iconst 1, 1) := by decide +kernel
theorem dX5_unpick_91 : decode cX5_unpick 91 = .ok (.iconst 5, 1) := by decide +kernel
theorem dX5_unpick_92 : decode cX5_unpick 92 = .ok (.iastore, 1) := by decide +kernel
theorem dX5_unpick_93 : decode cX5_unpick 93 = .ok (.dup, 1) := by decide +kernel
theorem dX5_unpick_94 : decode cX5_unpick 94 = .ok (.iconst 2, 1) := by decide +kernel
theorem dX5_unpick_95 : decode cX5_unpick 95 = .ok (.bipush 6, 2) := by decide +kernel
theorem dX5_unpick_97 : decode cX5_unpick 97 = .ok (.iastore, 1) := by decide +kernel
theorem dX5_unpick_98 : decode cX5_unpick 98 = .ok (.dup, 1) := by decide +kernel
theorem dX5_unpick_99 : decode cX5_unpick 99 = .ok (.iconst 3, 1) := by decide +kernel
theorem dX5_unpick_100 : decode cX5_unpick 100 = .ok (.bipush 7, 2) := by decide +kernel
theorem dX5_unpick_102 : decode cX5_unpick 102 = .ok (.iastore, 1) := by decide +kernel
theorem dX5_unpick_103 : decode cX5_unpick 103 = .ok (.dup, 1) := by decide +kernel
theorem dX5_unpick_104 : decode cX5_unpick 104 = .ok (.iconst 4, 1) := by decide +kernel
theorem dX5_unpick_105 : decode cX5_unpick 105 = .ok (.bipush 10, 2) := by decide +kernel
theorem dX5_unpick_107 : decode cX5_unpick 107 = .ok (.iastore, 1) := by decide +kernel
theorem dX5_unpick_108 : decode cX5_unpick 108 = .ok (.astore 4, 2) := by decide +kernel
theorem dX5_unpick_110 : decode cX5_unpick 110 = .ok (.aload 4, 2) := by decide +kernel
theorem dX5_unpick_112 : decode cX5_unpick 112 = .ok (.astore 5, 2) := by decide +kernel
theorem dX5_unpick_114 : decode cX5_unpick 114 = .ok (.aload 5, 2) := by decide +kernel
theorem dX5_unpick_116 : decode cX5_unpick 116 = .ok (.arraylength, 1) := by decide +kernel
theorem dX5_unpick_117 : decode cX5_unpick 117 = .ok (.istore 6, 2) := by decide +kernel
theorem dX5_unpick_119 : decode cX5_unpick 119 = .ok (.iconst 0, 1) := by decide +kernel
theorem dX5_unpick_120 : decode cX5_unpick 120 = .ok (.istore 7, 2) := by decide +kernel
theorem dX5_unpick_122 : decode cX5_unpick 122 = .ok (.iload 7, 2) := by decide +kernel
theorem dX5_unpick_124 : decode cX5_unpick 124 = .ok (.iload 6, 2) := by decide +kernel
theorem dX5_unpick_126 : decode cX5_unpick 126 = .ok (.if_icmp .ge 26, 3) := by decide +kernel
theorem dX5_unpick_129 : decode cX5_unpick 129 = .ok (.aload 5, 2) := by decide +kernel
theorem dX5_unpick_131 : decode cX5_unpick 131 = .ok (.iload 7, 2) := by decide +kernel
theorem dX5_unpick_133 : decode cX5_unpick 133 = .ok (.iaload, 1) := by decide +kernel
theorem dX5_unpick_134 : decode cX5_unpick 134 = .ok (.istore 8, 2) := by decide +kernel
theorem dX5_unpick_136 : decode cX5_unpick 136 = .ok (.aload_n 0, 1) := by decide +kernel
theorem dX5_unpick_137 : decode cX5_unpick 137 = .ok (.getfield 13, 3) := by decide +kernel
theorem dX5_unpick_140 : decode cX5_unpick 140 = .ok (.iload_n 2, 1) := by decide +kernel
theorem dX5_unpick_141 : decode cX5_unpick 141 = .ok (.iload 8, 2) := by decide +kernel
theorem dX5_unpick_143 : decode cX5_unpick 143 = .ok (.iadd, 1) := by decide +kernel
theorem dX5_unpick_144 : decode cX5_unpick 144 = .ok (.iconst 0, 1) := by decide +kernel
theorem dX5_unpick_145 : decode cX5_unpick 145 = .ok (.iastore, 1) := by decide +kernel
theorem dX5_unpick_146 : decode cX5_unpick 146 = .ok (.iinc 7 1, 3) := by decide +kernel
theorem dX5_unpick_149 : decode cX5_unpick 149 = .ok (.goto (-27), 3) := by decide +kernel
theorem dX5_unpick_152 : decode cX5_unpick 152 = .ok (.iload_n 3, 1) := by decide +kernel
theorem dX5_unpick_153 : decode cX5_unpick 153 = .ok (.ireturn, 1) := by decide +kernel
set_option maxRecDepth 20000 in
theorem ggX5_sell_X5_isBook : GoodIn wsX5_sell wsX5_isBook := goodIn_r _ [7, 2, 8, 9, 6, 10, 22, 23, 24] (by decide +kernel) (by decide +kernel)
set_option maxRecDepth 20000 in
theorem gX5_sell_X5_isBook : GoodIn wsX5_sell (wsV RX5 41 RX5 yX5_isBook wsX5_isBook) := goodIn_app (goodIn_of _ (by decide +kernel)) ggX5_sell_X5_isBook
set_option maxRecDepth 20000 in
theorem ggX5_sell_X5_no : GoodIn wsX5_sell wsX5_no := goodIn_r _ [14, 1, 22, 23, 24] (by decide +kernel) (by decide +kernel)
set_option maxRecDepth 20000 in
theorem gX5_sell_X5_no : GoodIn wsX5_sell (wsV RX5 37 RX5 yX5_no wsX5_no) := goodIn_app (goodIn_of _ (by decide +kernel)) ggX5_sell_X5_no
set_option maxRecDepth 20000 in
theorem ggX5_sell_X5_worthOf : GoodIn wsX5_sell wsX5_worthOf := goodIn_r _ [17, 18, 19, 20, 21] (by decide +kernel) (by decide +kernel)
set_option maxRecDepth 20000 in
theorem gX5_sell_X5_worthOf : GoodIn wsX5_sell (va_wsS RX5 49 yX5_worthOf wsX5_worthOf) := goodIn_app (goodIn_of _ (by decide +kernel)) ggX5_sell_X5_worthOf
theorem dX5_sell_0 : decode cX5_sell 0 = .ok (.aload_n 0, 1) := by decide +kernel
theorem dX5_sell_1 : decode cX5_sell 1 = .ok (.iconst 0, 1) := by decide +kernel
theorem dX5_sell_2 : decode cX5_sell 2 = .ok (.putfield 1, 3) := by decide +kernel
theorem dX5_sell_5 : decode cX5_sell 5 = .ok (.aload_n 0, 1) := by decide +kernel
theorem dX5_sell_6 : decode cX5_sell 6 = .ok (.iload_n 1, 1) := by decide +kernel
theorem dX5_sell_7 : decode cX5_sell 7 = .ok (.invokevirtual 41, 3) := by decide +kernel
theorem dX5_sell_10 : decode cX5_sell 10 = .ok (.ifCond .ne 9, 3) := by decide +kernel
theorem dX5_sell_13 : decode cX5_sell 13 = .ok (.aload_n 0, 1) := by decide +kernel
theorem dX5_sell_14 : decode cX5_sell 14 = .ok (.iconst 1, 1) := by decide +kernel
theorem dX5_sell_15 : decode cX5_sell 15 = .ok (.invokevirtual 37, 3) := by decide +kernel
theorem dX5_sell_18 : decode cX5_sell 18 = .ok (.ireturn, 1) := by decide +kernel
theorem dX5_sell_19 : decode cX5_sell 19 = .ok (.bipush 11, 2) := by decide +kernel
theorem dX5_sell_21 : decode cX5_sell 21 = .ok (.iload_n 1, 1) := by decide +kernel
theorem dX5_sell_22 : decode cX5_sell 22 = .ok (.imul, 1) := by decide +kernel
theorem dX5_sell_23 : decode cX5_sell 23 = .ok (.istore_n 2, 1) := by decide +kernel
theorem dX5_sell_24 : decode cX5_sell 24 = .ok (.aload_n 0, 1) := by decide +kernel
theorem dX5_sell_25 : decode cX5_sell 25 = .ok (.getfield 13, 3) := by decide +kernel
theorem dX5_sell_28 : decode cX5_sell 28 = .ok (.iload_n 2, 1) := by decide +kernel
theorem dX5_sell_29 : decode cX5_sell 29 = .ok (.iconst 3, 1) := by decide +kernel
theorem dX5_sell_30 : decode cX5_sell 30 = .ok (.iadd, 1) := by decide +kernel
theorem dX5_sell_31 : decode cX5_sell 31 = .ok (.iaload, 1) := by decide +kernel
theorem dX5_sell_32 : decode cX5_sell 32 = .ok (.iconst 5, 1) := by decide +kernel
theorem dX5_sell_33 : decode cX5_sell 33 = .ok (.if_icmp .eq 9, 3) := by decide +kernel
theorem dX5_sell_36 : decode cX5_sell 36 = .ok (.aload_n 0, 1) := by decide +kernel
theorem dX5_sell_37 : decode cX5_sell 37 = .ok (.iconst 2, 1) := by decide +kernel
theorem dX5_sell_38 : decode cX5_sell 38 = .ok (.invokevirtual 37, 3) := by decide +kernel
theorem dX5_sell_41 : decode cX5_sell 41 = .ok (.ireturn, 1) := by decide +kernel
theorem dX5_sell_42 : decode cX5_sell 42 = .ok (.aload_n 0, 1) := by decide +kernel
theorem dX5_sell_43 : decode cX5_sell 43 = .ok (.getfield 13, 3) := by decide +kernel
theorem dX5_sell_46 : decode cX5_sell 46 = .ok (.iload_n 2, 1) := by decide +kernel
theorem dX5_sell_47 : decode cX5_sell 47 = .ok (.iconst 3, 1) := by decide +kernel
theorem dX5_sell_48 : decode cX5_sell 48 = .ok (.iadd, 1) := by decide +kernel
theorem dX5_sell_49 : decode cX5_sell 49 = .ok (.bipush 6, 2) := by decide +kernel
theorem dX5_sell_51 : decode cX5_sell 51 = .ok (.iastore, 1) := by decide +kernel
theorem dX5_sell_52 : decode cX5_sell 52 = .ok (.aload_n 0, 1) := by decide +kernel
theorem dX5_sell_53 : decode cX5_sell 53 = .ok (.getfield 13, 3) := by decide +kernel
theorem dX5_sell_56 : decode cX5_sell 56 = .ok (.sipush 187, 3) := by decide +kernel
theorem dX5_sell_59 : decode cX5_sell 59 = .ok (.dup2, 1) := by decide +kernel
theorem dX5_sell_60 : decode cX5_sell 60 = .ok (.iaload, 1) := by decide +kernel
theorem dX5_sell_61 : decode cX5_sell 61 = .ok (.aload_n 0, 1) := by decide +kernel
theorem dX5_sell_62 : decode cX5_sell 62 = .ok (.getfield 13, 3) := by decide +kernel
theorem dX5_sell_65 : decode cX5_sell 65 = .ok (.iload_n 2, 1) := by decide +kernel
theorem dX5_sell_66 : decode cX5_sell 66 = .ok (.invokestatic 49, 3) := by decide +kernel
theorem dX5_sell_69 : decode cX5_sell 69 = .ok (.iadd, 1) := by decide +kernel
theorem dX5_sell_70 : decode cX5_sell 70 = .ok (.iastore, 1) := by decide +kernel
theorem dX5_sell_71 : decode cX5_sell 71 = .ok (.aload_n 0, 1) := by decide +kernel
theorem dX5_sell_72 : decode cX5_sell 72 = .ok (.getfield 13, 3) := by decide +kernel
theorem dX5_sell_75 : decode cX5_sell 75 = .ok (.sipush 187, 3) := by decide +kernel
theorem dX5_sell_78 : decode cX5_sell 78 = .ok (.iaload, 1) := by decide +kernel
theorem dX5_sell_79 : decode cX5_sell 79 = .ok (.ireturn, 1) := by decide +kernel
set_option maxRecDepth 20000 in
theorem ggX5_bookTold_X5_worthOf : GoodIn wsX5_bookTold wsX5_worthOf := goodIn_r _ [5, 6, 7, 8, 9] (by decide +kernel) (by decide +kernel)
set_option maxRecDepth 20000 in
theorem gX5_bookTold_X5_worthOf : GoodIn wsX5_bookTold (va_wsS RX5 49 yX5_worthOf wsX5_worthOf) := goodIn_app (goodIn_of _ (by decide +kernel)) ggX5_bookTold_X5_worthOf
theorem dX5_bookTold_0 : decode cX5_bookTold 0 = .ok (.iload_n 2, 1) := by decide +kernel
theorem dX5_bookTold_1 : decode cX5_bookTold 1 = .ok (.bipush 10, 2) := by decide +kernel
theorem dX5_bookTold_3 : decode cX5_bookTold 3 = .ok (.if_icmp .ne 17, 3) := by decide +kernel
theorem dX5_bookTold_6 : decode cX5_bookTold 6 = .ok (.aload_n 0, 1) := by decide +kernel
theorem dX5_bookTold_7 : decode cX5_bookTold 7 = .ok (.getfield 13, 3) := by decide +kernel
theorem dX5_bookTold_10 : decode cX5_bookTold 10 = .ok (.bipush 11, 2) := by decide +kernel
theorem dX5_bookTold_12 : decode cX5_bookTold 12 = .ok (.iload_n 1, 1) := by decide +kernel
theorem dX5_bookTold_13 : decode cX5_bookTold 13 = .ok (.imul, 1) := by decide +kernel
theorem dX5_bookTold_14 : decode cX5_bookTold 14 = .ok (.invokestatic 49, 3) := by decide +kernel
theorem dX5_bookTold_17 : decode cX5_bookTold 17 = .ok (.goto 14, 3) := by decide +kernel
theorem dX5_bookTold_20 : decode cX5_bookTold 20 = .ok (.aload_n 0, 1) := by decide +kernel
theorem dX5_bookTold_21 : decode cX5_bookTold 21 = .ok (.getfield 13, 3) := by decide +kernel
theorem dX5_bookTold_24 : decode cX5_bookTold 24 = .ok (.bipush 11, 2) := by decide +kernel
theorem dX5_bookTold_26 : decode cX5_bookTold 26 = .ok (.iload_n 1, 1) := by decide +kernel
theorem dX5_bookTold_27 : decode cX5_bookTold 27 = .ok (.imul, 1) := by decide +kernel
theorem dX5_bookTold_28 : decode cX5_bookTold 28 = .ok (.iload_n 2, 1) := by decide +kernel
theorem dX5_bookTold_29 : decode cX5_bookTold 29 = .ok (.iadd, 1) := by decide +kernel
theorem dX5_bookTold_30 : decode cX5_bookTold 30 = .ok (.iaload, 1) := by decide +kernel
theorem dX5_bookTold_31 : decode cX5_bookTold 31 = .ok (.ireturn, 1) := by decide +kernel
set_option maxRecDepth 20000 in
theorem ggX5_told_X5_isBook : GoodIn wsX5_told wsX5_isBook := goodIn_r _ [6, 7, 8, 9, 5, 10, 26, 27, 28] (by decide +kernel) (by decide +kernel)
set_option maxRecDepth 20000 in
theorem gX5_told_X5_isBook : GoodIn wsX5_told (wsV RX5 41 RX5 yX5_isBook wsX5_isBook) := goodIn_app (goodIn_of _ (by decide +kernel)) ggX5_told_X5_isBook
set_option maxRecDepth 20000 in
theorem ggX5_told_X5_isIn : GoodIn wsX5_told wsX5_isIn := goodIn_r _ [10] (by decide +kernel) (by decide +kernel)
set_option maxRecDepth 20000 in
theorem gX5_told_X5_isIn : GoodIn wsX5_told (va_wsS RX5 20 yX5_isIn wsX5_isIn) := goodIn_app (goodIn_of _ (by decide +kernel)) ggX5_told_X5_isIn
set_option maxRecDepth 20000 in
theorem ggX5_told_X5_bookTold : GoodIn wsX5_told wsX5_bookTold := goodIn_r _ [14, 7, 15, 16, 5, 17, 18, 19, 20, 21, 26, 27, 28] (by decide +kernel) (by decide +kernel)
set_option maxRecDepth 20000 in
theorem gX5_told_X5_bookTold : GoodIn wsX5_told (wsV RX5 52 RX5 yX5_bookTold wsX5_bookTold) := goodIn_app (goodIn_of _ (by decide +kernel)) ggX5_told_X5_bookTold
set_option maxRecDepth 20000 in
theorem ggX5_told_X5_no : GoodIn wsX5_told wsX5_no := goodIn_r _ [25, 1, 26, 27, 28] (by decide +kernel) (by decide +kernel)
set_option maxRecDepth 20000 in
theorem gX5_told_X5_no : GoodIn wsX5_told (wsV RX5 37 RX5 yX5_no wsX5_no) := goodIn_app (goodIn_of _ (by decide +kernel)) ggX5_told_X5_no
theorem dX5_told_0 : decode cX5_told 0 = .ok (.aload_n 0, 1) := by decide +kernel
theorem dX5_told_1 : decode cX5_told 1 = .ok (.iconst 0, 1) := by decide +kernel
theorem dX5_told_2 : decode cX5_told 2 = .ok (.putfield 1, 3) := by decide +kernel
theorem dX5_told_5 : decode cX5_told 5 = .ok (.aload_n 0, 1) := by decide +kernel
theorem dX5_told_6 : decode cX5_told 6 = .ok (.iload_n 1, 1) := by decide +kernel
theorem dX5_told_7 : decode cX5_told 7 = .ok (.invokevirtual 41, 3) := by decide +kernel
theorem dX5_told_10 : decode cX5_told 10 = .ok (.ifCond .eq 22, 3) := by decide +kernel
theorem dX5_told_13 : decode cX5_told 13 = .ok (.iload_n 2, 1) := by decide +kernel
theorem dX5_told_14 : decode cX5_told 14 = .ok (.iconst 0, 1) := by decide +kernel
theorem dX5_told_15 : decode cX5_told 15 = .ok (.bipush 10, 2) := by decide +kernel
theorem dX5_told_17 : decode cX5_told 17 = .ok (.invokestatic 20, 3) := by decide +kernel
theorem dX5_told_20 : decode cX5_told 20 = .ok (.ifCond .eq 12, 3) := by decide +kernel
theorem dX5_told_23 : decode cX5_told 23 = .ok (.aload_n 0, 1) := by decide +kernel
theorem dX5_told_24 : decode cX5_told 24 = .ok (.iload_n 1, 1) := by decide +kernel
theorem dX5_told_25 : decode cX5_told 25 = .ok (.iload_n 2, 1) := by decide +kernel
theorem dX5_told_26 : decode cX5_told 26 = .ok (.invokevirtual 52, 3) := by decide +kernel
theorem dX5_told_29 : decode cX5_told 29 = .ok (.goto 8, 3) := by decide +kernel
theorem dX5_told_32 : decode cX5_told 32 = .ok (.aload_n 0, 1) := by decide +kernel
theorem dX5_told_33 : decode cX5_told 33 = .ok (.iconst 1, 1) := by decide +kernel
theorem dX5_told_34 : decode cX5_told 34 = .ok (.invokevirtual 37, 3) := by decide +kernel
theorem dX5_told_37 : decode cX5_told 37 = .ok (.ireturn, 1) := by decide +kernel
set_option maxRecDepth 20000 in
theorem ggX5_hire_X5_isIn : GoodIn wsX5_hire wsX5_isIn := goodIn_r _ [6] (by decide +kernel) (by decide +kernel)
set_option maxRecDepth 20000 in
theorem gX5_hire_X5_isIn : GoodIn wsX5_hire (va_wsS RX5 20 yX5_isIn wsX5_isIn) := goodIn_app (goodIn_of _ (by decide +kernel)) ggX5_hire_X5_isIn
set_option maxRecDepth 20000 in
theorem ggX5_hire_X5_no : GoodIn wsX5_hire wsX5_no := goodIn_r _ [10, 1, 11, 12, 13] (by decide +kernel) (by decide +kernel)
set_option maxRecDepth 20000 in
theorem gX5_hire_X5_no : GoodIn wsX5_hire (wsV RX5 37 RX5 yX5_no wsX5_no) := goodIn_app (goodIn_of _ (by decide +kernel)) ggX5_hire_X5_no
theorem dX5_hire_0 : decode cX5_hire 0 = .ok (.aload_n 0, 1) := by decide +kernel
theorem dX5_hire_1 : decode cX5_hire 1 = .ok (.iconst 0, 1) := by decide +kernel
theorem dX5_hire_2 : decode cX5_hire 2 = .ok (.putfield 1, 3) := by decide +kernel
theorem dX5_hire_5 : decode cX5_hire 5 = .ok (.iload_n 1, 1) := by decide +kernel
theorem dX5_hire_6 : decode cX5_hire 6 = .ok (.iconst 1, 1) := by decide +kernel
theorem dX5_hire_7 : decode cX5_hire 7 = .ok (.bipush 9, 2) := by decide +kernel
theorem dX5_hire_9 : decode cX5_hire 9 = .ok (.invokestatic 20, 3) := by decide +kernel
theorem dX5_hire_12 : decode cX5_hire 12 = .ok (.ifCond .ne 9, 3) := by decide +kernel
theorem dX5_hire_15 : decode cX5_hire 15 = .ok (.aload_n 0, 1) := by decide +kernel
theorem dX5_hire_16 : decode cX5_hire 16 = .ok (.iconst 1, 1) := by decide +kernel
theorem dX5_hire_17 : decode cX5_hire 17 = .ok (.invokevirtual 37, 3) := by decide +kernel
theorem dX5_hire_20 : decode cX5_hire 20 = .ok (.ireturn, 1) := by decide +kernel
theorem dX5_hire_21 : decode cX5_hire 21 = .ok (.aload_n 0, 1) := by decide +kernel
theorem dX5_hire_22 : decode cX5_hire 22 = .ok (.getfield 13, 3) := by decide +kernel
theorem dX5_hire_25 : decode cX5_hire 25 = .ok (.sipush 190, 3) := by decide +kernel
theorem dX5_hire_28 : decode cX5_hire 28 = .ok (.iaload, 1) := by decide +kernel
theorem dX5_hire_29 : decode cX5_hire 29 = .ok (.iconst 5, 1) := by decide +kernel
theorem dX5_hire_30 : decode cX5_hire 30 = .ok (.if_icmp .ne 9, 3) := by decide +kernel
theorem dX5_hire_33 : decode cX5_hire 33 = .ok (.aload_n 0, 1) := by decide +kernel
theorem dX5_hire_34 : decode cX5_hire 34 = .ok (.iconst 2, 1) := by decide +kernel
theorem dX5_hire_35 : decode cX5_hire 35 = .ok (.invokevirtual 37, 3) := by decide +kernel
theorem dX5_hire_38 : decode cX5_hire 38 = .ok (.ireturn, 1) := by decide +kernel
theorem dX5_hire_39 : decode cX5_hire 39 = .ok (.aload_n 0, 1) := by decide +kernel
theorem dX5_hire_40 : decode cX5_hire 40 = .ok (.getfield 13, 3) := by decide +kernel
theorem dX5_hire_43 : decode cX5_hire 43 = .ok (.sipush 174, 3) := by decide +kernel
theorem dX5_hire_46 : decode cX5_hire 46 = .ok (.iconst 2, 1) := by decide +kernel
theorem dX5_hire_47 : decode cX5_hire 47 = .ok (.aload_n 0, 1) := by decide +kernel
theorem dX5_hire_48 : decode cX5_hire 48 = .ok (.getfield 13, 3) := by decide +kernel
theorem dX5_hire_51 : decode cX5_hire 51 = .ok (.sipush 190, 3) := by decide +kernel
theorem dX5_hire_54 : decode cX5_hire 54 = .ok (.iaload, 1) := by decide +kernel
theorem dX5_hire_55 : decode cX5_hire 55 = .ok (.imul, 1) := by decide +kernel
theorem dX5_hire_56 : decode cX5_hire 56 = .ok (.iadd, 1) := by decide +kernel
theorem dX5_hire_57 : decode cX5_hire 57 = .ok (.iload_n 1, 1) := by decide +kernel
theorem dX5_hire_58 : decode cX5_hire 58 = .ok (.iastore, 1) := by decide +kernel
theorem dX5_hire_59 : decode cX5_hire 59 = .ok (.aload_n 0, 1) := by decide +kernel
theorem dX5_hire_60 : decode cX5_hire 60 = .ok (.getfield 13, 3) := by decide +kernel
theorem dX5_hire_63 : decode cX5_hire 63 = .ok (.sipush 174, 3) := by decide +kernel
theorem dX5_hire_66 : decode cX5_hire 66 = .ok (.iconst 2, 1) := by decide +kernel
theorem dX5_hire_67 : decode cX5_hire 67 = .ok (.aload_n 0, 1) := by decide +kernel
theorem dX5_hire_68 : decode cX5_hire 68 = .ok (.getfield 13, 3) := by decide +kernel
theorem dX5_hire_71 : decode cX5_hire 71 = .ok (.sipush 190, 3) := by decide +kernel
theorem dX5_hire_74 : decode cX5_hire 74 = .ok (.iaload, 1) := by decide +kernel
theorem dX5_hire_75 : decode cX5_hire 75 = .ok (.imul, 1) := by decide +kernel
theorem dX5_hire_76 : decode cX5_hire 76 = .ok (.iadd, 1) := by decide +kernel
theorem dX5_hire_77 : decode cX5_hire 77 = .ok (.iconst 1, 1) := by decide +kernel
theorem dX5_hire_78 : decode cX5_hire 78 = .ok (.iadd, 1) := by decide +kernel
theorem dX5_hire_79 : decode cX5_hire 79 = .ok (.iconst (-1), 1) := by decide +kernel
theorem dX5_hire_80 : decode cX5_hire 80 = .ok (.iastore, 1) := by decide +kernel
theorem dX5_hire_81 : decode cX5_hire 81 = .ok (.aload_n 0, 1) := by decide +kernel
theorem dX5_hire_82 : decode cX5_hire 82 = .ok (.getfield 13, 3) := by decide +kernel
theorem dX5_hire_85 : decode cX5_hire 85 = .ok (.sipush 190, 3) := by decide +kernel
theorem dX5_hire_88 : decode cX5_hire 88 = .ok (.dup2, 1) := by decide +kernel
theorem dX5_hire_89 : decode cX5_hire 89 = .ok (.iaload, 1) := by decide +kernel
theorem dX5_hire_90 : decode cX5_hire 90 = .ok (.iconst 1, 1) := by decide +kernel
theorem dX5_hire_91 : decode cX5_hire 91 = .ok (.iadd, 1) := by decide +kernel
theorem dX5_hire_92 : decode cX5_hire 92 = .ok (.iastore, 1) := by decide +kernel
theorem dX5_hire_93 : decode cX5_hire 93 = .ok (.aload_n 0, 1) := by decide +kernel
theorem dX5_hire_94 : decode cX5_hire 94 = .ok (.getfield 13, 3) := by decide +kernel
theorem dX5_hire_97 : decode cX5_hire 97 = .ok (.sipush 190, 3) := by decide +kernel
theorem dX5_hire_100 : decode cX5_hire 100 = .ok (.iaload, 1) := by decide +kernel
theorem dX5_hire_101 : decode cX5_hire 101 = .ok (.iconst 1, 1) := by decide +kernel
theorem dX5_hire_102 : decode cX5_hire 102 = .ok (.isub, 1) := by decide +kernel
theorem dX5_hire_103 : decode cX5_hire 103 = .ok (.ireturn, 1) := by decide +kernel
theorem dX5_others_0 : decode cX5_others 0 = .ok (.iconst 0, 1) := by decide +kernel
theorem dX5_others_1 : decode cX5_others 1 = .ok (.istore_n 3, 1) := by decide +kernel
theorem dX5_others_2 : decode cX5_others 2 = .ok (.iconst 0, 1) := by decide +kernel
theorem dX5_others_3 : decode cX5_others 3 = .ok (.istore 4, 2) := by decide +kernel
theorem dX5_others_5 : decode cX5_others 5 = .ok (.iload 4, 2) := by decide +kernel
theorem dX5_others_7 : decode cX5_others 7 = .ok (.aload_n 0, 1) := by decide +kernel
theorem dX5_others_8 : decode cX5_others 8 = .ok (.getfield 13, 3) := by decide +kernel
theorem dX5_others_11 : decode cX5_others 11 = .ok (.sipush 190, 3) := by decide +kernel
theorem dX5_others_14 : decode cX5_others 14 = .ok (.iaload, 1) := by decide +kernel
theorem dX5_others_15 : decode cX5_others 15 = .ok (.if_icmp .ge 42, 3) := by decide +kernel
theorem dX5_others_18 : decode cX5_others 18 = .ok (.iload_n 3, 1) := by decide +kernel
theorem dX5_others_19 : decode cX5_others 19 = .ok (.iload 4, 2) := by decide +kernel
theorem dX5_others_21 : decode cX5_others 21 = .ok (.iload_n 1, 1) := by decide +kernel
theorem dX5_others_22 : decode cX5_others 22 = .ok (.if_icmp .eq 26, 3) := by decide +kernel
theorem dX5_others_25 : decode cX5_others 25 = .ok (.aload_n 0, 1) := by decide +kernel
theorem dX5_others_26 : decode cX5_others 26 = .ok (.getfield 13, 3) := by decide +kernel
theorem dX5_others_29 : decode cX5_others 29 = .ok (.sipush 174, 3) := by decide +kernel
theorem dX5_others_32 : decode cX5_others 32 = .ok (.iconst 2, 1) := by decide +kernel
theorem dX5_others_33 : decode cX5_others 33 = .ok (.iload 4, 2) := by decide +kernel
theorem dX5_others_35 : decode cX5_others 35 = .ok (.imul, 1) := by decide +kernel
theorem dX5_others_36 : decode cX5_others 36 = .ok (.iadd, 1) := by decide +kernel
theorem dX5_others_37 : decode cX5_others 37 = .ok (.iconst 1, 1) := by decide +kernel
theorem dX5_others_38 : decode cX5_others 38 = .ok (.iadd, 1) := by decide +kernel
theorem dX5_others_39 : decode cX5_others 39 = .ok (.iaload, 1) := by decide +kernel
theorem dX5_others_40 : decode cX5_others 40 = .ok (.iload_n 2, 1) := by decide +kernel
theorem dX5_others_41 : decode cX5_others 41 = .ok (.if_icmp .ne 7, 3) := by decide +kernel
theorem dX5_others_44 : decode cX5_others 44 = .ok (.iconst 1, 1) := by decide +kernel
theorem dX5_others_45 : decode cX5_others 45 = .ok (.goto 4, 3) := by decide +kernel
theorem dX5_others_48 : decode cX5_others 48 = .ok (.iconst 0, 1) := by decide +kernel
theorem dX5_others_49 : decode cX5_others 49 = .ok (.iadd, 1) := by decide +kernel
theorem dX5_others_50 : decode cX5_others 50 = .ok (.istore_n 3, 1) := by decide +kernel
theorem dX5_others_51 : decode cX5_others 51 = .ok (.iinc 4 1, 3) := by decide +kernel
theorem dX5_others_54 : decode cX5_others 54 = .ok (.goto (-49), 3) := by decide +kernel
theorem dX5_others_57 : decode cX5_others 57 = .ok (.iload_n 3, 1) := by decide +kernel
theorem dX5_others_58 : decode cX5_others 58 = .ok (.ireturn, 1) := by decide +kernel
set_option maxRecDepth 20000 in
theorem ggX5_seat_X5_isSewer : GoodIn wsX5_seat wsX5_isSewer := goodIn_r _ [7, 2, 8, 9, 6, 10, 19, 20, 21] (by decide +kernel) (by decide +kernel)
set_option maxRecDepth 20000 in
theorem gX5_seat_X5_isSewer : GoodIn wsX5_seat (wsV RX5 55 RX5 yX5_isSewer wsX5_isSewer) := goodIn_app (goodIn_of _ (by decide +kernel)) ggX5_seat_X5_isSewer
set_option maxRecDepth 20000 in
theorem ggX5_seat_X5_isIn : GoodIn wsX5_seat wsX5_isIn := goodIn_r _ [10] (by decide +kernel) (by decide +kernel)
set_option maxRecDepth 20000 in
theorem gX5_seat_X5_isIn : GoodIn wsX5_seat (va_wsS RX5 20 yX5_isIn wsX5_isIn) := goodIn_app (goodIn_of _ (by decide +kernel)) ggX5_seat_X5_isIn
set_option maxRecDepth 20000 in
theorem ggX5_seat_X5_no : GoodIn wsX5_seat wsX5_no := goodIn_r _ [14, 1, 19, 20, 21] (by decide +kernel) (by decide +kernel)
set_option maxRecDepth 20000 in
theorem gX5_seat_X5_no : GoodIn wsX5_seat (wsV RX5 37 RX5 yX5_no wsX5_no) := goodIn_app (goodIn_of _ (by decide +kernel)) ggX5_seat_X5_no
set_option maxRecDepth 20000 in
theorem ggX5_seat_X5_others : GoodIn wsX5_seat wsX5_others := goodIn_r _ [18, 2, 19, 20, 21] (by decide +kernel) (by decide +kernel)
set_option maxRecDepth 20000 in
theorem gX5_seat_X5_others : GoodIn wsX5_seat (wsV RX5 58 RX5 yX5_others wsX5_others) := goodIn_app (goodIn_of _ (by decide +kernel)) ggX5_seat_X5_others
theorem dX5_seat_0 : decode cX5_seat 0 = .ok (.aload_n 0, 1) := by decide +kernel
theorem dX5_seat_1 : decode cX5_seat 1 = .ok (.iconst 0, 1) := by decide +kernel
theorem dX5_seat_2 : decode cX5_seat 2 = .ok (.putfield 1, 3) := by decide +kernel
theorem dX5_seat_5 : decode cX5_seat 5 = .ok (.aload_n 0, 1) := by decide +kernel
theorem dX5_seat_6 : decode cX5_seat 6 = .ok (.iload_n 1, 1) := by decide +kernel
theorem dX5_seat_7 : decode cX5_seat 7 = .ok (.invokevirtual 55, 3) := by decide +kernel
theorem dX5_seat_10 : decode cX5_seat 10 = .ok (.ifCond .eq 12, 3) := by decide +kernel
theorem dX5_seat_13 : decode cX5_seat 13 = .ok (.iload_n 2, 1) := by decide +kernel
theorem dX5_seat_14 : decode cX5_seat 14 = .ok (.iconst (-1), 1) := by decide +kernel
theorem dX5_seat_15 : decode cX5_seat 15 = .ok (.iconst 2, 1) := by decide +kernel
theorem dX5_seat_16 : decode cX5_seat 16 = .ok (.invokestatic 20, 3) := by decide +kernel
theorem dX5_seat_19 : decode cX5_seat 19 = .ok (.ifCond .ne 9, 3) := by decide +kernel
theorem dX5_seat_22 : decode cX5_seat 22 = .ok (.aload_n 0, 1) := by decide +kernel
theorem dX5_seat_23 : decode cX5_seat 23 = .ok (.iconst 1, 1) := by decide +kernel
theorem dX5_seat_24 : decode cX5_seat 24 = .ok (.invokevirtual 37, 3) := by decide +kernel
theorem dX5_seat_27 : decode cX5_seat 27 = .ok (.ireturn, 1) := by decide +kernel
theorem dX5_seat_28 : decode cX5_seat 28 = .ok (.iload_n 2, 1) := by decide +kernel
theorem dX5_seat_29 : decode cX5_seat 29 = .ok (.ifCond .lt 19, 3) := by decide +kernel
theorem dX5_seat_32 : decode cX5_seat 32 = .ok (.aload_n 0, 1) := by decide +kernel
theorem dX5_seat_33 : decode cX5_seat 33 = .ok (.iload_n 1, 1) := by decide +kernel
theorem dX5_seat_34 : decode cX5_seat 34 = .ok (.iload_n 2, 1) := by decide +kernel
theorem dX5_seat_35 : decode cX5_seat 35 = .ok (.invokevirtual 58, 3) := by decide +kernel
theorem dX5_seat_38 : decode cX5_seat 38 = .ok (.iconst 1, 1) := by decide +kernel
theorem dX5_seat_39 : decode cX5_seat 39 = .ok (.if_icmp .le 9, 3) := by decide +kernel
theorem dX5_seat_42 : decode cX5_seat 42 = .ok (.aload_n 0, 1) := by decide +kernel
theorem dX5_seat_43 : decode cX5_seat 43 = .ok (.iconst 2, 1) := by decide +kernel
theorem dX5_seat_44 : decode cX5_seat 44 = .ok (.invokevirtual 37, 3) := by decide +kernel
theorem dX5_seat_47 : decode cX5_seat 47 = .ok (.ireturn, 1) := by decide +kernel
theorem dX5_seat_48 : decode cX5_seat 48 = .ok (.aload_n 0, 1) := by decide +kernel
theorem dX5_seat_49 : decode cX5_seat 49 = .ok (.getfield 13, 3) := by decide +kernel
theorem dX5_seat_52 : decode cX5_seat 52 = .ok (.sipush 174, 3) := by decide +kernel
theorem dX5_seat_55 : decode cX5_seat 55 = .ok (.iconst 2, 1) := by decide +kernel
theorem dX5_seat_56 : decode cX5_seat 56 = .ok (.iload_n 1, 1) := by decide +kernel
theorem dX5_seat_57 : decode cX5_seat 57 = .ok (.imul, 1) := by decide +kernel
theorem dX5_seat_58 : decode cX5_seat 58 = .ok (.iadd, 1) := by decide +kernel
theorem dX5_seat_59 : decode cX5_seat 59 = .ok (.iconst 1, 1) := by decide +kernel
theorem dX5_seat_60 : decode cX5_seat 60 = .ok (.iadd, 1) := by decide +kernel
theorem dX5_seat_61 : decode cX5_seat 61 = .ok (.iaload, 1) := by decide +kernel
theorem dX5_seat_62 : decode cX5_seat 62 = .ok (.istore_n 3, 1) := by decide +kernel
theorem dX5_seat_63 : decode cX5_seat 63 = .ok (.aload_n 0, 1) := by decide +kernel
theorem dX5_seat_64 : decode cX5_seat 64 = .ok (.getfield 13, 3) := by decide +kernel
theorem dX5_seat_67 : decode cX5_seat 67 = .ok (.sipush 174, 3) := by decide +kernel
theorem dX5_seat_70 : decode cX5_seat 70 = .ok (.iconst 2, 1) := by decide +kernel
theorem dX5_seat_71 : decode cX5_seat 71 = .ok (.iload_n 1, 1) := by decide +kernel
theorem dX5_seat_72 : decode cX5_seat 72 = .ok (.imul, 1) := by decide +kernel
theorem dX5_seat_73 : decode cX5_seat 73 = .ok (.iadd, 1) := by decide +kernel
theorem dX5_seat_74 : decode cX5_seat 74 = .ok (.iconst 1, 1) := by decide +kernel
theorem dX5_seat_75 : decode cX5_seat 75 = .ok (.iadd, 1) := by decide +kernel
theorem dX5_seat_76 : decode cX5_seat 76 = .ok (.iload_n 2, 1) := by decide +kernel
theorem dX5_seat_77 : decode cX5_seat 77 = .ok (.iastore, 1) := by decide +kernel
theorem dX5_seat_78 : decode cX5_seat 78 = .ok (.iload_n 3, 1) := by decide +kernel
theorem dX5_seat_79 : decode cX5_seat 79 = .ok (.ireturn, 1) := by decide +kernel
set_option maxRecDepth 20000 in
theorem ggX5_sewer_X5_isSewer : GoodIn wsX5_sewer wsX5_isSewer := goodIn_r _ [7, 2, 8, 9, 6, 10, 15, 16, 17] (by decide +kernel) (by decide +kernel)
set_option maxRecDepth 20000 in
theorem gX5_sewer_X5_isSewer : GoodIn wsX5_sewer (wsV RX5 55 RX5 yX5_isSewer wsX5_isSewer) := goodIn_app (goodIn_of _ (by decide +kernel)) ggX5_sewer_X5_isSewer
set_option maxRecDepth 20000 in
theorem ggX5_sewer_X5_isIn : GoodIn wsX5_sewer wsX5_isIn := goodIn_r _ [10] (by decide +kernel) (by decide +kernel)
set_option maxRecDepth 20000 in
theorem gX5_sewer_X5_isIn : GoodIn wsX5_sewer (va_wsS RX5 20 yX5_isIn wsX5_isIn) := goodIn_app (goodIn_of _ (by decide +kernel)) ggX5_sewer_X5_isIn
set_option maxRecDepth 20000 in
theorem ggX5_sewer_X5_no : GoodIn wsX5_sewer wsX5_no := goodIn_r _ [14, 1, 15, 16, 17] (by decide +kernel) (by decide +kernel)
set_option maxRecDepth 20000 in
theorem gX5_sewer_X5_no : GoodIn wsX5_sewer (wsV RX5 37 RX5 yX5_no wsX5_no) := goodIn_app (goodIn_of _ (by decide +kernel)) ggX5_sewer_X5_no
theorem dX5_sewer_0 : decode cX5_sewer 0 = .ok (.aload_n 0, 1) := by decide +kernel
theorem dX5_sewer_1 : decode cX5_sewer 1 = .ok (.iconst 0, 1) := by decide +kernel
theorem dX5_sewer_2 : decode cX5_sewer 2 = .ok (.putfield 1, 3) := by decide +kernel
theorem dX5_sewer_5 : decode cX5_sewer 5 = .ok (.aload_n 0, 1) := by decide +kernel
theorem dX5_sewer_6 : decode cX5_sewer 6 = .ok (.iload_n 1, 1) := by decide +kernel
theorem dX5_sewer_7 : decode cX5_sewer 7 = .ok (.invokevirtual 55, 3) := by decide +kernel
theorem dX5_sewer_10 : decode cX5_sewer 10 = .ok (.ifCond .eq 29, 3) := by decide +kernel
theorem dX5_sewer_13 : decode cX5_sewer 13 = .ok (.iload_n 2, 1) := by decide +kernel
theorem dX5_sewer_14 : decode cX5_sewer 14 = .ok (.iconst 0, 1) := by decide +kernel
theorem dX5_sewer_15 : decode cX5_sewer 15 = .ok (.iconst 1, 1) := by decide +kernel
theorem dX5_sewer_16 : decode cX5_sewer 16 = .ok (.invokestatic 20, 3) := by decide +kernel
theorem dX5_sewer_19 : decode cX5_sewer 19 = .ok (.ifCond .eq 20, 3) := by decide +kernel
theorem dX5_sewer_22 : decode cX5_sewer 22 = .ok (.aload_n 0, 1) := by decide +kernel
theorem dX5_sewer_23 : decode cX5_sewer 23 = .ok (.getfield 13, 3) := by decide +kernel
theorem dX5_sewer_26 : decode cX5_sewer 26 = .ok (.sipush 174, 3) := by decide +kernel
theorem dX5_sewer_29 : decode cX5_sewer 29 = .ok (.iconst 2, 1) := by decide +kernel
theorem dX5_sewer_30 : decode cX5_sewer 30 = .ok (.iload_n 1, 1) := by decide +kernel
theorem dX5_sewer_31 : decode cX5_sewer 31 = .ok (.imul, 1) := by decide +kernel
theorem dX5_sewer_32 : decode cX5_sewer 32 = .ok (.iadd, 1) := by decide +kernel
theorem dX5_sewer_33 : decode cX5_sewer 33 = .ok (.iload_n 2, 1) := by decide +kernel
theorem dX5_sewer_34 : decode cX5_sewer 34 = .ok (.iadd, 1) := by decide +kernel
theorem dX5_sewer_35 : decode cX5_sewer 35 = .ok (.iaload, 1) := by decide +kernel
theorem dX5_sewer_36 : decode cX5_sewer 36 = .ok (.goto 8, 3) := by decide +kernel
theorem dX5_sewer_39 : decode cX5_sewer 39 = .ok (.aload_n 0, 1) := by decide +kernel
theorem dX5_sewer_40 : decode cX5_sewer 40 = .ok (.iconst 1, 1) := by decide +kernel
theorem dX5_sewer_41 : decode cX5_sewer 41 = .ok (.invokevirtual 37, 3) := by decide +kernel
theorem dX5_sewer_44 : decode cX5_sewer 44 = .ok (.ireturn, 1) := by decide +kernel
set_option maxRecDepth 20000 in
theorem ggX5_string_X5_isFrame : GoodIn wsX5_string wsX5_isFrame := goodIn_r _ [6, 7, 8, 5, 9] (by decide +kernel) (by decide +kernel)
set_option maxRecDepth 20000 in
theorem gX5_string_X5_isFrame : GoodIn wsX5_string (va_wsS RX5 61 yX5_isFrame wsX5_isFrame) := goodIn_app (goodIn_of _ (by decide +kernel)) ggX5_string_X5_isFrame
set_option maxRecDepth 20000 in
theorem ggX5_string_X5_no : GoodIn wsX5_string wsX5_no := goodIn_r _ [13, 1, 14, 15, 16] (by decide +kernel) (by decide +kernel)
set_option maxRecDepth 20000 in
theorem gX5_string_X5_no : GoodIn wsX5_string (wsV RX5 37 RX5 yX5_no wsX5_no) := goodIn_app (goodIn_of _ (by decide +kernel)) ggX5_string_X5_no
set_option maxRecDepth 20000 in
theorem ggX5_string_X5_isIn : GoodIn wsX5_string wsX5_isIn := goodIn_r _ [9] (by decide +kernel) (by decide +kernel)
set_option maxRecDepth 20000 in
theorem gX5_string_X5_isIn : GoodIn wsX5_string (va_wsS RX5 20 yX5_isIn wsX5_isIn) := goodIn_app (goodIn_of _ (by decide +kernel)) ggX5_string_X5_isIn
theorem dX5_string_0 : decode cX5_string 0 = .ok (.aload_n 0, 1) := by decide +kernel
theorem dX5_string_1 : decode cX5_string 1 = .ok (.iconst 0, 1) := by decide +kernel
theorem dX5_string_2 : decode cX5_string 2 = .ok (.putfield 1, 3) := by decide +kernel
theorem dX5_string_5 : decode cX5_string 5 = .ok (.iload_n 1, 1) := by decide +kernel
theorem dX5_string_6 : decode cX5_string 6 = .ok (.invokestatic 61, 3) := by decide +kernel
theorem dX5_string_9 : decode cX5_string 9 = .ok (.ifCond .ne 9, 3) := by decide +kernel
theorem dX5_string_12 : decode cX5_string 12 = .ok (.aload_n 0, 1) := by decide +kernel
theorem dX5_string_13 : decode cX5_string 13 = .ok (.iconst 1, 1) := by decide +kernel
theorem dX5_string_14 : decode cX5_string 14 = .ok (.invokevirtual 37, 3) := by decide +kernel
theorem dX5_string_17 : decode cX5_string 17 = .ok (.ireturn, 1) := by decide +kernel
theorem dX5_string_18 : decode cX5_string 18 = .ok (.iload_n 2, 1) := by decide +kernel
theorem dX5_string_19 : decode cX5_string 19 = .ok (.iconst 2, 1) := by decide +kernel
theorem dX5_string_20 : decode cX5_string 20 = .ok (.bipush 6, 2) := by decide +kernel
theorem dX5_string_22 : decode cX5_string 22 = .ok (.invokestatic 20, 3) := by decide +kernel
theorem dX5_string_25 : decode cX5_string 25 = .ok (.ifCond .ne 9, 3) := by decide +kernel
theorem dX5_string_28 : decode cX5_string 28 = .ok (.aload_n 0, 1) := by decide +kernel
theorem dX5_string_29 : decode cX5_string 29 = .ok (.iconst 2, 1) := by decide +kernel
theorem dX5_string_30 : decode cX5_string 30 = .ok (.invokevirtual 37, 3) := by decide +kernel
theorem dX5_string_33 : decode cX5_string 33 = .ok (.ireturn, 1) := by decide +kernel
theorem dX5_string_34 : decode cX5_string 34 = .ok (.aload_n 0, 1) := by decide +kernel
theorem dX5_string_35 : decode cX5_string 35 = .ok (.getfield 13, 3) := by decide +kernel
theorem dX5_string_38 : decode cX5_string 38 = .ok (.sipush 165, 3) := by decide +kernel
theorem dX5_string_41 : decode cX5_string 41 = .ok (.iconst 3, 1) := by decide +kernel
theorem dX5_string_42 : decode cX5_string 42 = .ok (.iload_n 1, 1) := by decide +kernel
theorem dX5_string_43 : decode cX5_string 43 = .ok (.imul, 1) := by decide +kernel
theorem dX5_string_44 : decode cX5_string 44 = .ok (.iadd, 1) := by decide +kernel
theorem dX5_string_45 : decode cX5_string 45 = .ok (.iconst 1, 1) := by decide +kernel
theorem dX5_string_46 : decode cX5_string 46 = .ok (.iadd, 1) := by decide +kernel
theorem dX5_string_47 : decode cX5_string 47 = .ok (.iaload, 1) := by decide +kernel
theorem dX5_string_48 : decode cX5_string 48 = .ok (.ifCond .lt 9, 3) := by decide +kernel
theorem dX5_string_51 : decode cX5_string 51 = .ok (.aload_n 0, 1) := by decide +kernel
theorem dX5_string_52 : decode cX5_string 52 = .ok (.iconst 3, 1) := by decide +kernel
theorem dX5_string_53 : decode cX5_string 53 = .ok (.invokevirtual 37, 3) := by decide +kernel
theorem dX5_string_56 : decode cX5_string 56 = .ok (.ireturn, 1) := by decide +kernel
theorem dX5_string_57 : decode cX5_string 57 = .ok (.aload_n 0, 1) := by decide +kernel
theorem dX5_string_58 : decode cX5_string 58 = .ok (.getfield 13, 3) := by decide +kernel
theorem dX5_string_61 : decode cX5_string 61 = .ok (.sipush 165, 3) := by decide +kernel
theorem dX5_string_64 : decode cX5_string 64 = .ok (.iconst 3, 1) := by decide +kernel
theorem dX5_string_65 : decode cX5_string 65 = .ok (.iload_n 1, 1) := by decide +kernel
theorem dX5_string_66 : decode cX5_string 66 = .ok (.imul, 1) := by decide +kernel
theorem dX5_string_67 : decode cX5_string 67 = .ok (.iadd, 1) := by decide +kernel
theorem dX5_string_68 : decode cX5_string 68 = .ok (.iaload, 1) := by decide +kernel
theorem dX5_string_69 : decode cX5_string 69 = .ok (.istore_n 3, 1) := by decide +kernel
theorem dX5_string_70 : decode cX5_string 70 = .ok (.aload_n 0, 1) := by decide +kernel
theorem dX5_string_71 : decode cX5_string 71 = .ok (.getfield 13, 3) := by decide +kernel
theorem dX5_string_74 : decode cX5_string 74 = .ok (.sipush 165, 3) := by decide +kernel
theorem dX5_string_77 : decode cX5_string 77 = .ok (.iconst 3, 1) := by decide +kernel
theorem dX5_string_78 : decode cX5_string 78 = .ok (.iload_n 1, 1) := by decide +kernel
theorem dX5_string_79 : decode cX5_string 79 = .ok (.imul, 1) := by decide +kernel
theorem dX5_string_80 : decode cX5_string 80 = .ok (.iadd, 1) := by decide +kernel
theorem dX5_string_81 : decode cX5_string 81 = .ok (.iload_n 2, 1) := by decide +kernel
theorem dX5_string_82 : decode cX5_string 82 = .ok (.iastore, 1) := by decide +kernel
theorem dX5_string_83 : decode cX5_string 83 = .ok (.iload_n 3, 1) := by decide +kernel
theorem dX5_string_84 : decode cX5_string 84 = .ok (.ireturn, 1) := by decide +kernel
theorem dX5_rate_0 : decode cX5_rate 0 = .ok (.iconst 0, 1) := by decide +kernel
theorem dX5_rate_1 : decode cX5_rate 1 = .ok (.istore_n 2, 1) := by decide +kernel
theorem dX5_rate_2 : decode cX5_rate 2 = .ok (.iconst 0, 1) := by decide +kernel
theorem dX5_rate_3 : decode cX5_rate 3 = .ok (.istore_n 3, 1) := by decide +kernel
theorem dX5_rate_4 : decode cX5_rate 4 = .ok (.iconst 0, 1) := by decide +kernel
theorem dX5_rate_5 : decode cX5_rate 5 = .ok (.istore 4, 2) := by decide +kernel
theorem dX5_rate_7 : decode cX5_rate 7 = .ok (.iload 4, 2) := by decide +kernel
theorem dX5_rate_9 : decode cX5_rate 9 = .ok (.aload_n 0, 1) := by decide +kernel
theorem dX5_rate_10 : decode cX5_rate 10 = .ok (.sipush 190, 3) := by decide +kernel
theorem dX5_rate_13 : decode cX5_rate 13 = .ok (.iaload, 1) := by decide +kernel
theorem dX5_rate_14 : decode cX5_rate 14 = .ok (.if_icmp .ge 44, 3) := by decide +kernel
theorem dX5_rate_17 : decode cX5_rate 17 = .ok (.aload_n 0, 1) := by decide +kernel
theorem dX5_rate_18 : decode cX5_rate 18 = .ok (.sipush 174, 3) := by decide +kernel
theorem dX5_rate_21 : decode cX5_rate 21 = .ok (.iconst 2, 1) := by decide +kernel
theorem dX5_rate_22 : decode cX5_rate 22 = .ok (.iload 4, 2) := by decide +kernel
theorem dX5_rate_24 : decode cX5_rate 24 = .ok (.imul, 1) := by decide +kernel
theorem dX5_rate_25 : decode cX5_rate 25 = .ok (.iadd, 1) := by decide +kernel
theorem dX5_rate_26 : decode cX5_rate 26 = .ok (.iconst 1, 1) := by decide +kernel
theorem dX5_rate_27 : decode cX5_rate 27 = .ok (.iadd, 1) := by decide +kernel
theorem dX5_rate_28 : decode cX5_rate 28 = .ok (.iaload, 1) := by decide +kernel
theorem dX5_rate_29 : decode cX5_rate 29 = .ok (.iload_n 1, 1) := by decide +kernel
theorem dX5_rate_30 : decode cX5_rate 30 = .ok (.if_icmp .eq 6, 3) := by decide +kernel
theorem dX5_rate_33 : decode cX5_rate 33 = .ok (.goto 19, 3) := by decide +kernel
theorem dX5_rate_36 : decode cX5_rate 36 = .ok (.iinc 2 1, 3) := by decide +kernel
theorem dX5_rate_39 : decode cX5_rate 39 = .ok (.iload_n 3, 1) := by decide +kernel
theorem dX5_rate_40 : decode cX5_rate 40 = .ok (.aload_n 0, 1) := by decide +kernel
theorem dX5_rate_41 : decode cX5_rate 41 = .ok (.sipush 174, 3) := by decide +kernel
theorem dX5_rate_44 : decode cX5_rate 44 = .ok (.iconst 2, 1) := by decide +kernel
theorem dX5_rate_45 : decode cX5_rate 45 = .ok (.iload 4, 2) := by decide +kernel
theorem dX5_rate_47 : decode cX5_rate 47 = .ok (.imul, 1) := by decide +kernel
theorem dX5_rate_48 : decode cX5_rate 48 = .ok (.iadd, 1) := by decide +kernel
theorem dX5_rate_49 : decode cX5_rate 49 = .ok (.iaload, 1) := by decide +kernel
theorem dX5_rate_50 : decode cX5_rate 50 = .ok (.iadd, 1) := by decide +kernel
theorem dX5_rate_51 : decode cX5_rate 51 = .ok (.istore_n 3, 1) := by decide +kernel
theorem dX5_rate_52 : decode cX5_rate 52 = .ok (.iinc 4 1, 3) := by decide +kernel
theorem dX5_rate_55 : decode cX5_rate 55 = .ok (.goto (-48), 3) := by decide +kernel
theorem dX5_rate_58 : decode cX5_rate 58 = .ok (.iload_n 2, 1) := by decide +kernel
theorem dX5_rate_59 : decode cX5_rate 59 = .ok (.iconst 2, 1) := by decide +kernel
theorem dX5_rate_60 : decode cX5_rate 60 = .ok (.if_icmp .ne 13, 3) := by decide +kernel
theorem dX5_rate_63 : decode cX5_rate 63 = .ok (.iconst 1, 1) := by decide +kernel
theorem dX5_rate_64 : decode cX5_rate 64 = .ok (.iload_n 3, 1) := by decide +kernel
theorem dX5_rate_65 : decode cX5_rate 65 = .ok (.iconst 3, 1) := by decide +kernel
theorem dX5_rate_66 : decode cX5_rate 66 = .ok (.isub, 1) := by decide +kernel
theorem dX5_rate_67 : decode cX5_rate 67 = .ok (.invokestatic 24, 3) := by decide +kernel
theorem dX5_rate_70 : decode cX5_rate 70 = .ok (.goto 4, 3) := by decide +kernel
theorem dX5_rate_73 : decode cX5_rate 73 = .ok (.iload_n 3, 1) := by decide +kernel
theorem dX5_rate_74 : decode cX5_rate 74 = .ok (.ireturn, 1) := by decide +kernel
set_option maxRecDepth 20000 in
theorem ggX5_left_X5_upTo : GoodIn wsX5_left wsX5_upTo := goodIn_r _ [5, 6, 7, 4, 8] (by decide +kernel) (by decide +kernel)
set_option maxRecDepth 20000 in
theorem gX5_left_X5_upTo : GoodIn wsX5_left (va_wsS RX5 34 yX5_upTo wsX5_upTo) := goodIn_app (goodIn_of _ (by decide +kernel)) ggX5_left_X5_upTo
set_option maxRecDepth 20000 in
theorem ggX5_left_X5_inBook : GoodIn wsX5_left wsX5_inBook := goodIn_r _ [11, 2, 3, 4, 5, 6, 7, 8] (by decide +kernel) (by decide +kernel)
set_option maxRecDepth 20000 in
theorem gX5_left_X5_inBook : GoodIn wsX5_left (va_wsS RX5 45 yX5_inBook wsX5_inBook) := goodIn_app (goodIn_of _ (by decide +kernel)) ggX5_left_X5_inBook
theorem dX5_left_0 : decode cX5_left 0 = .ok (.iload_n 1, 1) := by decide +kernel
theorem dX5_left_1 : decode cX5_left 1 = .ok (.ifCond .ge 7, 3) := by decide +kernel
theorem dX5_left_4 : decode cX5_left 4 = .ok (.iconst 0, 1) := by decide +kernel
theorem dX5_left_5 : decode cX5_left 5 = .ok (.goto 35, 3) := by decide +kernel
theorem dX5_left_8 : decode cX5_left 8 = .ok (.aload_n 0, 1) := by decide +kernel
theorem dX5_left_9 : decode cX5_left 9 = .ok (.getfield 13, 3) := by decide +kernel
theorem dX5_left_12 : decode cX5_left 12 = .ok (.bipush 11, 2) := by decide +kernel
theorem dX5_left_14 : decode cX5_left 14 = .ok (.iload_n 1, 1) := by decide +kernel
theorem dX5_left_15 : decode cX5_left 15 = .ok (.imul, 1) := by decide +kernel
theorem dX5_left_16 : decode cX5_left 16 = .ok (.aload_n 0, 1) := by decide +kernel
theorem dX5_left_17 : decode cX5_left 17 = .ok (.getfield 13, 3) := by decide +kernel
theorem dX5_left_20 : decode cX5_left 20 = .ok (.bipush 11, 2) := by decide +kernel
theorem dX5_left_22 : decode cX5_left 22 = .ok (.iload_n 1, 1) := by decide +kernel
theorem dX5_left_23 : decode cX5_left 23 = .ok (.imul, 1) := by decide +kernel
theorem dX5_left_24 : decode cX5_left 24 = .ok (.iaload, 1) := by decide +kernel
theorem dX5_left_25 : decode cX5_left 25 = .ok (.invokestatic 34, 3) := by decide +kernel
theorem dX5_left_28 : decode cX5_left 28 = .ok (.aload_n 0, 1) := by decide +kernel
theorem dX5_left_29 : decode cX5_left 29 = .ok (.getfield 13, 3) := by decide +kernel
theorem dX5_left_32 : decode cX5_left 32 = .ok (.bipush 11, 2) := by decide +kernel
theorem dX5_left_34 : decode cX5_left 34 = .ok (.iload_n 1, 1) := by decide +kernel
theorem dX5_left_35 : decode cX5_left 35 = .ok (.imul, 1) := by decide +kernel
theorem dX5_left_36 : decode cX5_left 36 = .ok (.invokestatic 45, 3) := by decide +kernel
theorem dX5_left_39 : decode cX5_left 39 = .ok (.isub, 1) := by decide +kernel
theorem dX5_left_40 : decode cX5_left 40 = .ok (.ireturn, 1) := by decide +kernel
set_option maxRecDepth 20000 in
theorem ggX5_frameTold_X5_others : GoodIn wsX5_frameTold wsX5_others := goodIn_r _ [6, 1, 27, 28, 29] (by decide +kernel) (by decide +kernel)
set_option maxRecDepth 20000 in
theorem gX5_frameTold_X5_others : GoodIn wsX5_frameTold (wsV RX5 58 RX5 yX5_others wsX5_others) := goodIn_app (goodIn_of _ (by decide +kernel)) ggX5_frameTold_X5_others
set_option maxRecDepth 20000 in
theorem ggX5_frameTold_X5_rate : GoodIn wsX5_frameTold wsX5_rate := goodIn_r _ [9, 10, 11, 12, 13] (by decide +kernel) (by decide +kernel)
set_option maxRecDepth 20000 in
theorem gX5_frameTold_X5_rate : GoodIn wsX5_frameTold (va_wsS RX5 64 yX5_rate wsX5_rate) := goodIn_app (goodIn_of _ (by decide +kernel)) ggX5_frameTold_X5_rate
set_option maxRecDepth 20000 in
theorem ggX5_frameTold_X5_left : GoodIn wsX5_frameTold wsX5_left := goodIn_r _ [17, 1, 18, 19, 5, 20, 21, 22, 23, 24, 25, 26, 27, 28, 29] (by decide +kernel) (by decide +kernel)
set_option maxRecDepth 20000 in
theorem gX5_frameTold_X5_left : GoodIn wsX5_frameTold (wsV RX5 67 RX5 yX5_left wsX5_left) := goodIn_app (goodIn_of _ (by decide +kernel)) ggX5_frameTold_X5_left
theorem dX5_frameTold_0 : decode cX5_frameTold 0 = .ok (.sipush 165, 3) := by decide +kernel
theorem dX5_frameTold_3 : decode cX5_frameTold 3 = .ok (.iconst 3, 1) := by decide +kernel
theorem dX5_frameTold_4 : decode cX5_frameTold 4 = .ok (.iload_n 1, 1) := by decide +kernel
theorem dX5_frameTold_5 : decode cX5_frameTold 5 = .ok (.imul, 1) := by decide +kernel
theorem dX5_frameTold_6 : decode cX5_frameTold 6 = .ok (.iadd, 1) := by decide +kernel
theorem dX5_frameTold_7 : decode cX5_frameTold 7 = .ok (.istore_n 3, 1) := by decide +kernel
theorem dX5_frameTold_8 : decode cX5_frameTold 8 = .ok (.iload_n 2, 1) := by decide +kernel
theorem dX5_frameTold_9 : decode cX5_frameTold 9 = .ok (.tableswitch 69 2 5 #[31, 38, 47, 60], 31) := by decide +kernel
theorem dX5_frameTold_40 : decode cX5_frameTold 40 = .ok (.aload_n 0, 1) := by decide +kernel
theorem dX5_frameTold_41 : decode cX5_frameTold 41 = .ok (.iconst (-1), 1) := by decide +kernel
theorem dX5_frameTold_42 : decode cX5_frameTold 42 = .ok (.iload_n 1, 1) := by decide +kernel
theorem dX5_frameTold_43 : decode cX5_frameTold 43 = .ok (.invokevirtual 58, 3) := by decide +kernel
theorem dX5_frameTold_46 : decode cX5_frameTold 46 = .ok (.ireturn, 1) := by decide +kernel
theorem dX5_frameTold_47 : decode cX5_frameTold 47 = .ok (.aload_n 0, 1) := by decide +kernel
theorem dX5_frameTold_48 : decode cX5_frameTold 48 = .ok (.getfield 13, 3) := by decide +kernel
theorem dX5_frameTold_51 : decode cX5_frameTold 51 = .ok (.iload_n 1, 1) := by decide +kernel
theorem dX5_frameTold_52 : decode cX5_frameTold 52 = .ok (.invokestatic 64, 3) := by decide +kernel
theorem dX5_frameTold_55 : decode cX5_frameTold 55 = .ok (.ireturn, 1) := by decide +kernel
theorem dX5_frameTold_56 : decode cX5_frameTold 56 = .ok (.aload_n 0, 1) := by decide +kernel
theorem dX5_frameTold_57 : decode cX5_frameTold 57 = .ok (.aload_n 0, 1) := by decide +kernel
theorem dX5_frameTold_58 : decode cX5_frameTold 58 = .ok (.getfield 13, 3) := by decide +kernel
theorem dX5_frameTold_61 : decode cX5_frameTold 61 = .ok (.iload_n 3, 1) := by decide +kernel
theorem dX5_frameTold_62 : decode cX5_frameTold 62 = .ok (.iconst 1, 1) := by decide +kernel
theorem dX5_frameTold_63 : decode cX5_frameTold 63 = .ok (.iadd, 1) := by decide +kernel
theorem dX5_frameTold_64 : decode cX5_frameTold 64 = .ok (.iaload, 1) := by decide +kernel
theorem dX5_frameTold_65 : decode cX5_frameTold 65 = .ok (.invokevirtual 67, 3) := by decide +kernel
theorem dX5_frameTold_68 : decode cX5_frameTold 68 = .ok (.ireturn, 1) := by decide +kernel
theorem dX5_frameTold_69 : decode cX5_frameTold 69 = .ok (.aload_n 0, 1) := by decide +kernel
theorem dX5_frameTold_70 : decode cX5_frameTold 70 = .ok (.getfield 13, 3) := by decide +kernel
theorem dX5_frameTold_73 : decode cX5_frameTold 73 = .ok (.iload_n 3, 1) := by decide +kernel
theorem dX5_frameTold_74 : decode cX5_frameTold 74 = .ok (.iconst 2, 1) := by decide +kernel
theorem dX5_frameTold_75 : decode cX5_frameTold 75 = .ok (.iadd, 1) := by decide +kernel
theorem dX5_frameTold_76 : decode cX5_frameTold 76 = .ok (.iaload, 1) := by decide +kernel
theorem dX5_frameTold_77 : decode cX5_frameTold 77 = .ok (.ireturn, 1) := by decide +kernel
theorem dX5_frameTold_78 : decode cX5_frameTold 78 = .ok (.aload_n 0, 1) := by decide +kernel
theorem dX5_frameTold_79 : decode cX5_frameTold 79 = .ok (.getfield 13, 3) := by decide +kernel
theorem dX5_frameTold_82 : decode cX5_frameTold 82 = .ok (.iload_n 3, 1) := by decide +kernel
theorem dX5_frameTold_83 : decode cX5_frameTold 83 = .ok (.iload_n 2, 1) := by decide +kernel
theorem dX5_frameTold_84 : decode cX5_frameTold 84 = .ok (.iadd, 1) := by decide +kernel
theorem dX5_frameTold_85 : decode cX5_frameTold 85 = .ok (.iaload, 1) := by decide +kernel
theorem dX5_frameTold_86 : decode cX5_frameTold 86 = .ok (.ireturn, 1) := by decide +kernel
set_option maxRecDepth 20000 in
theorem ggX5_frame_X5_isFrame : GoodIn wsX5_frame wsX5_isFrame := goodIn_r _ [5, 6, 7, 4, 8] (by decide +kernel) (by decide +kernel)
set_option maxRecDepth 20000 in
theorem gX5_frame_X5_isFrame : GoodIn wsX5_frame (va_wsS RX5 61 yX5_isFrame wsX5_isFrame) := goodIn_app (goodIn_of _ (by decide +kernel)) ggX5_frame_X5_isFrame
set_option maxRecDepth 20000 in
theorem ggX5_frame_X5_isIn : GoodIn wsX5_frame wsX5_isIn := goodIn_r _ [8] (by decide +kernel) (by decide +kernel)
set_option maxRecDepth 20000 in
theorem gX5_frame_X5_isIn : GoodIn wsX5_frame (va_wsS RX5 20 yX5_isIn wsX5_isIn) := goodIn_app (goodIn_of _ (by decide +kernel)) ggX5_frame_X5_isIn
set_option maxRecDepth 20000 in
theorem ggX5_frame_X5_frameTold : GoodIn wsX5_frame wsX5_frameTold := goodIn_r _ [12, 13, 14, 15, 16, 4, 17, 18, 19, 20, 21, 22, 23, 24, 25, 26, 27, 28, 29, 30, 31, 32, 33, 34, 35, 36, 37, 42, 43, 44] (by decide +kernel) (by decide +kernel)
set_option maxRecDepth 20000 in
theorem gX5_frame_X5_frameTold : GoodIn wsX5_frame (wsV RX5 70 RX5 yX5_frameTold wsX5_frameTold) := goodIn_app (goodIn_of _ (by decide +kernel)) ggX5_frame_X5_frameTold
set_option maxRecDepth 20000 in
theorem ggX5_frame_X5_no : GoodIn wsX5_frame wsX5_no := goodIn_r _ [41, 1, 42, 43, 44] (by decide +kernel) (by decide +kernel)
set_option maxRecDepth 20000 in
theorem gX5_frame_X5_no : GoodIn wsX5_frame (wsV RX5 37 RX5 yX5_no wsX5_no) := goodIn_app (goodIn_of _ (by decide +kernel)) ggX5_frame_X5_no
theorem dX5_frame_0 : decode cX5_frame 0 = .ok (.aload_n 0, 1) := by decide +kernel
theorem dX5_frame_1 : decode cX5_frame 1 = .ok (.iconst 0, 1) := by decide +kernel
theorem dX5_frame_2 : decode cX5_frame 2 = .ok (.putfield 1, 3) := by decide +kernel
theorem dX5_frame_5 : decode cX5_frame 5 = .ok (.iload_n 1, 1) := by decide +kernel
theorem dX5_frame_6 : decode cX5_frame 6 = .ok (.invokestatic 61, 3) := by decide +kernel
theorem dX5_frame_9 : decode cX5_frame 9 = .ok (.ifCond .eq 21, 3) := by decide +kernel
theorem dX5_frame_12 : decode cX5_frame 12 = .ok (.iload_n 2, 1) := by decide +kernel
theorem dX5_frame_13 : decode cX5_frame 13 = .ok (.iconst 0, 1) := by decide +kernel
theorem dX5_frame_14 : decode cX5_frame 14 = .ok (.iconst 5, 1) := by decide +kernel
theorem dX5_frame_15 : decode cX5_frame 15 = .ok (.invokestatic 20, 3) := by decide +kernel
theorem dX5_frame_18 : decode cX5_frame 18 = .ok (.ifCond .eq 12, 3) := by decide +kernel
theorem dX5_frame_21 : decode cX5_frame 21 = .ok (.aload_n 0, 1) := by decide +kernel
theorem dX5_frame_22 : decode cX5_frame 22 = .ok (.iload_n 1, 1) := by decide +kernel
theorem dX5_frame_23 : decode cX5_frame 23 = .ok (.iload_n 2, 1) := by decide +kernel
theorem dX5_frame_24 : decode cX5_frame 24 = .ok (.invokevirtual 70, 3) := by decide +kernel
theorem dX5_frame_27 : decode cX5_frame 27 = .ok (.goto 8, 3) := by decide +kernel
theorem dX5_frame_30 : decode cX5_frame 30 = .ok (.aload_n 0, 1) := by decide +kernel
theorem dX5_frame_31 : decode cX5_frame 31 = .ok (.iconst 1, 1) := by decide +kernel
theorem dX5_frame_32 : decode cX5_frame 32 = .ok (.invokevirtual 37, 3) := by decide +kernel
theorem dX5_frame_35 : decode cX5_frame 35 = .ok (.ireturn, 1) := by decide +kernel
set_option maxRecDepth 20000 in
theorem ggX5_buy_X5_isIn : GoodIn wsX5_buy wsX5_isIn := goodIn_r _ [6] (by decide +kernel) (by decide +kernel)
set_option maxRecDepth 20000 in
theorem gX5_buy_X5_isIn : GoodIn wsX5_buy (va_wsS RX5 20 yX5_isIn wsX5_isIn) := goodIn_app (goodIn_of _ (by decide +kernel)) ggX5_buy_X5_isIn
set_option maxRecDepth 20000 in
theorem ggX5_buy_X5_no : GoodIn wsX5_buy wsX5_no := goodIn_r _ [10, 1, 11, 12, 13] (by decide +kernel) (by decide +kernel)
set_option maxRecDepth 20000 in
theorem gX5_buy_X5_no : GoodIn wsX5_buy (wsV RX5 37 RX5 yX5_no wsX5_no) := goodIn_app (goodIn_of _ (by decide +kernel)) ggX5_buy_X5_no
theorem dX5_buy_0 : decode cX5_buy 0 = .ok (.aload_n 0, 1) := by decide +kernel
theorem dX5_buy_1 : decode cX5_buy 1 = .ok (.iconst 0, 1) := by decide +kernel
theorem dX5_buy_2 : decode cX5_buy 2 = .ok (.putfield 1, 3) := by decide +kernel
theorem dX5_buy_5 : decode cX5_buy 5 = .ok (.iload_n 1, 1) := by decide +kernel
theorem dX5_buy_6 : decode cX5_buy 6 = .ok (.iconst 0, 1) := by decide +kernel
theorem dX5_buy_7 : decode cX5_buy 7 = .ok (.iconst 2, 1) := by decide +kernel
theorem dX5_buy_8 : decode cX5_buy 8 = .ok (.invokestatic 20, 3) := by decide +kernel
theorem dX5_buy_11 : decode cX5_buy 11 = .ok (.ifCond .ne 9, 3) := by decide +kernel
theorem dX5_buy_14 : decode cX5_buy 14 = .ok (.aload_n 0, 1) := by decide +kernel
theorem dX5_buy_15 : decode cX5_buy 15 = .ok (.iconst 1, 1) := by decide +kernel
theorem dX5_buy_16 : decode cX5_buy 16 = .ok (.invokevirtual 37, 3) := by decide +kernel
theorem dX5_buy_19 : decode cX5_buy 19 = .ok (.ireturn, 1) := by decide +kernel
theorem dX5_buy_20 : decode cX5_buy 20 = .ok (.iload_n 2, 1) := by decide +kernel
theorem dX5_buy_21 : decode cX5_buy 21 = .ok (.iconst 1, 1) := by decide +kernel
theorem dX5_buy_22 : decode cX5_buy 22 = .ok (.sipush 200, 3) := by decide +kernel
theorem dX5_buy_25 : decode cX5_buy 25 = .ok (.invokestatic 20, 3) := by decide +kernel
theorem dX5_buy_28 : decode cX5_buy 28 = .ok (.ifCond .ne 9, 3) := by decide +kernel
theorem dX5_buy_31 : decode cX5_buy 31 = .ok (.aload_n 0, 1) := by decide +kernel
theorem dX5_buy_32 : decode cX5_buy 32 = .ok (.iconst 2, 1) := by decide +kernel
theorem dX5_buy_33 : decode cX5_buy 33 = .ok (.invokevirtual 37, 3) := by decide +kernel
theorem dX5_buy_36 : decode cX5_buy 36 = .ok (.ireturn, 1) := by decide +kernel
theorem dX5_buy_37 : decode cX5_buy 37 = .ok (.iload_n 1, 1) := by decide +kernel
theorem dX5_buy_38 : decode cX5_buy 38 = .ok (.ifCond .ne 11, 3) := by decide +kernel
theorem dX5_buy_41 : decode cX5_buy 41 = .ok (.iload_n 2, 1) := by decide +kernel
theorem dX5_buy_42 : decode cX5_buy 42 = .ok (.iconst 4, 1) := by decide +kernel
theorem dX5_buy_43 : decode cX5_buy 43 = .ok (.iadd, 1) := by decide +kernel
theorem dX5_buy_44 : decode cX5_buy 44 = .ok (.iconst 5, 1) := by decide +kernel
theorem dX5_buy_45 : decode cX5_buy 45 = .ok (.idiv, 1) := by decide +kernel
theorem dX5_buy_46 : decode cX5_buy 46 = .ok (.goto 17, 3) := by decide +kernel
theorem dX5_buy_49 : decode cX5_buy 49 = .ok (.iload_n 1, 1) := by decide +kernel
theorem dX5_buy_50 : decode cX5_buy 50 = .ok (.iconst 1, 1) := by decide +kernel
theorem dX5_buy_51 : decode cX5_buy 51 = .ok (.if_icmp .ne 9, 3) := by decide +kernel
theorem dX5_buy_54 : decode cX5_buy 54 = .ok (.iconst 3, 1) := by decide +kernel
theorem dX5_buy_55 : decode cX5_buy 55 = .ok (.iload_n 2, 1) := by decide +kernel
theorem dX5_buy_56 : decode cX5_buy 56 = .ok (.imul, 1) := by decide +kernel
theorem dX5_buy_57 : decode cX5_buy 57 = .ok (.goto 6, 3) := by decide +kernel
theorem dX5_buy_60 : decode cX5_buy 60 = .ok (.iconst 2, 1) := by decide +kernel
theorem dX5_buy_61 : decode cX5_buy 61 = .ok (.iload_n 2, 1) := by decide +kernel
theorem dX5_buy_62 : decode cX5_buy 62 = .ok (.imul, 1) := by decide +kernel
theorem dX5_buy_63 : decode cX5_buy 63 = .ok (.istore_n 3, 1) := by decide +kernel
theorem dX5_buy_64 : decode cX5_buy 64 = .ok (.aload_n 0, 1) := by decide +kernel
theorem dX5_buy_65 : decode cX5_buy 65 = .ok (.getfield 13, 3) := by decide +kernel
theorem dX5_buy_68 : decode cX5_buy 68 = .ok (.sipush 187, 3) := by decide +kernel
theorem dX5_buy_71 : decode cX5_buy 71 = .ok (.iaload, 1) := by decide +kernel
theorem dX5_buy_72 : decode cX5_buy 72 = .ok (.iload_n 3, 1) := by decide +kernel
theorem dX5_buy_73 : decode cX5_buy 73 = .ok (.if_icmp .ge 9, 3) := by decide +kernel
theorem dX5_buy_76 : decode cX5_buy 76 = .ok (.aload_n 0, 1) := by decide +kernel
theorem dX5_buy_77 : decode cX5_buy 77 = .ok (.iconst 3, 1) := by decide +kernel
theorem dX5_buy_78 : decode cX5_buy 78 = .ok (.invokevirtual 37, 3) := by decide +kernel
theorem dX5_buy_81 : decode cX5_buy 81 = .ok (.ireturn, 1) := by decide +kernel
theorem dX5_buy_82 : decode cX5_buy 82 = .ok (.aload_n 0, 1) := by decide +kernel
theorem dX5_buy_83 : decode cX5_buy 83 = .ok (.getfield 13, 3) := by decide +kernel
theorem dX5_buy_86 : decode cX5_buy 86 = .ok (.sipush 187, 3) := by decide +kernel
theorem dX5_buy_89 : decode cX5_buy 89 = .ok (.dup2, 1) := by decide +kernel
theorem dX5_buy_90 : decode cX5_buy 90 = .ok (.iaload, 1) := by decide +kernel
theorem dX5_buy_91 : decode cX5_buy 91 = .ok (.iload_n 3, 1) := by decide +kernel
theorem dX5_buy_92 : decode cX5_buy 92 = .ok (.isub, 1) := by decide +kernel
theorem dX5_buy_93 : decode cX5_buy 93 = .ok (.iastore, 1) := by decide +kernel
theorem dX5_buy_94 : decode cX5_buy 94 = .ok (.aload_n 0, 1) := by decide +kernel
theorem dX5_buy_95 : decode cX5_buy 95 = .ok (.getfield 13, 3) := by decide +kernel
theorem dX5_buy_98 : decode cX5_buy 98 = .ok (.sipush 184, 3) := by decide +kernel
theorem dX5_buy_101 : decode cX5_buy 101 = .ok (.iload_n 1, 1) := by decide +kernel
theorem dX5_buy_102 : decode cX5_buy 102 = .ok (.iadd, 1) := by decide +kernel
theorem dX5_buy_103 : decode cX5_buy 103 = .ok (.dup2, 1) := by decide +kernel
theorem dX5_buy_104 : decode cX5_buy 104 = .ok (.iaload, 1) := by decide +kernel
theorem dX5_buy_105 : decode cX5_buy 105 = .ok (.iload_n 2, 1) := by decide +kernel
theorem dX5_buy_106 : decode cX5_buy 106 = .ok (.iadd, 1) := by decide +kernel
theorem dX5_buy_107 : decode cX5_buy 107 = .ok (.iastore, 1) := by decide +kernel
theorem dX5_buy_108 : decode cX5_buy 108 = .ok (.aload_n 0, 1) := by decide +kernel
theorem dX5_buy_109 : decode cX5_buy 109 = .ok (.getfield 13, 3) := by decide +kernel
theorem dX5_buy_112 : decode cX5_buy 112 = .ok (.sipush 184, 3) := by decide +kernel
theorem dX5_buy_115 : decode cX5_buy 115 = .ok (.iload_n 1, 1) := by decide +kernel
theorem dX5_buy_116 : decode cX5_buy 116 = .ok (.iadd, 1) := by decide +kernel
theorem dX5_buy_117 : decode cX5_buy 117 = .ok (.iaload, 1) := by decide +kernel
theorem dX5_buy_118 : decode cX5_buy 118 = .ok (.ireturn, 1) := by decide +kernel
theorem dX5_like_0 : decode cX5_like 0 = .ok (.iconst 0, 1) := by decide +kernel
theorem dX5_like_1 : decode cX5_like 1 = .ok (.istore_n 2, 1) := by decide +kernel
theorem dX5_like_2 : decode cX5_like 2 = .ok (.iconst 0, 1) := by decide +kernel
