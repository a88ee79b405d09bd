set_option maxRecDepth 20000 in
theorem ggX4_init_X3_init : GoodIn wsX4_init wsX3_init := goodIn_r _ [11, 12, 2, 3, 13, 14, 15, 16, 17, 18, 19, 20, 21, 22, 23, 24, 25, 26, 27, 28, 29, 30, 31, 32, 33, 34, 35, 36, 37, 38, 39, 40, 41, 42, 43, 44, 45, 46, 47, 48, 49, 50, 51, 52, 53, 54, 55, 56, 57, 58, 59, 60, 63, 64, 65, 66, 67, 68, 69, 70, 71, 72, 73, 74, 75, 76, 77, 78, 79, 80, 81, 82] (by decide +kernel) (by decide +kernel)
set_option maxRecDepth 20000 in
theorem gX4_init_X3_init : GoodIn wsX4_init (wsX3_init) := ggX4_init_X3_init
theorem dX4_init_0 : decode cX4_init 0 = .ok (.aload_n 0, 1) := by decide +kernel
theorem dX4_init_1 : decode cX4_init 1 = .ok (.invokespecial 1, 3) := by decide +kernel
theorem dX4_init_4 : decode cX4_init 4 = .ok (.aload_n 0, 1) := by decide +kernel
theorem dX4_init_5 : decode cX4_init 5 = .ok (.new 7, 3) := by decide +kernel
theorem dX4_init_8 : decode cX4_init 8 = .ok (.dup, 1) := by decide +kernel
theorem dX4_init_9 : decode cX4_init 9 = .ok (.invokespecial 9, 3) := by decide +kernel
theorem dX4_init_12 : decode cX4_init 12 = .ok (.putfield 10, 3) := by decide +kernel
theorem dX4_init_15 : decode cX4_init 15 = .ok (.aload_n 0, 1) := by decide +kernel
theorem dX4_init_16 : decode cX4_init 16 = .ok (.new 7, 3) := by decide +kernel
theorem dX4_init_19 : decode cX4_init 19 = .ok (.dup, 1) := by decide +kernel
theorem dX4_init_20 : decode cX4_init 20 = .ok (.invokespecial 9, 3) := by decide +kernel
theorem dX4_init_23 : decode cX4_init 23 = .ok (.putfield 16, 3) := by decide +kernel
theorem dX4_init_26 : decode cX4_init 26 = .ok (.return_, 1) := by decide +kernel
set_option maxRecDepth 20000 in
theorem ggX4_order_X3_freeBook : GoodIn wsX4_order wsX3_freeBook := goodIn_r _ [12, 13, 14, 26, 27, 28, 29, 30, 31, 32, 33, 34, 35, 36, 37] (by decide +kernel) (by decide +kernel)
set_option maxRecDepth 20000 in
theorem gX4_order_X3_freeBook : GoodIn wsX4_order (wsV RX4 30 RX3 yX3_freeBook wsX3_freeBook) := goodIn_app (goodIn_of _ (by decide +kernel)) ggX4_order_X3_freeBook
set_option maxRecDepth 20000 in
theorem ggX4_order_X0_begin : GoodIn wsX4_order wsX0_begin := goodIn_r _ [19, 20, 21, 22, 23, 38, 39, 40, 41, 42, 43, 44, 45, 46, 47, 48, 49, 50] (by decide +kernel) (by decide +kernel)
set_option maxRecDepth 20000 in
theorem gX4_order_X0_begin : GoodIn wsX4_order (wsV RX4 39 RX0 yX0_begin wsX0_begin) := goodIn_app (goodIn_of _ (by decide +kernel)) ggX4_order_X0_begin
theorem dX4_order_0 : decode cX4_order 0 = .ok (.iload_n 1, 1) := by decide +kernel
theorem dX4_order_1 : decode cX4_order 1 = .ok (.iconst 1, 1) := by decide +kernel
theorem dX4_order_2 : decode cX4_order 2 = .ok (.if_icmp .lt 9, 3) := by decide +kernel
theorem dX4_order_5 : decode cX4_order 5 = .ok (.iload_n 1, 1) := by decide +kernel
theorem dX4_order_6 : decode cX4_order 6 = .ok (.bipush 24, 2) := by decide +kernel
theorem dX4_order_8 : decode cX4_order 8 = .ok (.if_icmp .le 13, 3) := by decide +kernel
theorem dX4_order_11 : decode cX4_order 11 = .ok (.new 19, 3) := by decide +kernel
theorem dX4_order_14 : decode cX4_order 14 = .ok (.dup, 1) := by decide +kernel
theorem dX4_order_15 : decode cX4_order 15 = .ok (.ldc 21, 2) := by decide +kernel
theorem dX4_order_17 : decode cX4_order 17 = .ok (.invokespecial 23, 3) := by decide +kernel
theorem dX4_order_20 : decode cX4_order 20 = .ok (.athrow, 1) := by decide +kernel
theorem dX4_order_21 : decode cX4_order 21 = .ok (.iload_n 2, 1) := by decide +kernel
theorem dX4_order_22 : decode cX4_order 22 = .ok (.iconst 1, 1) := by decide +kernel
theorem dX4_order_23 : decode cX4_order 23 = .ok (.if_icmp .lt 9, 3) := by decide +kernel
theorem dX4_order_26 : decode cX4_order 26 = .ok (.iload_n 2, 1) := by decide +kernel
theorem dX4_order_27 : decode cX4_order 27 = .ok (.bipush 8, 2) := by decide +kernel
theorem dX4_order_29 : decode cX4_order 29 = .ok (.if_icmp .le 13, 3) := by decide +kernel
theorem dX4_order_32 : decode cX4_order 32 = .ok (.new 19, 3) := by decide +kernel
theorem dX4_order_35 : decode cX4_order 35 = .ok (.dup, 1) := by decide +kernel
theorem dX4_order_36 : decode cX4_order 36 = .ok (.ldc 26, 2) := by decide +kernel
theorem dX4_order_38 : decode cX4_order 38 = .ok (.invokespecial 23, 3) := by decide +kernel
theorem dX4_order_41 : decode cX4_order 41 = .ok (.athrow, 1) := by decide +kernel
theorem dX4_order_42 : decode cX4_order 42 = .ok (.iload_n 3, 1) := by decide +kernel
theorem dX4_order_43 : decode cX4_order 43 = .ok (.ifCond .lt 8, 3) := by decide +kernel
theorem dX4_order_46 : decode cX4_order 46 = .ok (.iload_n 3, 1) := by decide +kernel
theorem dX4_order_47 : decode cX4_order 47 = .ok (.iconst 3, 1) := by decide +kernel
theorem dX4_order_48 : decode cX4_order 48 = .ok (.if_icmp .le 13, 3) := by decide +kernel
theorem dX4_order_51 : decode cX4_order 51 = .ok (.new 19, 3) := by decide +kernel
theorem dX4_order_54 : decode cX4_order 54 = .ok (.dup, 1) := by decide +kernel
theorem dX4_order_55 : decode cX4_order 55 = .ok (.ldc 28, 2) := by decide +kernel
theorem dX4_order_57 : decode cX4_order 57 = .ok (.invokespecial 23, 3) := by decide +kernel
theorem dX4_order_60 : decode cX4_order 60 = .ok (.athrow, 1) := by decide +kernel
theorem dX4_order_61 : decode cX4_order 61 = .ok (.aload_n 0, 1) := by decide +kernel
theorem dX4_order_62 : decode cX4_order 62 = .ok (.getfield 10, 3) := by decide +kernel
theorem dX4_order_65 : decode cX4_order 65 = .ok (.invokevirtual 30, 3) := by decide +kernel
theorem dX4_order_68 : decode cX4_order 68 = .ok (.astore 4, 2) := by decide +kernel
theorem dX4_order_70 : decode cX4_order 70 = .ok (.aload 4, 2) := by decide +kernel
theorem dX4_order_72 : decode cX4_order 72 = .ok (.ifnonnull 13, 3) := by decide +kernel
theorem dX4_order_75 : decode cX4_order 75 = .ok (.new 34, 3) := by decide +kernel
theorem dX4_order_78 : decode cX4_order 78 = .ok (.dup, 1) := by decide +kernel
theorem dX4_order_79 : decode cX4_order 79 = .ok (.ldc 36, 2) := by decide +kernel
theorem dX4_order_81 : decode cX4_order 81 = .ok (.invokespecial 38, 3) := by decide +kernel
theorem dX4_order_84 : decode cX4_order 84 = .ok (.athrow, 1) := by decide +kernel
theorem dX4_order_85 : decode cX4_order 85 = .ok (.aload 4, 2) := by decide +kernel
theorem dX4_order_87 : decode cX4_order 87 = .ok (.iload_n 1, 1) := by decide +kernel
theorem dX4_order_88 : decode cX4_order 88 = .ok (.iload_n 2, 1) := by decide +kernel
theorem dX4_order_89 : decode cX4_order 89 = .ok (.iload_n 3, 1) := by decide +kernel
theorem dX4_order_90 : decode cX4_order 90 = .ok (.invokevirtual 39, 3) := by decide +kernel
theorem dX4_order_93 : decode cX4_order 93 = .ok (.aload_n 0, 1) := by decide +kernel
theorem dX4_order_94 : decode cX4_order 94 = .ok (.getfield 10, 3) := by decide +kernel
theorem dX4_order_97 : decode cX4_order 97 = .ok (.dup, 1) := by decide +kernel
theorem dX4_order_98 : decode cX4_order 98 = .ok (.getfield 45, 3) := by decide +kernel
theorem dX4_order_101 : decode cX4_order 101 = .ok (.iconst 1, 1) := by decide +kernel
theorem dX4_order_102 : decode cX4_order 102 = .ok (.iadd, 1) := by decide +kernel
theorem dX4_order_103 : decode cX4_order 103 = .ok (.putfield 45, 3) := by decide +kernel
theorem dX4_order_106 : decode cX4_order 106 = .ok (.aload 4, 2) := by decide +kernel
theorem dX4_order_108 : decode cX4_order 108 = .ok (.getfield 49, 3) := by decide +kernel
theorem dX4_order_111 : decode cX4_order 111 = .ok (.ireturn, 1) := by decide +kernel
set_option maxRecDepth 20000 in
theorem ggX4_unpick_X4_knownBook : GoodIn wsX4_unpick wsX4_knownBook := goodIn_ca (goodIn_r _ [10, 11, 12, 5, 13, 14, 15, 16, 17, 18, 19, 52, 53, 54, 55, 56, 57, 58, 59, 60, 61, 62, 63, 64, 65] (by decide +kernel) (by decide +kernel)) (goodIn_sub (fun _ h => List.mem_cons_of_mem _ (List.mem_append_right _ h)) (by decide +kernel))
set_option maxRecDepth 20000 in
theorem gX4_unpick_X4_knownBook : GoodIn wsX4_unpick (wsV RX4 52 RX4 yX4_knownBook wsX4_knownBook) := goodIn_app (goodIn_of _ (by decide +kernel)) ggX4_unpick_X4_knownBook
set_option maxRecDepth 20000 in
theorem ggX4_unpick_X3_clearFrameOf : GoodIn wsX4_unpick wsX3_clearFrameOf := goodIn_r _ [23, 24, 25, 26, 54, 55, 56, 57, 58, 59, 60, 61, 62, 63, 64, 65, 66, 67, 68, 69, 39, 40, 41, 42, 43, 44, 45, 46, 47, 48, 49, 50, 51] (by decide +kernel) (by decide +kernel)
set_option maxRecDepth 20000 in
theorem gX4_unpick_X3_clearFrameOf : GoodIn wsX4_unpick (wsV RX4 64 RX3 yX3_clearFrameOf wsX3_clearFrameOf) := goodIn_app (goodIn_of _ (by decide +kernel)) ggX4_unpick_X3_clearFrameOf
set_option maxRecDepth 20000 in
theorem ggX4_unpick_X0_undo : GoodIn wsX4_unpick wsX0_undo := goodIn_r _ [31, 32, 33, 34, 35, 36, 37, 38, 39, 40, 41, 42, 43, 44, 45, 46, 47, 48, 49, 50, 51] (by decide +kernel) (by decide +kernel)
set_option maxRecDepth 20000 in
theorem gX4_unpick_X0_undo : GoodIn wsX4_unpick (wsV RX4 68 RX0 yX0_undo wsX0_undo) := goodIn_app (goodIn_of _ (by decide +kernel)) ggX4_unpick_X0_undo
theorem dX4_unpick_0 : decode cX4_unpick 0 = .ok (.aload_n 0, 1) := by decide +kernel
theorem dX4_unpick_1 : decode cX4_unpick 1 = .ok (.iload_n 1, 1) := by decide +kernel
theorem dX4_unpick_2 : decode cX4_unpick 2 = .ok (.invokevirtual 52, 3) := by decide +kernel
theorem dX4_unpick_5 : decode cX4_unpick 5 = .ok (.astore_n 2, 1) := by decide +kernel
theorem dX4_unpick_6 : decode cX4_unpick 6 = .ok (.aload_n 2, 1) := by decide +kernel
theorem dX4_unpick_7 : decode cX4_unpick 7 = .ok (.getfield 56, 3) := by decide +kernel
theorem dX4_unpick_10 : decode cX4_unpick 10 = .ok (.iconst 1, 1) := by decide +kernel
theorem dX4_unpick_11 : decode cX4_unpick 11 = .ok (.if_icmp .eq 13, 3) := by decide +kernel
theorem dX4_unpick_14 : decode cX4_unpick 14 = .ok (.new 34, 3) := by decide +kernel
theorem dX4_unpick_17 : decode cX4_unpick 17 = .ok (.dup, 1) := by decide +kernel
theorem dX4_unpick_18 : decode cX4_unpick 18 = .ok (.ldc 59, 2) := by decide +kernel
theorem dX4_unpick_20 : decode cX4_unpick 20 = .ok (.invokespecial 38, 3) := by decide +kernel
theorem dX4_unpick_23 : decode cX4_unpick 23 = .ok (.athrow, 1) := by decide +kernel
theorem dX4_unpick_24 : decode cX4_unpick 24 = .ok (.aload_n 2, 1) := by decide +kernel
theorem dX4_unpick_25 : decode cX4_unpick 25 = .ok (.getfield 61, 3) := by decide +kernel
theorem dX4_unpick_28 : decode cX4_unpick 28 = .ok (.istore_n 3, 1) := by decide +kernel
theorem dX4_unpick_29 : decode cX4_unpick 29 = .ok (.aload_n 0, 1) := by decide +kernel
theorem dX4_unpick_30 : decode cX4_unpick 30 = .ok (.getfield 10, 3) := by decide +kernel
theorem dX4_unpick_33 : decode cX4_unpick 33 = .ok (.aload_n 2, 1) := by decide +kernel
theorem dX4_unpick_34 : decode cX4_unpick 34 = .ok (.invokevirtual 64, 3) := by decide +kernel
theorem dX4_unpick_37 : decode cX4_unpick 37 = .ok (.aload_n 2, 1) := by decide +kernel
theorem dX4_unpick_38 : decode cX4_unpick 38 = .ok (.invokevirtual 68, 3) := by decide +kernel
theorem dX4_unpick_41 : decode cX4_unpick 41 = .ok (.iload_n 3, 1) := by decide +kernel
theorem dX4_unpick_42 : decode cX4_unpick 42 = .ok (.ireturn, 1) := by decide +kernel
set_option maxRecDepth 20000 in
theorem ggX4_sell_X4_knownBook : GoodIn wsX4_sell wsX4_knownBook := goodIn_ca (goodIn_r _ [10, 11, 12, 4, 13, 14, 15, 16, 17, 18, 19, 46, 47, 48, 49, 50, 51, 52, 53, 54, 55, 56, 57, 58, 59] (by decide +kernel) (by decide +kernel)) (goodIn_sub (fun _ h => List.mem_cons_of_mem _ (List.mem_append_right _ h)) (by decide +kernel))
set_option maxRecDepth 20000 in
theorem gX4_sell_X4_knownBook : GoodIn wsX4_sell (wsV RX4 52 RX4 yX4_knownBook wsX4_knownBook) := goodIn_app (goodIn_of _ (by decide +kernel)) ggX4_sell_X4_knownBook
set_option maxRecDepth 20000 in
theorem ggX4_sell_X0_value : GoodIn wsX4_sell wsX0_value := goodIn_r _ [24, 25, 26, 27, 28, 29, 30, 31, 32, 33, 34, 35, 36, 37, 38, 39, 40, 41, 42, 43, 44, 45] (by decide +kernel) (by decide +kernel)
set_option maxRecDepth 20000 in
theorem gX4_sell_X0_value : GoodIn wsX4_sell (wsV RX4 76 RX0 yX0_value wsX0_value) := goodIn_app (goodIn_of _ (by decide +kernel)) ggX4_sell_X0_value
theorem dX4_sell_0 : decode cX4_sell 0 = .ok (.aload_n 0, 1) := by decide +kernel
theorem dX4_sell_1 : decode cX4_sell 1 = .ok (.iload_n 1, 1) := by decide +kernel
theorem dX4_sell_2 : decode cX4_sell 2 = .ok (.invokevirtual 52, 3) := by decide +kernel
theorem dX4_sell_5 : decode cX4_sell 5 = .ok (.astore_n 2, 1) := by decide +kernel
theorem dX4_sell_6 : decode cX4_sell 6 = .ok (.aload_n 2, 1) := by decide +kernel
theorem dX4_sell_7 : decode cX4_sell 7 = .ok (.getfield 56, 3) := by decide +kernel
theorem dX4_sell_10 : decode cX4_sell 10 = .ok (.iconst 5, 1) := by decide +kernel
theorem dX4_sell_11 : decode cX4_sell 11 = .ok (.if_icmp .eq 13, 3) := by decide +kernel
theorem dX4_sell_14 : decode cX4_sell 14 = .ok (.new 34, 3) := by decide +kernel
theorem dX4_sell_17 : decode cX4_sell 17 = .ok (.dup, 1) := by decide +kernel
theorem dX4_sell_18 : decode cX4_sell 18 = .ok (.ldc 71, 2) := by decide +kernel
theorem dX4_sell_20 : decode cX4_sell 20 = .ok (.invokespecial 38, 3) := by decide +kernel
theorem dX4_sell_23 : decode cX4_sell 23 = .ok (.athrow, 1) := by decide +kernel
theorem dX4_sell_24 : decode cX4_sell 24 = .ok (.aload_n 2, 1) := by decide +kernel
theorem dX4_sell_25 : decode cX4_sell 25 = .ok (.bipush 6, 2) := by decide +kernel
theorem dX4_sell_27 : decode cX4_sell 27 = .ok (.putfield 56, 3) := by decide +kernel
theorem dX4_sell_30 : decode cX4_sell 30 = .ok (.aload_n 0, 1) := by decide +kernel
theorem dX4_sell_31 : decode cX4_sell 31 = .ok (.getfield 10, 3) := by decide +kernel
theorem dX4_sell_34 : decode cX4_sell 34 = .ok (.dup, 1) := by decide +kernel
theorem dX4_sell_35 : decode cX4_sell 35 = .ok (.getfield 73, 3) := by decide +kernel
theorem dX4_sell_38 : decode cX4_sell 38 = .ok (.aload_n 2, 1) := by decide +kernel
theorem dX4_sell_39 : decode cX4_sell 39 = .ok (.invokevirtual 76, 3) := by decide +kernel
theorem dX4_sell_42 : decode cX4_sell 42 = .ok (.iadd, 1) := by decide +kernel
theorem dX4_sell_43 : decode cX4_sell 43 = .ok (.putfield 73, 3) := by decide +kernel
theorem dX4_sell_46 : decode cX4_sell 46 = .ok (.aload_n 0, 1) := by decide +kernel
theorem dX4_sell_47 : decode cX4_sell 47 = .ok (.getfield 10, 3) := by decide +kernel
theorem dX4_sell_50 : decode cX4_sell 50 = .ok (.getfield 73, 3) := by decide +kernel
theorem dX4_sell_53 : decode cX4_sell 53 = .ok (.ireturn, 1) := by decide +kernel
set_option maxRecDepth 20000 in
theorem ggX4_told_X4_knownBook : GoodIn wsX4_told wsX4_knownBook := goodIn_ca (goodIn_r _ [5, 6, 7, 8, 9, 10, 11, 12, 13, 14, 15, 43, 44, 45, 46, 47, 48, 49, 50, 51, 52, 53, 54, 55, 56] (by decide +kernel) (by decide +kernel)) (goodIn_sub (fun _ h => List.mem_cons_of_mem _ (List.mem_append_right _ h)) (by decide +kernel))
set_option maxRecDepth 20000 in
theorem gX4_told_X4_knownBook : GoodIn wsX4_told (wsV RX4 52 RX4 yX4_knownBook wsX4_knownBook) := goodIn_app (goodIn_of _ (by decide +kernel)) ggX4_told_X4_knownBook
set_option maxRecDepth 20000 in
theorem ggX4_told_X4_checkKind : GoodIn wsX4_told wsX4_checkKind := goodIn_ca (goodIn_r _ [18, 6, 7] (by decide +kernel) (by decide +kernel)) (goodIn_sub (fun _ h => List.mem_cons_of_mem _ (List.mem_append_right _ h)) (by decide +kernel))
set_option maxRecDepth 20000 in
theorem gX4_told_X4_checkKind : GoodIn wsX4_told (va_wsS RX4 80 yX4_checkKind wsX4_checkKind) := goodIn_app (goodIn_of _ (by decide +kernel)) ggX4_told_X4_checkKind
set_option maxRecDepth 20000 in
theorem ggX4_told_X0_tell : GoodIn wsX4_told wsX0_tell := goodIn_r _ [23, 24, 25, 26, 27, 28, 29, 30, 31, 32, 33, 34, 35, 36, 22, 37, 38, 39, 40, 41, 42, 57, 58, 59, 60, 61, 62, 63, 64, 65, 66, 67, 68, 69] (by decide +kernel) (by decide +kernel)
set_option maxRecDepth 20000 in
theorem gX4_told_X0_tell : GoodIn wsX4_told (wsV RX4 84 RX0 yX0_tell wsX0_tell) := goodIn_app (goodIn_of _ (by decide +kernel)) ggX4_told_X0_tell
theorem dX4_told_0 : decode cX4_told 0 = .ok (.aload_n 0, 1) := by decide +kernel
theorem dX4_told_1 : decode cX4_told 1 = .ok (.iload_n 1, 1) := by decide +kernel
theorem dX4_told_2 : decode cX4_told 2 = .ok (.invokevirtual 52, 3) := by decide +kernel
theorem dX4_told_5 : decode cX4_told 5 = .ok (.astore_n 3, 1) := by decide +kernel
theorem dX4_told_6 : decode cX4_told 6 = .ok (.iload_n 2, 1) := by decide +kernel
theorem dX4_told_7 : decode cX4_told 7 = .ok (.bipush 11, 2) := by decide +kernel
theorem dX4_told_9 : decode cX4_told 9 = .ok (.invokestatic 80, 3) := by decide +kernel
theorem dX4_told_12 : decode cX4_told 12 = .ok (.aload_n 3, 1) := by decide +kernel
theorem dX4_told_13 : decode cX4_told 13 = .ok (.iload_n 2, 1) := by decide +kernel
theorem dX4_told_14 : decode cX4_told 14 = .ok (.invokevirtual 84, 3) := by decide +kernel
theorem dX4_told_17 : decode cX4_told 17 = .ok (.ireturn, 1) := by decide +kernel
set_option maxRecDepth 20000 in
theorem ggX4_hire_X3_freeSewer : GoodIn wsX4_hire wsX3_freeSewer := goodIn_r _ [13, 14, 15, 21, 22, 23, 24, 25, 26, 27, 28, 29, 30, 31, 32] (by decide +kernel) (by decide +kernel)
set_option maxRecDepth 20000 in
theorem gX4_hire_X3_freeSewer : GoodIn wsX4_hire (wsV RX4 90 RX3 yX3_freeSewer wsX3_freeSewer) := goodIn_app (goodIn_of _ (by decide +kernel)) ggX4_hire_X3_freeSewer
theorem dX4_hire_0 : decode cX4_hire 0 = .ok (.iload_n 1, 1) := by decide +kernel
theorem dX4_hire_1 : decode cX4_hire 1 = .ok (.iconst 1, 1) := by decide +kernel
theorem dX4_hire_2 : decode cX4_hire 2 = .ok (.if_icmp .lt 9, 3) := by decide +kernel
theorem dX4_hire_5 : decode cX4_hire 5 = .ok (.iload_n 1, 1) := by decide +kernel
theorem dX4_hire_6 : decode cX4_hire 6 = .ok (.bipush 9, 2) := by decide +kernel
theorem dX4_hire_8 : decode cX4_hire 8 = .ok (.if_icmp .le 13, 3) := by decide +kernel
theorem dX4_hire_11 : decode cX4_hire 11 = .ok (.new 19, 3) := by decide +kernel
theorem dX4_hire_14 : decode cX4_hire 14 = .ok (.dup, 1) := by decide +kernel
theorem dX4_hire_15 : decode cX4_hire 15 = .ok (.ldc 88, 2) := by decide +kernel
theorem dX4_hire_17 : decode cX4_hire 17 = .ok (.invokespecial 23, 3) := by decide +kernel
theorem dX4_hire_20 : decode cX4_hire 20 = .ok (.athrow, 1) := by decide +kernel
theorem dX4_hire_21 : decode cX4_hire 21 = .ok (.aload_n 0, 1) := by decide +kernel
theorem dX4_hire_22 : decode cX4_hire 22 = .ok (.getfield 10, 3) := by decide +kernel
theorem dX4_hire_25 : decode cX4_hire 25 = .ok (.invokevirtual 90, 3) := by decide +kernel
theorem dX4_hire_28 : decode cX4_hire 28 = .ok (.astore_n 2, 1) := by decide +kernel
theorem dX4_hire_29 : decode cX4_hire 29 = .ok (.aload_n 2, 1) := by decide +kernel
theorem dX4_hire_30 : decode cX4_hire 30 = .ok (.ifnonnull 13, 3) := by decide +kernel
theorem dX4_hire_33 : decode cX4_hire 33 = .ok (.new 34, 3) := by decide +kernel
theorem dX4_hire_36 : decode cX4_hire 36 = .ok (.dup, 1) := by decide +kernel
theorem dX4_hire_37 : decode cX4_hire 37 = .ok (.ldc 94, 2) := by decide +kernel
theorem dX4_hire_39 : decode cX4_hire 39 = .ok (.invokespecial 38, 3) := by decide +kernel
theorem dX4_hire_42 : decode cX4_hire 42 = .ok (.athrow, 1) := by decide +kernel
theorem dX4_hire_43 : decode cX4_hire 43 = .ok (.aload_n 2, 1) := by decide +kernel
theorem dX4_hire_44 : decode cX4_hire 44 = .ok (.iload_n 1, 1) := by decide +kernel
theorem dX4_hire_45 : decode cX4_hire 45 = .ok (.putfield 96, 3) := by decide +kernel
theorem dX4_hire_48 : decode cX4_hire 48 = .ok (.aload_n 0, 1) := by decide +kernel
theorem dX4_hire_49 : decode cX4_hire 49 = .ok (.getfield 10, 3) := by decide +kernel
theorem dX4_hire_52 : decode cX4_hire 52 = .ok (.dup, 1) := by decide +kernel
theorem dX4_hire_53 : decode cX4_hire 53 = .ok (.getfield 101, 3) := by decide +kernel
theorem dX4_hire_56 : decode cX4_hire 56 = .ok (.iconst 1, 1) := by decide +kernel
theorem dX4_hire_57 : decode cX4_hire 57 = .ok (.iadd, 1) := by decide +kernel
theorem dX4_hire_58 : decode cX4_hire 58 = .ok (.putfield 101, 3) := by decide +kernel
theorem dX4_hire_61 : decode cX4_hire 61 = .ok (.aload_n 2, 1) := by decide +kernel
theorem dX4_hire_62 : decode cX4_hire 62 = .ok (.getfield 104, 3) := by decide +kernel
theorem dX4_hire_65 : decode cX4_hire 65 = .ok (.ireturn, 1) := by decide +kernel
set_option maxRecDepth 20000 in
theorem ggX4_seat_X4_knownSewer : GoodIn wsX4_seat wsX4_knownSewer := goodIn_ca (goodIn_r _ [11, 1, 2, 5, 12, 13, 14, 15, 16, 17, 18, 25, 26, 30, 31, 32, 33, 34, 35, 36, 37, 38, 39, 40, 41] (by decide +kernel) (by decide +kernel)) (goodIn_sub (fun _ h => List.mem_cons_of_mem _ (List.mem_append_left _ (List.mem_append_right _ h))) (by decide +kernel))
set_option maxRecDepth 20000 in
theorem gX4_seat_X4_knownSewer : GoodIn wsX4_seat (wsV RX4 105 RX4 yX4_knownSewer wsX4_knownSewer) := goodIn_app (goodIn_of _ (by decide +kernel)) ggX4_seat_X4_knownSewer
set_option maxRecDepth 20000 in
theorem ggX4_seat_X3_othersAt : GoodIn wsX4_seat wsX3_othersAt := goodIn_r _ [22, 18, 23, 24, 30, 31, 32, 33, 34, 35, 36, 37, 38, 39, 40, 41, 27, 28, 29] (by decide +kernel) (by decide +kernel)
set_option maxRecDepth 20000 in
theorem gX4_seat_X3_othersAt : GoodIn wsX4_seat (wsV RX4 114 RX3 yX3_othersAt wsX3_othersAt) := goodIn_app (goodIn_of _ (by decide +kernel)) ggX4_seat_X3_othersAt
theorem dX4_seat_0 : decode cX4_seat 0 = .ok (.aload_n 0, 1) := by decide +kernel
theorem dX4_seat_1 : decode cX4_seat 1 = .ok (.iload_n 1, 1) := by decide +kernel
theorem dX4_seat_2 : decode cX4_seat 2 = .ok (.invokevirtual 105, 3) := by decide +kernel
theorem dX4_seat_5 : decode cX4_seat 5 = .ok (.astore_n 3, 1) := by decide +kernel
theorem dX4_seat_6 : decode cX4_seat 6 = .ok (.iload_n 2, 1) := by decide +kernel
theorem dX4_seat_7 : decode cX4_seat 7 = .ok (.iconst (-1), 1) := by decide +kernel
theorem dX4_seat_8 : decode cX4_seat 8 = .ok (.if_icmp .eq 22, 3) := by decide +kernel
theorem dX4_seat_11 : decode cX4_seat 11 = .ok (.iload_n 2, 1) := by decide +kernel
theorem dX4_seat_12 : decode cX4_seat 12 = .ok (.ifCond .lt 8, 3) := by decide +kernel
theorem dX4_seat_15 : decode cX4_seat 15 = .ok (.iload_n 2, 1) := by decide +kernel
theorem dX4_seat_16 : decode cX4_seat 16 = .ok (.iconst 3, 1) := by decide +kernel
theorem dX4_seat_17 : decode cX4_seat 17 = .ok (.if_icmp .lt 13, 3) := by decide +kernel
theorem dX4_seat_20 : decode cX4_seat 20 = .ok (.new 109, 3) := by decide +kernel
theorem dX4_seat_23 : decode cX4_seat 23 = .ok (.dup, 1) := by decide +kernel
theorem dX4_seat_24 : decode cX4_seat 24 = .ok (.ldc 111, 2) := by decide +kernel
theorem dX4_seat_26 : decode cX4_seat 26 = .ok (.invokespecial 113, 3) := by decide +kernel
theorem dX4_seat_29 : decode cX4_seat 29 = .ok (.athrow, 1) := by decide +kernel
theorem dX4_seat_30 : decode cX4_seat 30 = .ok (.iload_n 2, 1) := by decide +kernel
theorem dX4_seat_31 : decode cX4_seat 31 = .ok (.iconst (-1), 1) := by decide +kernel
theorem dX4_seat_32 : decode cX4_seat 32 = .ok (.if_icmp .eq 26, 3) := by decide +kernel
theorem dX4_seat_35 : decode cX4_seat 35 = .ok (.aload_n 0, 1) := by decide +kernel
theorem dX4_seat_36 : decode cX4_seat 36 = .ok (.getfield 10, 3) := by decide +kernel
theorem dX4_seat_39 : decode cX4_seat 39 = .ok (.iload_n 2, 1) := by decide +kernel
theorem dX4_seat_40 : decode cX4_seat 40 = .ok (.iload_n 1, 1) := by decide +kernel
theorem dX4_seat_41 : decode cX4_seat 41 = .ok (.invokevirtual 114, 3) := by decide +kernel
theorem dX4_seat_44 : decode cX4_seat 44 = .ok (.iconst 2, 1) := by decide +kernel
theorem dX4_seat_45 : decode cX4_seat 45 = .ok (.if_icmp .lt 13, 3) := by decide +kernel
theorem dX4_seat_48 : decode cX4_seat 48 = .ok (.new 34, 3) := by decide +kernel
theorem dX4_seat_51 : decode cX4_seat 51 = .ok (.dup, 1) := by decide +kernel
theorem dX4_seat_52 : decode cX4_seat 52 = .ok (.ldc 118, 2) := by decide +kernel
theorem dX4_seat_54 : decode cX4_seat 54 = .ok (.invokespecial 38, 3) := by decide +kernel
theorem dX4_seat_57 : decode cX4_seat 57 = .ok (.athrow, 1) := by decide +kernel
theorem dX4_seat_58 : decode cX4_seat 58 = .ok (.aload_n 3, 1) := by decide +kernel
theorem dX4_seat_59 : decode cX4_seat 59 = .ok (.getfield 120, 3) := by decide +kernel
theorem dX4_seat_62 : decode cX4_seat 62 = .ok (.istore 4, 2) := by decide +kernel
theorem dX4_seat_64 : decode cX4_seat 64 = .ok (.aload_n 3, 1) := by decide +kernel
theorem dX4_seat_65 : decode cX4_seat 65 = .ok (.iload_n 2, 1) := by decide +kernel
theorem dX4_seat_66 : decode cX4_seat 66 = .ok (.putfield 120, 3) := by decide +kernel
theorem dX4_seat_69 : decode cX4_seat 69 = .ok (.iload 4, 2) := by decide +kernel
theorem dX4_seat_71 : decode cX4_seat 71 = .ok (.ireturn, 1) := by decide +kernel
set_option maxRecDepth 20000 in
theorem ggX4_string_X4_knownFrame : GoodIn wsX4_string wsX4_knownFrame := goodIn_ca (goodIn_r _ [11, 12, 13, 14, 15, 20, 21, 22, 23, 24, 25, 26, 27, 28, 29, 30, 31, 32, 33] (by decide +kernel) (by decide +kernel)) (goodIn_sub (fun _ h => List.mem_cons_of_mem _ (List.mem_append_right _ h)) (by decide +kernel))
set_option maxRecDepth 20000 in
theorem gX4_string_X4_knownFrame : GoodIn wsX4_string (wsV RX4 124 RX4 yX4_knownFrame wsX4_knownFrame) := goodIn_app (goodIn_of _ (by decide +kernel)) ggX4_string_X4_knownFrame
theorem dX4_string_0 : decode cX4_string 0 = .ok (.aload_n 0, 1) := by decide +kernel
theorem dX4_string_1 : decode cX4_string 1 = .ok (.iload_n 1, 1) := by decide +kernel
theorem dX4_string_2 : decode cX4_string 2 = .ok (.invokevirtual 124, 3) := by decide +kernel
theorem dX4_string_5 : decode cX4_string 5 = .ok (.astore_n 3, 1) := by decide +kernel
theorem dX4_string_6 : decode cX4_string 6 = .ok (.iload_n 2, 1) := by decide +kernel
theorem dX4_string_7 : decode cX4_string 7 = .ok (.iconst 2, 1) := by decide +kernel
theorem dX4_string_8 : decode cX4_string 8 = .ok (.if_icmp .lt 9, 3) := by decide +kernel
theorem dX4_string_11 : decode cX4_string 11 = .ok (.iload_n 2, 1) := by decide +kernel
theorem dX4_string_12 : decode cX4_string 12 = .ok (.bipush 6, 2) := by decide +kernel
theorem dX4_string_14 : decode cX4_string 14 = .ok (.if_icmp .le 13, 3) := by decide +kernel
theorem dX4_string_17 : decode cX4_string 17 = .ok (.new 19, 3) := by decide +kernel
theorem dX4_string_20 : decode cX4_string 20 = .ok (.dup, 1) := by decide +kernel
theorem dX4_string_21 : decode cX4_string 21 = .ok (.ldc 128, 2) := by decide +kernel
theorem dX4_string_23 : decode cX4_string 23 = .ok (.invokespecial 23, 3) := by decide +kernel
theorem dX4_string_26 : decode cX4_string 26 = .ok (.athrow, 1) := by decide +kernel
theorem dX4_string_27 : decode cX4_string 27 = .ok (.aload_n 3, 1) := by decide +kernel
theorem dX4_string_28 : decode cX4_string 28 = .ok (.getfield 130, 3) := by decide +kernel
theorem dX4_string_31 : decode cX4_string 31 = .ok (.iconst (-1), 1) := by decide +kernel
theorem dX4_string_32 : decode cX4_string 32 = .ok (.if_icmp .eq 13, 3) := by decide +kernel
theorem dX4_string_35 : decode cX4_string 35 = .ok (.new 34, 3) := by decide +kernel
theorem dX4_string_38 : decode cX4_string 38 = .ok (.dup, 1) := by decide +kernel
theorem dX4_string_39 : decode cX4_string 39 = .ok (.ldc 135, 2) := by decide +kernel
theorem dX4_string_41 : decode cX4_string 41 = .ok (.invokespecial 38, 3) := by decide +kernel
theorem dX4_string_44 : decode cX4_string 44 = .ok (.athrow, 1) := by decide +kernel
theorem dX4_string_45 : decode cX4_string 45 = .ok (.aload_n 3, 1) := by decide +kernel
theorem dX4_string_46 : decode cX4_string 46 = .ok (.getfield 137, 3) := by decide +kernel
theorem dX4_string_49 : decode cX4_string 49 = .ok (.istore 4, 2) := by decide +kernel
theorem dX4_string_51 : decode cX4_string 51 = .ok (.aload_n 3, 1) := by decide +kernel
theorem dX4_string_52 : decode cX4_string 52 = .ok (.iload_n 2, 1) := by decide +kernel
theorem dX4_string_53 : decode cX4_string 53 = .ok (.putfield 137, 3) := by decide +kernel
theorem dX4_string_56 : decode cX4_string 56 = .ok (.iload 4, 2) := by decide +kernel
theorem dX4_string_58 : decode cX4_string 58 = .ok (.ireturn, 1) := by decide +kernel
set_option maxRecDepth 20000 in
theorem ggX4_frame_X4_knownFrame : GoodIn wsX4_frame wsX4_knownFrame := goodIn_ca (goodIn_r _ [6, 7, 8, 1, 9, 60, 61, 62, 63, 64, 65, 66, 67, 68, 69, 70, 71, 72, 73] (by decide +kernel) (by decide +kernel)) (goodIn_sub (fun _ h => List.mem_cons_of_mem _ (List.mem_append_right _ h)) (by decide +kernel))
set_option maxRecDepth 20000 in
theorem gX4_frame_X4_knownFrame : GoodIn wsX4_frame (wsV RX4 124 RX4 yX4_knownFrame wsX4_knownFrame) := goodIn_app (goodIn_of _ (by decide +kernel)) ggX4_frame_X4_knownFrame
set_option maxRecDepth 20000 in
theorem ggX4_frame_X4_checkKind : GoodIn wsX4_frame wsX4_checkKind := goodIn_ca (goodIn_r _ [12, 7, 8] (by decide +kernel) (by decide +kernel)) (goodIn_sub (fun _ h => List.mem_cons_of_mem _ (List.mem_append_right _ h)) (by decide +kernel))
set_option maxRecDepth 20000 in
theorem gX4_frame_X4_checkKind : GoodIn wsX4_frame (va_wsS RX4 80 yX4_checkKind wsX4_checkKind) := goodIn_app (goodIn_of _ (by decide +kernel)) ggX4_frame_X4_checkKind
set_option maxRecDepth 20000 in
theorem ggX4_frame_X3_tellOfFrame : GoodIn wsX4_frame wsX3_tellOfFrame := goodIn_r _ [17, 18, 19, 20, 21, 22, 23, 24, 16, 25, 26, 27, 28, 29, 30, 31, 32, 33, 34, 35, 36, 37, 38, 39, 40, 41, 42, 43, 44, 45, 46, 47, 48, 49, 50, 51, 52, 53, 54, 55, 56, 57, 58, 59, 74, 75, 76, 77, 62, 63, 64, 65, 66, 67, 68, 69, 70, 71, 72, 73, 78, 79, 80, 81, 82, 83, 84, 85, 86, 87, 88, 89, 90, 91, 92, 93] (by decide +kernel) (by decide +kernel)
set_option maxRecDepth 20000 in
theorem gX4_frame_X3_tellOfFrame : GoodIn wsX4_frame (wsV RX4 140 RX3 yX3_tellOfFrame wsX3_tellOfFrame) := goodIn_app (goodIn_of _ (by decide +kernel)) ggX4_frame_X3_tellOfFrame
theorem dX4_frame_0 : decode cX4_frame 0 = .ok (.aload_n 0, 1) := by decide +kernel
theorem dX4_frame_1 : decode cX4_frame 1 = .ok (.iload_n 1, 1) := by decide +kernel
theorem dX4_frame_2 : decode cX4_frame 2 = .ok (.invokevirtual 124, 3) := by decide +kernel
theorem dX4_frame_5 : decode cX4_frame 5 = .ok (.astore_n 3, 1) := by decide +kernel
theorem dX4_frame_6 : decode cX4_frame 6 = .ok (.iload_n 2, 1) := by decide +kernel
theorem dX4_frame_7 : decode cX4_frame 7 = .ok (.bipush 6, 2) := by decide +kernel
theorem dX4_frame_9 : decode cX4_frame 9 = .ok (.invokestatic 80, 3) := by decide +kernel
theorem dX4_frame_12 : decode cX4_frame 12 = .ok (.aload_n 0, 1) := by decide +kernel
theorem dX4_frame_13 : decode cX4_frame 13 = .ok (.getfield 10, 3) := by decide +kernel
theorem dX4_frame_16 : decode cX4_frame 16 = .ok (.aload_n 3, 1) := by decide +kernel
theorem dX4_frame_17 : decode cX4_frame 17 = .ok (.iload_n 2, 1) := by decide +kernel
theorem dX4_frame_18 : decode cX4_frame 18 = .ok (.invokevirtual 140, 3) := by decide +kernel
theorem dX4_frame_21 : decode cX4_frame 21 = .ok (.ireturn, 1) := by decide +kernel
set_option maxRecDepth 20000 in
theorem ggX4_buy_X4_priceOf : GoodIn wsX4_buy wsX4_priceOf := goodIn_r _ [12] (by decide +kernel) (by decide +kernel)
set_option maxRecDepth 20000 in
theorem gX4_buy_X4_priceOf : GoodIn wsX4_buy (va_wsS RX4 148 yX4_priceOf wsX4_priceOf) := goodIn_app (goodIn_of _ (by decide +kernel)) ggX4_buy_X4_priceOf
set_option maxRecDepth 20000 in
theorem ggX4_buy_X3_store : GoodIn wsX4_buy wsX3_store := goodIn_r _ [17, 18, 19, 20, 23, 24, 25, 26, 27, 28, 29, 30, 31, 32, 33, 34] (by decide +kernel) (by decide +kernel)
set_option maxRecDepth 20000 in
theorem gX4_buy_X3_store : GoodIn wsX4_buy (wsV RX4 153 RX3 yX3_store wsX3_store) := goodIn_app (goodIn_of _ (by decide +kernel)) ggX4_buy_X3_store
theorem dX4_buy_0 : decode cX4_buy 0 = .ok (.iload_n 1, 1) := by decide +kernel
theorem dX4_buy_1 : decode cX4_buy 1 = .ok (.ifCond .lt 8, 3) := by decide +kernel
theorem dX4_buy_4 : decode cX4_buy 4 = .ok (.iload_n 1, 1) := by decide +kernel
theorem dX4_buy_5 : decode cX4_buy 5 = .ok (.iconst 2, 1) := by decide +kernel
theorem dX4_buy_6 : decode cX4_buy 6 = .ok (.if_icmp .le 13, 3) := by decide +kernel
theorem dX4_buy_9 : decode cX4_buy 9 = .ok (.new 109, 3) := by decide +kernel
theorem dX4_buy_12 : decode cX4_buy 12 = .ok (.dup, 1) := by decide +kernel
theorem dX4_buy_13 : decode cX4_buy 13 = .ok (.ldc 144, 2) := by decide +kernel
theorem dX4_buy_15 : decode cX4_buy 15 = .ok (.invokespecial 113, 3) := by decide +kernel
theorem dX4_buy_18 : decode cX4_buy 18 = .ok (.athrow, 1) := by decide +kernel
theorem dX4_buy_19 : decode cX4_buy 19 = .ok (.iload_n 2, 1) := by decide +kernel
theorem dX4_buy_20 : decode cX4_buy 20 = .ok (.iconst 1, 1) := by decide +kernel
theorem dX4_buy_21 : decode cX4_buy 21 = .ok (.if_icmp .lt 10, 3) := by decide +kernel
theorem dX4_buy_24 : decode cX4_buy 24 = .ok (.iload_n 2, 1) := by decide +kernel
theorem dX4_buy_25 : decode cX4_buy 25 = .ok (.sipush 200, 3) := by decide +kernel
theorem dX4_buy_28 : decode cX4_buy 28 = .ok (.if_icmp .le 13, 3) := by decide +kernel
theorem dX4_buy_31 : decode cX4_buy 31 = .ok (.new 19, 3) := by decide +kernel
theorem dX4_buy_34 : decode cX4_buy 34 = .ok (.dup, 1) := by decide +kernel
theorem dX4_buy_35 : decode cX4_buy 35 = .ok (.ldc 146, 2) := by decide +kernel
theorem dX4_buy_37 : decode cX4_buy 37 = .ok (.invokespecial 23, 3) := by decide +kernel
theorem dX4_buy_40 : decode cX4_buy 40 = .ok (.athrow, 1) := by decide +kernel
theorem dX4_buy_41 : decode cX4_buy 41 = .ok (.iload_n 1, 1) := by decide +kernel
theorem dX4_buy_42 : decode cX4_buy 42 = .ok (.iload_n 2, 1) := by decide +kernel
theorem dX4_buy_43 : decode cX4_buy 43 = .ok (.invokestatic 148, 3) := by decide +kernel
theorem dX4_buy_46 : decode cX4_buy 46 = .ok (.istore_n 3, 1) := by decide +kernel
theorem dX4_buy_47 : decode cX4_buy 47 = .ok (.iload_n 3, 1) := by decide +kernel
theorem dX4_buy_48 : decode cX4_buy 48 = .ok (.aload_n 0, 1) := by decide +kernel
theorem dX4_buy_49 : decode cX4_buy 49 = .ok (.getfield 10, 3) := by decide +kernel
theorem dX4_buy_52 : decode cX4_buy 52 = .ok (.getfield 73, 3) := by decide +kernel
theorem dX4_buy_55 : decode cX4_buy 55 = .ok (.if_icmp .le 13, 3) := by decide +kernel
theorem dX4_buy_58 : decode cX4_buy 58 = .ok (.new 34, 3) := by decide +kernel
theorem dX4_buy_61 : decode cX4_buy 61 = .ok (.dup, 1) := by decide +kernel
theorem dX4_buy_62 : decode cX4_buy 62 = .ok (.ldc 151, 2) := by decide +kernel
theorem dX4_buy_64 : decode cX4_buy 64 = .ok (.invokespecial 38, 3) := by decide +kernel
theorem dX4_buy_67 : decode cX4_buy 67 = .ok (.athrow, 1) := by decide +kernel
theorem dX4_buy_68 : decode cX4_buy 68 = .ok (.aload_n 0, 1) := by decide +kernel
theorem dX4_buy_69 : decode cX4_buy 69 = .ok (.getfield 10, 3) := by decide +kernel
theorem dX4_buy_72 : decode cX4_buy 72 = .ok (.dup, 1) := by decide +kernel
theorem dX4_buy_73 : decode cX4_buy 73 = .ok (.getfield 73, 3) := by decide +kernel
theorem dX4_buy_76 : decode cX4_buy 76 = .ok (.iload_n 3, 1) := by decide +kernel
theorem dX4_buy_77 : decode cX4_buy 77 = .ok (.isub, 1) := by decide +kernel
theorem dX4_buy_78 : decode cX4_buy 78 = .ok (.putfield 73, 3) := by decide +kernel
theorem dX4_buy_81 : decode cX4_buy 81 = .ok (.aload_n 0, 1) := by decide +kernel
theorem dX4_buy_82 : decode cX4_buy 82 = .ok (.getfield 10, 3) := by decide +kernel
theorem dX4_buy_85 : decode cX4_buy 85 = .ok (.iload_n 1, 1) := by decide +kernel
theorem dX4_buy_86 : decode cX4_buy 86 = .ok (.iload_n 2, 1) := by decide +kernel
theorem dX4_buy_87 : decode cX4_buy 87 = .ok (.invokevirtual 153, 3) := by decide +kernel
theorem dX4_buy_90 : decode cX4_buy 90 = .ok (.ireturn, 1) := by decide +kernel
set_option maxRecDepth 20000 in
theorem ggX4_count_X4_checkKind : GoodIn wsX4_count wsX4_checkKind := goodIn_ca (goodIn_r _ [5, 6, 7] (by decide +kernel) (by decide +kernel)) (goodIn_sub (fun _ h => List.mem_cons_of_mem _ (List.mem_append_right _ h)) (by decide +kernel))
set_option maxRecDepth 20000 in
theorem gX4_count_X4_checkKind : GoodIn wsX4_count (va_wsS RX4 80 yX4_checkKind wsX4_checkKind) := goodIn_app (goodIn_of _ (by decide +kernel)) ggX4_count_X4_checkKind
set_option maxRecDepth 20000 in
theorem ggX4_count_X3_tellOfAll : GoodIn wsX4_count wsX3_tellOfAll := goodIn_r _ [12, 13, 14, 15, 16, 17, 18, 19, 20, 21, 22, 23, 11, 24, 25, 26, 29, 30, 31, 32, 33, 34, 35, 36, 37, 38, 39, 40, 41, 42, 43, 44, 45, 46, 47, 48, 49, 50, 51, 52, 53] (by decide +kernel) (by decide +kernel)
set_option maxRecDepth 20000 in
theorem gX4_count_X3_tellOfAll : GoodIn wsX4_count (wsV RX4 156 RX3 yX3_tellOfAll wsX3_tellOfAll) := goodIn_app (goodIn_of _ (by decide +kernel)) ggX4_count_X3_tellOfAll
theorem dX4_count_0 : decode cX4_count 0 = .ok (.iload_n 1, 1) := by decide +kernel
theorem dX4_count_1 : decode cX4_count 1 = .ok (.bipush 15, 2) := by decide +kernel
theorem dX4_count_3 : decode cX4_count 3 = .ok (.invokestatic 80, 3) := by decide +kernel
theorem dX4_count_6 : decode cX4_count 6 = .ok (.aload_n 0, 1) := by decide +kernel
theorem dX4_count_7 : decode cX4_count 7 = .ok (.getfield 10, 3) := by decide +kernel
theorem dX4_count_10 : decode cX4_count 10 = .ok (.iload_n 1, 1) := by decide +kernel
theorem dX4_count_11 : decode cX4_count 11 = .ok (.invokevirtual 156, 3) := by decide +kernel
theorem dX4_count_14 : decode cX4_count 14 = .ok (.ireturn, 1) := by decide +kernel
set_option maxRecDepth 20000 in
theorem ggX4_pass_X4_checkHours : GoodIn wsX4_pass wsX4_checkHours := goodIn_ca (goodIn_r _ [5, 6, 7] (by decide +kernel) (by decide +kernel)) (goodIn_sub (fun _ h => List.mem_cons_of_mem _ (List.mem_append_right _ h)) (by decide +kernel))
set_option maxRecDepth 20000 in
theorem gX4_pass_X4_checkHours : GoodIn wsX4_pass (va_wsS RX4 159 yX4_checkHours wsX4_checkHours) := goodIn_app (goodIn_of _ (by decide +kernel)) ggX4_pass_X4_checkHours
set_option maxRecDepth 20000 in
theorem ggX4_pass_X3_letHoursGo : GoodIn wsX4_pass wsX3_letHoursGo := goodIn_r _ [12, 13, 14, 15, 11, 16, 17, 18, 19, 20, 21, 22, 23, 24, 25, 26, 27, 28, 29, 30, 31, 32, 33, 34, 35, 36, 37, 38, 39, 40, 41, 42, 43, 44, 45, 46, 47, 48, 49, 50, 51, 52, 53, 54, 55, 56, 57, 58, 59, 60, 61, 62, 63, 64, 65, 66, 67, 68, 69, 70, 71, 72, 73, 74, 75, 76, 77, 78, 79, 80, 81, 82, 83, 84, 85, 86, 87, 88, 89, 90, 91, 92, 93, 94, 95, 96, 97, 98, 99, 100, 101, 102, 103, 104, 105, 106, 107, 108, 109, 110, 111, 112, 113, 114, 115, 116, 117, 118, 119, 120, 121, 122, 123, 124, 125, 126, 129, 130, 131, 132, 133, 134, 135, 136, 137, 138, 139, 140, 141, 142, 143, 144, 145, 146, 147, 148, 149, 150, 151, 152, 153, 154, 155, 156, 157, 158, 159, 160] (by decide +kernel) (by decide +kernel)
set_option maxRecDepth 20000 in
theorem gX4_pass_X3_letHoursGo : GoodIn wsX4_pass (wsV RX4 163 RX3 yX3_letHoursGo wsX3_letHoursGo) := goodIn_app (goodIn_of _ (by decide +kernel)) ggX4_pass_X3_letHoursGo
theorem dX4_pass_0 : decode cX4_pass 0 = .ok (.iload_n 1, 1) := by decide +kernel
theorem dX4_pass_1 : decode cX4_pass 1 = .ok (.invokestatic 159, 3) := by decide +kernel
theorem dX4_pass_4 : decode cX4_pass 4 = .ok (.aload_n 0, 1) := by decide +kernel
theorem dX4_pass_5 : decode cX4_pass 5 = .ok (.getfield 10, 3) := by decide +kernel
theorem dX4_pass_8 : decode cX4_pass 8 = .ok (.iload_n 1, 1) := by decide +kernel
theorem dX4_pass_9 : decode cX4_pass 9 = .ok (.invokevirtual 163, 3) := by decide +kernel
theorem dX4_pass_12 : decode cX4_pass 12 = .ok (.ireturn, 1) := by decide +kernel
set_option maxRecDepth 20000 in
theorem ggX4_foresee_X4_checkHours : GoodIn wsX4_foresee wsX4_checkHours := goodIn_ca (goodIn_r _ [8, 9, 10] (by decide +kernel) (by decide +kernel)) (goodIn_sub (fun _ h => List.mem_cons_of_mem _ (List.mem_append_right _ h)) (by decide +kernel))
set_option maxRecDepth 20000 in
theorem gX4_foresee_X4_checkHours : GoodIn wsX4_foresee (va_wsS RX4 159 yX4_checkHours wsX4_checkHours) := goodIn_app (goodIn_of _ (by decide +kernel)) ggX4_foresee_X4_checkHours
set_option maxRecDepth 20000 in
theorem ggX4_foresee_X3_setTo : GoodIn wsX4_foresee wsX3_setTo := goodIn_r _ [15, 16, 17, 18, 19, 20, 21, 22, 23, 24, 25, 26, 27, 28, 29, 30, 31, 32, 33, 34, 35, 36, 37, 38, 39, 40, 41, 42, 43, 44, 45, 46, 47, 48, 49, 50, 51, 52, 53, 54, 55, 56, 57, 58, 59, 162, 163, 164, 165, 166, 167, 168, 169, 170, 171, 172, 173, 174, 175, 176, 177, 178, 179, 180, 181, 182, 183, 184, 185, 186, 187, 188, 189, 190, 191, 192, 193] (by decide +kernel) (by decide +kernel)
set_option maxRecDepth 20000 in
theorem gX4_foresee_X3_setTo : GoodIn wsX4_foresee (wsV RX4 168 RX3 yX3_setTo wsX3_setTo) := goodIn_app (goodIn_of _ (by decide +kernel)) ggX4_foresee_X3_setTo
set_option maxRecDepth 20000 in
theorem ggX4_foresee_X3_letHoursGo : GoodIn wsX4_foresee wsX3_letHoursGo := goodIn_r _ [63, 64, 65, 66, 14, 67, 18, 68, 21, 69, 70, 71, 72, 16, 73, 74, 75, 76, 77, 25, 78, 79, 80, 31, 81, 82, 83, 84, 85, 33, 34, 86, 87, 88, 89, 44, 35, 36, 90, 91, 92, 93, 24, 94, 95, 96, 97, 98, 99, 100, 101, 102, 103, 104, 105, 43, 106, 107, 108, 109, 110, 23, 111, 112, 113, 114, 26, 115, 116, 27, 117, 118, 119, 120, 19, 121, 122, 123, 124, 17, 125, 126, 127, 128, 129, 130, 131, 132, 133, 40, 134, 135, 136, 137, 39, 41, 138, 139, 140, 141, 38, 142, 143, 144, 145, 37, 146, 147, 148, 149, 150, 151, 152, 153, 154, 155, 162, 163, 164, 165, 166, 167, 168, 169, 170, 171, 172, 173, 190, 191, 192, 193, 174, 175, 176, 177, 178, 179, 180, 181, 182, 183, 184, 185, 186, 187, 188, 189] (by decide +kernel) (by decide +kernel)
set_option maxRecDepth 20000 in
theorem gX4_foresee_X3_letHoursGo : GoodIn wsX4_foresee (wsV RX4 163 RX3 yX3_letHoursGo wsX3_letHoursGo) := goodIn_app (goodIn_of _ (by decide +kernel)) ggX4_foresee_X3_letHoursGo
set_option maxRecDepth 20000 in
theorem ggX4_foresee_X3_tellOfAll : GoodIn wsX4_foresee wsX3_tellOfAll := goodIn_r _ [159, 21, 19, 22, 23, 24, 25, 26, 27, 69, 70, 71, 14, 72, 16, 73, 162, 163, 164, 165, 166, 167, 168, 169, 170, 171, 172, 173, 174, 175, 176, 177, 178, 179, 180, 181, 182, 183, 184, 185, 186] (by decide +kernel) (by decide +kernel)
set_option maxRecDepth 20000 in
theorem gX4_foresee_X3_tellOfAll : GoodIn wsX4_foresee (wsV RX4 156 RX3 yX3_tellOfAll wsX3_tellOfAll) := goodIn_app (goodIn_of _ (by decide +kernel)) ggX4_foresee_X3_tellOfAll
theorem dX4_foresee_0 : decode cX4_foresee 0 = .ok (.iload_n 1, 1) := by decide +kernel
theorem dX4_foresee_1 : decode cX4_foresee 1 = .ok (.invokestatic 159, 3) := by decide +kernel
theorem dX4_foresee_4 : decode cX4_foresee 4 = .ok (.iload_n 2, 1) := by decide +kernel
theorem dX4_foresee_5 : decode cX4_foresee 5 = .ok (.iconst 2, 1) := by decide +kernel
theorem dX4_foresee_6 : decode cX4_foresee 6 = .ok (.if_icmp .lt 21, 3) := by decide +kernel
theorem dX4_foresee_9 : decode cX4_foresee 9 = .ok (.iload_n 2, 1) := by decide +kernel
theorem dX4_foresee_10 : decode cX4_foresee 10 = .ok (.bipush 14, 2) := by decide +kernel
theorem dX4_foresee_12 : decode cX4_foresee 12 = .ok (.if_icmp .gt 15, 3) := by decide +kernel
theorem dX4_foresee_15 : decode cX4_foresee 15 = .ok (.iload_n 2, 1) := by decide +kernel
theorem dX4_foresee_16 : decode cX4_foresee 16 = .ok (.bipush 8, 2) := by decide +kernel
theorem dX4_foresee_18 : decode cX4_foresee 18 = .ok (.if_icmp .eq 9, 3) := by decide +kernel
theorem dX4_foresee_21 : decode cX4_foresee 21 = .ok (.iload_n 2, 1) := by decide +kernel
theorem dX4_foresee_22 : decode cX4_foresee 22 = .ok (.bipush 9, 2) := by decide +kernel
theorem dX4_foresee_24 : decode cX4_foresee 24 = .ok (.if_icmp .ne 13, 3) := by decide +kernel
theorem dX4_foresee_27 : decode cX4_foresee 27 = .ok (.new 109, 3) := by decide +kernel
theorem dX4_foresee_30 : decode cX4_foresee 30 = .ok (.dup, 1) := by decide +kernel
theorem dX4_foresee_31 : decode cX4_foresee 31 = .ok (.ldc 166, 2) := by decide +kernel
theorem dX4_foresee_33 : decode cX4_foresee 33 = .ok (.invokespecial 113, 3) := by decide +kernel
theorem dX4_foresee_36 : decode cX4_foresee 36 = .ok (.athrow, 1) := by decide +kernel
theorem dX4_foresee_37 : decode cX4_foresee 37 = .ok (.aload_n 0, 1) := by decide +kernel
theorem dX4_foresee_38 : decode cX4_foresee 38 = .ok (.getfield 16, 3) := by decide +kernel
theorem dX4_foresee_41 : decode cX4_foresee 41 = .ok (.aload_n 0, 1) := by decide +kernel
theorem dX4_foresee_42 : decode cX4_foresee 42 = .ok (.getfield 10, 3) := by decide +kernel
theorem dX4_foresee_45 : decode cX4_foresee 45 = .ok (.invokevirtual 168, 3) := by decide +kernel
theorem dX4_foresee_48 : decode cX4_foresee 48 = .ok (.aload_n 0, 1) := by decide +kernel
theorem dX4_foresee_49 : decode cX4_foresee 49 = .ok (.getfield 16, 3) := by decide +kernel
theorem dX4_foresee_52 : decode cX4_foresee 52 = .ok (.iload_n 1, 1) := by decide +kernel
theorem dX4_foresee_53 : decode cX4_foresee 53 = .ok (.invokevirtual 163, 3) := by decide +kernel
theorem dX4_foresee_56 : decode cX4_foresee 56 = .ok (.pop, 1) := by decide +kernel
theorem dX4_foresee_57 : decode cX4_foresee 57 = .ok (.aload_n 0, 1) := by decide +kernel
theorem dX4_foresee_58 : decode cX4_foresee 58 = .ok (.getfield 16, 3) := by decide +kernel
theorem dX4_foresee_61 : decode cX4_foresee 61 = .ok (.iload_n 2, 1) := by decide +kernel
theorem dX4_foresee_62 : decode cX4_foresee 62 = .ok (.invokevirtual 156, 3) := by decide +kernel
theorem dX4_foresee_65 : decode cX4_foresee 65 = .ok (.ireturn, 1) := by decide +kernel
set_option maxRecDepth 20000 in
theorem ggX4_until_X4_knownBook : GoodIn wsX4_until wsX4_knownBook := goodIn_ca (goodIn_r _ [8, 9, 10, 3, 11, 12, 13, 14, 15, 16, 17, 166, 167, 168, 169, 170, 171, 172, 173, 174, 175, 176, 177, 178, 179] (by decide +kernel) (by decide +kernel)) (goodIn_sub (fun _ h => List.mem_cons_of_mem _ (List.mem_append_right _ h)) (by decide +kernel))
set_option maxRecDepth 20000 in
theorem gX4_until_X4_knownBook : GoodIn wsX4_until (wsV RX4 52 RX4 yX4_knownBook wsX4_knownBook) := goodIn_app (goodIn_of _ (by decide +kernel)) ggX4_until_X4_knownBook
set_option maxRecDepth 20000 in
theorem ggX4_until_X3_setTo : GoodIn wsX4_until wsX3_setTo := goodIn_r _ [21, 17, 22, 23, 16, 24, 25, 26, 27, 28, 29, 30, 31, 32, 33, 34, 35, 36, 37, 38, 39, 40, 41, 42, 43, 44, 45, 46, 47, 48, 49, 50, 51, 52, 53, 54, 55, 56, 57, 58, 59, 60, 61, 62, 63, 168, 169, 170, 171, 172, 173, 174, 175, 176, 177, 178, 179, 153, 154, 155, 156, 157, 158, 159, 160, 161, 162, 163, 164, 165, 180, 181, 182, 183, 184, 185, 186] (by decide +kernel) (by decide +kernel)
set_option maxRecDepth 20000 in
theorem gX4_until_X3_setTo : GoodIn wsX4_until (wsV RX4 168 RX3 yX3_setTo wsX3_setTo) := goodIn_app (goodIn_of _ (by decide +kernel)) ggX4_until_X3_setTo
set_option maxRecDepth 20000 in
theorem ggX4_until_X3_bookNumbered : GoodIn wsX4_until wsX3_bookNumbered := goodIn_r _ [15, 16, 17, 168, 169, 170, 171, 172, 173, 174, 175, 176, 177, 178, 179] (by decide +kernel) (by decide +kernel)
set_option maxRecDepth 20000 in
theorem gX4_until_X3_bookNumbered : GoodIn wsX4_until (wsV RX4 172 RX3 yX3_bookNumbered wsX3_bookNumbered) := goodIn_app (goodIn_of _ (by decide +kernel)) ggX4_until_X3_bookNumbered
set_option maxRecDepth 20000 in
theorem ggX4_until_X3_letAnHourGo : GoodIn wsX4_until wsX3_letAnHourGo := goodIn_r _ [67, 23, 68, 25, 69, 70, 71, 14, 72, 17, 73, 74, 75, 76, 77, 29, 78, 79, 80, 35, 81, 82, 83, 84, 85, 37, 38, 86, 87, 88, 89, 48, 39, 40, 90, 91, 92, 93, 28, 94, 95, 96, 97, 98, 99, 100, 101, 102, 103, 104, 105, 47, 106, 107, 108, 109, 110, 27, 111, 112, 113, 114, 30, 115, 116, 31, 117, 12, 13, 15, 16, 118, 119, 120, 121, 22, 122, 123, 124, 125, 126, 127, 128, 129, 130, 44, 131, 132, 133, 134, 43, 45, 135, 136, 137, 138, 42, 139, 140, 141, 142, 41, 143, 144, 145, 146, 147, 148, 149, 150, 151, 152, 168, 169, 170, 171, 172, 173, 174, 175, 176, 177, 178, 179, 183, 184, 185, 186, 153, 154, 155, 156, 157, 158, 159, 160, 161, 162, 163, 164, 165, 180, 181, 182] (by decide +kernel) (by decide +kernel)
set_option maxRecDepth 20000 in
theorem gX4_until_X3_letAnHourGo : GoodIn wsX4_until (wsV RX4 175 RX3 yX3_letAnHourGo wsX3_letAnHourGo) := goodIn_app (goodIn_of _ (by decide +kernel)) ggX4_until_X3_letAnHourGo
theorem dX4_until_0 : decode cX4_until 0 = .ok (.aload_n 0, 1) := by decide +kernel
theorem dX4_until_1 : decode cX4_until 1 = .ok (.iload_n 1, 1) := by decide +kernel
theorem dX4_until_2 : decode cX4_until 2 = .ok (.invokevirtual 52, 3) := by decide +kernel
theorem dX4_until_5 : decode cX4_until 5 = .ok (.getfield 56, 3) := by decide +kernel
theorem dX4_until_8 : decode cX4_until 8 = .ok (.iconst 5, 1) := by decide +kernel
theorem dX4_until_9 : decode cX4_until 9 = .ok (.if_icmp .lt 5, 3) := by decide +kernel
theorem dX4_until_12 : decode cX4_until 12 = .ok (.iconst 0, 1) := by decide +kernel
theorem dX4_until_13 : decode cX4_until 13 = .ok (.ireturn, 1) := by decide +kernel
theorem dX4_until_14 : decode cX4_until 14 = .ok (.aload_n 0, 1) := by decide +kernel
theorem dX4_until_15 : decode cX4_until 15 = .ok (.getfield 16, 3) := by decide +kernel
theorem dX4_until_18 : decode cX4_until 18 = .ok (.aload_n 0, 1) := by decide +kernel
theorem dX4_until_19 : decode cX4_until 19 = .ok (.getfield 10, 3) := by decide +kernel
theorem dX4_until_22 : decode cX4_until 22 = .ok (.invokevirtual 168, 3) := by decide +kernel
theorem dX4_until_25 : decode cX4_until 25 = .ok (.aload_n 0, 1) := by decide +kernel
theorem dX4_until_26 : decode cX4_until 26 = .ok (.getfield 16, 3) := by decide +kernel
theorem dX4_until_29 : decode cX4_until 29 = .ok (.iload_n 1, 1) := by decide +kernel
theorem dX4_until_30 : decode cX4_until 30 = .ok (.invokevirtual 172, 3) := by decide +kernel
theorem dX4_until_33 : decode cX4_until 33 = .ok (.astore_n 2, 1) := by decide +kernel
theorem dX4_until_34 : decode cX4_until 34 = .ok (.iconst 1, 1) := by decide +kernel
theorem dX4_until_35 : decode cX4_until 35 = .ok (.istore_n 3, 1) := by decide +kernel
theorem dX4_until_36 : decode cX4_until 36 = .ok (.iload_n 3, 1) := by decide +kernel
theorem dX4_until_37 : decode cX4_until 37 = .ok (.sipush 250, 3) := by decide +kernel
theorem dX4_until_40 : decode cX4_until 40 = .ok (.if_icmp .gt 31, 3) := by decide +kernel
theorem dX4_until_43 : decode cX4_until 43 = .ok (.aload_n 0, 1) := by decide +kernel
theorem dX4_until_44 : decode cX4_until 44 = .ok (.getfield 16, 3) := by decide +kernel
theorem dX4_until_47 : decode cX4_until 47 = .ok (.invokevirtual 175, 3) := by decide +kernel
theorem dX4_until_50 : decode cX4_until 50 = .ok (.pop, 1) := by decide +kernel
theorem dX4_until_51 : decode cX4_until 51 = .ok (.aload_n 2, 1) := by decide +kernel
theorem dX4_until_52 : decode cX4_until 52 = .ok (.ifnull 13, 3) := by decide +kernel
theorem dX4_until_55 : decode cX4_until 55 = .ok (.aload_n 2, 1) := by decide +kernel
theorem dX4_until_56 : decode cX4_until 56 = .ok (.getfield 56, 3) := by decide +kernel
theorem dX4_until_59 : decode cX4_until 59 = .ok (.iconst 5, 1) := by decide +kernel
theorem dX4_until_60 : decode cX4_until 60 = .ok (.if_icmp .ne 5, 3) := by decide +kernel
theorem dX4_until_63 : decode cX4_until 63 = .ok (.iload_n 3, 1) := by decide +kernel
theorem dX4_until_64 : decode cX4_until 64 = .ok (.ireturn, 1) := by decide +kernel
theorem dX4_until_65 : decode cX4_until 65 = .ok (.iinc 3 1, 3) := by decide +kernel
theorem dX4_until_68 : decode cX4_until 68 = .ok (.goto (-32), 3) := by decide +kernel
theorem dX4_until_71 : decode cX4_until 71 = .ok (.iconst (-1), 1) := by decide +kernel
theorem dX4_until_72 : decode cX4_until 72 = .ok (.ireturn, 1) := by decide +kernel
set_option maxRecDepth 20000 in
theorem ggX4_next_X3_setTo : GoodIn wsX4_next wsX3_setTo := goodIn_r _ [7, 8, 9, 10, 11, 12, 13, 14, 15, 16, 17, 18, 19, 20, 21, 22, 23, 24, 25, 26, 27, 28, 29, 30, 31, 32, 33, 34, 35, 36, 37, 38, 39, 40, 41, 42, 43, 44, 45, 46, 47, 48, 49, 50, 51, 153, 154, 155, 156, 157, 158, 159, 160, 161, 162, 163, 164, 165, 166, 167, 168, 169, 170, 171, 172, 173, 174, 175, 176, 177, 178, 179, 180, 181, 182, 183, 184] (by decide +kernel) (by decide +kernel)
set_option maxRecDepth 20000 in
theorem gX4_next_X3_setTo : GoodIn wsX4_next (wsV RX4 168 RX3 yX3_setTo wsX3_setTo) := goodIn_app (goodIn_of _ (by decide +kernel)) ggX4_next_X3_setTo
set_option maxRecDepth 20000 in
theorem ggX4_next_X3_letAnHourGo : GoodIn wsX4_next wsX3_letAnHourGo := goodIn_r _ [55, 10, 56, 13, 57, 58, 59, 6, 60, 8, 61, 62, 63, 64, 65, 17, 66, 67, 68, 23, 69, 70, 71, 72, 73, 25, 26, 74, 75, 76, 77, 36, 27, 28, 78, 79, 80, 81, 16, 82, 83, 84, 85, 86, 87, 88, 89, 90, 91, 92, 93, 35, 94, 95, 96, 97, 98, 15, 99, 100, 101, 102, 18, 103, 104, 19, 105, 106, 107, 108, 11, 109, 110, 111, 112, 9, 113, 114, 115, 116, 117, 118, 119, 120, 121, 32, 122, 123, 124, 125, 31, 33, 126, 127, 128, 129, 30, 130, 131, 132, 133, 29, 134, 135, 136, 137, 138, 139, 140, 141, 142, 143, 153, 154, 155, 156, 157, 158, 159, 160, 161, 162, 163, 164, 181, 182, 183, 184, 165, 166, 167, 168, 169, 170, 171, 172, 173, 174, 175, 176, 177, 178, 179, 180] (by decide +kernel) (by decide +kernel)
set_option maxRecDepth 20000 in
theorem gX4_next_X3_letAnHourGo : GoodIn wsX4_next (wsV RX4 175 RX3 yX3_letAnHourGo wsX3_letAnHourGo) := goodIn_app (goodIn_of _ (by decide +kernel)) ggX4_next_X3_letAnHourGo
set_option maxRecDepth 20000 in
theorem ggX4_next_X4_firstDoneAhead : GoodIn wsX4_next wsX4_firstDoneAhead := goodIn_r _ [148, 2, 149, 1, 150, 151, 152, 153, 154, 155, 156, 157, 158, 159, 160, 161, 162, 163, 164, 165, 166, 167, 168, 169, 170, 171, 172, 173, 174, 175, 176, 177] (by decide +kernel) (by decide +kernel)
set_option maxRecDepth 20000 in
theorem gX4_next_X4_firstDoneAhead : GoodIn wsX4_next (wsV RX4 178 RX4 yX4_firstDoneAhead wsX4_firstDoneAhead) := goodIn_app (goodIn_of _ (by decide +kernel)) ggX4_next_X4_firstDoneAhead
theorem dX4_next_0 : decode cX4_next 0 = .ok (.aload_n 0, 1) := by decide +kernel
theorem dX4_next_1 : decode cX4_next 1 = .ok (.getfield 16, 3) := by decide +kernel
theorem dX4_next_4 : decode cX4_next 4 = .ok (.aload_n 0, 1) := by decide +kernel
theorem dX4_next_5 : decode cX4_next 5 = .ok (.getfield 10, 3) := by decide +kernel
theorem dX4_next_8 : decode cX4_next 8 = .ok (.invokevirtual 168, 3) := by decide +kernel
theorem dX4_next_11 : decode cX4_next 11 = .ok (.iconst 1, 1) := by decide +kernel
theorem dX4_next_12 : decode cX4_next 12 = .ok (.istore_n 1, 1) := by decide +kernel
theorem dX4_next_13 : decode cX4_next 13 = .ok (.iload_n 1, 1) := by decide +kernel
theorem dX4_next_14 : decode cX4_next 14 = .ok (.sipush 250, 3) := by decide +kernel
theorem dX4_next_17 : decode cX4_next 17 = .ok (.if_icmp .gt 24, 3) := by decide +kernel
theorem dX4_next_20 : decode cX4_next 20 = .ok (.aload_n 0, 1) := by decide +kernel
theorem dX4_next_21 : decode cX4_next 21 = .ok (.getfield 16, 3) := by decide +kernel
theorem dX4_next_24 : decode cX4_next 24 = .ok (.invokevirtual 175, 3) := by decide +kernel
theorem dX4_next_27 : decode cX4_next 27 = .ok (.ifCond .le 8, 3) := by decide +kernel
theorem dX4_next_30 : decode cX4_next 30 = .ok (.aload_n 0, 1) := by decide +kernel
theorem dX4_next_31 : decode cX4_next 31 = .ok (.invokevirtual 178, 3) := by decide +kernel
theorem dX4_next_34 : decode cX4_next 34 = .ok (.ireturn, 1) := by decide +kernel
theorem dX4_next_35 : decode cX4_next 35 = .ok (.iinc 1 1, 3) := by decide +kernel
theorem dX4_next_38 : decode cX4_next 38 = .ok (.goto (-25), 3) := by decide +kernel
theorem dX4_next_41 : decode cX4_next 41 = .ok (.iconst (-1), 1) := by decide +kernel
theorem dX4_next_42 : decode cX4_next 42 = .ok (.ireturn, 1) := by decide +kernel
set_option maxRecDepth 20000 in
theorem ggX4_advise_X4_knownSewer : GoodIn wsX4_advise wsX4_knownSewer := goodIn_ca (goodIn_r _ [6, 7, 8, 1, 9, 10, 11, 12, 13, 14, 15, 170, 171, 172, 173, 174, 175, 176, 177, 178, 179, 180, 181, 182, 183] (by decide +kernel) (by decide +kernel)) (goodIn_sub (fun _ h => List.mem_cons_of_mem _ (List.mem_append_right _ h)) (by decide +kernel))
set_option maxRecDepth 20000 in
theorem gX4_advise_X4_knownSewer : GoodIn wsX4_advise (wsV RX4 105 RX4 yX4_knownSewer wsX4_knownSewer) := goodIn_app (goodIn_of _ (by decide +kernel)) ggX4_advise_X4_knownSewer
set_option maxRecDepth 20000 in
theorem ggX4_advise_X3_othersAt : GoodIn wsX4_advise wsX3_othersAt := goodIn_r _ [19, 15, 20, 21, 172, 173, 174, 175, 176, 177, 178, 179, 180, 181, 182, 183, 184, 185, 186] (by decide +kernel) (by decide +kernel)
set_option maxRecDepth 20000 in
theorem gX4_advise_X3_othersAt : GoodIn wsX4_advise (wsV RX4 114 RX3 yX3_othersAt wsX3_othersAt) := goodIn_app (goodIn_of _ (by decide +kernel)) ggX4_advise_X3_othersAt
set_option maxRecDepth 20000 in
theorem ggX4_advise_X4_sewnAheadWith : GoodIn wsX4_advise wsX4_sewnAheadWith := goodIn_r _ [25, 26, 1, 27, 28, 29, 30, 31, 12, 32, 33, 15, 34, 35, 14, 36, 37, 38, 39, 40, 41, 42, 43, 44, 45, 46, 47, 48, 49, 50, 51, 52, 53, 54, 55, 56, 57, 58, 59, 60, 61, 62, 63, 64, 65, 66, 67, 68, 69, 70, 71, 72, 73, 74, 9, 10, 11, 13, 75, 76, 77, 78, 79, 80, 81, 82, 83, 84, 85, 86, 87, 88, 89, 90, 91, 92, 93, 94, 95, 96, 97, 98, 99, 100, 101, 102, 103, 104, 105, 106, 107, 108, 109, 110, 111, 112, 113, 114, 115, 116, 117, 118, 119, 120, 121, 122, 123, 124, 125, 126, 127, 128, 129, 130, 131, 132, 133, 134, 135, 136, 137, 138, 139, 20, 140, 141, 142, 143, 144, 145, 146, 147, 148, 149, 150, 151, 152, 153, 154, 155, 156, 157, 158, 159, 160, 161, 162, 163, 164, 165, 166, 167, 168, 169, 170, 171, 184, 185, 186, 172, 173, 174, 175, 176, 177, 178, 179, 180, 181, 182, 183, 187, 188, 189, 190, 191, 192, 193, 194, 195, 196, 197, 198, 199, 200, 201, 202, 203] (by decide +kernel) (by decide +kernel)
set_option maxRecDepth 20000 in
theorem gX4_advise_X4_sewnAheadWith : GoodIn wsX4_advise (wsV RX4 181 RX4 yX4_sewnAheadWith wsX4_sewnAheadWith) := goodIn_app (goodIn_of _ (by decide +kernel)) ggX4_advise_X4_sewnAheadWith
theorem dX4_advise_0 : decode cX4_advise 0 = .ok (.aload_n 0, 1) := by decide +kernel
theorem dX4_advise_1 : decode cX4_advise 1 = .ok (.iload_n 1, 1) := by decide +kernel
theorem dX4_advise_2 : decode cX4_advise 2 = .ok (.invokevirtual 105, 3) := by decide +kernel
theorem dX4_advise_5 : decode cX4_advise 5 = .ok (.pop, 1) := by decide +kernel
theorem dX4_advise_6 : decode cX4_advise 6 = .ok (.iconst (-1), 1) := by decide +kernel
theorem dX4_advise_7 : decode cX4_advise 7 = .ok (.istore_n 2, 1) := by decide +kernel
theorem dX4_advise_8 : decode cX4_advise 8 = .ok (.iconst (-1), 1) := by decide +kernel
theorem dX4_advise_9 : decode cX4_advise 9 = .ok (.istore_n 3, 1) := by decide +kernel
theorem dX4_advise_10 : decode cX4_advise 10 = .ok (.iconst 0, 1) := by decide +kernel
theorem dX4_advise_11 : decode cX4_advise 11 = .ok (.istore 4, 2) := by decide +kernel
theorem dX4_advise_13 : decode cX4_advise 13 = .ok (.iload 4, 2) := by decide +kernel
theorem dX4_advise_15 : decode cX4_advise 15 = .ok (.iconst 3, 1) := by decide +kernel
theorem dX4_advise_16 : decode cX4_advise 16 = .ok (.if_icmp .ge 44, 3) := by decide +kernel
theorem dX4_advise_19 : decode cX4_advise 19 = .ok (.aload_n 0, 1) := by decide +kernel
theorem dX4_advise_20 : decode cX4_advise 20 = .ok (.getfield 10, 3) := by decide +kernel
theorem dX4_advise_23 : decode cX4_advise 23 = .ok (.iload 4, 2) := by decide +kernel
theorem dX4_advise_25 : decode cX4_advise 25 = .ok (.iload_n 1, 1) := by decide +kernel
theorem dX4_advise_26 : decode cX4_advise 26 = .ok (.invokevirtual 114, 3) := by decide +kernel
theorem dX4_advise_29 : decode cX4_advise 29 = .ok (.iconst 2, 1) := by decide +kernel
theorem dX4_advise_30 : decode cX4_advise 30 = .ok (.if_icmp .ge 24, 3) := by decide +kernel
theorem dX4_advise_33 : decode cX4_advise 33 = .ok (.aload_n 0, 1) := by decide +kernel
theorem dX4_advise_34 : decode cX4_advise 34 = .ok (.iload_n 1, 1) := by decide +kernel
theorem dX4_advise_35 : decode cX4_advise 35 = .ok (.iload 4, 2) := by decide +kernel
theorem dX4_advise_37 : decode cX4_advise 37 = .ok (.invokevirtual 181, 3) := by decide +kernel
theorem dX4_advise_40 : decode cX4_advise 40 = .ok (.istore 5, 2) := by decide +kernel
theorem dX4_advise_42 : decode cX4_advise 42 = .ok (.iload 5, 2) := by decide +kernel
theorem dX4_advise_44 : decode cX4_advise 44 = .ok (.iload_n 3, 1) := by decide +kernel
theorem dX4_advise_45 : decode cX4_advise 45 = .ok (.if_icmp .le 9, 3) := by decide +kernel
theorem dX4_advise_48 : decode cX4_advise 48 = .ok (.iload 5, 2) := by decide +kernel
theorem dX4_advise_50 : decode cX4_advise 50 = .ok (.istore_n 3, 1) := by decide +kernel
theorem dX4_advise_51 : decode cX4_advise 51 = .ok (.iload 4, 2) := by decide +kernel
theorem dX4_advise_53 : decode cX4_advise 53 = .ok (.istore_n 2, 1) := by decide +kernel
theorem dX4_advise_54 : decode cX4_advise 54 = .ok (.iinc 4 1, 3) := by decide +kernel
theorem dX4_advise_57 : decode cX4_advise 57 = .ok (.goto (-44), 3) := by decide +kernel
theorem dX4_advise_60 : decode cX4_advise 60 = .ok (.iload_n 2, 1) := by decide +kernel
theorem dX4_advise_61 : decode cX4_advise 61 = .ok (.ireturn, 1) := by decide +kernel
set_option maxRecDepth 20000 in
theorem ggX4_digest_X3_tellOfAll : GoodIn wsX4_digest wsX3_tellOfAll := goodIn_r _ [13, 14, 15, 16, 17, 18, 19, 20, 21, 22, 23, 24, 12, 25, 26, 27, 99, 100, 101, 102, 103, 104, 105, 106, 107, 108, 109, 110, 111, 112, 113, 114, 115, 116, 117, 118, 119, 120, 121, 122, 123] (by decide +kernel) (by decide +kernel)
set_option maxRecDepth 20000 in
theorem gX4_digest_X3_tellOfAll : GoodIn wsX4_digest (wsV RX4 156 RX3 yX3_tellOfAll wsX3_tellOfAll) := goodIn_app (goodIn_of _ (by decide +kernel)) ggX4_digest_X3_tellOfAll
set_option maxRecDepth 20000 in
theorem ggX4_digest_X3_tellOfFrame : GoodIn wsX4_digest wsX3_tellOfFrame := goodIn_r _ [31, 32, 33, 34, 35, 36, 37, 38, 12, 39, 15, 26, 40, 41, 42, 43, 44, 45, 46, 47, 48, 49, 50, 51, 52, 53, 54, 55, 56, 57, 58, 59, 60, 61, 62, 63, 64, 65, 66, 67, 68, 69, 70, 71, 124, 125, 126, 127, 99, 100, 101, 102, 103, 104, 105, 106, 107, 108, 109, 110, 128, 129, 130, 111, 112, 113, 114, 115, 116, 117, 118, 119, 120, 121, 122, 123] (by decide +kernel) (by decide +kernel)
set_option maxRecDepth 20000 in
theorem gX4_digest_X3_tellOfFrame : GoodIn wsX4_digest (wsV RX4 140 RX3 yX3_tellOfFrame wsX3_tellOfFrame) := goodIn_app (goodIn_of _ (by decide +kernel)) ggX4_digest_X3_tellOfFrame
set_option maxRecDepth 20000 in
theorem ggX4_digest_X2_tell : GoodIn wsX4_digest wsX2_tell := goodIn_r _ [76, 77, 78, 128, 129, 130] (by decide +kernel) (by decide +kernel)
set_option maxRecDepth 20000 in
theorem gX4_digest_X2_tell : GoodIn wsX4_digest (wsV RX4 123 RX2 yX2_tell wsX2_tell) := goodIn_app (goodIn_of _ (by decide +kernel)) ggX4_digest_X2_tell
set_option maxRecDepth 20000 in
theorem ggX4_digest_X0_tell : GoodIn wsX4_digest wsX0_tell := goodIn_r _ [82, 65, 83, 84, 85, 86, 87, 88, 89, 90, 91, 92, 93, 94, 63, 95, 71, 96, 57, 58, 59, 111, 112, 113, 114, 115, 116, 117, 118, 119, 120, 121, 122, 123] (by decide +kernel) (by decide +kernel)
set_option maxRecDepth 20000 in
theorem gX4_digest_X0_tell : GoodIn wsX4_digest (wsV RX4 84 RX0 yX0_tell wsX0_tell) := goodIn_app (goodIn_of _ (by decide +kernel)) ggX4_digest_X0_tell
theorem dX4_digest_0 : decode cX4_digest 0 = .ok (.ldc2_w 188, 3) := by decide +kernel
theorem dX4_digest_3 : decode cX4_digest 3 = .ok (.lstore_n 1, 1) := by decide +kernel
theorem dX4_digest_4 : decode cX4_digest 4 = .ok (.iconst 0, 1) := by decide +kernel
theorem dX4_digest_5 : decode cX4_digest 5 = .ok (.istore_n 3, 1) := by decide +kernel
theorem dX4_digest_6 : decode cX4_digest 6 = .ok (.iload_n 3, 1) := by decide +kernel
theorem dX4_digest_7 : decode cX4_digest 7 = .ok (.bipush 15, 2) := by decide +kernel
theorem dX4_digest_9 : decode cX4_digest 9 = .ok (.if_icmp .ge 25, 3) := by decide +kernel
theorem dX4_digest_12 : decode cX4_digest 12 = .ok (.lload_n 1, 1) := by decide +kernel
theorem dX4_digest_13 : decode cX4_digest 13 = .ok (.ldc2_w 190, 3) := by decide +kernel
theorem dX4_digest_16 : decode cX4_digest 16 = .ok (.lmul, 1) := by decide +kernel
theorem dX4_digest_17 : decode cX4_digest 17 = .ok (.aload_n 0, 1) := by decide +kernel
theorem dX4_digest_18 : decode cX4_digest 18 = .ok (.getfield 10, 3) := by decide +kernel
theorem dX4_digest_21 : decode cX4_digest 21 = .ok (.iload_n 3, 1) := by decide +kernel
theorem dX4_digest_22 : decode cX4_digest 22 = .ok (.invokevirtual 156, 3) := by decide +kernel
theorem dX4_digest_25 : decode cX4_digest 25 = .ok (.i2l, 1) := by decide +kernel
theorem dX4_digest_26 : decode cX4_digest 26 = .ok (.ladd, 1) := by decide +kernel
theorem dX4_digest_27 : decode cX4_digest 27 = .ok (.lstore_n 1, 1) := by decide +kernel
theorem dX4_digest_28 : decode cX4_digest 28 = .ok (.iinc 3 1, 3) := by decide +kernel
theorem dX4_digest_31 : decode cX4_digest 31 = .ok (.goto (-25), 3) := by decide +kernel
theorem dX4_digest_34 : decode cX4_digest 34 = .ok (.aload_n 0, 1) := by decide +kernel
theorem dX4_digest_35 : decode cX4_digest 35 = .ok (.getfield 10, 3) := by decide +kernel
theorem dX4_digest_38 : decode cX4_digest 38 = .ok (.getfield 192, 3) := by decide +kernel
theorem dX4_digest_41 : decode cX4_digest 41 = .ok (.astore_n 3, 1) := by decide +kernel
theorem dX4_digest_42 : decode cX4_digest 42 = .ok (.aload_n 3, 1) := by decide +kernel
theorem dX4_digest_43 : decode cX4_digest 43 = .ok (.arraylength, 1) := by decide +kernel
theorem dX4_digest_44 : decode cX4_digest 44 = .ok (.istore 4, 2) := by decide +kernel
theorem dX4_digest_46 : decode cX4_digest 46 = .ok (.iconst 0, 1) := by decide +kernel
theorem dX4_digest_47 : decode cX4_digest 47 = .ok (.istore 5, 2) := by decide +kernel
theorem dX4_digest_49 : decode cX4_digest 49 = .ok (.iload 5, 2) := by decide +kernel
theorem dX4_digest_51 : decode cX4_digest 51 = .ok (.iload 4, 2) := by decide +kernel
theorem dX4_digest_53 : decode cX4_digest 53 = .ok (.if_icmp .ge 50, 3) := by decide +kernel
theorem dX4_digest_56 : decode cX4_digest 56 = .ok (.aload_n 3, 1) := by decide +kernel
theorem dX4_digest_57 : decode cX4_digest 57 = .ok (.iload 5, 2) := by decide +kernel
theorem dX4_digest_59 : decode cX4_digest 59 = .ok (.aaload, 1) := by decide +kernel
theorem dX4_digest_60 : decode cX4_digest 60 = .ok (.astore 6, 2) := by decide +kernel
theorem dX4_digest_62 : decode cX4_digest 62 = .ok (.iconst 0, 1) := by decide +kernel
theorem dX4_digest_63 : decode cX4_digest 63 = .ok (.istore 7, 2) := by decide +kernel
theorem dX4_digest_65 : decode cX4_digest 65 = .ok (.iload 7, 2) := by decide +kernel
theorem dX4_digest_67 : decode cX4_digest 67 = .ok (.bipush 6, 2) := by decide +kernel
theorem dX4_digest_69 : decode cX4_digest 69 = .ok (.if_icmp .ge 28, 3) := by decide +kernel
theorem dX4_digest_72 : decode cX4_digest 72 = .ok (.lload_n 1, 1) := by decide +kernel
theorem dX4_digest_73 : decode cX4_digest 73 = .ok (.ldc2_w 190, 3) := by decide +kernel
theorem dX4_digest_76 : decode cX4_digest 76 = .ok (.lmul, 1) := by decide +kernel
theorem dX4_digest_77 : decode cX4_digest 77 = .ok (.aload_n 0, 1) := by decide +kernel
theorem dX4_digest_78 : decode cX4_digest 78 = .ok (.getfield 10, 3) := by decide +kernel
theorem dX4_digest_81 : decode cX4_digest 81 = .ok (.aload 6, 2) := by decide +kernel
theorem dX4_digest_83 : decode cX4_digest 83 = .ok (.iload 7, 2) := by decide +kernel
theorem dX4_digest_85 : decode cX4_digest 85 = .ok (.invokevirtual 140, 3) := by decide +kernel
theorem dX4_digest_88 : decode cX4_digest 88 = .ok (.i2l, 1) := by decide +kernel
theorem dX4_digest_89 : decode cX4_digest 89 = .ok (.ladd, 1) := by decide +kernel
theorem dX4_digest_90 : decode cX4_digest 90 = .ok (.lstore_n 1, 1) := by decide +kernel
theorem dX4_digest_91 : decode cX4_digest 91 = .ok (.iinc 7 1, 3) := by decide +kernel
theorem dX4_digest_94 : decode cX4_digest 94 = .ok (.goto (-29), 3) := by decide +kernel
theorem dX4_digest_97 : decode cX4_digest 97 = .ok (.iinc 5 1, 3) := by decide +kernel
theorem dX4_digest_100 : decode cX4_digest 100 = .ok (.goto (-51), 3) := by decide +kernel
theorem dX4_digest_103 : decode cX4_digest 103 = .ok (.iconst 0, 1) := by decide +kernel
theorem dX4_digest_104 : decode cX4_digest 104 = .ok (.istore_n 3, 1) := by decide +kernel
theorem dX4_digest_105 : decode cX4_digest 105 = .ok (.iload_n 3, 1) := by decide +kernel
theorem dX4_digest_106 : decode cX4_digest 106 = .ok (.aload_n 0, 1) := by decide +kernel
theorem dX4_digest_107 : decode cX4_digest 107 = .ok (.getfield 10, 3) := by decide +kernel
theorem dX4_digest_110 : decode cX4_digest 110 = .ok (.getfield 196, 3) := by decide +kernel
theorem dX4_digest_113 : decode cX4_digest 113 = .ok (.arraylength, 1) := by decide +kernel
theorem dX4_digest_114 : decode cX4_digest 114 = .ok (.if_icmp .ge 57, 3) := by decide +kernel
theorem dX4_digest_117 : decode cX4_digest 117 = .ok (.iload_n 3, 1) := by decide +kernel
theorem dX4_digest_118 : decode cX4_digest 118 = .ok (.aload_n 0, 1) := by decide +kernel
theorem dX4_digest_119 : decode cX4_digest 119 = .ok (.getfield 10, 3) := by decide +kernel
theorem dX4_digest_122 : decode cX4_digest 122 = .ok (.getfield 101, 3) := by decide +kernel
theorem dX4_digest_125 : decode cX4_digest 125 = .ok (.if_icmp .ge 46, 3) := by decide +kernel
theorem dX4_digest_128 : decode cX4_digest 128 = .ok (.iconst 0, 1) := by decide +kernel
theorem dX4_digest_129 : decode cX4_digest 129 = .ok (.istore 4, 2) := by decide +kernel
theorem dX4_digest_131 : decode cX4_digest 131 = .ok (.iload 4, 2) := by decide +kernel
theorem dX4_digest_133 : decode cX4_digest 133 = .ok (.iconst 2, 1) := by decide +kernel
theorem dX4_digest_134 : decode cX4_digest 134 = .ok (.if_icmp .ge 31, 3) := by decide +kernel
theorem dX4_digest_137 : decode cX4_digest 137 = .ok (.lload_n 1, 1) := by decide +kernel
theorem dX4_digest_138 : decode cX4_digest 138 = .ok (.ldc2_w 190, 3) := by decide +kernel
theorem dX4_digest_141 : decode cX4_digest 141 = .ok (.lmul, 1) := by decide +kernel
theorem dX4_digest_142 : decode cX4_digest 142 = .ok (.aload_n 0, 1) := by decide +kernel
theorem dX4_digest_143 : decode cX4_digest 143 = .ok (.getfield 10, 3) := by decide +kernel
theorem dX4_digest_146 : decode cX4_digest 146 = .ok (.getfield 196, 3) := by decide +kernel
theorem dX4_digest_149 : decode cX4_digest 149 = .ok (.iload_n 3, 1) := by decide +kernel
theorem dX4_digest_150 : decode cX4_digest 150 = .ok (.aaload, 1) := by decide +kernel
theorem dX4_digest_151 : decode cX4_digest 151 = .ok (.iload 4, 2) := by decide +kernel
theorem dX4_digest_153 : decode cX4_digest 153 = .ok (.invokevirtual 123, 3) := by decide +kernel
theorem dX4_digest_156 : decode cX4_digest 156 = .ok (.i2l, 1) := by decide +kernel
theorem dX4_digest_157 : decode cX4_digest 157 = .ok (.ladd, 1) := by decide +kernel
theorem dX4_digest_158 : decode cX4_digest 158 = .ok (.lstore_n 1, 1) := by decide +kernel
theorem dX4_digest_159 : decode cX4_digest 159 = .ok (.iinc 4 1, 3) := by decide +kernel
theorem dX4_digest_162 : decode cX4_digest 162 = .ok (.goto (-31), 3) := by decide +kernel
theorem dX4_digest_165 : decode cX4_digest 165 = .ok (.iinc 3 1, 3) := by decide +kernel
theorem dX4_digest_168 : decode cX4_digest 168 = .ok (.goto (-63), 3) := by decide +kernel
theorem dX4_digest_171 : decode cX4_digest 171 = .ok (.iconst 0, 1) := by decide +kernel
theorem dX4_digest_172 : decode cX4_digest 172 = .ok (.istore_n 3, 1) := by decide +kernel
theorem dX4_digest_173 : decode cX4_digest 173 = .ok (.iload_n 3, 1) := by decide +kernel
theorem dX4_digest_174 : decode cX4_digest 174 = .ok (.aload_n 0, 1) := by decide +kernel
theorem dX4_digest_175 : decode cX4_digest 175 = .ok (.getfield 10, 3) := by decide +kernel
theorem dX4_digest_178 : decode cX4_digest 178 = .ok (.getfield 184, 3) := by decide +kernel
theorem dX4_digest_181 : decode cX4_digest 181 = .ok (.arraylength, 1) := by decide +kernel
theorem dX4_digest_182 : decode cX4_digest 182 = .ok (.if_icmp .ge 58, 3) := by decide +kernel
theorem dX4_digest_185 : decode cX4_digest 185 = .ok (.iload_n 3, 1) := by decide +kernel
theorem dX4_digest_186 : decode cX4_digest 186 = .ok (.aload_n 0, 1) := by decide +kernel
theorem dX4_digest_187 : decode cX4_digest 187 = .ok (.getfield 10, 3) := by decide +kernel
theorem dX4_digest_190 : decode cX4_digest 190 = .ok (.getfield 45, 3) := by decide +kernel
theorem dX4_digest_193 : decode cX4_digest 193 = .ok (.if_icmp .ge 47, 3) := by decide +kernel
theorem dX4_digest_196 : decode cX4_digest 196 = .ok (.iconst 0, 1) := by decide +kernel
theorem dX4_digest_197 : decode cX4_digest 197 = .ok (.istore 4, 2) := by decide +kernel
theorem dX4_digest_199 : decode cX4_digest 199 = .ok (.iload 4, 2) := by decide +kernel
theorem dX4_digest_201 : decode cX4_digest 201 = .ok (.bipush 11, 2) := by decide +kernel
theorem dX4_digest_203 : decode cX4_digest 203 = .ok (.if_icmp .ge 31, 3) := by decide +kernel
theorem dX4_digest_206 : decode cX4_digest 206 = .ok (.lload_n 1, 1) := by decide +kernel
theorem dX4_digest_207 : decode cX4_digest 207 = .ok (.ldc2_w 190, 3) := by decide +kernel
theorem dX4_digest_210 : decode cX4_digest 210 = .ok (.lmul, 1) := by decide +kernel
theorem dX4_digest_211 : decode cX4_digest 211 = .ok (.aload_n 0, 1) := by decide +kernel
theorem dX4_digest_212 : decode cX4_digest 212 = .ok (.getfield 10, 3) := by decide +kernel
theorem dX4_digest_215 : decode cX4_digest 215 = .ok (.getfield 184, 3) := by decide +kernel
theorem dX4_digest_218 : decode cX4_digest 218 = .ok (.iload_n 3, 1) := by decide +kernel
theorem dX4_digest_219 : decode cX4_digest 219 = .ok (.aaload, 1) := by decide +kernel
theorem dX4_digest_220 : decode cX4_digest 220 = .ok (.iload 4, 2) := by decide +kernel
theorem dX4_digest_222 : decode cX4_digest 222 = .ok (.invokevirtual 84, 3) := by decide +kernel
theorem dX4_digest_225 : decode cX4_digest 225 = .ok (.i2l, 1) := by decide +kernel
theorem dX4_digest_226 : decode cX4_digest 226 = .ok (.ladd, 1) := by decide +kernel
theorem dX4_digest_227 : decode cX4_digest 227 = .ok (.lstore_n 1, 1) := by decide +kernel
theorem dX4_digest_228 : decode cX4_digest 228 = .ok (.iinc 4 1, 3) := by decide +kernel
theorem dX4_digest_231 : decode cX4_digest 231 = .ok (.goto (-32), 3) := by decide +kernel
theorem dX4_digest_234 : decode cX4_digest 234 = .ok (.iinc 3 1, 3) := by decide +kernel
theorem dX4_digest_237 : decode cX4_digest 237 = .ok (.goto (-64), 3) := by decide +kernel
theorem dX4_digest_240 : decode cX4_digest 240 = .ok (.lload_n 1, 1) := by decide +kernel
theorem dX4_digest_241 : decode cX4_digest 241 = .ok (.lreturn, 1) := by decide +kernel
set_option maxRecDepth 20000 in
theorem ggX4_knownBook_X3_bookNumbered : GoodIn wsX4_knownBook wsX3_bookNumbered := goodIn_r _ [8, 9, 10, 13, 14, 15, 16, 17, 18, 19, 20, 21, 22, 23, 24] (by decide +kernel) (by decide +kernel)
set_option maxRecDepth 20000 in
theorem gX4_knownBook_X3_bookNumbered : GoodIn wsX4_knownBook (wsV RX4 172 RX3 yX3_bookNumbered wsX3_bookNumbered) := goodIn_app (goodIn_of _ (by decide +kernel)) ggX4_knownBook_X3_bookNumbered
theorem dX4_knownBook_0 : decode cX4_knownBook 0 = .ok (.aload_n 0, 1) := by decide +kernel
theorem dX4_knownBook_1 : decode cX4_knownBook 1 = .ok (.getfield 10, 3) := by decide +kernel
theorem dX4_knownBook_4 : decode cX4_knownBook 4 = .ok (.iload_n 1, 1) := by decide +kernel
theorem dX4_knownBook_5 : decode cX4_knownBook 5 = .ok (.invokevirtual 172, 3) := by decide +kernel
theorem dX4_knownBook_8 : decode cX4_knownBook 8 = .ok (.astore_n 2, 1) := by decide +kernel
theorem dX4_knownBook_9 : decode cX4_knownBook 9 = .ok (.aload_n 2, 1) := by decide +kernel
theorem dX4_knownBook_10 : decode cX4_knownBook 10 = .ok (.ifnonnull 13, 3) := by decide +kernel
theorem dX4_knownBook_13 : decode cX4_knownBook 13 = .ok (.new 109, 3) := by decide +kernel
theorem dX4_knownBook_16 : decode cX4_knownBook 16 = .ok (.dup, 1) := by decide +kernel
theorem dX4_knownBook_17 : decode cX4_knownBook 17 = .ok (.ldc 200, 2) := by decide +kernel
theorem dX4_knownBook_19 : decode cX4_knownBook 19 = .ok (.invokespecial 113, 3) := by decide +kernel
theorem dX4_knownBook_22 : decode cX4_knownBook 22 = .ok (.athrow, 1) := by decide +kernel
theorem dX4_knownBook_23 : decode cX4_knownBook 23 = .ok (.aload_n 2, 1) := by decide +kernel
theorem dX4_knownBook_24 : decode cX4_knownBook 24 = .ok (.areturn, 1) := by decide +kernel
set_option maxRecDepth 20000 in
theorem ggX4_knownSewer_X3_sewerNumbered : GoodIn wsX4_knownSewer wsX3_sewerNumbered := goodIn_r _ [8, 9, 10, 13, 14, 15, 16, 17, 18, 19, 20, 21, 22, 23, 24] (by decide +kernel) (by decide +kernel)
set_option maxRecDepth 20000 in
theorem gX4_knownSewer_X3_sewerNumbered : GoodIn wsX4_knownSewer (wsV RX4 202 RX3 yX3_sewerNumbered wsX3_sewerNumbered) := goodIn_app (goodIn_of _ (by decide +kernel)) ggX4_knownSewer_X3_sewerNumbered
theorem dX4_knownSewer_0 : decode cX4_knownSewer 0 = .ok (.aload_n 0, 1) := by decide +kernel
theorem dX4_knownSewer_1 : decode cX4_knownSewer 1 = .ok (.getfield 10, 3) := by decide +kernel
theorem dX4_knownSewer_4 : decode cX4_knownSewer 4 = .ok (.iload_n 1, 1) := by decide +kernel
theorem dX4_knownSewer_5 : decode cX4_knownSewer 5 = .ok (.invokevirtual 202, 3) := by decide +kernel
theorem dX4_knownSewer_8 : decode cX4_knownSewer 8 = .ok (.astore_n 2, 1) := by decide +kernel
theorem dX4_knownSewer_9 : decode cX4_knownSewer 9 = .ok (.aload_n 2, 1) := by decide +kernel
theorem dX4_knownSewer_10 : decode cX4_knownSewer 10 = .ok (.ifnonnull 13, 3) := by decide +kernel
theorem dX4_knownSewer_13 : decode cX4_knownSewer 13 = .ok (.new 109, 3) := by decide +kernel
theorem dX4_knownSewer_16 : decode cX4_knownSewer 16 = .ok (.dup, 1) := by decide +kernel
theorem dX4_knownSewer_17 : decode cX4_knownSewer 17 = .ok (.ldc 205, 2) := by decide +kernel
theorem dX4_knownSewer_19 : decode cX4_knownSewer 19 = .ok (.invokespecial 113, 3) := by decide +kernel
theorem dX4_knownSewer_22 : decode cX4_knownSewer 22 = .ok (.athrow, 1) := by decide +kernel
theorem dX4_knownSewer_23 : decode cX4_knownSewer 23 = .ok (.aload_n 2, 1) := by decide +kernel
theorem dX4_knownSewer_24 : decode cX4_knownSewer 24 = .ok (.areturn, 1) := by decide +kernel
theorem dX4_knownFrame_0 : decode cX4_knownFrame 0 = .ok (.iload_n 1, 1) := by decide +kernel
theorem dX4_knownFrame_1 : decode cX4_knownFrame 1 = .ok (.ifCond .lt 15, 3) := by decide +kernel
theorem dX4_knownFrame_4 : decode cX4_knownFrame 4 = .ok (.iload_n 1, 1) := by decide +kernel
theorem dX4_knownFrame_5 : decode cX4_knownFrame 5 = .ok (.aload_n 0, 1) := by decide +kernel
theorem dX4_knownFrame_6 : decode cX4_knownFrame 6 = .ok (.getfield 10, 3) := by decide +kernel
theorem dX4_knownFrame_9 : decode cX4_knownFrame 9 = .ok (.getfield 192, 3) := by decide +kernel
theorem dX4_knownFrame_12 : decode cX4_knownFrame 12 = .ok (.arraylength, 1) := by decide +kernel
theorem dX4_knownFrame_13 : decode cX4_knownFrame 13 = .ok (.if_icmp .lt 13, 3) := by decide +kernel
theorem dX4_knownFrame_16 : decode cX4_knownFrame 16 = .ok (.new 109, 3) := by decide +kernel
theorem dX4_knownFrame_19 : decode cX4_knownFrame 19 = .ok (.dup, 1) := by decide +kernel
theorem dX4_knownFrame_20 : decode cX4_knownFrame 20 = .ok (.ldc 111, 2) := by decide +kernel
theorem dX4_knownFrame_22 : decode cX4_knownFrame 22 = .ok (.invokespecial 113, 3) := by decide +kernel
theorem dX4_knownFrame_25 : decode cX4_knownFrame 25 = .ok (.athrow, 1) := by decide +kernel
theorem dX4_knownFrame_26 : decode cX4_knownFrame 26 = .ok (.aload_n 0, 1) := by decide +kernel
theorem dX4_knownFrame_27 : decode cX4_knownFrame 27 = .ok (.getfield 10, 3) := by decide +kernel
theorem dX4_knownFrame_30 : decode cX4_knownFrame 30 = .ok (.getfield 192, 3) := by decide +kernel
theorem dX4_knownFrame_33 : decode cX4_knownFrame 33 = .ok (.iload_n 1, 1) := by decide +kernel
theorem dX4_knownFrame_34 : decode cX4_knownFrame 34 = .ok (.aaload, 1) := by decide +kernel
theorem dX4_knownFrame_35 : decode cX4_knownFrame 35 = .ok (.areturn, 1) := by decide +kernel
theorem dX4_checkKind_0 : decode cX4_checkKind 0 = .ok (.iload_n 0, 1) := by decide +kernel
theorem dX4_checkKind_1 : decode cX4_checkKind 1 = .ok (.ifCond .lt 8, 3) := by decide +kernel
theorem dX4_checkKind_4 : decode cX4_checkKind 4 = .ok (.iload_n 0, 1) := by decide +kernel
theorem dX4_checkKind_5 : decode cX4_checkKind 5 = .ok (.iload_n 1, 1) := by decide +kernel
theorem dX4_checkKind_6 : decode cX4_checkKind 6 = .ok (.if_icmp .lt 13, 3) := by decide +kernel
theorem dX4_checkKind_9 : decode cX4_checkKind 9 = .ok (.new 109, 3) := by decide +kernel
theorem dX4_checkKind_12 : decode cX4_checkKind 12 = .ok (.dup, 1) := by decide +kernel
theorem dX4_checkKind_13 : decode cX4_checkKind 13 = .ok (.ldc 207, 2) := by decide +kernel
theorem dX4_checkKind_15 : decode cX4_checkKind 15 = .ok (.invokespecial 113, 3) := by decide +kernel
theorem dX4_checkKind_18 : decode cX4_checkKind 18 = .ok (.athrow, 1) := by decide +kernel
theorem dX4_checkKind_19 : decode cX4_checkKind 19 = .ok (.return_, 1) := by decide +kernel
theorem dX4_checkHours_0 : decode cX4_checkHours 0 = .ok (.iload_n 0, 1) := by decide +kernel
theorem dX4_checkHours_1 : decode cX4_checkHours 1 = .ok (.iconst 1, 1) := by decide +kernel
theorem dX4_checkHours_2 : decode cX4_checkHours 2 = .ok (.if_icmp .lt 9, 3) := by decide +kernel
theorem dX4_checkHours_5 : decode cX4_checkHours 5 = .ok (.iload_n 0, 1) := by decide +kernel
theorem dX4_checkHours_6 : decode cX4_checkHours 6 = .ok (.bipush 120, 2) := by decide +kernel
theorem dX4_checkHours_8 : decode cX4_checkHours 8 = .ok (.if_icmp .le 13, 3) := by decide +kernel
theorem dX4_checkHours_11 : decode cX4_checkHours 11 = .ok (.new 19, 3) := by decide +kernel
theorem dX4_checkHours_14 : decode cX4_checkHours 14 = .ok (.dup, 1) := by decide +kernel
theorem dX4_checkHours_15 : decode cX4_checkHours 15 = .ok (.ldc 209, 2) := by decide +kernel
theorem dX4_checkHours_17 : decode cX4_checkHours 17 = .ok (.invokespecial 23, 3) := by decide +kernel
theorem dX4_checkHours_20 : decode cX4_checkHours 20 = .ok (.athrow, 1) := by decide +kernel
theorem dX4_checkHours_21 : decode cX4_checkHours 21 = .ok (.return_, 1) := by decide +kernel
theorem dX4_priceOf_0 : decode cX4_priceOf 0 = .ok (.iload_n 0, 1) := by decide +kernel
theorem dX4_priceOf_1 : decode cX4_priceOf 1 = .ok (.lookupswitch 37 #[(0, 27), (1, 33)], 27) := by decide +kernel
theorem dX4_priceOf_28 : decode cX4_priceOf 28 = .ok (.iload_n 1, 1) := by decide +kernel
theorem dX4_priceOf_29 : decode cX4_priceOf 29 = .ok (.iconst 4, 1) := by decide +kernel
theorem dX4_priceOf_30 : decode cX4_priceOf 30 = .ok (.iadd, 1) := by decide +kernel
theorem dX4_priceOf_31 : decode cX4_priceOf 31 = .ok (.iconst 5, 1) := by decide +kernel
theorem dX4_priceOf_32 : decode cX4_priceOf 32 = .ok (.idiv, 1) := by decide +kernel
theorem dX4_priceOf_33 : decode cX4_priceOf 33 = .ok (.ireturn, 1) := by decide +kernel
theorem dX4_priceOf_34 : decode cX4_priceOf 34 = .ok (.iconst 3, 1) := by decide +kernel
theorem dX4_priceOf_35 : decode cX4_priceOf 35 = .ok (.iload_n 1, 1) := by decide +kernel
theorem dX4_priceOf_36 : decode cX4_priceOf 36 = .ok (.imul, 1) := by decide +kernel
theorem dX4_priceOf_37 : decode cX4_priceOf 37 = .ok (.ireturn, 1) := by decide +kernel
theorem dX4_priceOf_38 : decode cX4_priceOf 38 = .ok (.iconst 2, 1) := by decide +kernel
theorem dX4_priceOf_39 : decode cX4_priceOf 39 = .ok (.iload_n 1, 1) := by decide +kernel
theorem dX4_priceOf_40 : decode cX4_priceOf 40 = .ok (.imul, 1) := by decide +kernel
theorem dX4_priceOf_41 : decode cX4_priceOf 41 = .ok (.ireturn, 1) := by decide +kernel
theorem dX4_firstDoneAhead_0 : decode cX4_firstDoneAhead 0 = .ok (.iconst 0, 1) := by decide +kernel
theorem dX4_firstDoneAhead_1 : decode cX4_firstDoneAhead 1 = .ok (.istore_n 1, 1) := by decide +kernel
theorem dX4_firstDoneAhead_2 : decode cX4_firstDoneAhead 2 = .ok (.iload_n 1, 1) := by decide +kernel
theorem dX4_firstDoneAhead_3 : decode cX4_firstDoneAhead 3 = .ok (.aload_n 0, 1) := by decide +kernel
theorem dX4_firstDoneAhead_4 : decode cX4_firstDoneAhead 4 = .ok (.getfield 10, 3) := by decide +kernel
theorem dX4_firstDoneAhead_7 : decode cX4_firstDoneAhead 7 = .ok (.getfield 184, 3) := by decide +kernel
theorem dX4_firstDoneAhead_10 : decode cX4_firstDoneAhead 10 = .ok (.arraylength, 1) := by decide +kernel
theorem dX4_firstDoneAhead_11 : decode cX4_firstDoneAhead 11 = .ok (.if_icmp .ge 55, 3) := by decide +kernel
theorem dX4_firstDoneAhead_14 : decode cX4_firstDoneAhead 14 = .ok (.iload_n 1, 1) := by decide +kernel
theorem dX4_firstDoneAhead_15 : decode cX4_firstDoneAhead 15 = .ok (.aload_n 0, 1) := by decide +kernel
theorem dX4_firstDoneAhead_16 : decode cX4_firstDoneAhead 16 = .ok (.getfield 16, 3) := by decide +kernel
theorem dX4_firstDoneAhead_19 : decode cX4_firstDoneAhead 19 = .ok (.getfield 184, 3) := by decide +kernel
theorem dX4_firstDoneAhead_22 : decode cX4_firstDoneAhead 22 = .ok (.arraylength, 1) := by decide +kernel
theorem dX4_firstDoneAhead_23 : decode cX4_firstDoneAhead 23 = .ok (.if_icmp .ge 43, 3) := by decide +kernel
theorem dX4_firstDoneAhead_26 : decode cX4_firstDoneAhead 26 = .ok (.aload_n 0, 1) := by decide +kernel
theorem dX4_firstDoneAhead_27 : decode cX4_firstDoneAhead 27 = .ok (.getfield 10, 3) := by decide +kernel
theorem dX4_firstDoneAhead_30 : decode cX4_firstDoneAhead 30 = .ok (.getfield 184, 3) := by decide +kernel
theorem dX4_firstDoneAhead_33 : decode cX4_firstDoneAhead 33 = .ok (.iload_n 1, 1) := by decide +kernel
theorem dX4_firstDoneAhead_34 : decode cX4_firstDoneAhead 34 = .ok (.aaload, 1) := by decide +kernel
theorem dX4_firstDoneAhead_35 : decode cX4_firstDoneAhead 35 = .ok (.getfield 56, 3) := by decide +kernel
theorem dX4_firstDoneAhead_38 : decode cX4_firstDoneAhead 38 = .ok (.iconst 5, 1) := by decide +kernel
theorem dX4_firstDoneAhead_39 : decode cX4_firstDoneAhead 39 = .ok (.if_icmp .ge 21, 3) := by decide +kernel
theorem dX4_firstDoneAhead_42 : decode cX4_firstDoneAhead 42 = .ok (.aload_n 0, 1) := by decide +kernel
theorem dX4_firstDoneAhead_43 : decode cX4_firstDoneAhead 43 = .ok (.getfield 16, 3) := by decide +kernel
theorem dX4_firstDoneAhead_46 : decode cX4_firstDoneAhead 46 = .ok (.getfield 184, 3) := by decide +kernel
theorem dX4_firstDoneAhead_49 : decode cX4_firstDoneAhead 49 = .ok (.iload_n 1, 1) := by decide +kernel
theorem dX4_firstDoneAhead_50 : decode cX4_firstDoneAhead 50 = .ok (.aaload, 1) := by decide +kernel
theorem dX4_firstDoneAhead_51 : decode cX4_firstDoneAhead 51 = .ok (.getfield 56, 3) := by decide +kernel
theorem dX4_firstDoneAhead_54 : decode cX4_firstDoneAhead 54 = .ok (.iconst 5, 1) := by decide +kernel
theorem dX4_firstDoneAhead_55 : decode cX4_firstDoneAhead 55 = .ok (.if_icmp .ne 5, 3) := by decide +kernel
theorem dX4_firstDoneAhead_58 : decode cX4_firstDoneAhead 58 = .ok (.iload_n 1, 1) := by decide +kernel
theorem dX4_firstDoneAhead_59 : decode cX4_firstDoneAhead 59 = .ok (.ireturn, 1) := by decide +kernel
theorem dX4_firstDoneAhead_60 : decode cX4_firstDoneAhead 60 = .ok (.iinc 1 1, 3) := by decide +kernel
theorem dX4_firstDoneAhead_63 : decode cX4_firstDoneAhead 63 = .ok (.goto (-61), 3) := by decide +kernel
theorem dX4_firstDoneAhead_66 : decode cX4_firstDoneAhead 66 = .ok (.iconst (-1), 1) := by decide +kernel
theorem dX4_firstDoneAhead_67 : decode cX4_firstDoneAhead 67 = .ok (.ireturn, 1) := by decide +kernel
set_option maxRecDepth 20000 in
theorem ggX4_sewnAheadWith_X3_setTo : GoodIn wsX4_sewnAheadWith wsX3_setTo := goodIn_r _ [9, 10, 11, 12, 13, 14, 15, 16, 17, 18, 19, 20, 21, 22, 23, 24, 25, 26, 27, 28, 29, 30, 31, 32, 33, 34, 35, 36, 37, 38, 39, 40, 41, 42, 43, 44, 45, 46, 47, 48, 49, 50, 51, 52, 53, 159, 160, 161, 162, 163, 164, 165, 166, 167, 168, 169, 170, 171, 172, 173, 174, 175, 176, 177, 178, 179, 180, 181, 182, 183, 156, 157, 158, 184, 185, 186, 187] (by decide +kernel) (by decide +kernel)
set_option maxRecDepth 20000 in
theorem gX4_sewnAheadWith_X3_setTo : GoodIn wsX4_sewnAheadWith (wsV RX4 168 RX3 yX3_setTo wsX3_setTo) := goodIn_app (goodIn_of _ (by decide +kernel)) ggX4_sewnAheadWith_X3_setTo
set_option maxRecDepth 20000 in
theorem ggX4_sewnAheadWith_X3_sewerNumbered : GoodIn wsX4_sewnAheadWith wsX3_sewerNumbered := goodIn_r _ [57, 14, 11, 159, 160, 161, 162, 163, 164, 165, 166, 167, 168, 169, 170] (by decide +kernel) (by decide +kernel)
set_option maxRecDepth 20000 in
theorem gX4_sewnAheadWith_X3_sewerNumbered : GoodIn wsX4_sewnAheadWith (wsV RX4 202 RX3 yX3_sewerNumbered wsX3_sewerNumbered) := goodIn_app (goodIn_of _ (by decide +kernel)) ggX4_sewnAheadWith_X3_sewerNumbered
set_option maxRecDepth 20000 in
theorem ggX4_sewnAheadWith_X3_letHoursGo : GoodIn wsX4_sewnAheadWith wsX3_letHoursGo := goodIn_r _ [61, 62, 63, 64, 8, 65, 12, 66, 15, 67, 68, 69, 70, 10, 71, 72, 73, 74, 75, 19, 76, 77, 78, 25, 79, 80, 81, 82, 83, 27, 28, 84, 85, 86, 87, 38, 29, 30, 88, 89, 90, 91, 18, 92, 93, 94, 95, 96, 97, 98, 99, 100, 101, 102, 103, 37, 104, 105, 106, 107, 108, 17, 109, 110, 111, 112, 20, 113, 114, 21, 115, 116, 117, 118, 13, 119, 120, 121, 122, 11, 123, 124, 125, 126, 127, 128, 129, 130, 131, 34, 132, 133, 134, 135, 33, 35, 136, 137, 138, 139, 32, 140, 141, 142, 143, 31, 144, 145, 146, 147, 148, 149, 150, 151, 152, 153, 159, 160, 161, 162, 163, 164, 165, 166, 167, 168, 169, 170, 184, 185, 186, 187, 171, 172, 173, 174, 175, 176, 177, 178, 179, 180, 181, 182, 183, 156, 157, 158] (by decide +kernel) (by decide +kernel)
set_option maxRecDepth 20000 in
theorem gX4_sewnAheadWith_X3_letHoursGo : GoodIn wsX4_sewnAheadWith (wsV RX4 163 RX3 yX3_letHoursGo wsX3_letHoursGo) := goodIn_app (goodIn_of _ (by decide +kernel)) ggX4_sewnAheadWith_X3_letHoursGo
theorem dX4_sewnAheadWith_0 : decode cX4_sewnAheadWith 0 = .ok (.aload_n 0, 1) := by decide +kernel
theorem dX4_sewnAheadWith_1 : decode cX4_sewnAheadWith 1 = .ok (.getfield 16, 3) := by decide +kernel
theorem dX4_sewnAheadWith_4 : decode cX4_sewnAheadWith 4 = .ok (.aload_n 0, 1) := by decide +kernel
theorem dX4_sewnAheadWith_5 : decode cX4_sewnAheadWith 5 = .ok (.getfield 10, 3) := by decide +kernel
theorem dX4_sewnAheadWith_8 : decode cX4_sewnAheadWith 8 = .ok (.invokevirtual 168, 3) := by decide +kernel
theorem dX4_sewnAheadWith_11 : decode cX4_sewnAheadWith 11 = .ok (.aload_n 0, 1) := by decide +kernel
theorem dX4_sewnAheadWith_12 : decode cX4_sewnAheadWith 12 = .ok (.getfield 16, 3) := by decide +kernel
theorem dX4_sewnAheadWith_15 : decode cX4_sewnAheadWith 15 = .ok (.iload_n 1, 1) := by decide +kernel
theorem dX4_sewnAheadWith_16 : decode cX4_sewnAheadWith 16 = .ok (.invokevirtual 202, 3) := by decide +kernel
theorem dX4_sewnAheadWith_19 : decode cX4_sewnAheadWith 19 = .ok (.astore_n 3, 1) := by decide +kernel
theorem dX4_sewnAheadWith_20 : decode cX4_sewnAheadWith 20 = .ok (.aload_n 3, 1) := by decide +kernel
theorem dX4_sewnAheadWith_21 : decode cX4_sewnAheadWith 21 = .ok (.ifnull 8, 3) := by decide +kernel
theorem dX4_sewnAheadWith_24 : decode cX4_sewnAheadWith 24 = .ok (.aload_n 3, 1) := by decide +kernel
theorem dX4_sewnAheadWith_25 : decode cX4_sewnAheadWith 25 = .ok (.iload_n 2, 1) := by decide +kernel
theorem dX4_sewnAheadWith_26 : decode cX4_sewnAheadWith 26 = .ok (.putfield 120, 3) := by decide +kernel
theorem dX4_sewnAheadWith_29 : decode cX4_sewnAheadWith 29 = .ok (.aload_n 0, 1) := by decide +kernel
theorem dX4_sewnAheadWith_30 : decode cX4_sewnAheadWith 30 = .ok (.getfield 16, 3) := by decide +kernel
theorem dX4_sewnAheadWith_33 : decode cX4_sewnAheadWith 33 = .ok (.bipush 12, 2) := by decide +kernel
theorem dX4_sewnAheadWith_35 : decode cX4_sewnAheadWith 35 = .ok (.invokevirtual 163, 3) := by decide +kernel
theorem dX4_sewnAheadWith_38 : decode cX4_sewnAheadWith 38 = .ok (.pop, 1) := by decide +kernel
theorem dX4_sewnAheadWith_39 : decode cX4_sewnAheadWith 39 = .ok (.aload_n 0, 1) := by decide +kernel
theorem dX4_sewnAheadWith_40 : decode cX4_sewnAheadWith 40 = .ok (.getfield 16, 3) := by decide +kernel
theorem dX4_sewnAheadWith_43 : decode cX4_sewnAheadWith 43 = .ok (.getfield 211, 3) := by decide +kernel
theorem dX4_sewnAheadWith_46 : decode cX4_sewnAheadWith 46 = .ok (.ireturn, 1) := by decide +kernel
