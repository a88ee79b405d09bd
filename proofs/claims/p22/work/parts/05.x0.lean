theorem dX0_init_0 : decode cX0_init 0 = .ok (.aload_n 0, 1) := by decide +kernel
theorem dX0_init_1 : decode cX0_init 1 = .ok (.invokespecial 3, 3) := by decide +kernel
theorem dX0_init_4 : decode cX0_init 4 = .ok (.aload_n 0, 1) := by decide +kernel
theorem dX0_init_5 : decode cX0_init 5 = .ok (.iload_n 1, 1) := by decide +kernel
theorem dX0_init_6 : decode cX0_init 6 = .ok (.putfield 9, 3) := by decide +kernel
theorem dX0_init_9 : decode cX0_init 9 = .ok (.aload_n 0, 1) := by decide +kernel
theorem dX0_init_10 : decode cX0_init 10 = .ok (.iconst (-1), 1) := by decide +kernel
theorem dX0_init_11 : decode cX0_init 11 = .ok (.putfield 15, 3) := by decide +kernel
theorem dX0_init_14 : decode cX0_init 14 = .ok (.aload_n 0, 1) := by decide +kernel
theorem dX0_init_15 : decode cX0_init 15 = .ok (.iconst (-1), 1) := by decide +kernel
theorem dX0_init_16 : decode cX0_init 16 = .ok (.putfield 18, 3) := by decide +kernel
theorem dX0_init_19 : decode cX0_init 19 = .ok (.return_, 1) := by decide +kernel
theorem dX0_setTo_0 : decode cX0_setTo 0 = .ok (.aload_n 0, 1) := by decide +kernel
theorem dX0_setTo_1 : decode cX0_setTo 1 = .ok (.aload_n 1, 1) := by decide +kernel
theorem dX0_setTo_2 : decode cX0_setTo 2 = .ok (.getfield 21, 3) := by decide +kernel
theorem dX0_setTo_5 : decode cX0_setTo 5 = .ok (.putfield 21, 3) := by decide +kernel
theorem dX0_setTo_8 : decode cX0_setTo 8 = .ok (.aload_n 0, 1) := by decide +kernel
theorem dX0_setTo_9 : decode cX0_setTo 9 = .ok (.aload_n 1, 1) := by decide +kernel
theorem dX0_setTo_10 : decode cX0_setTo 10 = .ok (.getfield 24, 3) := by decide +kernel
theorem dX0_setTo_13 : decode cX0_setTo 13 = .ok (.putfield 24, 3) := by decide +kernel
theorem dX0_setTo_16 : decode cX0_setTo 16 = .ok (.aload_n 0, 1) := by decide +kernel
theorem dX0_setTo_17 : decode cX0_setTo 17 = .ok (.aload_n 1, 1) := by decide +kernel
theorem dX0_setTo_18 : decode cX0_setTo 18 = .ok (.getfield 27, 3) := by decide +kernel
theorem dX0_setTo_21 : decode cX0_setTo 21 = .ok (.putfield 27, 3) := by decide +kernel
theorem dX0_setTo_24 : decode cX0_setTo 24 = .ok (.aload_n 0, 1) := by decide +kernel
theorem dX0_setTo_25 : decode cX0_setTo 25 = .ok (.aload_n 1, 1) := by decide +kernel
theorem dX0_setTo_26 : decode cX0_setTo 26 = .ok (.getfield 15, 3) := by decide +kernel
theorem dX0_setTo_29 : decode cX0_setTo 29 = .ok (.putfield 15, 3) := by decide +kernel
theorem dX0_setTo_32 : decode cX0_setTo 32 = .ok (.aload_n 0, 1) := by decide +kernel
theorem dX0_setTo_33 : decode cX0_setTo 33 = .ok (.aload_n 1, 1) := by decide +kernel
theorem dX0_setTo_34 : decode cX0_setTo 34 = .ok (.getfield 18, 3) := by decide +kernel
theorem dX0_setTo_37 : decode cX0_setTo 37 = .ok (.putfield 18, 3) := by decide +kernel
theorem dX0_setTo_40 : decode cX0_setTo 40 = .ok (.aload_n 0, 1) := by decide +kernel
theorem dX0_setTo_41 : decode cX0_setTo 41 = .ok (.aload_n 1, 1) := by decide +kernel
theorem dX0_setTo_42 : decode cX0_setTo 42 = .ok (.getfield 30, 3) := by decide +kernel
theorem dX0_setTo_45 : decode cX0_setTo 45 = .ok (.putfield 30, 3) := by decide +kernel
theorem dX0_setTo_48 : decode cX0_setTo 48 = .ok (.aload_n 0, 1) := by decide +kernel
theorem dX0_setTo_49 : decode cX0_setTo 49 = .ok (.aload_n 1, 1) := by decide +kernel
theorem dX0_setTo_50 : decode cX0_setTo 50 = .ok (.getfield 33, 3) := by decide +kernel
theorem dX0_setTo_53 : decode cX0_setTo 53 = .ok (.putfield 33, 3) := by decide +kernel
theorem dX0_setTo_56 : decode cX0_setTo 56 = .ok (.aload_n 0, 1) := by decide +kernel
theorem dX0_setTo_57 : decode cX0_setTo 57 = .ok (.aload_n 1, 1) := by decide +kernel
theorem dX0_setTo_58 : decode cX0_setTo 58 = .ok (.getfield 36, 3) := by decide +kernel
theorem dX0_setTo_61 : decode cX0_setTo 61 = .ok (.putfield 36, 3) := by decide +kernel
theorem dX0_setTo_64 : decode cX0_setTo 64 = .ok (.aload_n 0, 1) := by decide +kernel
theorem dX0_setTo_65 : decode cX0_setTo 65 = .ok (.aload_n 1, 1) := by decide +kernel
theorem dX0_setTo_66 : decode cX0_setTo 66 = .ok (.getfield 39, 3) := by decide +kernel
theorem dX0_setTo_69 : decode cX0_setTo 69 = .ok (.putfield 39, 3) := by decide +kernel
theorem dX0_setTo_72 : decode cX0_setTo 72 = .ok (.aload_n 0, 1) := by decide +kernel
theorem dX0_setTo_73 : decode cX0_setTo 73 = .ok (.aload_n 1, 1) := by decide +kernel
theorem dX0_setTo_74 : decode cX0_setTo 74 = .ok (.getfield 42, 3) := by decide +kernel
theorem dX0_setTo_77 : decode cX0_setTo 77 = .ok (.putfield 42, 3) := by decide +kernel
theorem dX0_setTo_80 : decode cX0_setTo 80 = .ok (.aload_n 0, 1) := by decide +kernel
theorem dX0_setTo_81 : decode cX0_setTo 81 = .ok (.aload_n 1, 1) := by decide +kernel
theorem dX0_setTo_82 : decode cX0_setTo 82 = .ok (.getfield 45, 3) := by decide +kernel
theorem dX0_setTo_85 : decode cX0_setTo 85 = .ok (.putfield 45, 3) := by decide +kernel
theorem dX0_setTo_88 : decode cX0_setTo 88 = .ok (.aload_n 0, 1) := by decide +kernel
theorem dX0_setTo_89 : decode cX0_setTo 89 = .ok (.aload_n 1, 1) := by decide +kernel
theorem dX0_setTo_90 : decode cX0_setTo 90 = .ok (.getfield 48, 3) := by decide +kernel
theorem dX0_setTo_93 : decode cX0_setTo 93 = .ok (.putfield 48, 3) := by decide +kernel
theorem dX0_setTo_96 : decode cX0_setTo 96 = .ok (.return_, 1) := by decide +kernel
theorem dX0_begin_0 : decode cX0_begin 0 = .ok (.aload_n 0, 1) := by decide +kernel
theorem dX0_begin_1 : decode cX0_begin 1 = .ok (.iload_n 1, 1) := by decide +kernel
theorem dX0_begin_2 : decode cX0_begin 2 = .ok (.putfield 21, 3) := by decide +kernel
theorem dX0_begin_5 : decode cX0_begin 5 = .ok (.aload_n 0, 1) := by decide +kernel
theorem dX0_begin_6 : decode cX0_begin 6 = .ok (.iload_n 2, 1) := by decide +kernel
theorem dX0_begin_7 : decode cX0_begin 7 = .ok (.putfield 24, 3) := by decide +kernel
theorem dX0_begin_10 : decode cX0_begin 10 = .ok (.aload_n 0, 1) := by decide +kernel
theorem dX0_begin_11 : decode cX0_begin 11 = .ok (.iload_n 3, 1) := by decide +kernel
theorem dX0_begin_12 : decode cX0_begin 12 = .ok (.putfield 27, 3) := by decide +kernel
theorem dX0_begin_15 : decode cX0_begin 15 = .ok (.aload_n 0, 1) := by decide +kernel
theorem dX0_begin_16 : decode cX0_begin 16 = .ok (.iconst 0, 1) := by decide +kernel
theorem dX0_begin_17 : decode cX0_begin 17 = .ok (.putfield 15, 3) := by decide +kernel
theorem dX0_begin_20 : decode cX0_begin 20 = .ok (.return_, 1) := by decide +kernel
theorem dX0_mount_0 : decode cX0_mount 0 = .ok (.aload_n 0, 1) := by decide +kernel
theorem dX0_mount_1 : decode cX0_mount 1 = .ok (.iconst 1, 1) := by decide +kernel
theorem dX0_mount_2 : decode cX0_mount 2 = .ok (.putfield 15, 3) := by decide +kernel
theorem dX0_mount_5 : decode cX0_mount 5 = .ok (.aload_n 0, 1) := by decide +kernel
theorem dX0_mount_6 : decode cX0_mount 6 = .ok (.iload_n 1, 1) := by decide +kernel
theorem dX0_mount_7 : decode cX0_mount 7 = .ok (.putfield 18, 3) := by decide +kernel
theorem dX0_mount_10 : decode cX0_mount 10 = .ok (.aload_n 0, 1) := by decide +kernel
theorem dX0_mount_11 : decode cX0_mount 11 = .ok (.iload_n 2, 1) := by decide +kernel
theorem dX0_mount_12 : decode cX0_mount 12 = .ok (.putfield 30, 3) := by decide +kernel
theorem dX0_mount_15 : decode cX0_mount 15 = .ok (.return_, 1) := by decide +kernel
theorem dX0_undo_0 : decode cX0_undo 0 = .ok (.aload_n 0, 1) := by decide +kernel
theorem dX0_undo_1 : decode cX0_undo 1 = .ok (.iconst 0, 1) := by decide +kernel
theorem dX0_undo_2 : decode cX0_undo 2 = .ok (.putfield 15, 3) := by decide +kernel
theorem dX0_undo_5 : decode cX0_undo 5 = .ok (.aload_n 0, 1) := by decide +kernel
theorem dX0_undo_6 : decode cX0_undo 6 = .ok (.iconst (-1), 1) := by decide +kernel
theorem dX0_undo_7 : decode cX0_undo 7 = .ok (.putfield 18, 3) := by decide +kernel
theorem dX0_undo_10 : decode cX0_undo 10 = .ok (.aload_n 0, 1) := by decide +kernel
theorem dX0_undo_11 : decode cX0_undo 11 = .ok (.iconst 0, 1) := by decide +kernel
theorem dX0_undo_12 : decode cX0_undo 12 = .ok (.putfield 30, 3) := by decide +kernel
theorem dX0_undo_15 : decode cX0_undo 15 = .ok (.aload_n 0, 1) := by decide +kernel
theorem dX0_undo_16 : decode cX0_undo 16 = .ok (.iconst 0, 1) := by decide +kernel
theorem dX0_undo_17 : decode cX0_undo 17 = .ok (.putfield 33, 3) := by decide +kernel
theorem dX0_undo_20 : decode cX0_undo 20 = .ok (.aload_n 0, 1) := by decide +kernel
theorem dX0_undo_21 : decode cX0_undo 21 = .ok (.iconst 0, 1) := by decide +kernel
theorem dX0_undo_22 : decode cX0_undo 22 = .ok (.putfield 36, 3) := by decide +kernel
theorem dX0_undo_25 : decode cX0_undo 25 = .ok (.aload_n 0, 1) := by decide +kernel
theorem dX0_undo_26 : decode cX0_undo 26 = .ok (.iconst 0, 1) := by decide +kernel
theorem dX0_undo_27 : decode cX0_undo 27 = .ok (.putfield 39, 3) := by decide +kernel
theorem dX0_undo_30 : decode cX0_undo 30 = .ok (.aload_n 0, 1) := by decide +kernel
theorem dX0_undo_31 : decode cX0_undo 31 = .ok (.iconst 0, 1) := by decide +kernel
theorem dX0_undo_32 : decode cX0_undo 32 = .ok (.putfield 42, 3) := by decide +kernel
theorem dX0_undo_35 : decode cX0_undo 35 = .ok (.return_, 1) := by decide +kernel
theorem dX0_thickness_0 : decode cX0_thickness 0 = .ok (.aload_n 0, 1) := by decide +kernel
theorem dX0_thickness_1 : decode cX0_thickness 1 = .ok (.getfield 21, 3) := by decide +kernel
theorem dX0_thickness_4 : decode cX0_thickness 4 = .ok (.aload_n 0, 1) := by decide +kernel
theorem dX0_thickness_5 : decode cX0_thickness 5 = .ok (.getfield 24, 3) := by decide +kernel
theorem dX0_thickness_8 : decode cX0_thickness 8 = .ok (.imul, 1) := by decide +kernel
theorem dX0_thickness_9 : decode cX0_thickness 9 = .ok (.ireturn, 1) := by decide +kernel
set_option maxRecDepth 20000 in
theorem ggX0_leavesForAnEdge_X0_thickness : GoodIn wsX0_leavesForAnEdge wsX0_thickness := goodIn_r _ [5, 6, 7, 8, 9, 10, 11, 12, 13, 14, 15, 16, 17, 18, 19, 20] (by decide +kernel) (by decide +kernel)
set_option maxRecDepth 20000 in
theorem gX0_leavesForAnEdge_X0_thickness : GoodIn wsX0_leavesForAnEdge (wsV RX0 51 RX0 yX0_thickness wsX0_thickness) := goodIn_app (goodIn_of _ (by decide +kernel)) ggX0_leavesForAnEdge_X0_thickness
theorem dX0_leavesForAnEdge_0 : decode cX0_leavesForAnEdge 0 = .ok (.iconst 1, 1) := by decide +kernel
theorem dX0_leavesForAnEdge_1 : decode cX0_leavesForAnEdge 1 = .ok (.aload_n 0, 1) := by decide +kernel
theorem dX0_leavesForAnEdge_2 : decode cX0_leavesForAnEdge 2 = .ok (.invokevirtual 51, 3) := by decide +kernel
theorem dX0_leavesForAnEdge_5 : decode cX0_leavesForAnEdge 5 = .ok (.bipush 16, 2) := by decide +kernel
theorem dX0_leavesForAnEdge_7 : decode cX0_leavesForAnEdge 7 = .ok (.idiv, 1) := by decide +kernel
theorem dX0_leavesForAnEdge_8 : decode cX0_leavesForAnEdge 8 = .ok (.iadd, 1) := by decide +kernel
theorem dX0_leavesForAnEdge_9 : decode cX0_leavesForAnEdge 9 = .ok (.ireturn, 1) := by decide +kernel
theorem dX0_stitchesOfSignature_0 : decode cX0_stitchesOfSignature 0 = .ok (.aload_n 0, 1) := by decide +kernel
theorem dX0_stitchesOfSignature_1 : decode cX0_stitchesOfSignature 1 = .ok (.getfield 30, 3) := by decide +kernel
theorem dX0_stitchesOfSignature_4 : decode cX0_stitchesOfSignature 4 = .ok (.iconst 2, 1) := by decide +kernel
theorem dX0_stitchesOfSignature_5 : decode cX0_stitchesOfSignature 5 = .ok (.iadd, 1) := by decide +kernel
theorem dX0_stitchesOfSignature_6 : decode cX0_stitchesOfSignature 6 = .ok (.istore_n 2, 1) := by decide +kernel
theorem dX0_stitchesOfSignature_7 : decode cX0_stitchesOfSignature 7 = .ok (.iload_n 1, 1) := by decide +kernel
theorem dX0_stitchesOfSignature_8 : decode cX0_stitchesOfSignature 8 = .ok (.ifCond .ne 6, 3) := by decide +kernel
theorem dX0_stitchesOfSignature_11 : decode cX0_stitchesOfSignature 11 = .ok (.iinc 2 2, 3) := by decide +kernel
theorem dX0_stitchesOfSignature_14 : decode cX0_stitchesOfSignature 14 = .ok (.iload_n 1, 1) := by decide +kernel
theorem dX0_stitchesOfSignature_15 : decode cX0_stitchesOfSignature 15 = .ok (.aload_n 0, 1) := by decide +kernel
theorem dX0_stitchesOfSignature_16 : decode cX0_stitchesOfSignature 16 = .ok (.getfield 21, 3) := by decide +kernel
theorem dX0_stitchesOfSignature_19 : decode cX0_stitchesOfSignature 19 = .ok (.iconst 1, 1) := by decide +kernel
theorem dX0_stitchesOfSignature_20 : decode cX0_stitchesOfSignature 20 = .ok (.isub, 1) := by decide +kernel
theorem dX0_stitchesOfSignature_21 : decode cX0_stitchesOfSignature 21 = .ok (.if_icmp .ne 6, 3) := by decide +kernel
theorem dX0_stitchesOfSignature_24 : decode cX0_stitchesOfSignature 24 = .ok (.iinc 2 2, 3) := by decide +kernel
theorem dX0_stitchesOfSignature_27 : decode cX0_stitchesOfSignature 27 = .ok (.iload_n 2, 1) := by decide +kernel
theorem dX0_stitchesOfSignature_28 : decode cX0_stitchesOfSignature 28 = .ok (.ireturn, 1) := by decide +kernel
set_option maxRecDepth 20000 in
theorem ggX0_stitchesToSew_X0_stitchesOfSignature : GoodIn wsX0_stitchesToSew wsX0_stitchesOfSignature := goodIn_r _ [7, 8, 1, 9, 10, 11, 12, 13, 14, 15, 16, 17, 18, 19, 20, 21] (by decide +kernel) (by decide +kernel)
set_option maxRecDepth 20000 in
theorem gX0_stitchesToSew_X0_stitchesOfSignature : GoodIn wsX0_stitchesToSew (wsV RX0 55 RX0 yX0_stitchesOfSignature wsX0_stitchesOfSignature) := goodIn_app (goodIn_of _ (by decide +kernel)) ggX0_stitchesToSew_X0_stitchesOfSignature
theorem dX0_stitchesToSew_0 : decode cX0_stitchesToSew 0 = .ok (.iconst 0, 1) := by decide +kernel
theorem dX0_stitchesToSew_1 : decode cX0_stitchesToSew 1 = .ok (.istore_n 1, 1) := by decide +kernel
theorem dX0_stitchesToSew_2 : decode cX0_stitchesToSew 2 = .ok (.iconst 0, 1) := by decide +kernel
theorem dX0_stitchesToSew_3 : decode cX0_stitchesToSew 3 = .ok (.istore_n 2, 1) := by decide +kernel
theorem dX0_stitchesToSew_4 : decode cX0_stitchesToSew 4 = .ok (.iload_n 2, 1) := by decide +kernel
theorem dX0_stitchesToSew_5 : decode cX0_stitchesToSew 5 = .ok (.aload_n 0, 1) := by decide +kernel
theorem dX0_stitchesToSew_6 : decode cX0_stitchesToSew 6 = .ok (.getfield 21, 3) := by decide +kernel
theorem dX0_stitchesToSew_9 : decode cX0_stitchesToSew 9 = .ok (.if_icmp .ge 17, 3) := by decide +kernel
theorem dX0_stitchesToSew_12 : decode cX0_stitchesToSew 12 = .ok (.iload_n 1, 1) := by decide +kernel
theorem dX0_stitchesToSew_13 : decode cX0_stitchesToSew 13 = .ok (.aload_n 0, 1) := by decide +kernel
theorem dX0_stitchesToSew_14 : decode cX0_stitchesToSew 14 = .ok (.iload_n 2, 1) := by decide +kernel
theorem dX0_stitchesToSew_15 : decode cX0_stitchesToSew 15 = .ok (.invokevirtual 55, 3) := by decide +kernel
theorem dX0_stitchesToSew_18 : decode cX0_stitchesToSew 18 = .ok (.iadd, 1) := by decide +kernel
theorem dX0_stitchesToSew_19 : decode cX0_stitchesToSew 19 = .ok (.istore_n 1, 1) := by decide +kernel
theorem dX0_stitchesToSew_20 : decode cX0_stitchesToSew 20 = .ok (.iinc 2 1, 3) := by decide +kernel
theorem dX0_stitchesToSew_23 : decode cX0_stitchesToSew 23 = .ok (.goto (-19), 3) := by decide +kernel
theorem dX0_stitchesToSew_26 : decode cX0_stitchesToSew 26 = .ok (.iload_n 1, 1) := by decide +kernel
theorem dX0_stitchesToSew_27 : decode cX0_stitchesToSew 27 = .ok (.aload_n 0, 1) := by decide +kernel
theorem dX0_stitchesToSew_28 : decode cX0_stitchesToSew 28 = .ok (.getfield 33, 3) := by decide +kernel
theorem dX0_stitchesToSew_31 : decode cX0_stitchesToSew 31 = .ok (.isub, 1) := by decide +kernel
theorem dX0_stitchesToSew_32 : decode cX0_stitchesToSew 32 = .ok (.ireturn, 1) := by decide +kernel
set_option maxRecDepth 20000 in
theorem ggX0_addStitch_X0_stitchesOfSignature : GoodIn wsX0_addStitch wsX0_stitchesOfSignature := goodIn_r _ [8, 9, 10, 11, 12, 13, 14, 15, 16, 17, 18, 19, 20, 21, 22, 23] (by decide +kernel) (by decide +kernel)
set_option maxRecDepth 20000 in
theorem gX0_addStitch_X0_stitchesOfSignature : GoodIn wsX0_addStitch (wsV RX0 55 RX0 yX0_stitchesOfSignature wsX0_stitchesOfSignature) := goodIn_app (goodIn_of _ (by decide +kernel)) ggX0_addStitch_X0_stitchesOfSignature
theorem dX0_addStitch_0 : decode cX0_addStitch 0 = .ok (.aload_n 0, 1) := by decide +kernel
theorem dX0_addStitch_1 : decode cX0_addStitch 1 = .ok (.dup, 1) := by decide +kernel
theorem dX0_addStitch_2 : decode cX0_addStitch 2 = .ok (.getfield 33, 3) := by decide +kernel
theorem dX0_addStitch_5 : decode cX0_addStitch 5 = .ok (.iconst 1, 1) := by decide +kernel
theorem dX0_addStitch_6 : decode cX0_addStitch 6 = .ok (.iadd, 1) := by decide +kernel
theorem dX0_addStitch_7 : decode cX0_addStitch 7 = .ok (.putfield 33, 3) := by decide +kernel
theorem dX0_addStitch_10 : decode cX0_addStitch 10 = .ok (.aload_n 0, 1) := by decide +kernel
theorem dX0_addStitch_11 : decode cX0_addStitch 11 = .ok (.dup, 1) := by decide +kernel
theorem dX0_addStitch_12 : decode cX0_addStitch 12 = .ok (.getfield 39, 3) := by decide +kernel
theorem dX0_addStitch_15 : decode cX0_addStitch 15 = .ok (.iconst 1, 1) := by decide +kernel
theorem dX0_addStitch_16 : decode cX0_addStitch 16 = .ok (.iadd, 1) := by decide +kernel
theorem dX0_addStitch_17 : decode cX0_addStitch 17 = .ok (.putfield 39, 3) := by decide +kernel
theorem dX0_addStitch_20 : decode cX0_addStitch 20 = .ok (.aload_n 0, 1) := by decide +kernel
theorem dX0_addStitch_21 : decode cX0_addStitch 21 = .ok (.getfield 39, 3) := by decide +kernel
theorem dX0_addStitch_24 : decode cX0_addStitch 24 = .ok (.aload_n 0, 1) := by decide +kernel
theorem dX0_addStitch_25 : decode cX0_addStitch 25 = .ok (.aload_n 0, 1) := by decide +kernel
theorem dX0_addStitch_26 : decode cX0_addStitch 26 = .ok (.getfield 36, 3) := by decide +kernel
theorem dX0_addStitch_29 : decode cX0_addStitch 29 = .ok (.invokevirtual 55, 3) := by decide +kernel
theorem dX0_addStitch_32 : decode cX0_addStitch 32 = .ok (.if_icmp .ge 5, 3) := by decide +kernel
theorem dX0_addStitch_35 : decode cX0_addStitch 35 = .ok (.iconst 0, 1) := by decide +kernel
theorem dX0_addStitch_36 : decode cX0_addStitch 36 = .ok (.ireturn, 1) := by decide +kernel
theorem dX0_addStitch_37 : decode cX0_addStitch 37 = .ok (.aload_n 0, 1) := by decide +kernel
theorem dX0_addStitch_38 : decode cX0_addStitch 38 = .ok (.dup, 1) := by decide +kernel
theorem dX0_addStitch_39 : decode cX0_addStitch 39 = .ok (.getfield 36, 3) := by decide +kernel
theorem dX0_addStitch_42 : decode cX0_addStitch 42 = .ok (.iconst 1, 1) := by decide +kernel
theorem dX0_addStitch_43 : decode cX0_addStitch 43 = .ok (.iadd, 1) := by decide +kernel
theorem dX0_addStitch_44 : decode cX0_addStitch 44 = .ok (.putfield 36, 3) := by decide +kernel
theorem dX0_addStitch_47 : decode cX0_addStitch 47 = .ok (.aload_n 0, 1) := by decide +kernel
theorem dX0_addStitch_48 : decode cX0_addStitch 48 = .ok (.iconst 0, 1) := by decide +kernel
theorem dX0_addStitch_49 : decode cX0_addStitch 49 = .ok (.putfield 39, 3) := by decide +kernel
theorem dX0_addStitch_52 : decode cX0_addStitch 52 = .ok (.iconst 1, 1) := by decide +kernel
theorem dX0_addStitch_53 : decode cX0_addStitch 53 = .ok (.ireturn, 1) := by decide +kernel
theorem dX0_isSewn_0 : decode cX0_isSewn 0 = .ok (.aload_n 0, 1) := by decide +kernel
theorem dX0_isSewn_1 : decode cX0_isSewn 1 = .ok (.getfield 36, 3) := by decide +kernel
theorem dX0_isSewn_4 : decode cX0_isSewn 4 = .ok (.aload_n 0, 1) := by decide +kernel
theorem dX0_isSewn_5 : decode cX0_isSewn 5 = .ok (.getfield 21, 3) := by decide +kernel
theorem dX0_isSewn_8 : decode cX0_isSewn 8 = .ok (.if_icmp .lt 7, 3) := by decide +kernel
theorem dX0_isSewn_11 : decode cX0_isSewn 11 = .ok (.iconst 1, 1) := by decide +kernel
theorem dX0_isSewn_12 : decode cX0_isSewn 12 = .ok (.goto 4, 3) := by decide +kernel
theorem dX0_isSewn_15 : decode cX0_isSewn 15 = .ok (.iconst 0, 1) := by decide +kernel
theorem dX0_isSewn_16 : decode cX0_isSewn 16 = .ok (.ireturn, 1) := by decide +kernel
set_option maxRecDepth 20000 in
theorem ggX0_beginToDry_X0_thickness : GoodIn wsX0_beginToDry wsX0_thickness := goodIn_r _ [8, 9, 10, 11, 12, 13, 14, 15, 16, 17, 18, 19, 20, 21, 22, 23] (by decide +kernel) (by decide +kernel)
set_option maxRecDepth 20000 in
theorem gX0_beginToDry_X0_thickness : GoodIn wsX0_beginToDry (wsV RX0 51 RX0 yX0_thickness wsX0_thickness) := goodIn_app (goodIn_of _ (by decide +kernel)) ggX0_beginToDry_X0_thickness
theorem dX0_beginToDry_0 : decode cX0_beginToDry 0 = .ok (.aload_n 0, 1) := by decide +kernel
theorem dX0_beginToDry_1 : decode cX0_beginToDry 1 = .ok (.iconst 2, 1) := by decide +kernel
theorem dX0_beginToDry_2 : decode cX0_beginToDry 2 = .ok (.putfield 15, 3) := by decide +kernel
theorem dX0_beginToDry_5 : decode cX0_beginToDry 5 = .ok (.aload_n 0, 1) := by decide +kernel
theorem dX0_beginToDry_6 : decode cX0_beginToDry 6 = .ok (.iconst (-1), 1) := by decide +kernel
theorem dX0_beginToDry_7 : decode cX0_beginToDry 7 = .ok (.putfield 18, 3) := by decide +kernel
theorem dX0_beginToDry_10 : decode cX0_beginToDry 10 = .ok (.aload_n 0, 1) := by decide +kernel
theorem dX0_beginToDry_11 : decode cX0_beginToDry 11 = .ok (.iconst 2, 1) := by decide +kernel
theorem dX0_beginToDry_12 : decode cX0_beginToDry 12 = .ok (.aload_n 0, 1) := by decide +kernel
theorem dX0_beginToDry_13 : decode cX0_beginToDry 13 = .ok (.invokevirtual 51, 3) := by decide +kernel
theorem dX0_beginToDry_16 : decode cX0_beginToDry 16 = .ok (.bipush 8, 2) := by decide +kernel
theorem dX0_beginToDry_18 : decode cX0_beginToDry 18 = .ok (.idiv, 1) := by decide +kernel
theorem dX0_beginToDry_19 : decode cX0_beginToDry 19 = .ok (.iadd, 1) := by decide +kernel
theorem dX0_beginToDry_20 : decode cX0_beginToDry 20 = .ok (.putfield 45, 3) := by decide +kernel
theorem dX0_beginToDry_23 : decode cX0_beginToDry 23 = .ok (.return_, 1) := by decide +kernel
theorem dX0_dryForAnHour_0 : decode cX0_dryForAnHour 0 = .ok (.aload_n 0, 1) := by decide +kernel
theorem dX0_dryForAnHour_1 : decode cX0_dryForAnHour 1 = .ok (.dup, 1) := by decide +kernel
theorem dX0_dryForAnHour_2 : decode cX0_dryForAnHour 2 = .ok (.getfield 45, 3) := by decide +kernel
theorem dX0_dryForAnHour_5 : decode cX0_dryForAnHour 5 = .ok (.iconst 1, 1) := by decide +kernel
theorem dX0_dryForAnHour_6 : decode cX0_dryForAnHour 6 = .ok (.isub, 1) := by decide +kernel
theorem dX0_dryForAnHour_7 : decode cX0_dryForAnHour 7 = .ok (.putfield 45, 3) := by decide +kernel
theorem dX0_dryForAnHour_10 : decode cX0_dryForAnHour 10 = .ok (.aload_n 0, 1) := by decide +kernel
theorem dX0_dryForAnHour_11 : decode cX0_dryForAnHour 11 = .ok (.getfield 45, 3) := by decide +kernel
theorem dX0_dryForAnHour_14 : decode cX0_dryForAnHour 14 = .ok (.ifCond .ne 8, 3) := by decide +kernel
theorem dX0_dryForAnHour_17 : decode cX0_dryForAnHour 17 = .ok (.aload_n 0, 1) := by decide +kernel
theorem dX0_dryForAnHour_18 : decode cX0_dryForAnHour 18 = .ok (.iconst 3, 1) := by decide +kernel
theorem dX0_dryForAnHour_19 : decode cX0_dryForAnHour 19 = .ok (.putfield 15, 3) := by decide +kernel
theorem dX0_dryForAnHour_22 : decode cX0_dryForAnHour 22 = .ok (.return_, 1) := by decide +kernel
theorem dX0_bind_0 : decode cX0_bind 0 = .ok (.aload_n 0, 1) := by decide +kernel
theorem dX0_bind_1 : decode cX0_bind 1 = .ok (.aload_n 0, 1) := by decide +kernel
theorem dX0_bind_2 : decode cX0_bind 2 = .ok (.getfield 27, 3) := by decide +kernel
theorem dX0_bind_5 : decode cX0_bind 5 = .ok (.ifCond .ne 7, 3) := by decide +kernel
theorem dX0_bind_8 : decode cX0_bind 8 = .ok (.iconst 5, 1) := by decide +kernel
theorem dX0_bind_9 : decode cX0_bind 9 = .ok (.goto 4, 3) := by decide +kernel
theorem dX0_bind_12 : decode cX0_bind 12 = .ok (.iconst 4, 1) := by decide +kernel
theorem dX0_bind_13 : decode cX0_bind 13 = .ok (.putfield 15, 3) := by decide +kernel
theorem dX0_bind_16 : decode cX0_bind 16 = .ok (.return_, 1) := by decide +kernel
theorem dX0_gildAnEdge_0 : decode cX0_gildAnEdge 0 = .ok (.aload_n 0, 1) := by decide +kernel
theorem dX0_gildAnEdge_1 : decode cX0_gildAnEdge 1 = .ok (.dup, 1) := by decide +kernel
theorem dX0_gildAnEdge_2 : decode cX0_gildAnEdge 2 = .ok (.getfield 48, 3) := by decide +kernel
theorem dX0_gildAnEdge_5 : decode cX0_gildAnEdge 5 = .ok (.iconst 1, 1) := by decide +kernel
theorem dX0_gildAnEdge_6 : decode cX0_gildAnEdge 6 = .ok (.iadd, 1) := by decide +kernel
theorem dX0_gildAnEdge_7 : decode cX0_gildAnEdge 7 = .ok (.putfield 48, 3) := by decide +kernel
theorem dX0_gildAnEdge_10 : decode cX0_gildAnEdge 10 = .ok (.aload_n 0, 1) := by decide +kernel
theorem dX0_gildAnEdge_11 : decode cX0_gildAnEdge 11 = .ok (.getfield 48, 3) := by decide +kernel
theorem dX0_gildAnEdge_14 : decode cX0_gildAnEdge 14 = .ok (.aload_n 0, 1) := by decide +kernel
theorem dX0_gildAnEdge_15 : decode cX0_gildAnEdge 15 = .ok (.getfield 27, 3) := by decide +kernel
theorem dX0_gildAnEdge_18 : decode cX0_gildAnEdge 18 = .ok (.if_icmp .lt 8, 3) := by decide +kernel
theorem dX0_gildAnEdge_21 : decode cX0_gildAnEdge 21 = .ok (.aload_n 0, 1) := by decide +kernel
theorem dX0_gildAnEdge_22 : decode cX0_gildAnEdge 22 = .ok (.iconst 5, 1) := by decide +kernel
theorem dX0_gildAnEdge_23 : decode cX0_gildAnEdge 23 = .ok (.putfield 15, 3) := by decide +kernel
theorem dX0_gildAnEdge_26 : decode cX0_gildAnEdge 26 = .ok (.return_, 1) := by decide +kernel
theorem dX0_value_0 : decode cX0_value 0 = .ok (.iconst 1, 1) := by decide +kernel
theorem dX0_value_1 : decode cX0_value 1 = .ok (.iconst 4, 1) := by decide +kernel
theorem dX0_value_2 : decode cX0_value 2 = .ok (.aload_n 0, 1) := by decide +kernel
theorem dX0_value_3 : decode cX0_value 3 = .ok (.getfield 21, 3) := by decide +kernel
theorem dX0_value_6 : decode cX0_value 6 = .ok (.imul, 1) := by decide +kernel
theorem dX0_value_7 : decode cX0_value 7 = .ok (.iconst 2, 1) := by decide +kernel
theorem dX0_value_8 : decode cX0_value 8 = .ok (.aload_n 0, 1) := by decide +kernel
theorem dX0_value_9 : decode cX0_value 9 = .ok (.getfield 30, 3) := by decide +kernel
theorem dX0_value_12 : decode cX0_value 12 = .ok (.imul, 1) := by decide +kernel
theorem dX0_value_13 : decode cX0_value 13 = .ok (.iadd, 1) := by decide +kernel
theorem dX0_value_14 : decode cX0_value 14 = .ok (.bipush 6, 2) := by decide +kernel
theorem dX0_value_16 : decode cX0_value 16 = .ok (.aload_n 0, 1) := by decide +kernel
theorem dX0_value_17 : decode cX0_value 17 = .ok (.getfield 48, 3) := by decide +kernel
theorem dX0_value_20 : decode cX0_value 20 = .ok (.imul, 1) := by decide +kernel
theorem dX0_value_21 : decode cX0_value 21 = .ok (.iadd, 1) := by decide +kernel
theorem dX0_value_22 : decode cX0_value 22 = .ok (.iconst 3, 1) := by decide +kernel
theorem dX0_value_23 : decode cX0_value 23 = .ok (.aload_n 0, 1) := by decide +kernel
theorem dX0_value_24 : decode cX0_value 24 = .ok (.getfield 42, 3) := by decide +kernel
theorem dX0_value_27 : decode cX0_value 27 = .ok (.imul, 1) := by decide +kernel
theorem dX0_value_28 : decode cX0_value 28 = .ok (.isub, 1) := by decide +kernel
theorem dX0_value_29 : decode cX0_value 29 = .ok (.invokestatic 59, 3) := by decide +kernel
theorem dX0_value_32 : decode cX0_value 32 = .ok (.ireturn, 1) := by decide +kernel
set_option maxRecDepth 20000 in
theorem ggX0_tell_X0_value : GoodIn wsX0_tell wsX0_value := goodIn_r _ [15, 1, 16, 10, 8, 17, 18, 19, 20, 21, 22, 23, 24, 25, 26, 27, 28, 29, 30, 31, 32, 33] (by decide +kernel) (by decide +kernel)
set_option maxRecDepth 20000 in
theorem gX0_tell_X0_value : GoodIn wsX0_tell (wsV RX0 65 RX0 yX0_value wsX0_value) := goodIn_app (goodIn_of _ (by decide +kernel)) ggX0_tell_X0_value
theorem dX0_tell_0 : decode cX0_tell 0 = .ok (.iload_n 1, 1) := by decide +kernel
theorem dX0_tell_1 : decode cX0_tell 1 = .ok (.tableswitch 105 0 9 #[55, 60, 65, 70, 75, 80, 85, 90, 95, 100], 55) := by decide +kernel
theorem dX0_tell_56 : decode cX0_tell 56 = .ok (.aload_n 0, 1) := by decide +kernel
theorem dX0_tell_57 : decode cX0_tell 57 = .ok (.getfield 21, 3) := by decide +kernel
theorem dX0_tell_60 : decode cX0_tell 60 = .ok (.ireturn, 1) := by decide +kernel
theorem dX0_tell_61 : decode cX0_tell 61 = .ok (.aload_n 0, 1) := by decide +kernel
theorem dX0_tell_62 : decode cX0_tell 62 = .ok (.getfield 24, 3) := by decide +kernel
theorem dX0_tell_65 : decode cX0_tell 65 = .ok (.ireturn, 1) := by decide +kernel
theorem dX0_tell_66 : decode cX0_tell 66 = .ok (.aload_n 0, 1) := by decide +kernel
theorem dX0_tell_67 : decode cX0_tell 67 = .ok (.getfield 27, 3) := by decide +kernel
theorem dX0_tell_70 : decode cX0_tell 70 = .ok (.ireturn, 1) := by decide +kernel
theorem dX0_tell_71 : decode cX0_tell 71 = .ok (.aload_n 0, 1) := by decide +kernel
theorem dX0_tell_72 : decode cX0_tell 72 = .ok (.getfield 15, 3) := by decide +kernel
theorem dX0_tell_75 : decode cX0_tell 75 = .ok (.ireturn, 1) := by decide +kernel
theorem dX0_tell_76 : decode cX0_tell 76 = .ok (.aload_n 0, 1) := by decide +kernel
theorem dX0_tell_77 : decode cX0_tell 77 = .ok (.getfield 18, 3) := by decide +kernel
theorem dX0_tell_80 : decode cX0_tell 80 = .ok (.ireturn, 1) := by decide +kernel
theorem dX0_tell_81 : decode cX0_tell 81 = .ok (.aload_n 0, 1) := by decide +kernel
theorem dX0_tell_82 : decode cX0_tell 82 = .ok (.getfield 36, 3) := by decide +kernel
theorem dX0_tell_85 : decode cX0_tell 85 = .ok (.ireturn, 1) := by decide +kernel
theorem dX0_tell_86 : decode cX0_tell 86 = .ok (.aload_n 0, 1) := by decide +kernel
theorem dX0_tell_87 : decode cX0_tell 87 = .ok (.getfield 39, 3) := by decide +kernel
theorem dX0_tell_90 : decode cX0_tell 90 = .ok (.ireturn, 1) := by decide +kernel
theorem dX0_tell_91 : decode cX0_tell 91 = .ok (.aload_n 0, 1) := by decide +kernel
theorem dX0_tell_92 : decode cX0_tell 92 = .ok (.getfield 42, 3) := by decide +kernel
theorem dX0_tell_95 : decode cX0_tell 95 = .ok (.ireturn, 1) := by decide +kernel
theorem dX0_tell_96 : decode cX0_tell 96 = .ok (.aload_n 0, 1) := by decide +kernel
theorem dX0_tell_97 : decode cX0_tell 97 = .ok (.getfield 45, 3) := by decide +kernel
theorem dX0_tell_100 : decode cX0_tell 100 = .ok (.ireturn, 1) := by decide +kernel
theorem dX0_tell_101 : decode cX0_tell 101 = .ok (.aload_n 0, 1) := by decide +kernel
theorem dX0_tell_102 : decode cX0_tell 102 = .ok (.getfield 48, 3) := by decide +kernel
theorem dX0_tell_105 : decode cX0_tell 105 = .ok (.ireturn, 1) := by decide +kernel
theorem dX0_tell_106 : decode cX0_tell 106 = .ok (.aload_n 0, 1) := by decide +kernel
theorem dX0_tell_107 : decode cX0_tell 107 = .ok (.invokevirtual 65, 3) := by decide +kernel
theorem dX0_tell_110 : decode cX0_tell 110 = .ok (.ireturn, 1) := by decide +kernel
theorem dX1_init_0 : decode cX1_init 0 = .ok (.aload_n 0, 1) := by decide +kernel
theorem dX1_init_1 : decode cX1_init 1 = .ok (.invokespecial 3, 3) := by decide +kernel
theorem dX1_init_4 : decode cX1_init 4 = .ok (.aload_n 0, 1) := by decide +kernel
theorem dX1_init_5 : decode cX1_init 5 = .ok (.iload_n 1, 1) := by decide +kernel
theorem dX1_init_6 : decode cX1_init 6 = .ok (.putfield 9, 3) := by decide +kernel
theorem dX1_init_9 : decode cX1_init 9 = .ok (.aload_n 0, 1) := by decide +kernel
theorem dX1_init_10 : decode cX1_init 10 = .ok (.iconst 3, 1) := by decide +kernel
theorem dX1_init_11 : decode cX1_init 11 = .ok (.putfield 15, 3) := by decide +kernel
theorem dX1_init_14 : decode cX1_init 14 = .ok (.aload_n 0, 1) := by decide +kernel
theorem dX1_init_15 : decode cX1_init 15 = .ok (.iconst (-1), 1) := by decide +kernel
theorem dX1_init_16 : decode cX1_init 16 = .ok (.putfield 18, 3) := by decide +kernel
theorem dX1_init_19 : decode cX1_init 19 = .ok (.return_, 1) := by decide +kernel
theorem dX1_setTo_0 : decode cX1_setTo 0 = .ok (.aload_n 0, 1) := by decide +kernel
theorem dX1_setTo_1 : decode cX1_setTo 1 = .ok (.aload_n 1, 1) := by decide +kernel
theorem dX1_setTo_2 : decode cX1_setTo 2 = .ok (.getfield 15, 3) := by decide +kernel
theorem dX1_setTo_5 : decode cX1_setTo 5 = .ok (.putfield 15, 3) := by decide +kernel
theorem dX1_setTo_8 : decode cX1_setTo 8 = .ok (.aload_n 0, 1) := by decide +kernel
theorem dX1_setTo_9 : decode cX1_setTo 9 = .ok (.aload_n 1, 1) := by decide +kernel
theorem dX1_setTo_10 : decode cX1_setTo 10 = .ok (.getfield 18, 3) := by decide +kernel
theorem dX1_setTo_13 : decode cX1_setTo 13 = .ok (.putfield 18, 3) := by decide +kernel
theorem dX1_setTo_16 : decode cX1_setTo 16 = .ok (.aload_n 0, 1) := by decide +kernel
theorem dX1_setTo_17 : decode cX1_setTo 17 = .ok (.aload_n 1, 1) := by decide +kernel
theorem dX1_setTo_18 : decode cX1_setTo 18 = .ok (.getfield 21, 3) := by decide +kernel
theorem dX1_setTo_21 : decode cX1_setTo 21 = .ok (.putfield 21, 3) := by decide +kernel
theorem dX1_setTo_24 : decode cX1_setTo 24 = .ok (.return_, 1) := by decide +kernel
theorem dX2_init_0 : decode cX2_init 0 = .ok (.aload_n 0, 1) := by decide +kernel
theorem dX2_init_1 : decode cX2_init 1 = .ok (.invokespecial 3, 3) := by decide +kernel
theorem dX2_init_4 : decode cX2_init 4 = .ok (.aload_n 0, 1) := by decide +kernel
theorem dX2_init_5 : decode cX2_init 5 = .ok (.iload_n 1, 1) := by decide +kernel
theorem dX2_init_6 : decode cX2_init 6 = .ok (.putfield 9, 3) := by decide +kernel
theorem dX2_init_9 : decode cX2_init 9 = .ok (.aload_n 0, 1) := by decide +kernel
theorem dX2_init_10 : decode cX2_init 10 = .ok (.iconst (-1), 1) := by decide +kernel
theorem dX2_init_11 : decode cX2_init 11 = .ok (.putfield 15, 3) := by decide +kernel
theorem dX2_init_14 : decode cX2_init 14 = .ok (.return_, 1) := by decide +kernel
theorem dX2_setTo_0 : decode cX2_setTo 0 = .ok (.aload_n 0, 1) := by decide +kernel
theorem dX2_setTo_1 : decode cX2_setTo 1 = .ok (.aload_n 1, 1) := by decide +kernel
theorem dX2_setTo_2 : decode cX2_setTo 2 = .ok (.getfield 18, 3) := by decide +kernel
theorem dX2_setTo_5 : decode cX2_setTo 5 = .ok (.putfield 18, 3) := by decide +kernel
theorem dX2_setTo_8 : decode cX2_setTo 8 = .ok (.aload_n 0, 1) := by decide +kernel
theorem dX2_setTo_9 : decode cX2_setTo 9 = .ok (.aload_n 1, 1) := by decide +kernel
theorem dX2_setTo_10 : decode cX2_setTo 10 = .ok (.getfield 15, 3) := by decide +kernel
theorem dX2_setTo_13 : decode cX2_setTo 13 = .ok (.putfield 15, 3) := by decide +kernel
theorem dX2_setTo_16 : decode cX2_setTo 16 = .ok (.return_, 1) := by decide +kernel
theorem dX2_tell_0 : decode cX2_tell 0 = .ok (.iload_n 1, 1) := by decide +kernel
theorem dX2_tell_1 : decode cX2_tell 1 = .ok (.ifCond .ne 10, 3) := by decide +kernel
theorem dX2_tell_4 : decode cX2_tell 4 = .ok (.aload_n 0, 1) := by decide +kernel
theorem dX2_tell_5 : decode cX2_tell 5 = .ok (.getfield 18, 3) := by decide +kernel
theorem dX2_tell_8 : decode cX2_tell 8 = .ok (.goto 7, 3) := by decide +kernel
theorem dX2_tell_11 : decode cX2_tell 11 = .ok (.aload_n 0, 1) := by decide +kernel
theorem dX2_tell_12 : decode cX2_tell 12 = .ok (.getfield 15, 3) := by decide +kernel
theorem dX2_tell_15 : decode cX2_tell 15 = .ok (.ireturn, 1) := by decide +kernel
