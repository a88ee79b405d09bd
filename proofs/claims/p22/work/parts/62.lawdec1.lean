theorem dL_below_0 : decode cL_below 0 = .ok (.iload_n 0, 1) := by decide +kernel
theorem dL_below_1 : decode cL_below 1 = .ok (.ldc 7, 2) := by decide +kernel
theorem dL_below_3 : decode cL_below 3 = .ok (.iand, 1) := by decide +kernel
theorem dL_below_4 : decode cL_below 4 = .ok (.iload_n 1, 1) := by decide +kernel
theorem dL_below_5 : decode cL_below 5 = .ok (.irem, 1) := by decide +kernel
theorem dL_below_6 : decode cL_below 6 = .ok (.ireturn, 1) := by decide +kernel
theorem dL_cell_0 : decode cL_cell 0 = .ok (.iload_n 1, 1) := by decide +kernel
theorem dL_cell_1 : decode cL_cell 1 = .ok (.aload_n 0, 1) := by decide +kernel
theorem dL_cell_2 : decode cL_cell 2 = .ok (.arraylength, 1) := by decide +kernel
theorem dL_cell_3 : decode cL_cell 3 = .ok (.if_icmp .ge 9, 3) := by decide +kernel
theorem dL_cell_6 : decode cL_cell 6 = .ok (.aload_n 0, 1) := by decide +kernel
theorem dL_cell_7 : decode cL_cell 7 = .ok (.iload_n 1, 1) := by decide +kernel
theorem dL_cell_8 : decode cL_cell 8 = .ok (.iaload, 1) := by decide +kernel
theorem dL_cell_9 : decode cL_cell 9 = .ok (.goto 9, 3) := by decide +kernel
theorem dL_cell_12 : decode cL_cell 12 = .ok (.ldc 8, 2) := by decide +kernel
theorem dL_cell_14 : decode cL_cell 14 = .ok (.iload_n 1, 1) := by decide +kernel
theorem dL_cell_15 : decode cL_cell 15 = .ok (.iconst 3, 1) := by decide +kernel
theorem dL_cell_16 : decode cL_cell 16 = .ok (.iadd, 1) := by decide +kernel
theorem dL_cell_17 : decode cL_cell 17 = .ok (.imul, 1) := by decide +kernel
theorem dL_cell_18 : decode cL_cell 18 = .ok (.ireturn, 1) := by decide +kernel
theorem dL_shop_0 : decode cL_shop 0 = .ok (.new 9, 3) := by decide +kernel
theorem dL_shop_3 : decode cL_shop 3 = .ok (.dup, 1) := by decide +kernel
theorem dL_shop_4 : decode cL_shop 4 = .ok (.invokespecial 11, 3) := by decide +kernel
theorem dL_shop_7 : decode cL_shop 7 = .ok (.astore_n 2, 1) := by decide +kernel
theorem dL_shop_8 : decode cL_shop 8 = .ok (.iconst 0, 1) := by decide +kernel
theorem dL_shop_9 : decode cL_shop 9 = .ok (.istore_n 3, 1) := by decide +kernel
theorem dL_shop_10 : decode cL_shop 10 = .ok (.iload_n 3, 1) := by decide +kernel
theorem dL_shop_11 : decode cL_shop 11 = .ok (.iconst 3, 1) := by decide +kernel
theorem dL_shop_12 : decode cL_shop 12 = .ok (.if_icmp .ge 20, 3) := by decide +kernel
theorem dL_shop_15 : decode cL_shop 15 = .ok (.aload_n 2, 1) := by decide +kernel
theorem dL_shop_16 : decode cL_shop 16 = .ok (.iload_n 3, 1) := by decide +kernel
theorem dL_shop_17 : decode cL_shop 17 = .ok (.aload_n 0, 1) := by decide +kernel
theorem dL_shop_18 : decode cL_shop 18 = .ok (.iload_n 3, 1) := by decide +kernel
theorem dL_shop_19 : decode cL_shop 19 = .ok (.invokestatic 12, 3) := by decide +kernel
theorem dL_shop_22 : decode cL_shop 22 = .ok (.invokevirtual 18, 3) := by decide +kernel
theorem dL_shop_25 : decode cL_shop 25 = .ok (.pop, 1) := by decide +kernel
theorem dL_shop_26 : decode cL_shop 26 = .ok (.iinc 3 1, 3) := by decide +kernel
theorem dL_shop_29 : decode cL_shop 29 = .ok (.goto (-19), 3) := by decide +kernel
theorem dL_shop_32 : decode cL_shop 32 = .ok (.iconst 0, 1) := by decide +kernel
theorem dL_shop_33 : decode cL_shop 33 = .ok (.istore_n 3, 1) := by decide +kernel
theorem dL_shop_34 : decode cL_shop 34 = .ok (.iload_n 3, 1) := by decide +kernel
theorem dL_shop_35 : decode cL_shop 35 = .ok (.iconst 3, 1) := by decide +kernel
theorem dL_shop_36 : decode cL_shop 36 = .ok (.if_icmp .ge 30, 3) := by decide +kernel
theorem dL_shop_39 : decode cL_shop 39 = .ok (.aload_n 2, 1) := by decide +kernel
theorem dL_shop_40 : decode cL_shop 40 = .ok (.aload_n 0, 1) := by decide +kernel
theorem dL_shop_41 : decode cL_shop 41 = .ok (.iload_n 3, 1) := by decide +kernel
theorem dL_shop_42 : decode cL_shop 42 = .ok (.invokestatic 22, 3) := by decide +kernel
theorem dL_shop_45 : decode cL_shop 45 = .ok (.invokevirtual 25, 3) := by decide +kernel
theorem dL_shop_48 : decode cL_shop 48 = .ok (.pop, 1) := by decide +kernel
theorem dL_shop_49 : decode cL_shop 49 = .ok (.aload_n 2, 1) := by decide +kernel
theorem dL_shop_50 : decode cL_shop 50 = .ok (.iload_n 3, 1) := by decide +kernel
theorem dL_shop_51 : decode cL_shop 51 = .ok (.aload_n 0, 1) := by decide +kernel
theorem dL_shop_52 : decode cL_shop 52 = .ok (.iload_n 3, 1) := by decide +kernel
theorem dL_shop_53 : decode cL_shop 53 = .ok (.invokestatic 29, 3) := by decide +kernel
theorem dL_shop_56 : decode cL_shop 56 = .ok (.invokevirtual 32, 3) := by decide +kernel
theorem dL_shop_59 : decode cL_shop 59 = .ok (.pop, 1) := by decide +kernel
theorem dL_shop_60 : decode cL_shop 60 = .ok (.iinc 3 1, 3) := by decide +kernel
theorem dL_shop_63 : decode cL_shop 63 = .ok (.goto (-29), 3) := by decide +kernel
theorem dL_shop_66 : decode cL_shop 66 = .ok (.iconst 0, 1) := by decide +kernel
theorem dL_shop_67 : decode cL_shop 67 = .ok (.istore_n 3, 1) := by decide +kernel
theorem dL_shop_68 : decode cL_shop 68 = .ok (.iload_n 3, 1) := by decide +kernel
theorem dL_shop_69 : decode cL_shop 69 = .ok (.iload_n 1, 1) := by decide +kernel
theorem dL_shop_70 : decode cL_shop 70 = .ok (.if_icmp .ge 29, 3) := by decide +kernel
theorem dL_shop_73 : decode cL_shop 73 = .ok (.aload_n 2, 1) := by decide +kernel
theorem dL_shop_74 : decode cL_shop 74 = .ok (.aload_n 0, 1) := by decide +kernel
theorem dL_shop_75 : decode cL_shop 75 = .ok (.iload_n 3, 1) := by decide +kernel
theorem dL_shop_76 : decode cL_shop 76 = .ok (.invokestatic 35, 3) := by decide +kernel
theorem dL_shop_79 : decode cL_shop 79 = .ok (.aload_n 0, 1) := by decide +kernel
theorem dL_shop_80 : decode cL_shop 80 = .ok (.iload_n 3, 1) := by decide +kernel
theorem dL_shop_81 : decode cL_shop 81 = .ok (.invokestatic 38, 3) := by decide +kernel
theorem dL_shop_84 : decode cL_shop 84 = .ok (.aload_n 0, 1) := by decide +kernel
theorem dL_shop_85 : decode cL_shop 85 = .ok (.iload_n 3, 1) := by decide +kernel
theorem dL_shop_86 : decode cL_shop 86 = .ok (.invokestatic 41, 3) := by decide +kernel
theorem dL_shop_89 : decode cL_shop 89 = .ok (.invokevirtual 44, 3) := by decide +kernel
theorem dL_shop_92 : decode cL_shop 92 = .ok (.pop, 1) := by decide +kernel
theorem dL_shop_93 : decode cL_shop 93 = .ok (.iinc 3 1, 3) := by decide +kernel
theorem dL_shop_96 : decode cL_shop 96 = .ok (.goto (-28), 3) := by decide +kernel
theorem dL_shop_99 : decode cL_shop 99 = .ok (.aload_n 2, 1) := by decide +kernel
theorem dL_shop_100 : decode cL_shop 100 = .ok (.areturn, 1) := by decide +kernel
theorem dL_cordsOf_0 : decode cL_cordsOf 0 = .ok (.iconst 2, 1) := by decide +kernel
theorem dL_cordsOf_1 : decode cL_cordsOf 1 = .ok (.aload_n 0, 1) := by decide +kernel
theorem dL_cordsOf_2 : decode cL_cordsOf 2 = .ok (.iconst 0, 1) := by decide +kernel
theorem dL_cordsOf_3 : decode cL_cordsOf 3 = .ok (.invokestatic 48, 3) := by decide +kernel
theorem dL_cordsOf_6 : decode cL_cordsOf 6 = .ok (.iconst 4, 1) := by decide +kernel
theorem dL_cordsOf_7 : decode cL_cordsOf 7 = .ok (.iload_n 1, 1) := by decide +kernel
theorem dL_cordsOf_8 : decode cL_cordsOf 8 = .ok (.imul, 1) := by decide +kernel
theorem dL_cordsOf_9 : decode cL_cordsOf 9 = .ok (.ishr, 1) := by decide +kernel
theorem dL_cordsOf_10 : decode cL_cordsOf 10 = .ok (.iconst 5, 1) := by decide +kernel
theorem dL_cordsOf_11 : decode cL_cordsOf 11 = .ok (.invokestatic 51, 3) := by decide +kernel
theorem dL_cordsOf_14 : decode cL_cordsOf 14 = .ok (.iadd, 1) := by decide +kernel
theorem dL_cordsOf_15 : decode cL_cordsOf 15 = .ok (.ireturn, 1) := by decide +kernel
theorem dL_speedOf_0 : decode cL_speedOf 0 = .ok (.iconst 1, 1) := by decide +kernel
theorem dL_speedOf_1 : decode cL_speedOf 1 = .ok (.aload_n 0, 1) := by decide +kernel
theorem dL_speedOf_2 : decode cL_speedOf 2 = .ok (.iconst 1, 1) := by decide +kernel
theorem dL_speedOf_3 : decode cL_speedOf 3 = .ok (.invokestatic 48, 3) := by decide +kernel
theorem dL_speedOf_6 : decode cL_speedOf 6 = .ok (.iconst 4, 1) := by decide +kernel
theorem dL_speedOf_7 : decode cL_speedOf 7 = .ok (.iload_n 1, 1) := by decide +kernel
theorem dL_speedOf_8 : decode cL_speedOf 8 = .ok (.imul, 1) := by decide +kernel
theorem dL_speedOf_9 : decode cL_speedOf 9 = .ok (.ishr, 1) := by decide +kernel
theorem dL_speedOf_10 : decode cL_speedOf 10 = .ok (.bipush 9, 2) := by decide +kernel
theorem dL_speedOf_12 : decode cL_speedOf 12 = .ok (.invokestatic 51, 3) := by decide +kernel
theorem dL_speedOf_15 : decode cL_speedOf 15 = .ok (.iadd, 1) := by decide +kernel
theorem dL_speedOf_16 : decode cL_speedOf 16 = .ok (.ireturn, 1) := by decide +kernel
theorem dL_seatOf_0 : decode cL_seatOf 0 = .ok (.aload_n 0, 1) := by decide +kernel
theorem dL_seatOf_1 : decode cL_seatOf 1 = .ok (.iconst 1, 1) := by decide +kernel
theorem dL_seatOf_2 : decode cL_seatOf 2 = .ok (.invokestatic 48, 3) := by decide +kernel
theorem dL_seatOf_5 : decode cL_seatOf 5 = .ok (.bipush 12, 2) := by decide +kernel
theorem dL_seatOf_7 : decode cL_seatOf 7 = .ok (.ishr, 1) := by decide +kernel
theorem dL_seatOf_8 : decode cL_seatOf 8 = .ok (.iconst 3, 1) := by decide +kernel
theorem dL_seatOf_9 : decode cL_seatOf 9 = .ok (.invokestatic 51, 3) := by decide +kernel
theorem dL_seatOf_12 : decode cL_seatOf 12 = .ok (.iload_n 1, 1) := by decide +kernel
theorem dL_seatOf_13 : decode cL_seatOf 13 = .ok (.iconst 2, 1) := by decide +kernel
theorem dL_seatOf_14 : decode cL_seatOf 14 = .ok (.if_icmp .ne 20, 3) := by decide +kernel
theorem dL_seatOf_17 : decode cL_seatOf 17 = .ok (.iconst 1, 1) := by decide +kernel
theorem dL_seatOf_18 : decode cL_seatOf 18 = .ok (.aload_n 0, 1) := by decide +kernel
theorem dL_seatOf_19 : decode cL_seatOf 19 = .ok (.iconst 1, 1) := by decide +kernel
theorem dL_seatOf_20 : decode cL_seatOf 20 = .ok (.invokestatic 48, 3) := by decide +kernel
theorem dL_seatOf_23 : decode cL_seatOf 23 = .ok (.bipush 14, 2) := by decide +kernel
theorem dL_seatOf_25 : decode cL_seatOf 25 = .ok (.ishr, 1) := by decide +kernel
theorem dL_seatOf_26 : decode cL_seatOf 26 = .ok (.iconst 2, 1) := by decide +kernel
theorem dL_seatOf_27 : decode cL_seatOf 27 = .ok (.invokestatic 51, 3) := by decide +kernel
theorem dL_seatOf_30 : decode cL_seatOf 30 = .ok (.iadd, 1) := by decide +kernel
theorem dL_seatOf_31 : decode cL_seatOf 31 = .ok (.goto 17, 3) := by decide +kernel
theorem dL_seatOf_34 : decode cL_seatOf 34 = .ok (.iload_n 1, 1) := by decide +kernel
theorem dL_seatOf_35 : decode cL_seatOf 35 = .ok (.aload_n 0, 1) := by decide +kernel
theorem dL_seatOf_36 : decode cL_seatOf 36 = .ok (.iconst 1, 1) := by decide +kernel
theorem dL_seatOf_37 : decode cL_seatOf 37 = .ok (.invokestatic 48, 3) := by decide +kernel
theorem dL_seatOf_40 : decode cL_seatOf 40 = .ok (.bipush 16, 2) := by decide +kernel
theorem dL_seatOf_42 : decode cL_seatOf 42 = .ok (.ishr, 1) := by decide +kernel
theorem dL_seatOf_43 : decode cL_seatOf 43 = .ok (.iconst 2, 1) := by decide +kernel
theorem dL_seatOf_44 : decode cL_seatOf 44 = .ok (.invokestatic 51, 3) := by decide +kernel
theorem dL_seatOf_47 : decode cL_seatOf 47 = .ok (.imul, 1) := by decide +kernel
theorem dL_seatOf_48 : decode cL_seatOf 48 = .ok (.iadd, 1) := by decide +kernel
theorem dL_seatOf_49 : decode cL_seatOf 49 = .ok (.iconst 3, 1) := by decide +kernel
theorem dL_seatOf_50 : decode cL_seatOf 50 = .ok (.irem, 1) := by decide +kernel
theorem dL_seatOf_51 : decode cL_seatOf 51 = .ok (.ireturn, 1) := by decide +kernel
theorem dL_signaturesOf_0 : decode cL_signaturesOf 0 = .ok (.iconst 1, 1) := by decide +kernel
theorem dL_signaturesOf_1 : decode cL_signaturesOf 1 = .ok (.aload_n 0, 1) := by decide +kernel
theorem dL_signaturesOf_2 : decode cL_signaturesOf 2 = .ok (.iconst 2, 1) := by decide +kernel
theorem dL_signaturesOf_3 : decode cL_signaturesOf 3 = .ok (.iload_n 1, 1) := by decide +kernel
theorem dL_signaturesOf_4 : decode cL_signaturesOf 4 = .ok (.iadd, 1) := by decide +kernel
theorem dL_signaturesOf_5 : decode cL_signaturesOf 5 = .ok (.invokestatic 48, 3) := by decide +kernel
theorem dL_signaturesOf_8 : decode cL_signaturesOf 8 = .ok (.aload_n 0, 1) := by decide +kernel
theorem dL_signaturesOf_9 : decode cL_signaturesOf 9 = .ok (.iconst 1, 1) := by decide +kernel
theorem dL_signaturesOf_10 : decode cL_signaturesOf 10 = .ok (.invokestatic 48, 3) := by decide +kernel
theorem dL_signaturesOf_13 : decode cL_signaturesOf 13 = .ok (.bipush 18, 2) := by decide +kernel
theorem dL_signaturesOf_15 : decode cL_signaturesOf 15 = .ok (.ishr, 1) := by decide +kernel
theorem dL_signaturesOf_16 : decode cL_signaturesOf 16 = .ok (.iconst 2, 1) := by decide +kernel
theorem dL_signaturesOf_17 : decode cL_signaturesOf 17 = .ok (.invokestatic 51, 3) := by decide +kernel
theorem dL_signaturesOf_20 : decode cL_signaturesOf 20 = .ok (.ifCond .ne 8, 3) := by decide +kernel
theorem dL_signaturesOf_23 : decode cL_signaturesOf 23 = .ok (.bipush 6, 2) := by decide +kernel
theorem dL_signaturesOf_25 : decode cL_signaturesOf 25 = .ok (.goto 5, 3) := by decide +kernel
theorem dL_signaturesOf_28 : decode cL_signaturesOf 28 = .ok (.bipush 24, 2) := by decide +kernel
theorem dL_signaturesOf_30 : decode cL_signaturesOf 30 = .ok (.invokestatic 51, 3) := by decide +kernel
theorem dL_signaturesOf_33 : decode cL_signaturesOf 33 = .ok (.iadd, 1) := by decide +kernel
theorem dL_signaturesOf_34 : decode cL_signaturesOf 34 = .ok (.ireturn, 1) := by decide +kernel
theorem dL_sheetsOf_0 : decode cL_sheetsOf 0 = .ok (.iconst 1, 1) := by decide +kernel
theorem dL_sheetsOf_1 : decode cL_sheetsOf 1 = .ok (.aload_n 0, 1) := by decide +kernel
theorem dL_sheetsOf_2 : decode cL_sheetsOf 2 = .ok (.iconst 2, 1) := by decide +kernel
theorem dL_sheetsOf_3 : decode cL_sheetsOf 3 = .ok (.iload_n 1, 1) := by decide +kernel
theorem dL_sheetsOf_4 : decode cL_sheetsOf 4 = .ok (.iadd, 1) := by decide +kernel
theorem dL_sheetsOf_5 : decode cL_sheetsOf 5 = .ok (.invokestatic 48, 3) := by decide +kernel
theorem dL_sheetsOf_8 : decode cL_sheetsOf 8 = .ok (.iconst 4, 1) := by decide +kernel
theorem dL_sheetsOf_9 : decode cL_sheetsOf 9 = .ok (.ishr, 1) := by decide +kernel
theorem dL_sheetsOf_10 : decode cL_sheetsOf 10 = .ok (.bipush 8, 2) := by decide +kernel
theorem dL_sheetsOf_12 : decode cL_sheetsOf 12 = .ok (.invokestatic 51, 3) := by decide +kernel
theorem dL_sheetsOf_15 : decode cL_sheetsOf 15 = .ok (.iadd, 1) := by decide +kernel
theorem dL_sheetsOf_16 : decode cL_sheetsOf 16 = .ok (.ireturn, 1) := by decide +kernel
theorem dL_edgesOf_0 : decode cL_edgesOf 0 = .ok (.aload_n 0, 1) := by decide +kernel
theorem dL_edgesOf_1 : decode cL_edgesOf 1 = .ok (.iconst 2, 1) := by decide +kernel
theorem dL_edgesOf_2 : decode cL_edgesOf 2 = .ok (.iload_n 1, 1) := by decide +kernel
theorem dL_edgesOf_3 : decode cL_edgesOf 3 = .ok (.iadd, 1) := by decide +kernel
theorem dL_edgesOf_4 : decode cL_edgesOf 4 = .ok (.invokestatic 48, 3) := by decide +kernel
theorem dL_edgesOf_7 : decode cL_edgesOf 7 = .ok (.bipush 8, 2) := by decide +kernel
theorem dL_edgesOf_9 : decode cL_edgesOf 9 = .ok (.ishr, 1) := by decide +kernel
theorem dL_edgesOf_10 : decode cL_edgesOf 10 = .ok (.iconst 4, 1) := by decide +kernel
theorem dL_edgesOf_11 : decode cL_edgesOf 11 = .ok (.invokestatic 51, 3) := by decide +kernel
theorem dL_edgesOf_14 : decode cL_edgesOf 14 = .ok (.ireturn, 1) := by decide +kernel
