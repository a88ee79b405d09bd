set_option maxRecDepth 20000 in
theorem ggX3_init_X0_init : GoodIn wsX3_init wsX0_init := goodIn_r _ [22, 23, 2, 3, 24, 25, 26, 52, 53, 54, 55, 56, 57, 58, 59, 60, 61, 62, 63, 64] (by decide +kernel) (by decide +kernel)
set_option maxRecDepth 20000 in
theorem gX3_init_X0_init : GoodIn wsX3_init (wsX0_init) := ggX3_init_X0_init
set_option maxRecDepth 20000 in
theorem ggX3_init_X2_init : GoodIn wsX3_init wsX2_init := goodIn_r _ [29, 30, 2, 3, 31, 32, 65, 66, 67] (by decide +kernel) (by decide +kernel)
set_option maxRecDepth 20000 in
theorem gX3_init_X2_init : GoodIn wsX3_init (wsX2_init) := ggX3_init_X2_init
set_option maxRecDepth 20000 in
theorem ggX3_init_X1_init : GoodIn wsX3_init wsX1_init := goodIn_r _ [35, 36, 2, 3, 37, 38, 39, 68, 69, 70, 71] (by decide +kernel) (by decide +kernel)
set_option maxRecDepth 20000 in
theorem gX3_init_X1_init : GoodIn wsX3_init (wsX1_init) := ggX3_init_X1_init
theorem dX3_init_0 : decode cX3_init 0 = .ok (.aload_n 0, 1) := by decide +kernel
theorem dX3_init_1 : decode cX3_init 1 = .ok (.invokespecial 3, 3) := by decide +kernel
theorem dX3_init_4 : decode cX3_init 4 = .ok (.aload_n 0, 1) := by decide +kernel
theorem dX3_init_5 : decode cX3_init 5 = .ok (.bipush 15, 2) := by decide +kernel
theorem dX3_init_7 : decode cX3_init 7 = .ok (.anewarray 9, 3) := by decide +kernel
theorem dX3_init_10 : decode cX3_init 10 = .ok (.putfield 11, 3) := by decide +kernel
theorem dX3_init_13 : decode cX3_init 13 = .ok (.iconst 0, 1) := by decide +kernel
theorem dX3_init_14 : decode cX3_init 14 = .ok (.istore_n 1, 1) := by decide +kernel
theorem dX3_init_15 : decode cX3_init 15 = .ok (.iload_n 1, 1) := by decide +kernel
theorem dX3_init_16 : decode cX3_init 16 = .ok (.aload_n 0, 1) := by decide +kernel
theorem dX3_init_17 : decode cX3_init 17 = .ok (.getfield 11, 3) := by decide +kernel
theorem dX3_init_20 : decode cX3_init 20 = .ok (.arraylength, 1) := by decide +kernel
theorem dX3_init_21 : decode cX3_init 21 = .ok (.if_icmp .ge 23, 3) := by decide +kernel
theorem dX3_init_24 : decode cX3_init 24 = .ok (.aload_n 0, 1) := by decide +kernel
theorem dX3_init_25 : decode cX3_init 25 = .ok (.getfield 11, 3) := by decide +kernel
theorem dX3_init_28 : decode cX3_init 28 = .ok (.iload_n 1, 1) := by decide +kernel
theorem dX3_init_29 : decode cX3_init 29 = .ok (.new 9, 3) := by decide +kernel
theorem dX3_init_32 : decode cX3_init 32 = .ok (.dup, 1) := by decide +kernel
theorem dX3_init_33 : decode cX3_init 33 = .ok (.iload_n 1, 1) := by decide +kernel
theorem dX3_init_34 : decode cX3_init 34 = .ok (.invokespecial 17, 3) := by decide +kernel
theorem dX3_init_37 : decode cX3_init 37 = .ok (.aastore, 1) := by decide +kernel
theorem dX3_init_38 : decode cX3_init 38 = .ok (.iinc 1 1, 3) := by decide +kernel
theorem dX3_init_41 : decode cX3_init 41 = .ok (.goto (-26), 3) := by decide +kernel
theorem dX3_init_44 : decode cX3_init 44 = .ok (.aload_n 0, 1) := by decide +kernel
theorem dX3_init_45 : decode cX3_init 45 = .ok (.iconst 5, 1) := by decide +kernel
theorem dX3_init_46 : decode cX3_init 46 = .ok (.anewarray 20, 3) := by decide +kernel
theorem dX3_init_49 : decode cX3_init 49 = .ok (.putfield 22, 3) := by decide +kernel
theorem dX3_init_52 : decode cX3_init 52 = .ok (.iconst 0, 1) := by decide +kernel
theorem dX3_init_53 : decode cX3_init 53 = .ok (.istore_n 1, 1) := by decide +kernel
theorem dX3_init_54 : decode cX3_init 54 = .ok (.iload_n 1, 1) := by decide +kernel
theorem dX3_init_55 : decode cX3_init 55 = .ok (.aload_n 0, 1) := by decide +kernel
theorem dX3_init_56 : decode cX3_init 56 = .ok (.getfield 22, 3) := by decide +kernel
theorem dX3_init_59 : decode cX3_init 59 = .ok (.arraylength, 1) := by decide +kernel
theorem dX3_init_60 : decode cX3_init 60 = .ok (.if_icmp .ge 23, 3) := by decide +kernel
theorem dX3_init_63 : decode cX3_init 63 = .ok (.aload_n 0, 1) := by decide +kernel
theorem dX3_init_64 : decode cX3_init 64 = .ok (.getfield 22, 3) := by decide +kernel
theorem dX3_init_67 : decode cX3_init 67 = .ok (.iload_n 1, 1) := by decide +kernel
theorem dX3_init_68 : decode cX3_init 68 = .ok (.new 20, 3) := by decide +kernel
theorem dX3_init_71 : decode cX3_init 71 = .ok (.dup, 1) := by decide +kernel
theorem dX3_init_72 : decode cX3_init 72 = .ok (.iload_n 1, 1) := by decide +kernel
theorem dX3_init_73 : decode cX3_init 73 = .ok (.invokespecial 26, 3) := by decide +kernel
theorem dX3_init_76 : decode cX3_init 76 = .ok (.aastore, 1) := by decide +kernel
theorem dX3_init_77 : decode cX3_init 77 = .ok (.iinc 1 1, 3) := by decide +kernel
theorem dX3_init_80 : decode cX3_init 80 = .ok (.goto (-26), 3) := by decide +kernel
theorem dX3_init_83 : decode cX3_init 83 = .ok (.aload_n 0, 1) := by decide +kernel
theorem dX3_init_84 : decode cX3_init 84 = .ok (.iconst 3, 1) := by decide +kernel
theorem dX3_init_85 : decode cX3_init 85 = .ok (.anewarray 27, 3) := by decide +kernel
theorem dX3_init_88 : decode cX3_init 88 = .ok (.putfield 29, 3) := by decide +kernel
theorem dX3_init_91 : decode cX3_init 91 = .ok (.iconst 0, 1) := by decide +kernel
theorem dX3_init_92 : decode cX3_init 92 = .ok (.istore_n 1, 1) := by decide +kernel
theorem dX3_init_93 : decode cX3_init 93 = .ok (.iload_n 1, 1) := by decide +kernel
theorem dX3_init_94 : decode cX3_init 94 = .ok (.aload_n 0, 1) := by decide +kernel
theorem dX3_init_95 : decode cX3_init 95 = .ok (.getfield 29, 3) := by decide +kernel
theorem dX3_init_98 : decode cX3_init 98 = .ok (.arraylength, 1) := by decide +kernel
theorem dX3_init_99 : decode cX3_init 99 = .ok (.if_icmp .ge 23, 3) := by decide +kernel
theorem dX3_init_102 : decode cX3_init 102 = .ok (.aload_n 0, 1) := by decide +kernel
theorem dX3_init_103 : decode cX3_init 103 = .ok (.getfield 29, 3) := by decide +kernel
theorem dX3_init_106 : decode cX3_init 106 = .ok (.iload_n 1, 1) := by decide +kernel
theorem dX3_init_107 : decode cX3_init 107 = .ok (.new 27, 3) := by decide +kernel
theorem dX3_init_110 : decode cX3_init 110 = .ok (.dup, 1) := by decide +kernel
theorem dX3_init_111 : decode cX3_init 111 = .ok (.iload_n 1, 1) := by decide +kernel
theorem dX3_init_112 : decode cX3_init 112 = .ok (.invokespecial 33, 3) := by decide +kernel
theorem dX3_init_115 : decode cX3_init 115 = .ok (.aastore, 1) := by decide +kernel
theorem dX3_init_116 : decode cX3_init 116 = .ok (.iinc 1 1, 3) := by decide +kernel
theorem dX3_init_119 : decode cX3_init 119 = .ok (.goto (-26), 3) := by decide +kernel
theorem dX3_init_122 : decode cX3_init 122 = .ok (.aload_n 0, 1) := by decide +kernel
theorem dX3_init_123 : decode cX3_init 123 = .ok (.sipush 300, 3) := by decide +kernel
theorem dX3_init_126 : decode cX3_init 126 = .ok (.putfield 34, 3) := by decide +kernel
theorem dX3_init_129 : decode cX3_init 129 = .ok (.aload_n 0, 1) := by decide +kernel
theorem dX3_init_130 : decode cX3_init 130 = .ok (.bipush 12, 2) := by decide +kernel
theorem dX3_init_132 : decode cX3_init 132 = .ok (.putfield 38, 3) := by decide +kernel
theorem dX3_init_135 : decode cX3_init 135 = .ok (.aload_n 0, 1) := by decide +kernel
theorem dX3_init_136 : decode cX3_init 136 = .ok (.bipush 20, 2) := by decide +kernel
theorem dX3_init_138 : decode cX3_init 138 = .ok (.putfield 41, 3) := by decide +kernel
theorem dX3_init_141 : decode cX3_init 141 = .ok (.aload_n 0, 1) := by decide +kernel
theorem dX3_init_142 : decode cX3_init 142 = .ok (.bipush 30, 2) := by decide +kernel
theorem dX3_init_144 : decode cX3_init 144 = .ok (.putfield 44, 3) := by decide +kernel
theorem dX3_init_147 : decode cX3_init 147 = .ok (.return_, 1) := by decide +kernel
set_option maxRecDepth 20000 in
theorem ggX3_setTo_X0_setTo : GoodIn wsX3_setTo wsX0_setTo := goodIn_r _ [17, 18, 19, 20, 21, 22, 23, 24, 25, 26, 27, 28, 29, 57, 58, 59, 60, 61, 62, 63, 64, 65, 66, 67, 68, 69] (by decide +kernel) (by decide +kernel)
set_option maxRecDepth 20000 in
theorem gX3_setTo_X0_setTo : GoodIn wsX3_setTo (wsV RX3 47 RX0 yX0_setTo wsX0_setTo) := goodIn_app (goodIn_of _ (by decide +kernel)) ggX3_setTo_X0_setTo
set_option maxRecDepth 20000 in
theorem ggX3_setTo_X2_setTo : GoodIn wsX3_setTo wsX2_setTo := goodIn_r _ [34, 35, 36, 70, 71, 72] (by decide +kernel) (by decide +kernel)
set_option maxRecDepth 20000 in
theorem gX3_setTo_X2_setTo : GoodIn wsX3_setTo (wsV RX3 51 RX2 yX2_setTo wsX2_setTo) := goodIn_app (goodIn_of _ (by decide +kernel)) ggX3_setTo_X2_setTo
set_option maxRecDepth 20000 in
theorem ggX3_setTo_X1_setTo : GoodIn wsX3_setTo wsX1_setTo := goodIn_r _ [41, 42, 43, 44, 73, 74, 75, 76] (by decide +kernel) (by decide +kernel)
set_option maxRecDepth 20000 in
theorem gX3_setTo_X1_setTo : GoodIn wsX3_setTo (wsV RX3 54 RX1 yX1_setTo wsX1_setTo) := goodIn_app (goodIn_of _ (by decide +kernel)) ggX3_setTo_X1_setTo
theorem dX3_setTo_0 : decode cX3_setTo 0 = .ok (.iconst 0, 1) := by decide +kernel
theorem dX3_setTo_1 : decode cX3_setTo 1 = .ok (.istore_n 2, 1) := by decide +kernel
theorem dX3_setTo_2 : decode cX3_setTo 2 = .ok (.iload_n 2, 1) := by decide +kernel
theorem dX3_setTo_3 : decode cX3_setTo 3 = .ok (.aload_n 0, 1) := by decide +kernel
theorem dX3_setTo_4 : decode cX3_setTo 4 = .ok (.getfield 11, 3) := by decide +kernel
theorem dX3_setTo_7 : decode cX3_setTo 7 = .ok (.arraylength, 1) := by decide +kernel
theorem dX3_setTo_8 : decode cX3_setTo 8 = .ok (.if_icmp .ge 33, 3) := by decide +kernel
theorem dX3_setTo_11 : decode cX3_setTo 11 = .ok (.iload_n 2, 1) := by decide +kernel
theorem dX3_setTo_12 : decode cX3_setTo 12 = .ok (.aload_n 1, 1) := by decide +kernel
theorem dX3_setTo_13 : decode cX3_setTo 13 = .ok (.getfield 11, 3) := by decide +kernel
theorem dX3_setTo_16 : decode cX3_setTo 16 = .ok (.arraylength, 1) := by decide +kernel
theorem dX3_setTo_17 : decode cX3_setTo 17 = .ok (.if_icmp .ge 24, 3) := by decide +kernel
theorem dX3_setTo_20 : decode cX3_setTo 20 = .ok (.aload_n 0, 1) := by decide +kernel
theorem dX3_setTo_21 : decode cX3_setTo 21 = .ok (.getfield 11, 3) := by decide +kernel
theorem dX3_setTo_24 : decode cX3_setTo 24 = .ok (.iload_n 2, 1) := by decide +kernel
theorem dX3_setTo_25 : decode cX3_setTo 25 = .ok (.aaload, 1) := by decide +kernel
theorem dX3_setTo_26 : decode cX3_setTo 26 = .ok (.aload_n 1, 1) := by decide +kernel
theorem dX3_setTo_27 : decode cX3_setTo 27 = .ok (.getfield 11, 3) := by decide +kernel
theorem dX3_setTo_30 : decode cX3_setTo 30 = .ok (.iload_n 2, 1) := by decide +kernel
theorem dX3_setTo_31 : decode cX3_setTo 31 = .ok (.aaload, 1) := by decide +kernel
theorem dX3_setTo_32 : decode cX3_setTo 32 = .ok (.invokevirtual 47, 3) := by decide +kernel
theorem dX3_setTo_35 : decode cX3_setTo 35 = .ok (.iinc 2 1, 3) := by decide +kernel
theorem dX3_setTo_38 : decode cX3_setTo 38 = .ok (.goto (-36), 3) := by decide +kernel
theorem dX3_setTo_41 : decode cX3_setTo 41 = .ok (.iconst 0, 1) := by decide +kernel
theorem dX3_setTo_42 : decode cX3_setTo 42 = .ok (.istore_n 2, 1) := by decide +kernel
theorem dX3_setTo_43 : decode cX3_setTo 43 = .ok (.iload_n 2, 1) := by decide +kernel
theorem dX3_setTo_44 : decode cX3_setTo 44 = .ok (.aload_n 0, 1) := by decide +kernel
theorem dX3_setTo_45 : decode cX3_setTo 45 = .ok (.getfield 22, 3) := by decide +kernel
theorem dX3_setTo_48 : decode cX3_setTo 48 = .ok (.arraylength, 1) := by decide +kernel
theorem dX3_setTo_49 : decode cX3_setTo 49 = .ok (.if_icmp .ge 33, 3) := by decide +kernel
theorem dX3_setTo_52 : decode cX3_setTo 52 = .ok (.iload_n 2, 1) := by decide +kernel
theorem dX3_setTo_53 : decode cX3_setTo 53 = .ok (.aload_n 1, 1) := by decide +kernel
theorem dX3_setTo_54 : decode cX3_setTo 54 = .ok (.getfield 22, 3) := by decide +kernel
theorem dX3_setTo_57 : decode cX3_setTo 57 = .ok (.arraylength, 1) := by decide +kernel
theorem dX3_setTo_58 : decode cX3_setTo 58 = .ok (.if_icmp .ge 24, 3) := by decide +kernel
theorem dX3_setTo_61 : decode cX3_setTo 61 = .ok (.aload_n 0, 1) := by decide +kernel
theorem dX3_setTo_62 : decode cX3_setTo 62 = .ok (.getfield 22, 3) := by decide +kernel
theorem dX3_setTo_65 : decode cX3_setTo 65 = .ok (.iload_n 2, 1) := by decide +kernel
theorem dX3_setTo_66 : decode cX3_setTo 66 = .ok (.aaload, 1) := by decide +kernel
theorem dX3_setTo_67 : decode cX3_setTo 67 = .ok (.aload_n 1, 1) := by decide +kernel
theorem dX3_setTo_68 : decode cX3_setTo 68 = .ok (.getfield 22, 3) := by decide +kernel
theorem dX3_setTo_71 : decode cX3_setTo 71 = .ok (.iload_n 2, 1) := by decide +kernel
theorem dX3_setTo_72 : decode cX3_setTo 72 = .ok (.aaload, 1) := by decide +kernel
theorem dX3_setTo_73 : decode cX3_setTo 73 = .ok (.invokevirtual 51, 3) := by decide +kernel
theorem dX3_setTo_76 : decode cX3_setTo 76 = .ok (.iinc 2 1, 3) := by decide +kernel
theorem dX3_setTo_79 : decode cX3_setTo 79 = .ok (.goto (-36), 3) := by decide +kernel
theorem dX3_setTo_82 : decode cX3_setTo 82 = .ok (.iconst 0, 1) := by decide +kernel
theorem dX3_setTo_83 : decode cX3_setTo 83 = .ok (.istore_n 2, 1) := by decide +kernel
theorem dX3_setTo_84 : decode cX3_setTo 84 = .ok (.iload_n 2, 1) := by decide +kernel
theorem dX3_setTo_85 : decode cX3_setTo 85 = .ok (.aload_n 0, 1) := by decide +kernel
theorem dX3_setTo_86 : decode cX3_setTo 86 = .ok (.getfield 29, 3) := by decide +kernel
theorem dX3_setTo_89 : decode cX3_setTo 89 = .ok (.arraylength, 1) := by decide +kernel
theorem dX3_setTo_90 : decode cX3_setTo 90 = .ok (.if_icmp .ge 33, 3) := by decide +kernel
theorem dX3_setTo_93 : decode cX3_setTo 93 = .ok (.iload_n 2, 1) := by decide +kernel
theorem dX3_setTo_94 : decode cX3_setTo 94 = .ok (.aload_n 1, 1) := by decide +kernel
theorem dX3_setTo_95 : decode cX3_setTo 95 = .ok (.getfield 29, 3) := by decide +kernel
theorem dX3_setTo_98 : decode cX3_setTo 98 = .ok (.arraylength, 1) := by decide +kernel
theorem dX3_setTo_99 : decode cX3_setTo 99 = .ok (.if_icmp .ge 24, 3) := by decide +kernel
theorem dX3_setTo_102 : decode cX3_setTo 102 = .ok (.aload_n 0, 1) := by decide +kernel
theorem dX3_setTo_103 : decode cX3_setTo 103 = .ok (.getfield 29, 3) := by decide +kernel
theorem dX3_setTo_106 : decode cX3_setTo 106 = .ok (.iload_n 2, 1) := by decide +kernel
theorem dX3_setTo_107 : decode cX3_setTo 107 = .ok (.aaload, 1) := by decide +kernel
theorem dX3_setTo_108 : decode cX3_setTo 108 = .ok (.aload_n 1, 1) := by decide +kernel
theorem dX3_setTo_109 : decode cX3_setTo 109 = .ok (.getfield 29, 3) := by decide +kernel
theorem dX3_setTo_112 : decode cX3_setTo 112 = .ok (.iload_n 2, 1) := by decide +kernel
theorem dX3_setTo_113 : decode cX3_setTo 113 = .ok (.aaload, 1) := by decide +kernel
theorem dX3_setTo_114 : decode cX3_setTo 114 = .ok (.invokevirtual 54, 3) := by decide +kernel
theorem dX3_setTo_117 : decode cX3_setTo 117 = .ok (.iinc 2 1, 3) := by decide +kernel
theorem dX3_setTo_120 : decode cX3_setTo 120 = .ok (.goto (-36), 3) := by decide +kernel
theorem dX3_setTo_123 : decode cX3_setTo 123 = .ok (.aload_n 0, 1) := by decide +kernel
theorem dX3_setTo_124 : decode cX3_setTo 124 = .ok (.aload_n 1, 1) := by decide +kernel
theorem dX3_setTo_125 : decode cX3_setTo 125 = .ok (.getfield 57, 3) := by decide +kernel
theorem dX3_setTo_128 : decode cX3_setTo 128 = .ok (.putfield 57, 3) := by decide +kernel
theorem dX3_setTo_131 : decode cX3_setTo 131 = .ok (.aload_n 0, 1) := by decide +kernel
theorem dX3_setTo_132 : decode cX3_setTo 132 = .ok (.aload_n 1, 1) := by decide +kernel
theorem dX3_setTo_133 : decode cX3_setTo 133 = .ok (.getfield 60, 3) := by decide +kernel
theorem dX3_setTo_136 : decode cX3_setTo 136 = .ok (.putfield 60, 3) := by decide +kernel
theorem dX3_setTo_139 : decode cX3_setTo 139 = .ok (.aload_n 0, 1) := by decide +kernel
theorem dX3_setTo_140 : decode cX3_setTo 140 = .ok (.aload_n 1, 1) := by decide +kernel
theorem dX3_setTo_141 : decode cX3_setTo 141 = .ok (.getfield 63, 3) := by decide +kernel
theorem dX3_setTo_144 : decode cX3_setTo 144 = .ok (.putfield 63, 3) := by decide +kernel
theorem dX3_setTo_147 : decode cX3_setTo 147 = .ok (.aload_n 0, 1) := by decide +kernel
theorem dX3_setTo_148 : decode cX3_setTo 148 = .ok (.aload_n 1, 1) := by decide +kernel
theorem dX3_setTo_149 : decode cX3_setTo 149 = .ok (.getfield 44, 3) := by decide +kernel
theorem dX3_setTo_152 : decode cX3_setTo 152 = .ok (.putfield 44, 3) := by decide +kernel
theorem dX3_setTo_155 : decode cX3_setTo 155 = .ok (.aload_n 0, 1) := by decide +kernel
theorem dX3_setTo_156 : decode cX3_setTo 156 = .ok (.aload_n 1, 1) := by decide +kernel
theorem dX3_setTo_157 : decode cX3_setTo 157 = .ok (.getfield 34, 3) := by decide +kernel
theorem dX3_setTo_160 : decode cX3_setTo 160 = .ok (.putfield 34, 3) := by decide +kernel
theorem dX3_setTo_163 : decode cX3_setTo 163 = .ok (.aload_n 0, 1) := by decide +kernel
theorem dX3_setTo_164 : decode cX3_setTo 164 = .ok (.aload_n 1, 1) := by decide +kernel
theorem dX3_setTo_165 : decode cX3_setTo 165 = .ok (.getfield 38, 3) := by decide +kernel
theorem dX3_setTo_168 : decode cX3_setTo 168 = .ok (.putfield 38, 3) := by decide +kernel
theorem dX3_setTo_171 : decode cX3_setTo 171 = .ok (.aload_n 0, 1) := by decide +kernel
theorem dX3_setTo_172 : decode cX3_setTo 172 = .ok (.aload_n 1, 1) := by decide +kernel
theorem dX3_setTo_173 : decode cX3_setTo 173 = .ok (.getfield 41, 3) := by decide +kernel
theorem dX3_setTo_176 : decode cX3_setTo 176 = .ok (.putfield 41, 3) := by decide +kernel
theorem dX3_setTo_179 : decode cX3_setTo 179 = .ok (.aload_n 0, 1) := by decide +kernel
theorem dX3_setTo_180 : decode cX3_setTo 180 = .ok (.aload_n 1, 1) := by decide +kernel
theorem dX3_setTo_181 : decode cX3_setTo 181 = .ok (.getfield 66, 3) := by decide +kernel
theorem dX3_setTo_184 : decode cX3_setTo 184 = .ok (.putfield 66, 3) := by decide +kernel
theorem dX3_setTo_187 : decode cX3_setTo 187 = .ok (.aload_n 0, 1) := by decide +kernel
theorem dX3_setTo_188 : decode cX3_setTo 188 = .ok (.aload_n 1, 1) := by decide +kernel
theorem dX3_setTo_189 : decode cX3_setTo 189 = .ok (.getfield 69, 3) := by decide +kernel
theorem dX3_setTo_192 : decode cX3_setTo 192 = .ok (.putfield 69, 3) := by decide +kernel
theorem dX3_setTo_195 : decode cX3_setTo 195 = .ok (.return_, 1) := by decide +kernel
theorem dX3_bookNumbered_0 : decode cX3_bookNumbered 0 = .ok (.iload_n 1, 1) := by decide +kernel
theorem dX3_bookNumbered_1 : decode cX3_bookNumbered 1 = .ok (.ifCond .lt 20, 3) := by decide +kernel
theorem dX3_bookNumbered_4 : decode cX3_bookNumbered 4 = .ok (.iload_n 1, 1) := by decide +kernel
theorem dX3_bookNumbered_5 : decode cX3_bookNumbered 5 = .ok (.aload_n 0, 1) := by decide +kernel
theorem dX3_bookNumbered_6 : decode cX3_bookNumbered 6 = .ok (.getfield 57, 3) := by decide +kernel
theorem dX3_bookNumbered_9 : decode cX3_bookNumbered 9 = .ok (.if_icmp .ge 12, 3) := by decide +kernel
theorem dX3_bookNumbered_12 : decode cX3_bookNumbered 12 = .ok (.iload_n 1, 1) := by decide +kernel
theorem dX3_bookNumbered_13 : decode cX3_bookNumbered 13 = .ok (.aload_n 0, 1) := by decide +kernel
theorem dX3_bookNumbered_14 : decode cX3_bookNumbered 14 = .ok (.getfield 11, 3) := by decide +kernel
theorem dX3_bookNumbered_17 : decode cX3_bookNumbered 17 = .ok (.arraylength, 1) := by decide +kernel
theorem dX3_bookNumbered_18 : decode cX3_bookNumbered 18 = .ok (.if_icmp .lt 5, 3) := by decide +kernel
theorem dX3_bookNumbered_21 : decode cX3_bookNumbered 21 = .ok (.aconst_null, 1) := by decide +kernel
theorem dX3_bookNumbered_22 : decode cX3_bookNumbered 22 = .ok (.areturn, 1) := by decide +kernel
theorem dX3_bookNumbered_23 : decode cX3_bookNumbered 23 = .ok (.aload_n 0, 1) := by decide +kernel
theorem dX3_bookNumbered_24 : decode cX3_bookNumbered 24 = .ok (.getfield 11, 3) := by decide +kernel
theorem dX3_bookNumbered_27 : decode cX3_bookNumbered 27 = .ok (.iload_n 1, 1) := by decide +kernel
theorem dX3_bookNumbered_28 : decode cX3_bookNumbered 28 = .ok (.aaload, 1) := by decide +kernel
theorem dX3_bookNumbered_29 : decode cX3_bookNumbered 29 = .ok (.areturn, 1) := by decide +kernel
theorem dX3_sewerNumbered_0 : decode cX3_sewerNumbered 0 = .ok (.iload_n 1, 1) := by decide +kernel
theorem dX3_sewerNumbered_1 : decode cX3_sewerNumbered 1 = .ok (.ifCond .lt 20, 3) := by decide +kernel
theorem dX3_sewerNumbered_4 : decode cX3_sewerNumbered 4 = .ok (.iload_n 1, 1) := by decide +kernel
theorem dX3_sewerNumbered_5 : decode cX3_sewerNumbered 5 = .ok (.aload_n 0, 1) := by decide +kernel
theorem dX3_sewerNumbered_6 : decode cX3_sewerNumbered 6 = .ok (.getfield 60, 3) := by decide +kernel
theorem dX3_sewerNumbered_9 : decode cX3_sewerNumbered 9 = .ok (.if_icmp .ge 12, 3) := by decide +kernel
theorem dX3_sewerNumbered_12 : decode cX3_sewerNumbered 12 = .ok (.iload_n 1, 1) := by decide +kernel
theorem dX3_sewerNumbered_13 : decode cX3_sewerNumbered 13 = .ok (.aload_n 0, 1) := by decide +kernel
theorem dX3_sewerNumbered_14 : decode cX3_sewerNumbered 14 = .ok (.getfield 22, 3) := by decide +kernel
theorem dX3_sewerNumbered_17 : decode cX3_sewerNumbered 17 = .ok (.arraylength, 1) := by decide +kernel
theorem dX3_sewerNumbered_18 : decode cX3_sewerNumbered 18 = .ok (.if_icmp .lt 5, 3) := by decide +kernel
theorem dX3_sewerNumbered_21 : decode cX3_sewerNumbered 21 = .ok (.aconst_null, 1) := by decide +kernel
theorem dX3_sewerNumbered_22 : decode cX3_sewerNumbered 22 = .ok (.areturn, 1) := by decide +kernel
theorem dX3_sewerNumbered_23 : decode cX3_sewerNumbered 23 = .ok (.aload_n 0, 1) := by decide +kernel
theorem dX3_sewerNumbered_24 : decode cX3_sewerNumbered 24 = .ok (.getfield 22, 3) := by decide +kernel
theorem dX3_sewerNumbered_27 : decode cX3_sewerNumbered 27 = .ok (.iload_n 1, 1) := by decide +kernel
theorem dX3_sewerNumbered_28 : decode cX3_sewerNumbered 28 = .ok (.aaload, 1) := by decide +kernel
theorem dX3_sewerNumbered_29 : decode cX3_sewerNumbered 29 = .ok (.areturn, 1) := by decide +kernel
theorem dX3_freeBook_0 : decode cX3_freeBook 0 = .ok (.aload_n 0, 1) := by decide +kernel
theorem dX3_freeBook_1 : decode cX3_freeBook 1 = .ok (.getfield 57, 3) := by decide +kernel
theorem dX3_freeBook_4 : decode cX3_freeBook 4 = .ok (.ifCond .lt 27, 3) := by decide +kernel
theorem dX3_freeBook_7 : decode cX3_freeBook 7 = .ok (.aload_n 0, 1) := by decide +kernel
theorem dX3_freeBook_8 : decode cX3_freeBook 8 = .ok (.getfield 57, 3) := by decide +kernel
theorem dX3_freeBook_11 : decode cX3_freeBook 11 = .ok (.aload_n 0, 1) := by decide +kernel
theorem dX3_freeBook_12 : decode cX3_freeBook 12 = .ok (.getfield 11, 3) := by decide +kernel
theorem dX3_freeBook_15 : decode cX3_freeBook 15 = .ok (.arraylength, 1) := by decide +kernel
theorem dX3_freeBook_16 : decode cX3_freeBook 16 = .ok (.if_icmp .ge 15, 3) := by decide +kernel
theorem dX3_freeBook_19 : decode cX3_freeBook 19 = .ok (.aload_n 0, 1) := by decide +kernel
theorem dX3_freeBook_20 : decode cX3_freeBook 20 = .ok (.getfield 11, 3) := by decide +kernel
theorem dX3_freeBook_23 : decode cX3_freeBook 23 = .ok (.aload_n 0, 1) := by decide +kernel
theorem dX3_freeBook_24 : decode cX3_freeBook 24 = .ok (.getfield 57, 3) := by decide +kernel
theorem dX3_freeBook_27 : decode cX3_freeBook 27 = .ok (.aaload, 1) := by decide +kernel
theorem dX3_freeBook_28 : decode cX3_freeBook 28 = .ok (.goto 4, 3) := by decide +kernel
theorem dX3_freeBook_31 : decode cX3_freeBook 31 = .ok (.aconst_null, 1) := by decide +kernel
theorem dX3_freeBook_32 : decode cX3_freeBook 32 = .ok (.areturn, 1) := by decide +kernel
theorem dX3_freeSewer_0 : decode cX3_freeSewer 0 = .ok (.aload_n 0, 1) := by decide +kernel
theorem dX3_freeSewer_1 : decode cX3_freeSewer 1 = .ok (.getfield 60, 3) := by decide +kernel
theorem dX3_freeSewer_4 : decode cX3_freeSewer 4 = .ok (.ifCond .lt 27, 3) := by decide +kernel
theorem dX3_freeSewer_7 : decode cX3_freeSewer 7 = .ok (.aload_n 0, 1) := by decide +kernel
theorem dX3_freeSewer_8 : decode cX3_freeSewer 8 = .ok (.getfield 60, 3) := by decide +kernel
theorem dX3_freeSewer_11 : decode cX3_freeSewer 11 = .ok (.aload_n 0, 1) := by decide +kernel
theorem dX3_freeSewer_12 : decode cX3_freeSewer 12 = .ok (.getfield 22, 3) := by decide +kernel
theorem dX3_freeSewer_15 : decode cX3_freeSewer 15 = .ok (.arraylength, 1) := by decide +kernel
theorem dX3_freeSewer_16 : decode cX3_freeSewer 16 = .ok (.if_icmp .ge 15, 3) := by decide +kernel
theorem dX3_freeSewer_19 : decode cX3_freeSewer 19 = .ok (.aload_n 0, 1) := by decide +kernel
theorem dX3_freeSewer_20 : decode cX3_freeSewer 20 = .ok (.getfield 22, 3) := by decide +kernel
theorem dX3_freeSewer_23 : decode cX3_freeSewer 23 = .ok (.aload_n 0, 1) := by decide +kernel
theorem dX3_freeSewer_24 : decode cX3_freeSewer 24 = .ok (.getfield 60, 3) := by decide +kernel
theorem dX3_freeSewer_27 : decode cX3_freeSewer 27 = .ok (.aaload, 1) := by decide +kernel
theorem dX3_freeSewer_28 : decode cX3_freeSewer 28 = .ok (.goto 4, 3) := by decide +kernel
theorem dX3_freeSewer_31 : decode cX3_freeSewer 31 = .ok (.aconst_null, 1) := by decide +kernel
theorem dX3_freeSewer_32 : decode cX3_freeSewer 32 = .ok (.areturn, 1) := by decide +kernel
theorem dX3_clearFrameOf_0 : decode cX3_clearFrameOf 0 = .ok (.aload_n 0, 1) := by decide +kernel
theorem dX3_clearFrameOf_1 : decode cX3_clearFrameOf 1 = .ok (.getfield 29, 3) := by decide +kernel
theorem dX3_clearFrameOf_4 : decode cX3_clearFrameOf 4 = .ok (.astore_n 2, 1) := by decide +kernel
theorem dX3_clearFrameOf_5 : decode cX3_clearFrameOf 5 = .ok (.aload_n 2, 1) := by decide +kernel
theorem dX3_clearFrameOf_6 : decode cX3_clearFrameOf 6 = .ok (.arraylength, 1) := by decide +kernel
theorem dX3_clearFrameOf_7 : decode cX3_clearFrameOf 7 = .ok (.istore_n 3, 1) := by decide +kernel
theorem dX3_clearFrameOf_8 : decode cX3_clearFrameOf 8 = .ok (.iconst 0, 1) := by decide +kernel
theorem dX3_clearFrameOf_9 : decode cX3_clearFrameOf 9 = .ok (.istore 4, 2) := by decide +kernel
theorem dX3_clearFrameOf_11 : decode cX3_clearFrameOf 11 = .ok (.iload 4, 2) := by decide +kernel
theorem dX3_clearFrameOf_13 : decode cX3_clearFrameOf 13 = .ok (.iload_n 3, 1) := by decide +kernel
theorem dX3_clearFrameOf_14 : decode cX3_clearFrameOf 14 = .ok (.if_icmp .ge 33, 3) := by decide +kernel
theorem dX3_clearFrameOf_17 : decode cX3_clearFrameOf 17 = .ok (.aload_n 2, 1) := by decide +kernel
theorem dX3_clearFrameOf_18 : decode cX3_clearFrameOf 18 = .ok (.iload 4, 2) := by decide +kernel
theorem dX3_clearFrameOf_20 : decode cX3_clearFrameOf 20 = .ok (.aaload, 1) := by decide +kernel
theorem dX3_clearFrameOf_21 : decode cX3_clearFrameOf 21 = .ok (.astore 5, 2) := by decide +kernel
theorem dX3_clearFrameOf_23 : decode cX3_clearFrameOf 23 = .ok (.aload 5, 2) := by decide +kernel
theorem dX3_clearFrameOf_25 : decode cX3_clearFrameOf 25 = .ok (.getfield 72, 3) := by decide +kernel
theorem dX3_clearFrameOf_28 : decode cX3_clearFrameOf 28 = .ok (.aload_n 1, 1) := by decide +kernel
theorem dX3_clearFrameOf_29 : decode cX3_clearFrameOf 29 = .ok (.getfield 75, 3) := by decide +kernel
theorem dX3_clearFrameOf_32 : decode cX3_clearFrameOf 32 = .ok (.if_icmp .ne 9, 3) := by decide +kernel
theorem dX3_clearFrameOf_35 : decode cX3_clearFrameOf 35 = .ok (.aload 5, 2) := by decide +kernel
theorem dX3_clearFrameOf_37 : decode cX3_clearFrameOf 37 = .ok (.iconst (-1), 1) := by decide +kernel
theorem dX3_clearFrameOf_38 : decode cX3_clearFrameOf 38 = .ok (.putfield 72, 3) := by decide +kernel
theorem dX3_clearFrameOf_41 : decode cX3_clearFrameOf 41 = .ok (.iinc 4 1, 3) := by decide +kernel
theorem dX3_clearFrameOf_44 : decode cX3_clearFrameOf 44 = .ok (.goto (-33), 3) := by decide +kernel
theorem dX3_clearFrameOf_47 : decode cX3_clearFrameOf 47 = .ok (.return_, 1) := by decide +kernel
theorem dX3_othersAt_0 : decode cX3_othersAt 0 = .ok (.iconst 0, 1) := by decide +kernel
theorem dX3_othersAt_1 : decode cX3_othersAt 1 = .ok (.istore_n 3, 1) := by decide +kernel
theorem dX3_othersAt_2 : decode cX3_othersAt 2 = .ok (.aload_n 0, 1) := by decide +kernel
theorem dX3_othersAt_3 : decode cX3_othersAt 3 = .ok (.getfield 22, 3) := by decide +kernel
theorem dX3_othersAt_6 : decode cX3_othersAt 6 = .ok (.astore 4, 2) := by decide +kernel
theorem dX3_othersAt_8 : decode cX3_othersAt 8 = .ok (.aload 4, 2) := by decide +kernel
theorem dX3_othersAt_10 : decode cX3_othersAt 10 = .ok (.arraylength, 1) := by decide +kernel
theorem dX3_othersAt_11 : decode cX3_othersAt 11 = .ok (.istore 5, 2) := by decide +kernel
theorem dX3_othersAt_13 : decode cX3_othersAt 13 = .ok (.iconst 0, 1) := by decide +kernel
theorem dX3_othersAt_14 : decode cX3_othersAt 14 = .ok (.istore 6, 2) := by decide +kernel
theorem dX3_othersAt_16 : decode cX3_othersAt 16 = .ok (.iload 6, 2) := by decide +kernel
theorem dX3_othersAt_18 : decode cX3_othersAt 18 = .ok (.iload 5, 2) := by decide +kernel
theorem dX3_othersAt_20 : decode cX3_othersAt 20 = .ok (.if_icmp .ge 37, 3) := by decide +kernel
theorem dX3_othersAt_23 : decode cX3_othersAt 23 = .ok (.aload 4, 2) := by decide +kernel
theorem dX3_othersAt_25 : decode cX3_othersAt 25 = .ok (.iload 6, 2) := by decide +kernel
theorem dX3_othersAt_27 : decode cX3_othersAt 27 = .ok (.aaload, 1) := by decide +kernel
theorem dX3_othersAt_28 : decode cX3_othersAt 28 = .ok (.astore 7, 2) := by decide +kernel
theorem dX3_othersAt_30 : decode cX3_othersAt 30 = .ok (.aload 7, 2) := by decide +kernel
theorem dX3_othersAt_32 : decode cX3_othersAt 32 = .ok (.getfield 78, 3) := by decide +kernel
theorem dX3_othersAt_35 : decode cX3_othersAt 35 = .ok (.iload_n 1, 1) := by decide +kernel
theorem dX3_othersAt_36 : decode cX3_othersAt 36 = .ok (.if_icmp .ne 15, 3) := by decide +kernel
theorem dX3_othersAt_39 : decode cX3_othersAt 39 = .ok (.aload 7, 2) := by decide +kernel
theorem dX3_othersAt_41 : decode cX3_othersAt 41 = .ok (.getfield 81, 3) := by decide +kernel
theorem dX3_othersAt_44 : decode cX3_othersAt 44 = .ok (.iload_n 2, 1) := by decide +kernel
theorem dX3_othersAt_45 : decode cX3_othersAt 45 = .ok (.if_icmp .eq 6, 3) := by decide +kernel
theorem dX3_othersAt_48 : decode cX3_othersAt 48 = .ok (.iinc 3 1, 3) := by decide +kernel
theorem dX3_othersAt_51 : decode cX3_othersAt 51 = .ok (.iinc 6 1, 3) := by decide +kernel
theorem dX3_othersAt_54 : decode cX3_othersAt 54 = .ok (.goto (-38), 3) := by decide +kernel
theorem dX3_othersAt_57 : decode cX3_othersAt 57 = .ok (.iload_n 3, 1) := by decide +kernel
theorem dX3_othersAt_58 : decode cX3_othersAt 58 = .ok (.ireturn, 1) := by decide +kernel
set_option maxRecDepth 20000 in
theorem ggX3_sittersAt_X3_othersAt : GoodIn wsX3_sittersAt wsX3_othersAt := goodIn_r _ [5, 6, 7, 8, 9, 10, 11, 12, 13, 14, 15, 16, 17, 18, 19, 20, 21, 22, 23] (by decide +kernel) (by decide +kernel)
set_option maxRecDepth 20000 in
theorem gX3_sittersAt_X3_othersAt : GoodIn wsX3_sittersAt (wsV RX3 82 RX3 yX3_othersAt wsX3_othersAt) := goodIn_app (goodIn_of _ (by decide +kernel)) ggX3_sittersAt_X3_othersAt
theorem dX3_sittersAt_0 : decode cX3_sittersAt 0 = .ok (.aload_n 0, 1) := by decide +kernel
theorem dX3_sittersAt_1 : decode cX3_sittersAt 1 = .ok (.iload_n 1, 1) := by decide +kernel
theorem dX3_sittersAt_2 : decode cX3_sittersAt 2 = .ok (.iconst (-1), 1) := by decide +kernel
theorem dX3_sittersAt_3 : decode cX3_sittersAt 3 = .ok (.invokevirtual 82, 3) := by decide +kernel
theorem dX3_sittersAt_6 : decode cX3_sittersAt 6 = .ok (.ireturn, 1) := by decide +kernel
theorem dX3_stitchesAnHour_0 : decode cX3_stitchesAnHour 0 = .ok (.iconst 0, 1) := by decide +kernel
theorem dX3_stitchesAnHour_1 : decode cX3_stitchesAnHour 1 = .ok (.istore_n 2, 1) := by decide +kernel
theorem dX3_stitchesAnHour_2 : decode cX3_stitchesAnHour 2 = .ok (.iconst 0, 1) := by decide +kernel
theorem dX3_stitchesAnHour_3 : decode cX3_stitchesAnHour 3 = .ok (.istore_n 3, 1) := by decide +kernel
theorem dX3_stitchesAnHour_4 : decode cX3_stitchesAnHour 4 = .ok (.aload_n 0, 1) := by decide +kernel
theorem dX3_stitchesAnHour_5 : decode cX3_stitchesAnHour 5 = .ok (.getfield 22, 3) := by decide +kernel
theorem dX3_stitchesAnHour_8 : decode cX3_stitchesAnHour 8 = .ok (.astore 4, 2) := by decide +kernel
theorem dX3_stitchesAnHour_10 : decode cX3_stitchesAnHour 10 = .ok (.aload 4, 2) := by decide +kernel
theorem dX3_stitchesAnHour_12 : decode cX3_stitchesAnHour 12 = .ok (.arraylength, 1) := by decide +kernel
theorem dX3_stitchesAnHour_13 : decode cX3_stitchesAnHour 13 = .ok (.istore 5, 2) := by decide +kernel
theorem dX3_stitchesAnHour_15 : decode cX3_stitchesAnHour 15 = .ok (.iconst 0, 1) := by decide +kernel
theorem dX3_stitchesAnHour_16 : decode cX3_stitchesAnHour 16 = .ok (.istore 6, 2) := by decide +kernel
theorem dX3_stitchesAnHour_18 : decode cX3_stitchesAnHour 18 = .ok (.iload 6, 2) := by decide +kernel
theorem dX3_stitchesAnHour_20 : decode cX3_stitchesAnHour 20 = .ok (.iload 5, 2) := by decide +kernel
theorem dX3_stitchesAnHour_22 : decode cX3_stitchesAnHour 22 = .ok (.if_icmp .ge 36, 3) := by decide +kernel
theorem dX3_stitchesAnHour_25 : decode cX3_stitchesAnHour 25 = .ok (.aload 4, 2) := by decide +kernel
theorem dX3_stitchesAnHour_27 : decode cX3_stitchesAnHour 27 = .ok (.iload 6, 2) := by decide +kernel
theorem dX3_stitchesAnHour_29 : decode cX3_stitchesAnHour 29 = .ok (.aaload, 1) := by decide +kernel
theorem dX3_stitchesAnHour_30 : decode cX3_stitchesAnHour 30 = .ok (.astore 7, 2) := by decide +kernel
theorem dX3_stitchesAnHour_32 : decode cX3_stitchesAnHour 32 = .ok (.aload 7, 2) := by decide +kernel
theorem dX3_stitchesAnHour_34 : decode cX3_stitchesAnHour 34 = .ok (.getfield 78, 3) := by decide +kernel
theorem dX3_stitchesAnHour_37 : decode cX3_stitchesAnHour 37 = .ok (.iload_n 1, 1) := by decide +kernel
theorem dX3_stitchesAnHour_38 : decode cX3_stitchesAnHour 38 = .ok (.if_icmp .ne 14, 3) := by decide +kernel
theorem dX3_stitchesAnHour_41 : decode cX3_stitchesAnHour 41 = .ok (.iinc 2 1, 3) := by decide +kernel
theorem dX3_stitchesAnHour_44 : decode cX3_stitchesAnHour 44 = .ok (.iload_n 3, 1) := by decide +kernel
theorem dX3_stitchesAnHour_45 : decode cX3_stitchesAnHour 45 = .ok (.aload 7, 2) := by decide +kernel
theorem dX3_stitchesAnHour_47 : decode cX3_stitchesAnHour 47 = .ok (.getfield 86, 3) := by decide +kernel
theorem dX3_stitchesAnHour_50 : decode cX3_stitchesAnHour 50 = .ok (.iadd, 1) := by decide +kernel
theorem dX3_stitchesAnHour_51 : decode cX3_stitchesAnHour 51 = .ok (.istore_n 3, 1) := by decide +kernel
theorem dX3_stitchesAnHour_52 : decode cX3_stitchesAnHour 52 = .ok (.iinc 6 1, 3) := by decide +kernel
theorem dX3_stitchesAnHour_55 : decode cX3_stitchesAnHour 55 = .ok (.goto (-37), 3) := by decide +kernel
theorem dX3_stitchesAnHour_58 : decode cX3_stitchesAnHour 58 = .ok (.iload_n 2, 1) := by decide +kernel
theorem dX3_stitchesAnHour_59 : decode cX3_stitchesAnHour 59 = .ok (.iconst 2, 1) := by decide +kernel
theorem dX3_stitchesAnHour_60 : decode cX3_stitchesAnHour 60 = .ok (.if_icmp .ne 13, 3) := by decide +kernel
theorem dX3_stitchesAnHour_63 : decode cX3_stitchesAnHour 63 = .ok (.iconst 1, 1) := by decide +kernel
theorem dX3_stitchesAnHour_64 : decode cX3_stitchesAnHour 64 = .ok (.iload_n 3, 1) := by decide +kernel
theorem dX3_stitchesAnHour_65 : decode cX3_stitchesAnHour 65 = .ok (.iconst 3, 1) := by decide +kernel
theorem dX3_stitchesAnHour_66 : decode cX3_stitchesAnHour 66 = .ok (.isub, 1) := by decide +kernel
theorem dX3_stitchesAnHour_67 : decode cX3_stitchesAnHour 67 = .ok (.invokestatic 89, 3) := by decide +kernel
theorem dX3_stitchesAnHour_70 : decode cX3_stitchesAnHour 70 = .ok (.goto 4, 3) := by decide +kernel
theorem dX3_stitchesAnHour_73 : decode cX3_stitchesAnHour 73 = .ok (.iload_n 3, 1) := by decide +kernel
theorem dX3_stitchesAnHour_74 : decode cX3_stitchesAnHour 74 = .ok (.ireturn, 1) := by decide +kernel
theorem dX3_store_0 : decode cX3_store 0 = .ok (.iload_n 1, 1) := by decide +kernel
theorem dX3_store_1 : decode cX3_store 1 = .ok (.lookupswitch 57 #[(0, 27), (1, 42)], 27) := by decide +kernel
theorem dX3_store_28 : decode cX3_store 28 = .ok (.aload_n 0, 1) := by decide +kernel
theorem dX3_store_29 : decode cX3_store 29 = .ok (.dup, 1) := by decide +kernel
theorem dX3_store_30 : decode cX3_store 30 = .ok (.getfield 34, 3) := by decide +kernel
theorem dX3_store_33 : decode cX3_store 33 = .ok (.iload_n 2, 1) := by decide +kernel
theorem dX3_store_34 : decode cX3_store 34 = .ok (.iadd, 1) := by decide +kernel
theorem dX3_store_35 : decode cX3_store 35 = .ok (.putfield 34, 3) := by decide +kernel
theorem dX3_store_38 : decode cX3_store 38 = .ok (.aload_n 0, 1) := by decide +kernel
theorem dX3_store_39 : decode cX3_store 39 = .ok (.getfield 34, 3) := by decide +kernel
theorem dX3_store_42 : decode cX3_store 42 = .ok (.ireturn, 1) := by decide +kernel
theorem dX3_store_43 : decode cX3_store 43 = .ok (.aload_n 0, 1) := by decide +kernel
theorem dX3_store_44 : decode cX3_store 44 = .ok (.dup, 1) := by decide +kernel
theorem dX3_store_45 : decode cX3_store 45 = .ok (.getfield 38, 3) := by decide +kernel
theorem dX3_store_48 : decode cX3_store 48 = .ok (.iload_n 2, 1) := by decide +kernel
theorem dX3_store_49 : decode cX3_store 49 = .ok (.iadd, 1) := by decide +kernel
theorem dX3_store_50 : decode cX3_store 50 = .ok (.putfield 38, 3) := by decide +kernel
theorem dX3_store_53 : decode cX3_store 53 = .ok (.aload_n 0, 1) := by decide +kernel
theorem dX3_store_54 : decode cX3_store 54 = .ok (.getfield 38, 3) := by decide +kernel
theorem dX3_store_57 : decode cX3_store 57 = .ok (.ireturn, 1) := by decide +kernel
theorem dX3_store_58 : decode cX3_store 58 = .ok (.aload_n 0, 1) := by decide +kernel
theorem dX3_store_59 : decode cX3_store 59 = .ok (.dup, 1) := by decide +kernel
theorem dX3_store_60 : decode cX3_store 60 = .ok (.getfield 41, 3) := by decide +kernel
theorem dX3_store_63 : decode cX3_store 63 = .ok (.iload_n 2, 1) := by decide +kernel
theorem dX3_store_64 : decode cX3_store 64 = .ok (.iadd, 1) := by decide +kernel
theorem dX3_store_65 : decode cX3_store 65 = .ok (.putfield 41, 3) := by decide +kernel
theorem dX3_store_68 : decode cX3_store 68 = .ok (.aload_n 0, 1) := by decide +kernel
theorem dX3_store_69 : decode cX3_store 69 = .ok (.getfield 41, 3) := by decide +kernel
theorem dX3_store_72 : decode cX3_store 72 = .ok (.ireturn, 1) := by decide +kernel
set_option maxRecDepth 20000 in
theorem ggX3_letHoursGo_X3_letAnHourGo : GoodIn wsX3_letHoursGo wsX3_letAnHourGo := goodIn_r _ [5, 6, 7, 8, 9, 10, 11, 4, 12, 13, 14, 15, 16, 17, 18, 19, 20, 21, 22, 23, 24, 25, 26, 27, 28, 29, 30, 31, 32, 33, 34, 35, 36, 37, 38, 39, 40, 41, 42, 43, 44, 45, 46, 47, 48, 49, 50, 51, 52, 53, 54, 55, 56, 57, 58, 59, 60, 61, 62, 63, 64, 65, 66, 67, 68, 69, 70, 71, 72, 73, 74, 75, 76, 77, 78, 79, 80, 81, 82, 83, 84, 85, 86, 87, 88, 89, 90, 91, 92, 93, 94, 95, 96, 97, 98, 99, 100, 101, 102, 103, 104, 105, 106, 107, 108, 109, 110, 111, 112, 113, 114, 115, 116, 117, 118, 119, 120, 121, 122, 123, 124, 125, 126, 127, 128, 129, 130, 131, 132, 133, 134, 135, 136, 137, 138, 139, 140, 141, 142, 143, 144, 145, 146, 147] (by decide +kernel) (by decide +kernel)
set_option maxRecDepth 20000 in
theorem gX3_letHoursGo_X3_letAnHourGo : GoodIn wsX3_letHoursGo (wsV RX3 94 RX3 yX3_letAnHourGo wsX3_letAnHourGo) := goodIn_app (goodIn_of _ (by decide +kernel)) ggX3_letHoursGo_X3_letAnHourGo
theorem dX3_letHoursGo_0 : decode cX3_letHoursGo 0 = .ok (.iconst 0, 1) := by decide +kernel
theorem dX3_letHoursGo_1 : decode cX3_letHoursGo 1 = .ok (.istore_n 2, 1) := by decide +kernel
theorem dX3_letHoursGo_2 : decode cX3_letHoursGo 2 = .ok (.iconst 0, 1) := by decide +kernel
theorem dX3_letHoursGo_3 : decode cX3_letHoursGo 3 = .ok (.istore_n 3, 1) := by decide +kernel
theorem dX3_letHoursGo_4 : decode cX3_letHoursGo 4 = .ok (.iload_n 3, 1) := by decide +kernel
theorem dX3_letHoursGo_5 : decode cX3_letHoursGo 5 = .ok (.iload_n 1, 1) := by decide +kernel
theorem dX3_letHoursGo_6 : decode cX3_letHoursGo 6 = .ok (.if_icmp .ge 16, 3) := by decide +kernel
theorem dX3_letHoursGo_9 : decode cX3_letHoursGo 9 = .ok (.iload_n 2, 1) := by decide +kernel
theorem dX3_letHoursGo_10 : decode cX3_letHoursGo 10 = .ok (.aload_n 0, 1) := by decide +kernel
theorem dX3_letHoursGo_11 : decode cX3_letHoursGo 11 = .ok (.invokevirtual 94, 3) := by decide +kernel
theorem dX3_letHoursGo_14 : decode cX3_letHoursGo 14 = .ok (.iadd, 1) := by decide +kernel
theorem dX3_letHoursGo_15 : decode cX3_letHoursGo 15 = .ok (.istore_n 2, 1) := by decide +kernel
theorem dX3_letHoursGo_16 : decode cX3_letHoursGo 16 = .ok (.iinc 3 1, 3) := by decide +kernel
theorem dX3_letHoursGo_19 : decode cX3_letHoursGo 19 = .ok (.goto (-15), 3) := by decide +kernel
theorem dX3_letHoursGo_22 : decode cX3_letHoursGo 22 = .ok (.iload_n 2, 1) := by decide +kernel
theorem dX3_letHoursGo_23 : decode cX3_letHoursGo 23 = .ok (.ireturn, 1) := by decide +kernel
set_option maxRecDepth 20000 in
theorem ggX3_letAnHourGo_X3_booksAt : GoodIn wsX3_letAnHourGo wsX3_booksAt := goodIn_r _ [8, 9, 10, 112, 113, 114, 115, 116, 117, 118, 119, 120, 121, 122, 123, 128, 129, 130, 131, 132, 133, 134, 135, 136, 137, 138, 139, 140] (by decide +kernel) (by decide +kernel)
set_option maxRecDepth 20000 in
theorem gX3_letAnHourGo_X3_booksAt : GoodIn wsX3_letAnHourGo (wsV RX3 98 RX3 yX3_booksAt wsX3_booksAt) := goodIn_app (goodIn_of _ (by decide +kernel)) ggX3_letAnHourGo_X3_booksAt
set_option maxRecDepth 20000 in
theorem ggX3_letAnHourGo_X3_gild : GoodIn wsX3_letAnHourGo wsX3_gild := goodIn_r _ [14, 9, 10, 15, 16, 17, 18, 19, 20, 21, 22, 23, 24, 25, 26, 27, 28, 29, 30, 31, 32, 33, 112, 113, 114, 115, 116, 117, 118, 119, 120, 121, 122, 123, 128, 129, 130, 131, 132, 133, 134, 135, 136, 137, 138, 139, 140] (by decide +kernel) (by decide +kernel)
set_option maxRecDepth 20000 in
theorem gX3_letAnHourGo_X3_gild : GoodIn wsX3_letAnHourGo (wsV RX3 102 RX3 yX3_gild wsX3_gild) := goodIn_app (goodIn_of _ (by decide +kernel)) ggX3_letAnHourGo_X3_gild
set_option maxRecDepth 20000 in
theorem ggX3_letAnHourGo_X3_giveBoards : GoodIn wsX3_letAnHourGo wsX3_giveBoards := goodIn_r _ [37, 9, 10, 38, 39, 40, 41, 19, 42, 32, 33, 112, 113, 114, 115, 116, 117, 118, 119, 120, 121, 122, 123, 128, 129, 130, 131, 132, 133, 134, 135, 136, 137, 138, 139, 140] (by decide +kernel) (by decide +kernel)
set_option maxRecDepth 20000 in
theorem gX3_letAnHourGo_X3_giveBoards : GoodIn wsX3_letAnHourGo (wsV RX3 105 RX3 yX3_giveBoards wsX3_giveBoards) := goodIn_app (goodIn_of _ (by decide +kernel)) ggX3_letAnHourGo_X3_giveBoards
set_option maxRecDepth 20000 in
theorem ggX3_letAnHourGo_X3_dry : GoodIn wsX3_letAnHourGo wsX3_dry := goodIn_r _ [46, 9, 10, 47, 48, 49, 19, 50, 51, 33, 112, 113, 114, 115, 116, 117, 118, 119, 120, 121, 122, 123, 128, 129, 130, 131, 132, 133, 134, 135, 136, 137, 138, 139, 140] (by decide +kernel) (by decide +kernel)
set_option maxRecDepth 20000 in
theorem gX3_letAnHourGo_X3_dry : GoodIn wsX3_letAnHourGo (wsV RX3 108 RX3 yX3_dry wsX3_dry) := goodIn_app (goodIn_of _ (by decide +kernel)) ggX3_letAnHourGo_X3_dry
set_option maxRecDepth 20000 in
theorem ggX3_letAnHourGo_X3_sewAt : GoodIn wsX3_letAnHourGo wsX3_sewAt := goodIn_r _ [55, 2, 56, 57, 58, 59, 60, 61, 62, 63, 64, 65, 66, 67, 68, 7, 69, 70, 9, 71, 72, 73, 74, 75, 76, 77, 78, 79, 80, 81, 82, 83, 19, 84, 85, 25, 86, 87, 88, 89, 90, 91, 92, 93, 94, 95, 96, 97, 98, 99, 100, 33, 101, 51, 21, 22, 23, 24, 26, 124, 125, 126, 127, 112, 113, 114, 115, 116, 117, 118, 119, 120, 121, 122, 123, 128, 129, 130, 131, 132, 133, 134, 135, 136, 137, 138, 139, 140, 141, 142, 143] (by decide +kernel) (by decide +kernel)
set_option maxRecDepth 20000 in
theorem gX3_letAnHourGo_X3_sewAt : GoodIn wsX3_letAnHourGo (wsV RX3 111 RX3 yX3_sewAt wsX3_sewAt) := goodIn_app (goodIn_of _ (by decide +kernel)) ggX3_letAnHourGo_X3_sewAt
set_option maxRecDepth 20000 in
theorem ggX3_letAnHourGo_X3_mountOn : GoodIn wsX3_letAnHourGo wsX3_mountOn := goodIn_r _ [105, 9, 10, 56, 106, 107, 2, 108, 109, 110, 19, 111, 33, 101, 96, 112, 113, 114, 115, 116, 117, 118, 119, 120, 121, 122, 123, 128, 129, 130, 131, 132, 133, 134, 135, 136, 137, 138, 139, 140, 124, 125, 126, 127] (by decide +kernel) (by decide +kernel)
set_option maxRecDepth 20000 in
theorem gX3_letAnHourGo_X3_mountOn : GoodIn wsX3_letAnHourGo (wsV RX3 114 RX3 yX3_mountOn wsX3_mountOn) := goodIn_app (goodIn_of _ (by decide +kernel)) ggX3_letAnHourGo_X3_mountOn
theorem dX3_letAnHourGo_0 : decode cX3_letAnHourGo 0 = .ok (.aload_n 0, 1) := by decide +kernel
theorem dX3_letAnHourGo_1 : decode cX3_letAnHourGo 1 = .ok (.iconst 5, 1) := by decide +kernel
theorem dX3_letAnHourGo_2 : decode cX3_letAnHourGo 2 = .ok (.invokevirtual 98, 3) := by decide +kernel
theorem dX3_letAnHourGo_5 : decode cX3_letAnHourGo 5 = .ok (.istore_n 1, 1) := by decide +kernel
theorem dX3_letAnHourGo_6 : decode cX3_letAnHourGo 6 = .ok (.aload_n 0, 1) := by decide +kernel
theorem dX3_letAnHourGo_7 : decode cX3_letAnHourGo 7 = .ok (.invokevirtual 102, 3) := by decide +kernel
theorem dX3_letAnHourGo_10 : decode cX3_letAnHourGo 10 = .ok (.aload_n 0, 1) := by decide +kernel
theorem dX3_letAnHourGo_11 : decode cX3_letAnHourGo 11 = .ok (.invokevirtual 105, 3) := by decide +kernel
theorem dX3_letAnHourGo_14 : decode cX3_letAnHourGo 14 = .ok (.aload_n 0, 1) := by decide +kernel
theorem dX3_letAnHourGo_15 : decode cX3_letAnHourGo 15 = .ok (.invokevirtual 108, 3) := by decide +kernel
theorem dX3_letAnHourGo_18 : decode cX3_letAnHourGo 18 = .ok (.aload_n 0, 1) := by decide +kernel
theorem dX3_letAnHourGo_19 : decode cX3_letAnHourGo 19 = .ok (.getfield 29, 3) := by decide +kernel
theorem dX3_letAnHourGo_22 : decode cX3_letAnHourGo 22 = .ok (.astore_n 2, 1) := by decide +kernel
theorem dX3_letAnHourGo_23 : decode cX3_letAnHourGo 23 = .ok (.aload_n 2, 1) := by decide +kernel
theorem dX3_letAnHourGo_24 : decode cX3_letAnHourGo 24 = .ok (.arraylength, 1) := by decide +kernel
theorem dX3_letAnHourGo_25 : decode cX3_letAnHourGo 25 = .ok (.istore_n 3, 1) := by decide +kernel
theorem dX3_letAnHourGo_26 : decode cX3_letAnHourGo 26 = .ok (.iconst 0, 1) := by decide +kernel
theorem dX3_letAnHourGo_27 : decode cX3_letAnHourGo 27 = .ok (.istore 4, 2) := by decide +kernel
theorem dX3_letAnHourGo_29 : decode cX3_letAnHourGo 29 = .ok (.iload 4, 2) := by decide +kernel
theorem dX3_letAnHourGo_31 : decode cX3_letAnHourGo 31 = .ok (.iload_n 3, 1) := by decide +kernel
theorem dX3_letAnHourGo_32 : decode cX3_letAnHourGo 32 = .ok (.if_icmp .ge 21, 3) := by decide +kernel
theorem dX3_letAnHourGo_35 : decode cX3_letAnHourGo 35 = .ok (.aload_n 2, 1) := by decide +kernel
theorem dX3_letAnHourGo_36 : decode cX3_letAnHourGo 36 = .ok (.iload 4, 2) := by decide +kernel
theorem dX3_letAnHourGo_38 : decode cX3_letAnHourGo 38 = .ok (.aaload, 1) := by decide +kernel
theorem dX3_letAnHourGo_39 : decode cX3_letAnHourGo 39 = .ok (.astore 5, 2) := by decide +kernel
theorem dX3_letAnHourGo_41 : decode cX3_letAnHourGo 41 = .ok (.aload_n 0, 1) := by decide +kernel
theorem dX3_letAnHourGo_42 : decode cX3_letAnHourGo 42 = .ok (.aload 5, 2) := by decide +kernel
theorem dX3_letAnHourGo_44 : decode cX3_letAnHourGo 44 = .ok (.invokevirtual 111, 3) := by decide +kernel
theorem dX3_letAnHourGo_47 : decode cX3_letAnHourGo 47 = .ok (.iinc 4 1, 3) := by decide +kernel
theorem dX3_letAnHourGo_50 : decode cX3_letAnHourGo 50 = .ok (.goto (-21), 3) := by decide +kernel
theorem dX3_letAnHourGo_53 : decode cX3_letAnHourGo 53 = .ok (.aload_n 0, 1) := by decide +kernel
theorem dX3_letAnHourGo_54 : decode cX3_letAnHourGo 54 = .ok (.getfield 29, 3) := by decide +kernel
theorem dX3_letAnHourGo_57 : decode cX3_letAnHourGo 57 = .ok (.astore_n 2, 1) := by decide +kernel
theorem dX3_letAnHourGo_58 : decode cX3_letAnHourGo 58 = .ok (.aload_n 2, 1) := by decide +kernel
theorem dX3_letAnHourGo_59 : decode cX3_letAnHourGo 59 = .ok (.arraylength, 1) := by decide +kernel
theorem dX3_letAnHourGo_60 : decode cX3_letAnHourGo 60 = .ok (.istore_n 3, 1) := by decide +kernel
theorem dX3_letAnHourGo_61 : decode cX3_letAnHourGo 61 = .ok (.iconst 0, 1) := by decide +kernel
theorem dX3_letAnHourGo_62 : decode cX3_letAnHourGo 62 = .ok (.istore 4, 2) := by decide +kernel
theorem dX3_letAnHourGo_64 : decode cX3_letAnHourGo 64 = .ok (.iload 4, 2) := by decide +kernel
theorem dX3_letAnHourGo_66 : decode cX3_letAnHourGo 66 = .ok (.iload_n 3, 1) := by decide +kernel
theorem dX3_letAnHourGo_67 : decode cX3_letAnHourGo 67 = .ok (.if_icmp .ge 30, 3) := by decide +kernel
theorem dX3_letAnHourGo_70 : decode cX3_letAnHourGo 70 = .ok (.aload_n 2, 1) := by decide +kernel
theorem dX3_letAnHourGo_71 : decode cX3_letAnHourGo 71 = .ok (.iload 4, 2) := by decide +kernel
theorem dX3_letAnHourGo_73 : decode cX3_letAnHourGo 73 = .ok (.aaload, 1) := by decide +kernel
theorem dX3_letAnHourGo_74 : decode cX3_letAnHourGo 74 = .ok (.astore 5, 2) := by decide +kernel
theorem dX3_letAnHourGo_76 : decode cX3_letAnHourGo 76 = .ok (.aload 5, 2) := by decide +kernel
theorem dX3_letAnHourGo_78 : decode cX3_letAnHourGo 78 = .ok (.getfield 72, 3) := by decide +kernel
theorem dX3_letAnHourGo_81 : decode cX3_letAnHourGo 81 = .ok (.iconst (-1), 1) := by decide +kernel
theorem dX3_letAnHourGo_82 : decode cX3_letAnHourGo 82 = .ok (.if_icmp .ne 9, 3) := by decide +kernel
theorem dX3_letAnHourGo_85 : decode cX3_letAnHourGo 85 = .ok (.aload_n 0, 1) := by decide +kernel
theorem dX3_letAnHourGo_86 : decode cX3_letAnHourGo 86 = .ok (.aload 5, 2) := by decide +kernel
theorem dX3_letAnHourGo_88 : decode cX3_letAnHourGo 88 = .ok (.invokevirtual 114, 3) := by decide +kernel
theorem dX3_letAnHourGo_91 : decode cX3_letAnHourGo 91 = .ok (.iinc 4 1, 3) := by decide +kernel
theorem dX3_letAnHourGo_94 : decode cX3_letAnHourGo 94 = .ok (.goto (-30), 3) := by decide +kernel
theorem dX3_letAnHourGo_97 : decode cX3_letAnHourGo 97 = .ok (.aload_n 0, 1) := by decide +kernel
theorem dX3_letAnHourGo_98 : decode cX3_letAnHourGo 98 = .ok (.dup, 1) := by decide +kernel
theorem dX3_letAnHourGo_99 : decode cX3_letAnHourGo 99 = .ok (.getfield 63, 3) := by decide +kernel
theorem dX3_letAnHourGo_102 : decode cX3_letAnHourGo 102 = .ok (.iconst 1, 1) := by decide +kernel
theorem dX3_letAnHourGo_103 : decode cX3_letAnHourGo 103 = .ok (.iadd, 1) := by decide +kernel
theorem dX3_letAnHourGo_104 : decode cX3_letAnHourGo 104 = .ok (.putfield 63, 3) := by decide +kernel
theorem dX3_letAnHourGo_107 : decode cX3_letAnHourGo 107 = .ok (.aload_n 0, 1) := by decide +kernel
theorem dX3_letAnHourGo_108 : decode cX3_letAnHourGo 108 = .ok (.iconst 5, 1) := by decide +kernel
theorem dX3_letAnHourGo_109 : decode cX3_letAnHourGo 109 = .ok (.invokevirtual 98, 3) := by decide +kernel
theorem dX3_letAnHourGo_112 : decode cX3_letAnHourGo 112 = .ok (.iload_n 1, 1) := by decide +kernel
theorem dX3_letAnHourGo_113 : decode cX3_letAnHourGo 113 = .ok (.isub, 1) := by decide +kernel
theorem dX3_letAnHourGo_114 : decode cX3_letAnHourGo 114 = .ok (.ireturn, 1) := by decide +kernel
set_option maxRecDepth 20000 in
theorem ggX3_gild_X0_leavesForAnEdge : GoodIn wsX3_gild wsX0_leavesForAnEdge := goodIn_r _ [8, 9, 10, 11, 7, 12, 13, 14, 34, 35, 36, 37, 38, 39, 40, 41, 42, 43, 44, 45, 46] (by decide +kernel) (by decide +kernel)
set_option maxRecDepth 20000 in
theorem gX3_gild_X0_leavesForAnEdge : GoodIn wsX3_gild (wsV RX3 120 RX0 yX0_leavesForAnEdge wsX0_leavesForAnEdge) := goodIn_app (goodIn_of _ (by decide +kernel)) ggX3_gild_X0_leavesForAnEdge
set_option maxRecDepth 20000 in
theorem ggX3_gild_X0_gildAnEdge : GoodIn wsX3_gild wsX0_gildAnEdge := goodIn_r _ [18, 19, 20, 21, 34, 35, 36, 37, 38, 39, 40, 41, 42, 43, 44, 45, 46] (by decide +kernel) (by decide +kernel)
set_option maxRecDepth 20000 in
theorem gX3_gild_X0_gildAnEdge : GoodIn wsX3_gild (wsV RX3 123 RX0 yX0_gildAnEdge wsX0_gildAnEdge) := goodIn_app (goodIn_of _ (by decide +kernel)) ggX3_gild_X0_gildAnEdge
theorem dX3_gild_0 : decode cX3_gild 0 = .ok (.aload_n 0, 1) := by decide +kernel
theorem dX3_gild_1 : decode cX3_gild 1 = .ok (.getfield 11, 3) := by decide +kernel
theorem dX3_gild_4 : decode cX3_gild 4 = .ok (.astore_n 1, 1) := by decide +kernel
theorem dX3_gild_5 : decode cX3_gild 5 = .ok (.aload_n 1, 1) := by decide +kernel
theorem dX3_gild_6 : decode cX3_gild 6 = .ok (.arraylength, 1) := by decide +kernel
theorem dX3_gild_7 : decode cX3_gild 7 = .ok (.istore_n 2, 1) := by decide +kernel
theorem dX3_gild_8 : decode cX3_gild 8 = .ok (.iconst 0, 1) := by decide +kernel
theorem dX3_gild_9 : decode cX3_gild 9 = .ok (.istore_n 3, 1) := by decide +kernel
theorem dX3_gild_10 : decode cX3_gild 10 = .ok (.iload_n 3, 1) := by decide +kernel
theorem dX3_gild_11 : decode cX3_gild 11 = .ok (.iload_n 2, 1) := by decide +kernel
theorem dX3_gild_12 : decode cX3_gild 12 = .ok (.if_icmp .ge 56, 3) := by decide +kernel
theorem dX3_gild_15 : decode cX3_gild 15 = .ok (.aload_n 1, 1) := by decide +kernel
theorem dX3_gild_16 : decode cX3_gild 16 = .ok (.iload_n 3, 1) := by decide +kernel
theorem dX3_gild_17 : decode cX3_gild 17 = .ok (.aaload, 1) := by decide +kernel
theorem dX3_gild_18 : decode cX3_gild 18 = .ok (.astore 4, 2) := by decide +kernel
theorem dX3_gild_20 : decode cX3_gild 20 = .ok (.aload 4, 2) := by decide +kernel
theorem dX3_gild_22 : decode cX3_gild 22 = .ok (.getfield 117, 3) := by decide +kernel
theorem dX3_gild_25 : decode cX3_gild 25 = .ok (.iconst 4, 1) := by decide +kernel
theorem dX3_gild_26 : decode cX3_gild 26 = .ok (.if_icmp .ne 36, 3) := by decide +kernel
theorem dX3_gild_29 : decode cX3_gild 29 = .ok (.aload 4, 2) := by decide +kernel
theorem dX3_gild_31 : decode cX3_gild 31 = .ok (.invokevirtual 120, 3) := by decide +kernel
theorem dX3_gild_34 : decode cX3_gild 34 = .ok (.istore 5, 2) := by decide +kernel
theorem dX3_gild_36 : decode cX3_gild 36 = .ok (.aload_n 0, 1) := by decide +kernel
theorem dX3_gild_37 : decode cX3_gild 37 = .ok (.getfield 41, 3) := by decide +kernel
theorem dX3_gild_40 : decode cX3_gild 40 = .ok (.iload 5, 2) := by decide +kernel
theorem dX3_gild_42 : decode cX3_gild 42 = .ok (.if_icmp .lt 19, 3) := by decide +kernel
theorem dX3_gild_45 : decode cX3_gild 45 = .ok (.aload_n 0, 1) := by decide +kernel
theorem dX3_gild_46 : decode cX3_gild 46 = .ok (.dup, 1) := by decide +kernel
theorem dX3_gild_47 : decode cX3_gild 47 = .ok (.getfield 41, 3) := by decide +kernel
theorem dX3_gild_50 : decode cX3_gild 50 = .ok (.iload 5, 2) := by decide +kernel
theorem dX3_gild_52 : decode cX3_gild 52 = .ok (.isub, 1) := by decide +kernel
theorem dX3_gild_53 : decode cX3_gild 53 = .ok (.putfield 41, 3) := by decide +kernel
theorem dX3_gild_56 : decode cX3_gild 56 = .ok (.aload 4, 2) := by decide +kernel
theorem dX3_gild_58 : decode cX3_gild 58 = .ok (.invokevirtual 123, 3) := by decide +kernel
theorem dX3_gild_61 : decode cX3_gild 61 = .ok (.return_, 1) := by decide +kernel
theorem dX3_gild_62 : decode cX3_gild 62 = .ok (.iinc 3 1, 3) := by decide +kernel
theorem dX3_gild_65 : decode cX3_gild 65 = .ok (.goto (-55), 3) := by decide +kernel
theorem dX3_gild_68 : decode cX3_gild 68 = .ok (.return_, 1) := by decide +kernel
set_option maxRecDepth 20000 in
theorem ggX3_giveBoards_X0_bind : GoodIn wsX3_giveBoards wsX0_bind := goodIn_r _ [8, 9, 10, 23, 24, 25, 26, 27, 28, 29, 30, 31, 32, 33, 34, 35] (by decide +kernel) (by decide +kernel)
set_option maxRecDepth 20000 in
theorem gX3_giveBoards_X0_bind : GoodIn wsX3_giveBoards (wsV RX3 126 RX0 yX0_bind wsX0_bind) := goodIn_app (goodIn_of _ (by decide +kernel)) ggX3_giveBoards_X0_bind
theorem dX3_giveBoards_0 : decode cX3_giveBoards 0 = .ok (.aload_n 0, 1) := by decide +kernel
theorem dX3_giveBoards_1 : decode cX3_giveBoards 1 = .ok (.getfield 11, 3) := by decide +kernel
theorem dX3_giveBoards_4 : decode cX3_giveBoards 4 = .ok (.astore_n 1, 1) := by decide +kernel
theorem dX3_giveBoards_5 : decode cX3_giveBoards 5 = .ok (.aload_n 1, 1) := by decide +kernel
theorem dX3_giveBoards_6 : decode cX3_giveBoards 6 = .ok (.arraylength, 1) := by decide +kernel
theorem dX3_giveBoards_7 : decode cX3_giveBoards 7 = .ok (.istore_n 2, 1) := by decide +kernel
theorem dX3_giveBoards_8 : decode cX3_giveBoards 8 = .ok (.iconst 0, 1) := by decide +kernel
theorem dX3_giveBoards_9 : decode cX3_giveBoards 9 = .ok (.istore_n 3, 1) := by decide +kernel
theorem dX3_giveBoards_10 : decode cX3_giveBoards 10 = .ok (.iload_n 3, 1) := by decide +kernel
theorem dX3_giveBoards_11 : decode cX3_giveBoards 11 = .ok (.iload_n 2, 1) := by decide +kernel
theorem dX3_giveBoards_12 : decode cX3_giveBoards 12 = .ok (.if_icmp .ge 46, 3) := by decide +kernel
theorem dX3_giveBoards_15 : decode cX3_giveBoards 15 = .ok (.aload_n 1, 1) := by decide +kernel
theorem dX3_giveBoards_16 : decode cX3_giveBoards 16 = .ok (.iload_n 3, 1) := by decide +kernel
theorem dX3_giveBoards_17 : decode cX3_giveBoards 17 = .ok (.aaload, 1) := by decide +kernel
theorem dX3_giveBoards_18 : decode cX3_giveBoards 18 = .ok (.astore 4, 2) := by decide +kernel
theorem dX3_giveBoards_20 : decode cX3_giveBoards 20 = .ok (.aload 4, 2) := by decide +kernel
theorem dX3_giveBoards_22 : decode cX3_giveBoards 22 = .ok (.getfield 117, 3) := by decide +kernel
theorem dX3_giveBoards_25 : decode cX3_giveBoards 25 = .ok (.iconst 3, 1) := by decide +kernel
theorem dX3_giveBoards_26 : decode cX3_giveBoards 26 = .ok (.if_icmp .ne 26, 3) := by decide +kernel
theorem dX3_giveBoards_29 : decode cX3_giveBoards 29 = .ok (.aload_n 0, 1) := by decide +kernel
theorem dX3_giveBoards_30 : decode cX3_giveBoards 30 = .ok (.getfield 38, 3) := by decide +kernel
theorem dX3_giveBoards_33 : decode cX3_giveBoards 33 = .ok (.iconst 2, 1) := by decide +kernel
theorem dX3_giveBoards_34 : decode cX3_giveBoards 34 = .ok (.if_icmp .lt 18, 3) := by decide +kernel
theorem dX3_giveBoards_37 : decode cX3_giveBoards 37 = .ok (.aload_n 0, 1) := by decide +kernel
theorem dX3_giveBoards_38 : decode cX3_giveBoards 38 = .ok (.dup, 1) := by decide +kernel
theorem dX3_giveBoards_39 : decode cX3_giveBoards 39 = .ok (.getfield 38, 3) := by decide +kernel
theorem dX3_giveBoards_42 : decode cX3_giveBoards 42 = .ok (.iconst 2, 1) := by decide +kernel
theorem dX3_giveBoards_43 : decode cX3_giveBoards 43 = .ok (.isub, 1) := by decide +kernel
theorem dX3_giveBoards_44 : decode cX3_giveBoards 44 = .ok (.putfield 38, 3) := by decide +kernel
theorem dX3_giveBoards_47 : decode cX3_giveBoards 47 = .ok (.aload 4, 2) := by decide +kernel
theorem dX3_giveBoards_49 : decode cX3_giveBoards 49 = .ok (.invokevirtual 126, 3) := by decide +kernel
theorem dX3_giveBoards_52 : decode cX3_giveBoards 52 = .ok (.iinc 3 1, 3) := by decide +kernel
theorem dX3_giveBoards_55 : decode cX3_giveBoards 55 = .ok (.goto (-45), 3) := by decide +kernel
theorem dX3_giveBoards_58 : decode cX3_giveBoards 58 = .ok (.return_, 1) := by decide +kernel
set_option maxRecDepth 20000 in
theorem ggX3_dry_X0_dryForAnHour : GoodIn wsX3_dry wsX0_dryForAnHour := goodIn_r _ [7, 8, 9, 22, 23, 24, 25, 26, 27, 28, 29, 30, 31, 32, 33, 34] (by decide +kernel) (by decide +kernel)
set_option maxRecDepth 20000 in
theorem gX3_dry_X0_dryForAnHour : GoodIn wsX3_dry (wsV RX3 129 RX0 yX0_dryForAnHour wsX0_dryForAnHour) := goodIn_app (goodIn_of _ (by decide +kernel)) ggX3_dry_X0_dryForAnHour
theorem dX3_dry_0 : decode cX3_dry 0 = .ok (.aload_n 0, 1) := by decide +kernel
theorem dX3_dry_1 : decode cX3_dry 1 = .ok (.getfield 11, 3) := by decide +kernel
theorem dX3_dry_4 : decode cX3_dry 4 = .ok (.astore_n 1, 1) := by decide +kernel
theorem dX3_dry_5 : decode cX3_dry 5 = .ok (.aload_n 1, 1) := by decide +kernel
theorem dX3_dry_6 : decode cX3_dry 6 = .ok (.arraylength, 1) := by decide +kernel
theorem dX3_dry_7 : decode cX3_dry 7 = .ok (.istore_n 2, 1) := by decide +kernel
theorem dX3_dry_8 : decode cX3_dry 8 = .ok (.iconst 0, 1) := by decide +kernel
theorem dX3_dry_9 : decode cX3_dry 9 = .ok (.istore_n 3, 1) := by decide +kernel
theorem dX3_dry_10 : decode cX3_dry 10 = .ok (.iload_n 3, 1) := by decide +kernel
theorem dX3_dry_11 : decode cX3_dry 11 = .ok (.iload_n 2, 1) := by decide +kernel
theorem dX3_dry_12 : decode cX3_dry 12 = .ok (.if_icmp .ge 28, 3) := by decide +kernel
theorem dX3_dry_15 : decode cX3_dry 15 = .ok (.aload_n 1, 1) := by decide +kernel
theorem dX3_dry_16 : decode cX3_dry 16 = .ok (.iload_n 3, 1) := by decide +kernel
theorem dX3_dry_17 : decode cX3_dry 17 = .ok (.aaload, 1) := by decide +kernel
theorem dX3_dry_18 : decode cX3_dry 18 = .ok (.astore 4, 2) := by decide +kernel
theorem dX3_dry_20 : decode cX3_dry 20 = .ok (.aload 4, 2) := by decide +kernel
theorem dX3_dry_22 : decode cX3_dry 22 = .ok (.getfield 117, 3) := by decide +kernel
theorem dX3_dry_25 : decode cX3_dry 25 = .ok (.iconst 2, 1) := by decide +kernel
theorem dX3_dry_26 : decode cX3_dry 26 = .ok (.if_icmp .ne 8, 3) := by decide +kernel
theorem dX3_dry_29 : decode cX3_dry 29 = .ok (.aload 4, 2) := by decide +kernel
theorem dX3_dry_31 : decode cX3_dry 31 = .ok (.invokevirtual 129, 3) := by decide +kernel
theorem dX3_dry_34 : decode cX3_dry 34 = .ok (.iinc 3 1, 3) := by decide +kernel
theorem dX3_dry_37 : decode cX3_dry 37 = .ok (.goto (-27), 3) := by decide +kernel
theorem dX3_dry_40 : decode cX3_dry 40 = .ok (.return_, 1) := by decide +kernel
set_option maxRecDepth 20000 in
theorem ggX3_sewAt_X3_bookNumbered : GoodIn wsX3_sewAt wsX3_bookNumbered := goodIn_r _ [16, 17, 18, 63, 64, 65, 66, 67, 68, 69, 70, 71, 72, 73, 74] (by decide +kernel) (by decide +kernel)
set_option maxRecDepth 20000 in
theorem gX3_sewAt_X3_bookNumbered : GoodIn wsX3_sewAt (wsV RX3 132 RX3 yX3_bookNumbered wsX3_bookNumbered) := goodIn_app (goodIn_of _ (by decide +kernel)) ggX3_sewAt_X3_bookNumbered
set_option maxRecDepth 20000 in
theorem ggX3_sewAt_X3_stitchesAnHour : GoodIn wsX3_sewAt wsX3_stitchesAnHour := goodIn_r _ [22, 23, 24, 25, 26, 27, 6, 28, 63, 64, 65, 66, 67, 68, 69, 70, 71, 72, 73, 74, 88, 89, 90] (by decide +kernel) (by decide +kernel)
set_option maxRecDepth 20000 in
theorem gX3_sewAt_X3_stitchesAnHour : GoodIn wsX3_sewAt (wsV RX3 137 RX3 yX3_stitchesAnHour wsX3_stitchesAnHour) := goodIn_app (goodIn_of _ (by decide +kernel)) ggX3_sewAt_X3_stitchesAnHour
set_option maxRecDepth 20000 in
theorem ggX3_sewAt_X0_isSewn : GoodIn wsX3_sewAt wsX0_isSewn := goodIn_r _ [33, 34, 35, 75, 76, 77, 78, 79, 80, 81, 82, 83, 84, 85, 86, 87] (by decide +kernel) (by decide +kernel)
set_option maxRecDepth 20000 in
theorem gX3_sewAt_X0_isSewn : GoodIn wsX3_sewAt (wsV RX3 143 RX0 yX0_isSewn wsX0_isSewn) := goodIn_app (goodIn_of _ (by decide +kernel)) ggX3_sewAt_X0_isSewn
set_option maxRecDepth 20000 in
theorem ggX3_sewAt_X0_addStitch : GoodIn wsX3_sewAt wsX0_addStitch := goodIn_r _ [39, 40, 41, 34, 42, 43, 44, 32, 45, 46, 35, 75, 76, 77, 78, 79, 80, 81, 82, 83, 84, 85, 86, 87] (by decide +kernel) (by decide +kernel)
set_option maxRecDepth 20000 in
theorem gX3_sewAt_X0_addStitch : GoodIn wsX3_sewAt (wsV RX3 148 RX0 yX0_addStitch wsX0_addStitch) := goodIn_app (goodIn_of _ (by decide +kernel)) ggX3_sewAt_X0_addStitch
set_option maxRecDepth 20000 in
theorem ggX3_sewAt_X0_beginToDry : GoodIn wsX3_sewAt wsX0_beginToDry := goodIn_r _ [50, 51, 52, 53, 54, 55, 56, 32, 57, 35, 58, 75, 76, 77, 78, 79, 80, 81, 82, 83, 84, 85, 86, 87] (by decide +kernel) (by decide +kernel)
set_option maxRecDepth 20000 in
theorem gX3_sewAt_X0_beginToDry : GoodIn wsX3_sewAt (wsV RX3 152 RX0 yX0_beginToDry wsX0_beginToDry) := goodIn_app (goodIn_of _ (by decide +kernel)) ggX3_sewAt_X0_beginToDry
theorem dX3_sewAt_0 : decode cX3_sewAt 0 = .ok (.aload_n 0, 1) := by decide +kernel
theorem dX3_sewAt_1 : decode cX3_sewAt 1 = .ok (.aload_n 1, 1) := by decide +kernel
theorem dX3_sewAt_2 : decode cX3_sewAt 2 = .ok (.getfield 72, 3) := by decide +kernel
theorem dX3_sewAt_5 : decode cX3_sewAt 5 = .ok (.invokevirtual 132, 3) := by decide +kernel
theorem dX3_sewAt_8 : decode cX3_sewAt 8 = .ok (.astore_n 2, 1) := by decide +kernel
theorem dX3_sewAt_9 : decode cX3_sewAt 9 = .ok (.aload_n 2, 1) := by decide +kernel
theorem dX3_sewAt_10 : decode cX3_sewAt 10 = .ok (.ifnonnull 4, 3) := by decide +kernel
theorem dX3_sewAt_13 : decode cX3_sewAt 13 = .ok (.return_, 1) := by decide +kernel
theorem dX3_sewAt_14 : decode cX3_sewAt 14 = .ok (.aload_n 0, 1) := by decide +kernel
theorem dX3_sewAt_15 : decode cX3_sewAt 15 = .ok (.aload_n 1, 1) := by decide +kernel
theorem dX3_sewAt_16 : decode cX3_sewAt 16 = .ok (.getfield 136, 3) := by decide +kernel
theorem dX3_sewAt_19 : decode cX3_sewAt 19 = .ok (.invokevirtual 137, 3) := by decide +kernel
theorem dX3_sewAt_22 : decode cX3_sewAt 22 = .ok (.aload_n 0, 1) := by decide +kernel
theorem dX3_sewAt_23 : decode cX3_sewAt 23 = .ok (.getfield 34, 3) := by decide +kernel
theorem dX3_sewAt_26 : decode cX3_sewAt 26 = .ok (.invokestatic 140, 3) := by decide +kernel
theorem dX3_sewAt_29 : decode cX3_sewAt 29 = .ok (.istore_n 3, 1) := by decide +kernel
theorem dX3_sewAt_30 : decode cX3_sewAt 30 = .ok (.iconst 1, 1) := by decide +kernel
theorem dX3_sewAt_31 : decode cX3_sewAt 31 = .ok (.istore 4, 2) := by decide +kernel
theorem dX3_sewAt_33 : decode cX3_sewAt 33 = .ok (.iload 4, 2) := by decide +kernel
theorem dX3_sewAt_35 : decode cX3_sewAt 35 = .ok (.iload_n 3, 1) := by decide +kernel
theorem dX3_sewAt_36 : decode cX3_sewAt 36 = .ok (.if_icmp .gt 84, 3) := by decide +kernel
theorem dX3_sewAt_39 : decode cX3_sewAt 39 = .ok (.aload_n 2, 1) := by decide +kernel
theorem dX3_sewAt_40 : decode cX3_sewAt 40 = .ok (.invokevirtual 143, 3) := by decide +kernel
theorem dX3_sewAt_43 : decode cX3_sewAt 43 = .ok (.ifCond .ne 77, 3) := by decide +kernel
theorem dX3_sewAt_46 : decode cX3_sewAt 46 = .ok (.aload_n 0, 1) := by decide +kernel
theorem dX3_sewAt_47 : decode cX3_sewAt 47 = .ok (.dup, 1) := by decide +kernel
theorem dX3_sewAt_48 : decode cX3_sewAt 48 = .ok (.getfield 34, 3) := by decide +kernel
theorem dX3_sewAt_51 : decode cX3_sewAt 51 = .ok (.iconst 1, 1) := by decide +kernel
theorem dX3_sewAt_52 : decode cX3_sewAt 52 = .ok (.isub, 1) := by decide +kernel
theorem dX3_sewAt_53 : decode cX3_sewAt 53 = .ok (.putfield 34, 3) := by decide +kernel
theorem dX3_sewAt_56 : decode cX3_sewAt 56 = .ok (.aload_n 0, 1) := by decide +kernel
theorem dX3_sewAt_57 : decode cX3_sewAt 57 = .ok (.dup, 1) := by decide +kernel
theorem dX3_sewAt_58 : decode cX3_sewAt 58 = .ok (.getfield 66, 3) := by decide +kernel
theorem dX3_sewAt_61 : decode cX3_sewAt 61 = .ok (.iconst 1, 1) := by decide +kernel
theorem dX3_sewAt_62 : decode cX3_sewAt 62 = .ok (.iadd, 1) := by decide +kernel
theorem dX3_sewAt_63 : decode cX3_sewAt 63 = .ok (.putfield 66, 3) := by decide +kernel
theorem dX3_sewAt_66 : decode cX3_sewAt 66 = .ok (.aload_n 1, 1) := by decide +kernel
theorem dX3_sewAt_67 : decode cX3_sewAt 67 = .ok (.dup, 1) := by decide +kernel
theorem dX3_sewAt_68 : decode cX3_sewAt 68 = .ok (.getfield 147, 3) := by decide +kernel
theorem dX3_sewAt_71 : decode cX3_sewAt 71 = .ok (.iconst 1, 1) := by decide +kernel
theorem dX3_sewAt_72 : decode cX3_sewAt 72 = .ok (.iadd, 1) := by decide +kernel
theorem dX3_sewAt_73 : decode cX3_sewAt 73 = .ok (.putfield 147, 3) := by decide +kernel
theorem dX3_sewAt_76 : decode cX3_sewAt 76 = .ok (.aload_n 2, 1) := by decide +kernel
theorem dX3_sewAt_77 : decode cX3_sewAt 77 = .ok (.invokevirtual 148, 3) := by decide +kernel
theorem dX3_sewAt_80 : decode cX3_sewAt 80 = .ok (.istore 5, 2) := by decide +kernel
theorem dX3_sewAt_82 : decode cX3_sewAt 82 = .ok (.iload 5, 2) := by decide +kernel
theorem dX3_sewAt_84 : decode cX3_sewAt 84 = .ok (.ifCond .eq 30, 3) := by decide +kernel
theorem dX3_sewAt_87 : decode cX3_sewAt 87 = .ok (.iload 4, 2) := by decide +kernel
theorem dX3_sewAt_89 : decode cX3_sewAt 89 = .ok (.bipush 10, 2) := by decide +kernel
theorem dX3_sewAt_91 : decode cX3_sewAt 91 = .ok (.if_icmp .lt 23, 3) := by decide +kernel
theorem dX3_sewAt_94 : decode cX3_sewAt 94 = .ok (.aload_n 2, 1) := by decide +kernel
theorem dX3_sewAt_95 : decode cX3_sewAt 95 = .ok (.dup, 1) := by decide +kernel
theorem dX3_sewAt_96 : decode cX3_sewAt 96 = .ok (.getfield 151, 3) := by decide +kernel
theorem dX3_sewAt_99 : decode cX3_sewAt 99 = .ok (.iconst 1, 1) := by decide +kernel
theorem dX3_sewAt_100 : decode cX3_sewAt 100 = .ok (.iadd, 1) := by decide +kernel
theorem dX3_sewAt_101 : decode cX3_sewAt 101 = .ok (.putfield 151, 3) := by decide +kernel
theorem dX3_sewAt_104 : decode cX3_sewAt 104 = .ok (.aload_n 0, 1) := by decide +kernel
theorem dX3_sewAt_105 : decode cX3_sewAt 105 = .ok (.dup, 1) := by decide +kernel
theorem dX3_sewAt_106 : decode cX3_sewAt 106 = .ok (.getfield 69, 3) := by decide +kernel
theorem dX3_sewAt_109 : decode cX3_sewAt 109 = .ok (.iconst 1, 1) := by decide +kernel
theorem dX3_sewAt_110 : decode cX3_sewAt 110 = .ok (.iadd, 1) := by decide +kernel
theorem dX3_sewAt_111 : decode cX3_sewAt 111 = .ok (.putfield 69, 3) := by decide +kernel
theorem dX3_sewAt_114 : decode cX3_sewAt 114 = .ok (.iinc 4 1, 3) := by decide +kernel
theorem dX3_sewAt_117 : decode cX3_sewAt 117 = .ok (.goto (-84), 3) := by decide +kernel
theorem dX3_sewAt_120 : decode cX3_sewAt 120 = .ok (.aload_n 2, 1) := by decide +kernel
theorem dX3_sewAt_121 : decode cX3_sewAt 121 = .ok (.invokevirtual 143, 3) := by decide +kernel
theorem dX3_sewAt_124 : decode cX3_sewAt 124 = .ok (.ifCond .eq 12, 3) := by decide +kernel
theorem dX3_sewAt_127 : decode cX3_sewAt 127 = .ok (.aload_n 1, 1) := by decide +kernel
theorem dX3_sewAt_128 : decode cX3_sewAt 128 = .ok (.iconst (-1), 1) := by decide +kernel
theorem dX3_sewAt_129 : decode cX3_sewAt 129 = .ok (.putfield 72, 3) := by decide +kernel
theorem dX3_sewAt_132 : decode cX3_sewAt 132 = .ok (.aload_n 2, 1) := by decide +kernel
theorem dX3_sewAt_133 : decode cX3_sewAt 133 = .ok (.invokevirtual 152, 3) := by decide +kernel
theorem dX3_sewAt_136 : decode cX3_sewAt 136 = .ok (.return_, 1) := by decide +kernel
set_option maxRecDepth 20000 in
theorem ggX3_mountOn_X0_mount : GoodIn wsX3_mountOn wsX0_mount := goodIn_r _ [11, 12, 13, 14, 27, 28, 29, 30, 31, 32, 33, 34, 35, 36, 37, 38, 39] (by decide +kernel) (by decide +kernel)
set_option maxRecDepth 20000 in
theorem gX3_mountOn_X0_mount : GoodIn wsX3_mountOn (wsV RX3 158 RX0 yX0_mount wsX0_mount) := goodIn_app (goodIn_of _ (by decide +kernel)) ggX3_mountOn_X0_mount
theorem dX3_mountOn_0 : decode cX3_mountOn 0 = .ok (.aload_n 0, 1) := by decide +kernel
theorem dX3_mountOn_1 : decode cX3_mountOn 1 = .ok (.getfield 11, 3) := by decide +kernel
theorem dX3_mountOn_4 : decode cX3_mountOn 4 = .ok (.astore_n 2, 1) := by decide +kernel
theorem dX3_mountOn_5 : decode cX3_mountOn 5 = .ok (.aload_n 2, 1) := by decide +kernel
theorem dX3_mountOn_6 : decode cX3_mountOn 6 = .ok (.arraylength, 1) := by decide +kernel
theorem dX3_mountOn_7 : decode cX3_mountOn 7 = .ok (.istore_n 3, 1) := by decide +kernel
theorem dX3_mountOn_8 : decode cX3_mountOn 8 = .ok (.iconst 0, 1) := by decide +kernel
theorem dX3_mountOn_9 : decode cX3_mountOn 9 = .ok (.istore 4, 2) := by decide +kernel
theorem dX3_mountOn_11 : decode cX3_mountOn 11 = .ok (.iload 4, 2) := by decide +kernel
theorem dX3_mountOn_13 : decode cX3_mountOn 13 = .ok (.iload_n 3, 1) := by decide +kernel
theorem dX3_mountOn_14 : decode cX3_mountOn 14 = .ok (.if_icmp .ge 46, 3) := by decide +kernel
theorem dX3_mountOn_17 : decode cX3_mountOn 17 = .ok (.aload_n 2, 1) := by decide +kernel
theorem dX3_mountOn_18 : decode cX3_mountOn 18 = .ok (.iload 4, 2) := by decide +kernel
theorem dX3_mountOn_20 : decode cX3_mountOn 20 = .ok (.aaload, 1) := by decide +kernel
theorem dX3_mountOn_21 : decode cX3_mountOn 21 = .ok (.astore 5, 2) := by decide +kernel
theorem dX3_mountOn_23 : decode cX3_mountOn 23 = .ok (.aload 5, 2) := by decide +kernel
theorem dX3_mountOn_25 : decode cX3_mountOn 25 = .ok (.getfield 117, 3) := by decide +kernel
theorem dX3_mountOn_28 : decode cX3_mountOn 28 = .ok (.ifCond .ne 26, 3) := by decide +kernel
theorem dX3_mountOn_31 : decode cX3_mountOn 31 = .ok (.aload 5, 2) := by decide +kernel
theorem dX3_mountOn_33 : decode cX3_mountOn 33 = .ok (.aload_n 1, 1) := by decide +kernel
theorem dX3_mountOn_34 : decode cX3_mountOn 34 = .ok (.getfield 136, 3) := by decide +kernel
theorem dX3_mountOn_37 : decode cX3_mountOn 37 = .ok (.aload_n 1, 1) := by decide +kernel
theorem dX3_mountOn_38 : decode cX3_mountOn 38 = .ok (.getfield 155, 3) := by decide +kernel
theorem dX3_mountOn_41 : decode cX3_mountOn 41 = .ok (.invokevirtual 158, 3) := by decide +kernel
theorem dX3_mountOn_44 : decode cX3_mountOn 44 = .ok (.aload_n 1, 1) := by decide +kernel
theorem dX3_mountOn_45 : decode cX3_mountOn 45 = .ok (.aload 5, 2) := by decide +kernel
theorem dX3_mountOn_47 : decode cX3_mountOn 47 = .ok (.getfield 75, 3) := by decide +kernel
theorem dX3_mountOn_50 : decode cX3_mountOn 50 = .ok (.putfield 72, 3) := by decide +kernel
theorem dX3_mountOn_53 : decode cX3_mountOn 53 = .ok (.return_, 1) := by decide +kernel
theorem dX3_mountOn_54 : decode cX3_mountOn 54 = .ok (.iinc 4 1, 3) := by decide +kernel
theorem dX3_mountOn_57 : decode cX3_mountOn 57 = .ok (.goto (-46), 3) := by decide +kernel
theorem dX3_mountOn_60 : decode cX3_mountOn 60 = .ok (.return_, 1) := by decide +kernel
theorem dX3_booksAt_0 : decode cX3_booksAt 0 = .ok (.iconst 0, 1) := by decide +kernel
theorem dX3_booksAt_1 : decode cX3_booksAt 1 = .ok (.istore_n 2, 1) := by decide +kernel
theorem dX3_booksAt_2 : decode cX3_booksAt 2 = .ok (.aload_n 0, 1) := by decide +kernel
theorem dX3_booksAt_3 : decode cX3_booksAt 3 = .ok (.getfield 11, 3) := by decide +kernel
theorem dX3_booksAt_6 : decode cX3_booksAt 6 = .ok (.astore_n 3, 1) := by decide +kernel
theorem dX3_booksAt_7 : decode cX3_booksAt 7 = .ok (.aload_n 3, 1) := by decide +kernel
theorem dX3_booksAt_8 : decode cX3_booksAt 8 = .ok (.arraylength, 1) := by decide +kernel
theorem dX3_booksAt_9 : decode cX3_booksAt 9 = .ok (.istore 4, 2) := by decide +kernel
theorem dX3_booksAt_11 : decode cX3_booksAt 11 = .ok (.iconst 0, 1) := by decide +kernel
theorem dX3_booksAt_12 : decode cX3_booksAt 12 = .ok (.istore 5, 2) := by decide +kernel
theorem dX3_booksAt_14 : decode cX3_booksAt 14 = .ok (.iload 5, 2) := by decide +kernel
theorem dX3_booksAt_16 : decode cX3_booksAt 16 = .ok (.iload 4, 2) := by decide +kernel
theorem dX3_booksAt_18 : decode cX3_booksAt 18 = .ok (.if_icmp .ge 27, 3) := by decide +kernel
theorem dX3_booksAt_21 : decode cX3_booksAt 21 = .ok (.aload_n 3, 1) := by decide +kernel
theorem dX3_booksAt_22 : decode cX3_booksAt 22 = .ok (.iload 5, 2) := by decide +kernel
theorem dX3_booksAt_24 : decode cX3_booksAt 24 = .ok (.aaload, 1) := by decide +kernel
theorem dX3_booksAt_25 : decode cX3_booksAt 25 = .ok (.astore 6, 2) := by decide +kernel
theorem dX3_booksAt_27 : decode cX3_booksAt 27 = .ok (.aload 6, 2) := by decide +kernel
theorem dX3_booksAt_29 : decode cX3_booksAt 29 = .ok (.getfield 117, 3) := by decide +kernel
theorem dX3_booksAt_32 : decode cX3_booksAt 32 = .ok (.iload_n 1, 1) := by decide +kernel
theorem dX3_booksAt_33 : decode cX3_booksAt 33 = .ok (.if_icmp .ne 6, 3) := by decide +kernel
theorem dX3_booksAt_36 : decode cX3_booksAt 36 = .ok (.iinc 2 1, 3) := by decide +kernel
theorem dX3_booksAt_39 : decode cX3_booksAt 39 = .ok (.iinc 5 1, 3) := by decide +kernel
theorem dX3_booksAt_42 : decode cX3_booksAt 42 = .ok (.goto (-28), 3) := by decide +kernel
theorem dX3_booksAt_45 : decode cX3_booksAt 45 = .ok (.iload_n 2, 1) := by decide +kernel
theorem dX3_booksAt_46 : decode cX3_booksAt 46 = .ok (.ireturn, 1) := by decide +kernel
set_option maxRecDepth 20000 in
theorem ggX3_tellOfFrame_X3_bookNumbered : GoodIn wsX3_tellOfFrame wsX3_bookNumbered := goodIn_r _ [9, 10, 11, 48, 49, 50, 51, 52, 53, 54, 55, 56, 57, 58, 59] (by decide +kernel) (by decide +kernel)
set_option maxRecDepth 20000 in
theorem gX3_tellOfFrame_X3_bookNumbered : GoodIn wsX3_tellOfFrame (wsV RX3 132 RX3 yX3_bookNumbered wsX3_bookNumbered) := goodIn_app (goodIn_of _ (by decide +kernel)) ggX3_tellOfFrame_X3_bookNumbered
set_option maxRecDepth 20000 in
theorem ggX3_tellOfFrame_X3_sittersAt : GoodIn wsX3_tellOfFrame wsX3_sittersAt := goodIn_r _ [15, 16, 17, 18, 8, 19, 20, 21, 22, 48, 49, 50, 51, 52, 53, 54, 55, 56, 57, 58, 59, 60, 61, 62] (by decide +kernel) (by decide +kernel)
set_option maxRecDepth 20000 in
theorem gX3_tellOfFrame_X3_sittersAt : GoodIn wsX3_tellOfFrame (wsV RX3 162 RX3 yX3_sittersAt wsX3_sittersAt) := goodIn_app (goodIn_of _ (by decide +kernel)) ggX3_tellOfFrame_X3_sittersAt
set_option maxRecDepth 20000 in
theorem ggX3_tellOfFrame_X3_stitchesAnHour : GoodIn wsX3_tellOfFrame wsX3_stitchesAnHour := goodIn_r _ [26, 20, 21, 27, 28, 29, 30, 31, 48, 49, 50, 51, 52, 53, 54, 55, 56, 57, 58, 59, 60, 61, 62] (by decide +kernel) (by decide +kernel)
set_option maxRecDepth 20000 in
theorem gX3_tellOfFrame_X3_stitchesAnHour : GoodIn wsX3_tellOfFrame (wsV RX3 137 RX3 yX3_stitchesAnHour wsX3_stitchesAnHour) := goodIn_app (goodIn_of _ (by decide +kernel)) ggX3_tellOfFrame_X3_stitchesAnHour
set_option maxRecDepth 20000 in
theorem ggX3_tellOfFrame_X0_stitchesToSew : GoodIn wsX3_tellOfFrame wsX0_stitchesToSew := goodIn_r _ [36, 37, 38, 39, 40, 41, 35, 42, 43, 63, 64, 65, 66, 67, 68, 69, 70, 71, 72, 73, 74, 75] (by decide +kernel) (by decide +kernel)
set_option maxRecDepth 20000 in
theorem gX3_tellOfFrame_X0_stitchesToSew : GoodIn wsX3_tellOfFrame (wsV RX3 165 RX0 yX0_stitchesToSew wsX0_stitchesToSew) := goodIn_app (goodIn_of _ (by decide +kernel)) ggX3_tellOfFrame_X0_stitchesToSew
theorem dX3_tellOfFrame_0 : decode cX3_tellOfFrame 0 = .ok (.aload_n 0, 1) := by decide +kernel
theorem dX3_tellOfFrame_1 : decode cX3_tellOfFrame 1 = .ok (.aload_n 1, 1) := by decide +kernel
theorem dX3_tellOfFrame_2 : decode cX3_tellOfFrame 2 = .ok (.getfield 72, 3) := by decide +kernel
theorem dX3_tellOfFrame_5 : decode cX3_tellOfFrame 5 = .ok (.invokevirtual 132, 3) := by decide +kernel
theorem dX3_tellOfFrame_8 : decode cX3_tellOfFrame 8 = .ok (.astore_n 3, 1) := by decide +kernel
theorem dX3_tellOfFrame_9 : decode cX3_tellOfFrame 9 = .ok (.iload_n 2, 1) := by decide +kernel
theorem dX3_tellOfFrame_10 : decode cX3_tellOfFrame 10 = .ok (.tableswitch 75 0 4 #[34, 39, 44, 53, 62], 34) := by decide +kernel
theorem dX3_tellOfFrame_44 : decode cX3_tellOfFrame 44 = .ok (.aload_n 1, 1) := by decide +kernel
theorem dX3_tellOfFrame_45 : decode cX3_tellOfFrame 45 = .ok (.getfield 155, 3) := by decide +kernel
theorem dX3_tellOfFrame_48 : decode cX3_tellOfFrame 48 = .ok (.ireturn, 1) := by decide +kernel
theorem dX3_tellOfFrame_49 : decode cX3_tellOfFrame 49 = .ok (.aload_n 1, 1) := by decide +kernel
theorem dX3_tellOfFrame_50 : decode cX3_tellOfFrame 50 = .ok (.getfield 72, 3) := by decide +kernel
theorem dX3_tellOfFrame_53 : decode cX3_tellOfFrame 53 = .ok (.ireturn, 1) := by decide +kernel
theorem dX3_tellOfFrame_54 : decode cX3_tellOfFrame 54 = .ok (.aload_n 0, 1) := by decide +kernel
theorem dX3_tellOfFrame_55 : decode cX3_tellOfFrame 55 = .ok (.aload_n 1, 1) := by decide +kernel
theorem dX3_tellOfFrame_56 : decode cX3_tellOfFrame 56 = .ok (.getfield 136, 3) := by decide +kernel
theorem dX3_tellOfFrame_59 : decode cX3_tellOfFrame 59 = .ok (.invokevirtual 162, 3) := by decide +kernel
theorem dX3_tellOfFrame_62 : decode cX3_tellOfFrame 62 = .ok (.ireturn, 1) := by decide +kernel
theorem dX3_tellOfFrame_63 : decode cX3_tellOfFrame 63 = .ok (.aload_n 0, 1) := by decide +kernel
theorem dX3_tellOfFrame_64 : decode cX3_tellOfFrame 64 = .ok (.aload_n 1, 1) := by decide +kernel
theorem dX3_tellOfFrame_65 : decode cX3_tellOfFrame 65 = .ok (.getfield 136, 3) := by decide +kernel
theorem dX3_tellOfFrame_68 : decode cX3_tellOfFrame 68 = .ok (.invokevirtual 137, 3) := by decide +kernel
theorem dX3_tellOfFrame_71 : decode cX3_tellOfFrame 71 = .ok (.ireturn, 1) := by decide +kernel
theorem dX3_tellOfFrame_72 : decode cX3_tellOfFrame 72 = .ok (.aload_n 3, 1) := by decide +kernel
theorem dX3_tellOfFrame_73 : decode cX3_tellOfFrame 73 = .ok (.ifnonnull 7, 3) := by decide +kernel
theorem dX3_tellOfFrame_76 : decode cX3_tellOfFrame 76 = .ok (.iconst 0, 1) := by decide +kernel
theorem dX3_tellOfFrame_77 : decode cX3_tellOfFrame 77 = .ok (.goto 7, 3) := by decide +kernel
theorem dX3_tellOfFrame_80 : decode cX3_tellOfFrame 80 = .ok (.aload_n 3, 1) := by decide +kernel
theorem dX3_tellOfFrame_81 : decode cX3_tellOfFrame 81 = .ok (.invokevirtual 165, 3) := by decide +kernel
theorem dX3_tellOfFrame_84 : decode cX3_tellOfFrame 84 = .ok (.ireturn, 1) := by decide +kernel
theorem dX3_tellOfFrame_85 : decode cX3_tellOfFrame 85 = .ok (.aload_n 1, 1) := by decide +kernel
theorem dX3_tellOfFrame_86 : decode cX3_tellOfFrame 86 = .ok (.getfield 147, 3) := by decide +kernel
theorem dX3_tellOfFrame_89 : decode cX3_tellOfFrame 89 = .ok (.ireturn, 1) := by decide +kernel
set_option maxRecDepth 20000 in
theorem ggX3_tellOfAll_X3_booksAt : GoodIn wsX3_tellOfAll wsX3_booksAt := goodIn_r _ [13, 14, 15, 16, 17, 18, 19, 20, 21, 22, 23, 24, 25, 26, 27, 28, 29, 30, 31, 32, 33, 34, 35, 36, 37, 38, 39, 40] (by decide +kernel) (by decide +kernel)
set_option maxRecDepth 20000 in
theorem gX3_tellOfAll_X3_booksAt : GoodIn wsX3_tellOfAll (wsV RX3 98 RX3 yX3_booksAt wsX3_booksAt) := goodIn_app (goodIn_of _ (by decide +kernel)) ggX3_tellOfAll_X3_booksAt
theorem dX3_tellOfAll_0 : decode cX3_tellOfAll 0 = .ok (.iload_n 1, 1) := by decide +kernel
theorem dX3_tellOfAll_1 : decode cX3_tellOfAll 1 = .ok (.tableswitch 115 0 14 #[75, 80, 115, 115, 115, 115, 115, 115, 115, 85, 90, 95, 100, 105, 110], 75) := by decide +kernel
theorem dX3_tellOfAll_76 : decode cX3_tellOfAll 76 = .ok (.aload_n 0, 1) := by decide +kernel
theorem dX3_tellOfAll_77 : decode cX3_tellOfAll 77 = .ok (.getfield 63, 3) := by decide +kernel
theorem dX3_tellOfAll_80 : decode cX3_tellOfAll 80 = .ok (.ireturn, 1) := by decide +kernel
theorem dX3_tellOfAll_81 : decode cX3_tellOfAll 81 = .ok (.aload_n 0, 1) := by decide +kernel
theorem dX3_tellOfAll_82 : decode cX3_tellOfAll 82 = .ok (.getfield 57, 3) := by decide +kernel
theorem dX3_tellOfAll_85 : decode cX3_tellOfAll 85 = .ok (.ireturn, 1) := by decide +kernel
theorem dX3_tellOfAll_86 : decode cX3_tellOfAll 86 = .ok (.aload_n 0, 1) := by decide +kernel
theorem dX3_tellOfAll_87 : decode cX3_tellOfAll 87 = .ok (.getfield 44, 3) := by decide +kernel
theorem dX3_tellOfAll_90 : decode cX3_tellOfAll 90 = .ok (.ireturn, 1) := by decide +kernel
theorem dX3_tellOfAll_91 : decode cX3_tellOfAll 91 = .ok (.aload_n 0, 1) := by decide +kernel
theorem dX3_tellOfAll_92 : decode cX3_tellOfAll 92 = .ok (.getfield 34, 3) := by decide +kernel
theorem dX3_tellOfAll_95 : decode cX3_tellOfAll 95 = .ok (.ireturn, 1) := by decide +kernel
theorem dX3_tellOfAll_96 : decode cX3_tellOfAll 96 = .ok (.aload_n 0, 1) := by decide +kernel
theorem dX3_tellOfAll_97 : decode cX3_tellOfAll 97 = .ok (.getfield 38, 3) := by decide +kernel
theorem dX3_tellOfAll_100 : decode cX3_tellOfAll 100 = .ok (.ireturn, 1) := by decide +kernel
theorem dX3_tellOfAll_101 : decode cX3_tellOfAll 101 = .ok (.aload_n 0, 1) := by decide +kernel
theorem dX3_tellOfAll_102 : decode cX3_tellOfAll 102 = .ok (.getfield 41, 3) := by decide +kernel
theorem dX3_tellOfAll_105 : decode cX3_tellOfAll 105 = .ok (.ireturn, 1) := by decide +kernel
theorem dX3_tellOfAll_106 : decode cX3_tellOfAll 106 = .ok (.aload_n 0, 1) := by decide +kernel
theorem dX3_tellOfAll_107 : decode cX3_tellOfAll 107 = .ok (.getfield 66, 3) := by decide +kernel
theorem dX3_tellOfAll_110 : decode cX3_tellOfAll 110 = .ok (.ireturn, 1) := by decide +kernel
theorem dX3_tellOfAll_111 : decode cX3_tellOfAll 111 = .ok (.aload_n 0, 1) := by decide +kernel
theorem dX3_tellOfAll_112 : decode cX3_tellOfAll 112 = .ok (.getfield 69, 3) := by decide +kernel
theorem dX3_tellOfAll_115 : decode cX3_tellOfAll 115 = .ok (.ireturn, 1) := by decide +kernel
theorem dX3_tellOfAll_116 : decode cX3_tellOfAll 116 = .ok (.aload_n 0, 1) := by decide +kernel
theorem dX3_tellOfAll_117 : decode cX3_tellOfAll 117 = .ok (.iload_n 1, 1) := by decide +kernel
theorem dX3_tellOfAll_118 : decode cX3_tellOfAll 118 = .ok (.iconst 2, 1) := by decide +kernel
theorem dX3_tellOfAll_119 : decode cX3_tellOfAll 119 = .ok (.isub, 1) := by decide +kernel
theorem dX3_tellOfAll_120 : decode cX3_tellOfAll 120 = .ok (.invokevirtual 98, 3) := by decide +kernel
theorem dX3_tellOfAll_123 : decode cX3_tellOfAll 123 = .ok (.ireturn, 1) := by decide +kernel
