set_option maxRecDepth 20000 in
theorem gX7_tryCoins_X4_hasCoin : GoodIn wsX7_tryCoins (wsV RX7 178 RX4 yX4_hasCoin wsX4_hasCoin) := goodIn_app (goodIn_of _ (by decide +kernel)) ggX7_tryCoins_X4_hasCoin
set_option maxRecDepth 20000 in
theorem ggX7_tryCoins_X4_tryWeighing : GoodIn wsX7_tryCoins wsX4_tryWeighing := goodIn_r _ [11, 12, 13, 14, 15, 16, 17, 18, 19, 20, 5, 21, 7, 22, 23, 24, 25, 26, 27, 28, 29, 30, 31, 32, 33, 34, 35, 36, 37, 38, 39, 40, 41, 42, 43, 44, 45, 46, 47, 48, 49, 50, 51, 52, 53, 54, 55, 56, 57, 58, 59, 60, 61, 62, 63, 64, 65, 66, 67, 68, 69, 70, 80, 81, 82, 83, 84, 85, 86, 87, 88, 89, 90, 91, 92, 93, 94, 95, 96] (by decide +kernel) (by decide +kernel)
set_option maxRecDepth 20000 in
theorem gX7_tryCoins_X4_tryWeighing : GoodIn wsX7_tryCoins (wsV RX7 142 RX4 yX4_tryWeighing wsX4_tryWeighing) := goodIn_app (goodIn_of _ (by decide +kernel)) ggX7_tryCoins_X4_tryWeighing
theorem dX7_tryCoins_0 : decode cX7_tryCoins 0 = .ok (.aload_n 0, 1) := by decide +kernel
theorem dX7_tryCoins_1 : decode cX7_tryCoins 1 = .ok (.getfield 23, 3) := by decide +kernel
theorem dX7_tryCoins_4 : decode cX7_tryCoins 4 = .ok (.iload_n 1, 1) := by decide +kernel
theorem dX7_tryCoins_5 : decode cX7_tryCoins 5 = .ok (.invokevirtual 178, 3) := by decide +kernel
theorem dX7_tryCoins_8 : decode cX7_tryCoins 8 = .ok (.ifCond .eq 20, 3) := by decide +kernel
theorem dX7_tryCoins_11 : decode cX7_tryCoins 11 = .ok (.iload_n 2, 1) := by decide +kernel
theorem dX7_tryCoins_12 : decode cX7_tryCoins 12 = .ok (.bipush 99, 2) := by decide +kernel
theorem dX7_tryCoins_14 : decode cX7_tryCoins 14 = .ok (.if_icmp .eq 16, 3) := by decide +kernel
theorem dX7_tryCoins_17 : decode cX7_tryCoins 17 = .ok (.aload_n 0, 1) := by decide +kernel
theorem dX7_tryCoins_18 : decode cX7_tryCoins 18 = .ok (.getfield 23, 3) := by decide +kernel
theorem dX7_tryCoins_21 : decode cX7_tryCoins 21 = .ok (.iload_n 2, 1) := by decide +kernel
theorem dX7_tryCoins_22 : decode cX7_tryCoins 22 = .ok (.invokevirtual 178, 3) := by decide +kernel
theorem dX7_tryCoins_25 : decode cX7_tryCoins 25 = .ok (.ifCond .ne 5, 3) := by decide +kernel
theorem dX7_tryCoins_28 : decode cX7_tryCoins 28 = .ok (.iconst 0, 1) := by decide +kernel
theorem dX7_tryCoins_29 : decode cX7_tryCoins 29 = .ok (.ireturn, 1) := by decide +kernel
theorem dX7_tryCoins_30 : decode cX7_tryCoins 30 = .ok (.aload_n 0, 1) := by decide +kernel
theorem dX7_tryCoins_31 : decode cX7_tryCoins 31 = .ok (.getfield 23, 3) := by decide +kernel
theorem dX7_tryCoins_34 : decode cX7_tryCoins 34 = .ok (.iconst 1, 1) := by decide +kernel
theorem dX7_tryCoins_35 : decode cX7_tryCoins 35 = .ok (.iload_n 1, 1) := by decide +kernel
theorem dX7_tryCoins_36 : decode cX7_tryCoins 36 = .ok (.ishl, 1) := by decide +kernel
theorem dX7_tryCoins_37 : decode cX7_tryCoins 37 = .ok (.iload_n 2, 1) := by decide +kernel
theorem dX7_tryCoins_38 : decode cX7_tryCoins 38 = .ok (.bipush 99, 2) := by decide +kernel
theorem dX7_tryCoins_40 : decode cX7_tryCoins 40 = .ok (.if_icmp .ne 7, 3) := by decide +kernel
theorem dX7_tryCoins_43 : decode cX7_tryCoins 43 = .ok (.iconst 0, 1) := by decide +kernel
theorem dX7_tryCoins_44 : decode cX7_tryCoins 44 = .ok (.goto 6, 3) := by decide +kernel
theorem dX7_tryCoins_47 : decode cX7_tryCoins 47 = .ok (.iconst 1, 1) := by decide +kernel
theorem dX7_tryCoins_48 : decode cX7_tryCoins 48 = .ok (.iload_n 2, 1) := by decide +kernel
theorem dX7_tryCoins_49 : decode cX7_tryCoins 49 = .ok (.ishl, 1) := by decide +kernel
theorem dX7_tryCoins_50 : decode cX7_tryCoins 50 = .ok (.invokevirtual 142, 3) := by decide +kernel
theorem dX7_tryCoins_53 : decode cX7_tryCoins 53 = .ok (.ireturn, 1) := by decide +kernel
set_option maxRecDepth 20000 in
theorem ggX7_takeTurn_X4_tryArms : GoodIn wsX7_takeTurn wsX4_tryArms := goodIn_r _ [7, 8, 9, 10, 11, 12, 110, 111, 112, 113, 114, 115, 116, 117, 118, 119] (by decide +kernel) (by decide +kernel)
set_option maxRecDepth 20000 in
theorem gX7_takeTurn_X4_tryArms : GoodIn wsX7_takeTurn (wsV RX7 138 RX4 yX4_tryArms wsX4_tryArms) := goodIn_app (goodIn_of _ (by decide +kernel)) ggX7_takeTurn_X4_tryArms
set_option maxRecDepth 20000 in
theorem ggX7_takeTurn_X4_tryForgetting : GoodIn wsX7_takeTurn wsX4_tryForgetting := goodIn_r _ [16, 17, 18, 19, 20, 21, 22, 23, 24, 25, 26, 27, 28, 29, 6, 30, 31, 32, 33, 34, 35, 36, 37, 38, 39, 40, 41, 42, 43, 44, 45, 46, 47, 48, 49, 50, 51, 52, 53, 54, 55, 56, 57, 58, 59, 110, 111, 112, 113, 114, 115, 116, 117, 118, 119, 120, 121, 122, 123, 124, 125, 126] (by decide +kernel) (by decide +kernel)
set_option maxRecDepth 20000 in
theorem gX7_takeTurn_X4_tryForgetting : GoodIn wsX7_takeTurn (wsV RX7 246 RX4 yX4_tryForgetting wsX4_tryForgetting) := goodIn_app (goodIn_of _ (by decide +kernel)) ggX7_takeTurn_X4_tryForgetting
set_option maxRecDepth 20000 in
theorem ggX7_takeTurn_X4_hasCoin : GoodIn wsX7_takeTurn wsX4_hasCoin := goodIn_r _ [63, 19, 110, 111, 112, 113, 114, 115, 116, 117, 118, 119] (by decide +kernel) (by decide +kernel)
set_option maxRecDepth 20000 in
theorem gX7_takeTurn_X4_hasCoin : GoodIn wsX7_takeTurn (wsV RX7 178 RX4 yX4_hasCoin wsX4_hasCoin) := goodIn_app (goodIn_of _ (by decide +kernel)) ggX7_takeTurn_X4_hasCoin
set_option maxRecDepth 20000 in
theorem ggX7_takeTurn_X4_blameCoin : GoodIn wsX7_takeTurn wsX4_blameCoin := goodIn_r _ [67, 68, 69, 70, 71, 6, 72, 73, 74, 110, 111, 112, 113, 114, 115, 116, 117, 118, 119] (by decide +kernel) (by decide +kernel)
set_option maxRecDepth 20000 in
theorem gX7_takeTurn_X4_blameCoin : GoodIn wsX7_takeTurn (wsV RX7 232 RX4 yX4_blameCoin wsX4_blameCoin) := goodIn_app (goodIn_of _ (by decide +kernel)) ggX7_takeTurn_X4_blameCoin
set_option maxRecDepth 20000 in
theorem ggX7_takeTurn_X4_tryWeighing : GoodIn wsX7_takeTurn wsX4_tryWeighing := goodIn_r _ [78, 20, 8, 9, 68, 18, 17, 79, 80, 81, 6, 82, 19, 83, 84, 85, 86, 32, 33, 34, 35, 36, 37, 38, 39, 40, 41, 42, 43, 44, 45, 46, 47, 48, 49, 87, 88, 89, 90, 91, 57, 58, 59, 50, 51, 52, 24, 53, 26, 54, 55, 56, 92, 93, 94, 95, 31, 96, 97, 98, 99, 100, 110, 111, 112, 113, 114, 115, 116, 117, 118, 119, 121, 122, 123, 124, 125, 126, 120] (by decide +kernel) (by decide +kernel)
set_option maxRecDepth 20000 in
theorem gX7_takeTurn_X4_tryWeighing : GoodIn wsX7_takeTurn (wsV RX7 142 RX4 yX4_tryWeighing wsX4_tryWeighing) := goodIn_app (goodIn_of _ (by decide +kernel)) ggX7_takeTurn_X4_tryWeighing
theorem dX7_takeTurn_0 : decode cX7_takeTurn 0 = .ok (.iload_n 1, 1) := by decide +kernel
theorem dX7_takeTurn_1 : decode cX7_takeTurn 1 = .ok (.bipush 8, 2) := by decide +kernel
theorem dX7_takeTurn_3 : decode cX7_takeTurn 3 = .ok (.idiv, 1) := by decide +kernel
theorem dX7_takeTurn_4 : decode cX7_takeTurn 4 = .ok (.istore_n 2, 1) := by decide +kernel
theorem dX7_takeTurn_5 : decode cX7_takeTurn 5 = .ok (.iload_n 1, 1) := by decide +kernel
theorem dX7_takeTurn_6 : decode cX7_takeTurn 6 = .ok (.bipush 8, 2) := by decide +kernel
theorem dX7_takeTurn_8 : decode cX7_takeTurn 8 = .ok (.irem, 1) := by decide +kernel
theorem dX7_takeTurn_9 : decode cX7_takeTurn 9 = .ok (.tableswitch 129 0 2 #[27, 74, 85], 27) := by decide +kernel
theorem dX7_takeTurn_36 : decode cX7_takeTurn 36 = .ok (.iload_n 2, 1) := by decide +kernel
theorem dX7_takeTurn_37 : decode cX7_takeTurn 37 = .ok (.iconst 3, 1) := by decide +kernel
theorem dX7_takeTurn_38 : decode cX7_takeTurn 38 = .ok (.irem, 1) := by decide +kernel
theorem dX7_takeTurn_39 : decode cX7_takeTurn 39 = .ok (.ifCond .ne 29, 3) := by decide +kernel
theorem dX7_takeTurn_42 : decode cX7_takeTurn 42 = .ok (.aload_n 0, 1) := by decide +kernel
theorem dX7_takeTurn_43 : decode cX7_takeTurn 43 = .ok (.getfield 23, 3) := by decide +kernel
theorem dX7_takeTurn_46 : decode cX7_takeTurn 46 = .ok (.iconst 1, 1) := by decide +kernel
theorem dX7_takeTurn_47 : decode cX7_takeTurn 47 = .ok (.iload_n 2, 1) := by decide +kernel
theorem dX7_takeTurn_48 : decode cX7_takeTurn 48 = .ok (.bipush 20, 2) := by decide +kernel
theorem dX7_takeTurn_50 : decode cX7_takeTurn 50 = .ok (.irem, 1) := by decide +kernel
theorem dX7_takeTurn_51 : decode cX7_takeTurn 51 = .ok (.iadd, 1) := by decide +kernel
theorem dX7_takeTurn_52 : decode cX7_takeTurn 52 = .ok (.iconst 1, 1) := by decide +kernel
theorem dX7_takeTurn_53 : decode cX7_takeTurn 53 = .ok (.iload_n 2, 1) := by decide +kernel
theorem dX7_takeTurn_54 : decode cX7_takeTurn 54 = .ok (.bipush 32, 2) := by decide +kernel
theorem dX7_takeTurn_56 : decode cX7_takeTurn 56 = .ok (.idiv, 1) := by decide +kernel
theorem dX7_takeTurn_57 : decode cX7_takeTurn 57 = .ok (.bipush 20, 2) := by decide +kernel
theorem dX7_takeTurn_59 : decode cX7_takeTurn 59 = .ok (.irem, 1) := by decide +kernel
theorem dX7_takeTurn_60 : decode cX7_takeTurn 60 = .ok (.iadd, 1) := by decide +kernel
theorem dX7_takeTurn_61 : decode cX7_takeTurn 61 = .ok (.invokevirtual 138, 3) := by decide +kernel
theorem dX7_takeTurn_64 : decode cX7_takeTurn 64 = .ok (.pop, 1) := by decide +kernel
theorem dX7_takeTurn_65 : decode cX7_takeTurn 65 = .ok (.goto 124, 3) := by decide +kernel
theorem dX7_takeTurn_68 : decode cX7_takeTurn 68 = .ok (.aload_n 0, 1) := by decide +kernel
theorem dX7_takeTurn_69 : decode cX7_takeTurn 69 = .ok (.getfield 23, 3) := by decide +kernel
theorem dX7_takeTurn_72 : decode cX7_takeTurn 72 = .ok (.bipush 10, 2) := by decide +kernel
theorem dX7_takeTurn_74 : decode cX7_takeTurn 74 = .ok (.bipush 10, 2) := by decide +kernel
theorem dX7_takeTurn_76 : decode cX7_takeTurn 76 = .ok (.invokevirtual 138, 3) := by decide +kernel
theorem dX7_takeTurn_79 : decode cX7_takeTurn 79 = .ok (.pop, 1) := by decide +kernel
theorem dX7_takeTurn_80 : decode cX7_takeTurn 80 = .ok (.goto 109, 3) := by decide +kernel
theorem dX7_takeTurn_83 : decode cX7_takeTurn 83 = .ok (.aload_n 0, 1) := by decide +kernel
theorem dX7_takeTurn_84 : decode cX7_takeTurn 84 = .ok (.getfield 23, 3) := by decide +kernel
theorem dX7_takeTurn_87 : decode cX7_takeTurn 87 = .ok (.invokevirtual 246, 3) := by decide +kernel
theorem dX7_takeTurn_90 : decode cX7_takeTurn 90 = .ok (.pop, 1) := by decide +kernel
theorem dX7_takeTurn_91 : decode cX7_takeTurn 91 = .ok (.goto 98, 3) := by decide +kernel
theorem dX7_takeTurn_94 : decode cX7_takeTurn 94 = .ok (.aload_n 0, 1) := by decide +kernel
theorem dX7_takeTurn_95 : decode cX7_takeTurn 95 = .ok (.getfield 23, 3) := by decide +kernel
theorem dX7_takeTurn_98 : decode cX7_takeTurn 98 = .ok (.iload_n 2, 1) := by decide +kernel
theorem dX7_takeTurn_99 : decode cX7_takeTurn 99 = .ok (.bipush 12, 2) := by decide +kernel
theorem dX7_takeTurn_101 : decode cX7_takeTurn 101 = .ok (.irem, 1) := by decide +kernel
theorem dX7_takeTurn_102 : decode cX7_takeTurn 102 = .ok (.invokevirtual 178, 3) := by decide +kernel
theorem dX7_takeTurn_105 : decode cX7_takeTurn 105 = .ok (.ifCond .eq 84, 3) := by decide +kernel
theorem dX7_takeTurn_108 : decode cX7_takeTurn 108 = .ok (.aload_n 0, 1) := by decide +kernel
theorem dX7_takeTurn_109 : decode cX7_takeTurn 109 = .ok (.getfield 23, 3) := by decide +kernel
theorem dX7_takeTurn_112 : decode cX7_takeTurn 112 = .ok (.iload_n 2, 1) := by decide +kernel
theorem dX7_takeTurn_113 : decode cX7_takeTurn 113 = .ok (.bipush 12, 2) := by decide +kernel
theorem dX7_takeTurn_115 : decode cX7_takeTurn 115 = .ok (.irem, 1) := by decide +kernel
theorem dX7_takeTurn_116 : decode cX7_takeTurn 116 = .ok (.iload_n 2, 1) := by decide +kernel
theorem dX7_takeTurn_117 : decode cX7_takeTurn 117 = .ok (.bipush 16, 2) := by decide +kernel
theorem dX7_takeTurn_119 : decode cX7_takeTurn 119 = .ok (.idiv, 1) := by decide +kernel
theorem dX7_takeTurn_120 : decode cX7_takeTurn 120 = .ok (.iconst 2, 1) := by decide +kernel
theorem dX7_takeTurn_121 : decode cX7_takeTurn 121 = .ok (.irem, 1) := by decide +kernel
theorem dX7_takeTurn_122 : decode cX7_takeTurn 122 = .ok (.iconst 1, 1) := by decide +kernel
theorem dX7_takeTurn_123 : decode cX7_takeTurn 123 = .ok (.if_icmp .ne 7, 3) := by decide +kernel
theorem dX7_takeTurn_126 : decode cX7_takeTurn 126 = .ok (.iconst 1, 1) := by decide +kernel
theorem dX7_takeTurn_127 : decode cX7_takeTurn 127 = .ok (.goto 4, 3) := by decide +kernel
theorem dX7_takeTurn_130 : decode cX7_takeTurn 130 = .ok (.iconst 0, 1) := by decide +kernel
theorem dX7_takeTurn_131 : decode cX7_takeTurn 131 = .ok (.invokevirtual 232, 3) := by decide +kernel
theorem dX7_takeTurn_134 : decode cX7_takeTurn 134 = .ok (.pop, 1) := by decide +kernel
theorem dX7_takeTurn_135 : decode cX7_takeTurn 135 = .ok (.goto 54, 3) := by decide +kernel
theorem dX7_takeTurn_138 : decode cX7_takeTurn 138 = .ok (.iconst 1, 1) := by decide +kernel
theorem dX7_takeTurn_139 : decode cX7_takeTurn 139 = .ok (.aload_n 0, 1) := by decide +kernel
theorem dX7_takeTurn_140 : decode cX7_takeTurn 140 = .ok (.getfield 23, 3) := by decide +kernel
theorem dX7_takeTurn_143 : decode cX7_takeTurn 143 = .ok (.getfield 145, 3) := by decide +kernel
theorem dX7_takeTurn_146 : decode cX7_takeTurn 146 = .ok (.ishl, 1) := by decide +kernel
theorem dX7_takeTurn_147 : decode cX7_takeTurn 147 = .ok (.iconst 1, 1) := by decide +kernel
theorem dX7_takeTurn_148 : decode cX7_takeTurn 148 = .ok (.isub, 1) := by decide +kernel
theorem dX7_takeTurn_149 : decode cX7_takeTurn 149 = .ok (.istore_n 3, 1) := by decide +kernel
theorem dX7_takeTurn_150 : decode cX7_takeTurn 150 = .ok (.iload_n 2, 1) := by decide +kernel
theorem dX7_takeTurn_151 : decode cX7_takeTurn 151 = .ok (.sipush 4096, 3) := by decide +kernel
theorem dX7_takeTurn_154 : decode cX7_takeTurn 154 = .ok (.irem, 1) := by decide +kernel
theorem dX7_takeTurn_155 : decode cX7_takeTurn 155 = .ok (.iload_n 3, 1) := by decide +kernel
theorem dX7_takeTurn_156 : decode cX7_takeTurn 156 = .ok (.iand, 1) := by decide +kernel
theorem dX7_takeTurn_157 : decode cX7_takeTurn 157 = .ok (.istore 4, 2) := by decide +kernel
theorem dX7_takeTurn_159 : decode cX7_takeTurn 159 = .ok (.iload_n 2, 1) := by decide +kernel
theorem dX7_takeTurn_160 : decode cX7_takeTurn 160 = .ok (.sipush 4096, 3) := by decide +kernel
theorem dX7_takeTurn_163 : decode cX7_takeTurn 163 = .ok (.idiv, 1) := by decide +kernel
theorem dX7_takeTurn_164 : decode cX7_takeTurn 164 = .ok (.sipush 4096, 3) := by decide +kernel
theorem dX7_takeTurn_167 : decode cX7_takeTurn 167 = .ok (.irem, 1) := by decide +kernel
theorem dX7_takeTurn_168 : decode cX7_takeTurn 168 = .ok (.iload_n 3, 1) := by decide +kernel
theorem dX7_takeTurn_169 : decode cX7_takeTurn 169 = .ok (.iand, 1) := by decide +kernel
theorem dX7_takeTurn_170 : decode cX7_takeTurn 170 = .ok (.iload 4, 2) := by decide +kernel
theorem dX7_takeTurn_172 : decode cX7_takeTurn 172 = .ok (.iconst (-1), 1) := by decide +kernel
theorem dX7_takeTurn_173 : decode cX7_takeTurn 173 = .ok (.ixor, 1) := by decide +kernel
theorem dX7_takeTurn_174 : decode cX7_takeTurn 174 = .ok (.iand, 1) := by decide +kernel
theorem dX7_takeTurn_175 : decode cX7_takeTurn 175 = .ok (.istore 5, 2) := by decide +kernel
theorem dX7_takeTurn_177 : decode cX7_takeTurn 177 = .ok (.aload_n 0, 1) := by decide +kernel
theorem dX7_takeTurn_178 : decode cX7_takeTurn 178 = .ok (.getfield 23, 3) := by decide +kernel
theorem dX7_takeTurn_181 : decode cX7_takeTurn 181 = .ok (.iload 4, 2) := by decide +kernel
theorem dX7_takeTurn_183 : decode cX7_takeTurn 183 = .ok (.iload 5, 2) := by decide +kernel
theorem dX7_takeTurn_185 : decode cX7_takeTurn 185 = .ok (.invokevirtual 142, 3) := by decide +kernel
theorem dX7_takeTurn_188 : decode cX7_takeTurn 188 = .ok (.pop, 1) := by decide +kernel
theorem dX7_takeTurn_189 : decode cX7_takeTurn 189 = .ok (.return_, 1) := by decide +kernel
theorem dX7_withoutGroups_0 : decode cX7_withoutGroups 0 = .ok (.lload_n 0, 1) := by decide +kernel
theorem dX7_withoutGroups_1 : decode cX7_withoutGroups 1 = .ok (.lstore_n 3, 1) := by decide +kernel
theorem dX7_withoutGroups_2 : decode cX7_withoutGroups 2 = .ok (.iconst 0, 1) := by decide +kernel
theorem dX7_withoutGroups_3 : decode cX7_withoutGroups 3 = .ok (.istore 5, 2) := by decide +kernel
theorem dX7_withoutGroups_5 : decode cX7_withoutGroups 5 = .ok (.iload 5, 2) := by decide +kernel
theorem dX7_withoutGroups_7 : decode cX7_withoutGroups 7 = .ok (.iload_n 2, 1) := by decide +kernel
theorem dX7_withoutGroups_8 : decode cX7_withoutGroups 8 = .ok (.if_icmp .ge 15, 3) := by decide +kernel
theorem dX7_withoutGroups_11 : decode cX7_withoutGroups 11 = .ok (.lload_n 3, 1) := by decide +kernel
theorem dX7_withoutGroups_12 : decode cX7_withoutGroups 12 = .ok (.ldc2_w 293, 3) := by decide +kernel
theorem dX7_withoutGroups_15 : decode cX7_withoutGroups 15 = .ok (.ldiv, 1) := by decide +kernel
theorem dX7_withoutGroups_16 : decode cX7_withoutGroups 16 = .ok (.lstore_n 3, 1) := by decide +kernel
theorem dX7_withoutGroups_17 : decode cX7_withoutGroups 17 = .ok (.iinc 5 1, 3) := by decide +kernel
theorem dX7_withoutGroups_20 : decode cX7_withoutGroups 20 = .ok (.goto (-15), 3) := by decide +kernel
theorem dX7_withoutGroups_23 : decode cX7_withoutGroups 23 = .ok (.lload_n 3, 1) := by decide +kernel
theorem dX7_withoutGroups_24 : decode cX7_withoutGroups 24 = .ok (.lreturn, 1) := by decide +kernel
theorem dX7_weighingsFor_0 : decode cX7_weighingsFor 0 = .ok (.iconst 0, 1) := by decide +kernel
theorem dX7_weighingsFor_1 : decode cX7_weighingsFor 1 = .ok (.istore_n 1, 1) := by decide +kernel
theorem dX7_weighingsFor_2 : decode cX7_weighingsFor 2 = .ok (.iconst 1, 1) := by decide +kernel
theorem dX7_weighingsFor_3 : decode cX7_weighingsFor 3 = .ok (.istore_n 2, 1) := by decide +kernel
theorem dX7_weighingsFor_4 : decode cX7_weighingsFor 4 = .ok (.iconst 0, 1) := by decide +kernel
theorem dX7_weighingsFor_5 : decode cX7_weighingsFor 5 = .ok (.istore_n 3, 1) := by decide +kernel
theorem dX7_weighingsFor_6 : decode cX7_weighingsFor 6 = .ok (.iload_n 3, 1) := by decide +kernel
theorem dX7_weighingsFor_7 : decode cX7_weighingsFor 7 = .ok (.bipush 20, 2) := by decide +kernel
theorem dX7_weighingsFor_9 : decode cX7_weighingsFor 9 = .ok (.if_icmp .ge 21, 3) := by decide +kernel
theorem dX7_weighingsFor_12 : decode cX7_weighingsFor 12 = .ok (.iload_n 2, 1) := by decide +kernel
theorem dX7_weighingsFor_13 : decode cX7_weighingsFor 13 = .ok (.iload_n 0, 1) := by decide +kernel
theorem dX7_weighingsFor_14 : decode cX7_weighingsFor 14 = .ok (.if_icmp .ge 16, 3) := by decide +kernel
theorem dX7_weighingsFor_17 : decode cX7_weighingsFor 17 = .ok (.iload_n 2, 1) := by decide +kernel
theorem dX7_weighingsFor_18 : decode cX7_weighingsFor 18 = .ok (.iconst 3, 1) := by decide +kernel
theorem dX7_weighingsFor_19 : decode cX7_weighingsFor 19 = .ok (.imul, 1) := by decide +kernel
theorem dX7_weighingsFor_20 : decode cX7_weighingsFor 20 = .ok (.istore_n 2, 1) := by decide +kernel
theorem dX7_weighingsFor_21 : decode cX7_weighingsFor 21 = .ok (.iinc 1 1, 3) := by decide +kernel
theorem dX7_weighingsFor_24 : decode cX7_weighingsFor 24 = .ok (.iinc 3 1, 3) := by decide +kernel
theorem dX7_weighingsFor_27 : decode cX7_weighingsFor 27 = .ok (.goto (-21), 3) := by decide +kernel
theorem dX7_weighingsFor_30 : decode cX7_weighingsFor 30 = .ok (.iload_n 1, 1) := by decide +kernel
theorem dX7_weighingsFor_31 : decode cX7_weighingsFor 31 = .ok (.ireturn, 1) := by decide +kernel
theorem dX7_casesOf_0 : decode cX7_casesOf 0 = .ok (.iconst 3, 1) := by decide +kernel
theorem dX7_casesOf_1 : decode cX7_casesOf 1 = .ok (.iconst 2, 1) := by decide +kernel
theorem dX7_casesOf_2 : decode cX7_casesOf 2 = .ok (.iload_n 0, 1) := by decide +kernel
theorem dX7_casesOf_3 : decode cX7_casesOf 3 = .ok (.imul, 1) := by decide +kernel
theorem dX7_casesOf_4 : decode cX7_casesOf 4 = .ok (.iconst 1, 1) := by decide +kernel
theorem dX7_casesOf_5 : decode cX7_casesOf 5 = .ok (.iadd, 1) := by decide +kernel
theorem dX7_casesOf_6 : decode cX7_casesOf 6 = .ok (.imul, 1) := by decide +kernel
theorem dX7_casesOf_7 : decode cX7_casesOf 7 = .ok (.ireturn, 1) := by decide +kernel
theorem dX7_isArm_0 : decode cX7_isArm 0 = .ok (.iload_n 0, 1) := by decide +kernel
theorem dX7_isArm_1 : decode cX7_isArm 1 = .ok (.iconst 1, 1) := by decide +kernel
theorem dX7_isArm_2 : decode cX7_isArm 2 = .ok (.if_icmp .lt 13, 3) := by decide +kernel
theorem dX7_isArm_5 : decode cX7_isArm 5 = .ok (.iload_n 0, 1) := by decide +kernel
theorem dX7_isArm_6 : decode cX7_isArm 6 = .ok (.bipush 20, 2) := by decide +kernel
theorem dX7_isArm_8 : decode cX7_isArm 8 = .ok (.if_icmp .gt 7, 3) := by decide +kernel
theorem dX7_isArm_11 : decode cX7_isArm 11 = .ok (.iconst 1, 1) := by decide +kernel
theorem dX7_isArm_12 : decode cX7_isArm 12 = .ok (.goto 4, 3) := by decide +kernel
theorem dX7_isArm_15 : decode cX7_isArm 15 = .ok (.iconst 0, 1) := by decide +kernel
theorem dX7_isArm_16 : decode cX7_isArm 16 = .ok (.ireturn, 1) := by decide +kernel
theorem dX7_isPan_0 : decode cX7_isPan 0 = .ok (.iload_n 0, 1) := by decide +kernel
theorem dX7_isPan_1 : decode cX7_isPan 1 = .ok (.ifCond .lt 12, 3) := by decide +kernel
theorem dX7_isPan_4 : decode cX7_isPan 4 = .ok (.iload_n 0, 1) := by decide +kernel
theorem dX7_isPan_5 : decode cX7_isPan 5 = .ok (.iconst 3, 1) := by decide +kernel
theorem dX7_isPan_6 : decode cX7_isPan 6 = .ok (.if_icmp .ge 7, 3) := by decide +kernel
theorem dX7_isPan_9 : decode cX7_isPan 9 = .ok (.iconst 1, 1) := by decide +kernel
theorem dX7_isPan_10 : decode cX7_isPan 10 = .ok (.goto 4, 3) := by decide +kernel
theorem dX7_isPan_13 : decode cX7_isPan 13 = .ok (.iconst 0, 1) := by decide +kernel
theorem dX7_isPan_14 : decode cX7_isPan 14 = .ok (.ireturn, 1) := by decide +kernel
theorem dX7_setsOfOne_0 : decode cX7_setsOfOne 0 = .ok (.bipush 12, 2) := by decide +kernel
theorem dX7_setsOfOne_2 : decode cX7_setsOfOne 2 = .ok (.newarray .int, 2) := by decide +kernel
theorem dX7_setsOfOne_4 : decode cX7_setsOfOne 4 = .ok (.astore_n 0, 1) := by decide +kernel
theorem dX7_setsOfOne_5 : decode cX7_setsOfOne 5 = .ok (.iconst 0, 1) := by decide +kernel
theorem dX7_setsOfOne_6 : decode cX7_setsOfOne 6 = .ok (.istore_n 1, 1) := by decide +kernel
theorem dX7_setsOfOne_7 : decode cX7_setsOfOne 7 = .ok (.iload_n 1, 1) := by decide +kernel
theorem dX7_setsOfOne_8 : decode cX7_setsOfOne 8 = .ok (.aload_n 0, 1) := by decide +kernel
theorem dX7_setsOfOne_9 : decode cX7_setsOfOne 9 = .ok (.arraylength, 1) := by decide +kernel
theorem dX7_setsOfOne_10 : decode cX7_setsOfOne 10 = .ok (.if_icmp .ge 15, 3) := by decide +kernel
theorem dX7_setsOfOne_13 : decode cX7_setsOfOne 13 = .ok (.aload_n 0, 1) := by decide +kernel
theorem dX7_setsOfOne_14 : decode cX7_setsOfOne 14 = .ok (.iload_n 1, 1) := by decide +kernel
theorem dX7_setsOfOne_15 : decode cX7_setsOfOne 15 = .ok (.iconst 1, 1) := by decide +kernel
theorem dX7_setsOfOne_16 : decode cX7_setsOfOne 16 = .ok (.iload_n 1, 1) := by decide +kernel
theorem dX7_setsOfOne_17 : decode cX7_setsOfOne 17 = .ok (.ishl, 1) := by decide +kernel
theorem dX7_setsOfOne_18 : decode cX7_setsOfOne 18 = .ok (.iastore, 1) := by decide +kernel
theorem dX7_setsOfOne_19 : decode cX7_setsOfOne 19 = .ok (.iinc 1 1, 3) := by decide +kernel
theorem dX7_setsOfOne_22 : decode cX7_setsOfOne 22 = .ok (.goto (-15), 3) := by decide +kernel
theorem dX7_setsOfOne_25 : decode cX7_setsOfOne 25 = .ok (.aload_n 0, 1) := by decide +kernel
theorem dX7_setsOfOne_26 : decode cX7_setsOfOne 26 = .ok (.areturn, 1) := by decide +kernel
theorem dX7_setsOfTwo_0 : decode cX7_setsOfTwo 0 = .ok (.bipush 66, 2) := by decide +kernel
theorem dX7_setsOfTwo_2 : decode cX7_setsOfTwo 2 = .ok (.newarray .int, 2) := by decide +kernel
theorem dX7_setsOfTwo_4 : decode cX7_setsOfTwo 4 = .ok (.astore_n 0, 1) := by decide +kernel
theorem dX7_setsOfTwo_5 : decode cX7_setsOfTwo 5 = .ok (.iconst 0, 1) := by decide +kernel
theorem dX7_setsOfTwo_6 : decode cX7_setsOfTwo 6 = .ok (.istore_n 1, 1) := by decide +kernel
theorem dX7_setsOfTwo_7 : decode cX7_setsOfTwo 7 = .ok (.iconst 1, 1) := by decide +kernel
theorem dX7_setsOfTwo_8 : decode cX7_setsOfTwo 8 = .ok (.istore_n 2, 1) := by decide +kernel
theorem dX7_setsOfTwo_9 : decode cX7_setsOfTwo 9 = .ok (.iload_n 2, 1) := by decide +kernel
theorem dX7_setsOfTwo_10 : decode cX7_setsOfTwo 10 = .ok (.bipush 12, 2) := by decide +kernel
theorem dX7_setsOfTwo_12 : decode cX7_setsOfTwo 12 = .ok (.if_icmp .ge 41, 3) := by decide +kernel
theorem dX7_setsOfTwo_15 : decode cX7_setsOfTwo 15 = .ok (.iconst 0, 1) := by decide +kernel
theorem dX7_setsOfTwo_16 : decode cX7_setsOfTwo 16 = .ok (.istore_n 3, 1) := by decide +kernel
theorem dX7_setsOfTwo_17 : decode cX7_setsOfTwo 17 = .ok (.iload_n 3, 1) := by decide +kernel
theorem dX7_setsOfTwo_18 : decode cX7_setsOfTwo 18 = .ok (.iload_n 2, 1) := by decide +kernel
theorem dX7_setsOfTwo_19 : decode cX7_setsOfTwo 19 = .ok (.if_icmp .ge 28, 3) := by decide +kernel
theorem dX7_setsOfTwo_22 : decode cX7_setsOfTwo 22 = .ok (.iload_n 1, 1) := by decide +kernel
theorem dX7_setsOfTwo_23 : decode cX7_setsOfTwo 23 = .ok (.aload_n 0, 1) := by decide +kernel
theorem dX7_setsOfTwo_24 : decode cX7_setsOfTwo 24 = .ok (.arraylength, 1) := by decide +kernel
theorem dX7_setsOfTwo_25 : decode cX7_setsOfTwo 25 = .ok (.if_icmp .ge 22, 3) := by decide +kernel
theorem dX7_setsOfTwo_28 : decode cX7_setsOfTwo 28 = .ok (.aload_n 0, 1) := by decide +kernel
theorem dX7_setsOfTwo_29 : decode cX7_setsOfTwo 29 = .ok (.iload_n 1, 1) := by decide +kernel
theorem dX7_setsOfTwo_30 : decode cX7_setsOfTwo 30 = .ok (.iconst 1, 1) := by decide +kernel
theorem dX7_setsOfTwo_31 : decode cX7_setsOfTwo 31 = .ok (.iload_n 2, 1) := by decide +kernel
theorem dX7_setsOfTwo_32 : decode cX7_setsOfTwo 32 = .ok (.ishl, 1) := by decide +kernel
theorem dX7_setsOfTwo_33 : decode cX7_setsOfTwo 33 = .ok (.iconst 1, 1) := by decide +kernel
theorem dX7_setsOfTwo_34 : decode cX7_setsOfTwo 34 = .ok (.iload_n 3, 1) := by decide +kernel
theorem dX7_setsOfTwo_35 : decode cX7_setsOfTwo 35 = .ok (.ishl, 1) := by decide +kernel
theorem dX7_setsOfTwo_36 : decode cX7_setsOfTwo 36 = .ok (.ior, 1) := by decide +kernel
theorem dX7_setsOfTwo_37 : decode cX7_setsOfTwo 37 = .ok (.iastore, 1) := by decide +kernel
theorem dX7_setsOfTwo_38 : decode cX7_setsOfTwo 38 = .ok (.iinc 1 1, 3) := by decide +kernel
theorem dX7_setsOfTwo_41 : decode cX7_setsOfTwo 41 = .ok (.iinc 3 1, 3) := by decide +kernel
theorem dX7_setsOfTwo_44 : decode cX7_setsOfTwo 44 = .ok (.goto (-27), 3) := by decide +kernel
theorem dX7_setsOfTwo_47 : decode cX7_setsOfTwo 47 = .ok (.iinc 2 1, 3) := by decide +kernel
theorem dX7_setsOfTwo_50 : decode cX7_setsOfTwo 50 = .ok (.goto (-41), 3) := by decide +kernel
theorem dX7_setsOfTwo_53 : decode cX7_setsOfTwo 53 = .ok (.aload_n 0, 1) := by decide +kernel
theorem dX7_setsOfTwo_54 : decode cX7_setsOfTwo 54 = .ok (.areturn, 1) := by decide +kernel
set_option maxRecDepth 20000 in
theorem ggX8_init_X8_clear : GoodIn wsX8_init wsX8_clear := goodIn_r _ [17] (by decide +kernel) (by decide +kernel)
set_option maxRecDepth 20000 in
theorem gX8_init_X8_clear : GoodIn wsX8_init (va_wsS RX8 35 yX8_clear wsX8_clear) := goodIn_app (goodIn_of _ (by decide +kernel)) ggX8_init_X8_clear
theorem dX8_init_0 : decode cX8_init 0 = .ok (.aload_n 0, 1) := by decide +kernel
theorem dX8_init_1 : decode cX8_init 1 = .ok (.invokespecial 1, 3) := by decide +kernel
theorem dX8_init_4 : decode cX8_init 4 = .ok (.aload_n 0, 1) := by decide +kernel
theorem dX8_init_5 : decode cX8_init 5 = .ok (.bipush 120, 2) := by decide +kernel
theorem dX8_init_7 : decode cX8_init 7 = .ok (.newarray .int, 2) := by decide +kernel
theorem dX8_init_9 : decode cX8_init 9 = .ok (.putfield 7, 3) := by decide +kernel
theorem dX8_init_12 : decode cX8_init 12 = .ok (.aload_n 0, 1) := by decide +kernel
theorem dX8_init_13 : decode cX8_init 13 = .ok (.bipush 107, 2) := by decide +kernel
theorem dX8_init_15 : decode cX8_init 15 = .ok (.newarray .int, 2) := by decide +kernel
theorem dX8_init_17 : decode cX8_init 17 = .ok (.putfield 13, 3) := by decide +kernel
theorem dX8_init_20 : decode cX8_init 20 = .ok (.aload_n 0, 1) := by decide +kernel
theorem dX8_init_21 : decode cX8_init 21 = .ok (.bipush 107, 2) := by decide +kernel
theorem dX8_init_23 : decode cX8_init 23 = .ok (.newarray .int, 2) := by decide +kernel
theorem dX8_init_25 : decode cX8_init 25 = .ok (.putfield 16, 3) := by decide +kernel
theorem dX8_init_28 : decode cX8_init 28 = .ok (.aload_n 0, 1) := by decide +kernel
theorem dX8_init_29 : decode cX8_init 29 = .ok (.sipush 1498, 3) := by decide +kernel
theorem dX8_init_32 : decode cX8_init 32 = .ok (.newarray .int, 2) := by decide +kernel
theorem dX8_init_34 : decode cX8_init 34 = .ok (.putfield 19, 3) := by decide +kernel
theorem dX8_init_37 : decode cX8_init 37 = .ok (.aload_n 0, 1) := by decide +kernel
theorem dX8_init_38 : decode cX8_init 38 = .ok (.sipush 214, 3) := by decide +kernel
theorem dX8_init_41 : decode cX8_init 41 = .ok (.newarray .int, 2) := by decide +kernel
theorem dX8_init_43 : decode cX8_init 43 = .ok (.putfield 22, 3) := by decide +kernel
theorem dX8_init_46 : decode cX8_init 46 = .ok (.aload_n 0, 1) := by decide +kernel
theorem dX8_init_47 : decode cX8_init 47 = .ok (.iconst 2, 1) := by decide +kernel
theorem dX8_init_48 : decode cX8_init 48 = .ok (.newarray .boolean, 2) := by decide +kernel
theorem dX8_init_50 : decode cX8_init 50 = .ok (.putfield 25, 3) := by decide +kernel
theorem dX8_init_53 : decode cX8_init 53 = .ok (.aload_n 0, 1) := by decide +kernel
theorem dX8_init_54 : decode cX8_init 54 = .ok (.bipush 75, 2) := by decide +kernel
theorem dX8_init_56 : decode cX8_init 56 = .ok (.newarray .int, 2) := by decide +kernel
theorem dX8_init_58 : decode cX8_init 58 = .ok (.putfield 29, 3) := by decide +kernel
theorem dX8_init_61 : decode cX8_init 61 = .ok (.aload_n 0, 1) := by decide +kernel
theorem dX8_init_62 : decode cX8_init 62 = .ok (.iconst 3, 1) := by decide +kernel
theorem dX8_init_63 : decode cX8_init 63 = .ok (.newarray .int, 2) := by decide +kernel
theorem dX8_init_65 : decode cX8_init 65 = .ok (.putfield 32, 3) := by decide +kernel
theorem dX8_init_68 : decode cX8_init 68 = .ok (.aload_n 0, 1) := by decide +kernel
theorem dX8_init_69 : decode cX8_init 69 = .ok (.getfield 13, 3) := by decide +kernel
theorem dX8_init_72 : decode cX8_init 72 = .ok (.invokestatic 35, 3) := by decide +kernel
theorem dX8_init_75 : decode cX8_init 75 = .ok (.return_, 1) := by decide +kernel
theorem dX8_thrown_0 : decode cX8_thrown 0 = .ok (.aload_n 0, 1) := by decide +kernel
theorem dX8_thrown_1 : decode cX8_thrown 1 = .ok (.getfield 39, 3) := by decide +kernel
theorem dX8_thrown_4 : decode cX8_thrown 4 = .ok (.ireturn, 1) := by decide +kernel
theorem dX8_refused_0 : decode cX8_refused 0 = .ok (.aload_n 0, 1) := by decide +kernel
theorem dX8_refused_1 : decode cX8_refused 1 = .ok (.iload_n 1, 1) := by decide +kernel
theorem dX8_refused_2 : decode cX8_refused 2 = .ok (.putfield 39, 3) := by decide +kernel
theorem dX8_refused_5 : decode cX8_refused 5 = .ok (.iload_n 1, 1) := by decide +kernel
theorem dX8_refused_6 : decode cX8_refused 6 = .ok (.ifCond .le 7, 3) := by decide +kernel
theorem dX8_refused_9 : decode cX8_refused 9 = .ok (.iconst 1, 1) := by decide +kernel
theorem dX8_refused_10 : decode cX8_refused 10 = .ok (.goto 4, 3) := by decide +kernel
theorem dX8_refused_13 : decode cX8_refused 13 = .ok (.iconst 0, 1) := by decide +kernel
theorem dX8_refused_14 : decode cX8_refused 14 = .ok (.ireturn, 1) := by decide +kernel
theorem dX8_in_0 : decode cX8_in 0 = .ok (.lload_n 0, 1) := by decide +kernel
theorem dX8_in_1 : decode cX8_in 1 = .ok (.lload_n 2, 1) := by decide +kernel
theorem dX8_in_2 : decode cX8_in 2 = .ok (.lcmp, 1) := by decide +kernel
theorem dX8_in_3 : decode cX8_in 3 = .ok (.ifCond .lt 14, 3) := by decide +kernel
theorem dX8_in_6 : decode cX8_in 6 = .ok (.lload_n 0, 1) := by decide +kernel
theorem dX8_in_7 : decode cX8_in 7 = .ok (.lload 4, 2) := by decide +kernel
theorem dX8_in_9 : decode cX8_in 9 = .ok (.lcmp, 1) := by decide +kernel
theorem dX8_in_10 : decode cX8_in 10 = .ok (.ifCond .gt 7, 3) := by decide +kernel
theorem dX8_in_13 : decode cX8_in 13 = .ok (.iconst 1, 1) := by decide +kernel
theorem dX8_in_14 : decode cX8_in 14 = .ok (.goto 4, 3) := by decide +kernel
theorem dX8_in_17 : decode cX8_in 17 = .ok (.iconst 0, 1) := by decide +kernel
theorem dX8_in_18 : decode cX8_in 18 = .ok (.ireturn, 1) := by decide +kernel
theorem dX8_copyState_0 : decode cX8_copyState 0 = .ok (.iconst 0, 1) := by decide +kernel
theorem dX8_copyState_1 : decode cX8_copyState 1 = .ok (.istore 4, 2) := by decide +kernel
theorem dX8_copyState_3 : decode cX8_copyState 3 = .ok (.iload 4, 2) := by decide +kernel
theorem dX8_copyState_5 : decode cX8_copyState 5 = .ok (.bipush 107, 2) := by decide +kernel
theorem dX8_copyState_7 : decode cX8_copyState 7 = .ok (.if_icmp .ge 21, 3) := by decide +kernel
theorem dX8_copyState_10 : decode cX8_copyState 10 = .ok (.aload_n 2, 1) := by decide +kernel
theorem dX8_copyState_11 : decode cX8_copyState 11 = .ok (.iload_n 3, 1) := by decide +kernel
theorem dX8_copyState_12 : decode cX8_copyState 12 = .ok (.iload 4, 2) := by decide +kernel
theorem dX8_copyState_14 : decode cX8_copyState 14 = .ok (.iadd, 1) := by decide +kernel
theorem dX8_copyState_15 : decode cX8_copyState 15 = .ok (.aload_n 0, 1) := by decide +kernel
theorem dX8_copyState_16 : decode cX8_copyState 16 = .ok (.iload_n 1, 1) := by decide +kernel
theorem dX8_copyState_17 : decode cX8_copyState 17 = .ok (.iload 4, 2) := by decide +kernel
theorem dX8_copyState_19 : decode cX8_copyState 19 = .ok (.iadd, 1) := by decide +kernel
theorem dX8_copyState_20 : decode cX8_copyState 20 = .ok (.iaload, 1) := by decide +kernel
theorem dX8_copyState_21 : decode cX8_copyState 21 = .ok (.iastore, 1) := by decide +kernel
theorem dX8_copyState_22 : decode cX8_copyState 22 = .ok (.iinc 4 1, 3) := by decide +kernel
theorem dX8_copyState_25 : decode cX8_copyState 25 = .ok (.goto (-22), 3) := by decide +kernel
theorem dX8_copyState_28 : decode cX8_copyState 28 = .ok (.return_, 1) := by decide +kernel
theorem dX8_clear_0 : decode cX8_clear 0 = .ok (.iconst 0, 1) := by decide +kernel
theorem dX8_clear_1 : decode cX8_clear 1 = .ok (.istore_n 1, 1) := by decide +kernel
theorem dX8_clear_2 : decode cX8_clear 2 = .ok (.iload_n 1, 1) := by decide +kernel
theorem dX8_clear_3 : decode cX8_clear 3 = .ok (.bipush 107, 2) := by decide +kernel
theorem dX8_clear_5 : decode cX8_clear 5 = .ok (.if_icmp .ge 13, 3) := by decide +kernel
theorem dX8_clear_8 : decode cX8_clear 8 = .ok (.aload_n 0, 1) := by decide +kernel
theorem dX8_clear_9 : decode cX8_clear 9 = .ok (.iload_n 1, 1) := by decide +kernel
theorem dX8_clear_10 : decode cX8_clear 10 = .ok (.iconst 0, 1) := by decide +kernel
theorem dX8_clear_11 : decode cX8_clear 11 = .ok (.iastore, 1) := by decide +kernel
theorem dX8_clear_12 : decode cX8_clear 12 = .ok (.iinc 1 1, 3) := by decide +kernel
theorem dX8_clear_15 : decode cX8_clear 15 = .ok (.goto (-13), 3) := by decide +kernel
theorem dX8_clear_18 : decode cX8_clear 18 = .ok (.aload_n 0, 1) := by decide +kernel
theorem dX8_clear_19 : decode cX8_clear 19 = .ok (.iconst 0, 1) := by decide +kernel
theorem dX8_clear_20 : decode cX8_clear 20 = .ok (.bipush 9, 2) := by decide +kernel
theorem dX8_clear_22 : decode cX8_clear 22 = .ok (.iastore, 1) := by decide +kernel
theorem dX8_clear_23 : decode cX8_clear 23 = .ok (.aload_n 0, 1) := by decide +kernel
theorem dX8_clear_24 : decode cX8_clear 24 = .ok (.iconst 2, 1) := by decide +kernel
theorem dX8_clear_25 : decode cX8_clear 25 = .ok (.bipush 10, 2) := by decide +kernel
theorem dX8_clear_27 : decode cX8_clear 27 = .ok (.iastore, 1) := by decide +kernel
theorem dX8_clear_28 : decode cX8_clear 28 = .ok (.aload_n 0, 1) := by decide +kernel
theorem dX8_clear_29 : decode cX8_clear 29 = .ok (.iconst 3, 1) := by decide +kernel
theorem dX8_clear_30 : decode cX8_clear 30 = .ok (.bipush 10, 2) := by decide +kernel
theorem dX8_clear_32 : decode cX8_clear 32 = .ok (.iastore, 1) := by decide +kernel
theorem dX8_clear_33 : decode cX8_clear 33 = .ok (.return_, 1) := by decide +kernel
theorem dX8_allOf_0 : decode cX8_allOf 0 = .ok (.iconst 3, 1) := by decide +kernel
theorem dX8_allOf_1 : decode cX8_allOf 1 = .ok (.iconst 2, 1) := by decide +kernel
theorem dX8_allOf_2 : decode cX8_allOf 2 = .ok (.iload_n 0, 1) := by decide +kernel
theorem dX8_allOf_3 : decode cX8_allOf 3 = .ok (.imul, 1) := by decide +kernel
theorem dX8_allOf_4 : decode cX8_allOf 4 = .ok (.iconst 1, 1) := by decide +kernel
theorem dX8_allOf_5 : decode cX8_allOf 5 = .ok (.iadd, 1) := by decide +kernel
theorem dX8_allOf_6 : decode cX8_allOf 6 = .ok (.imul, 1) := by decide +kernel
theorem dX8_allOf_7 : decode cX8_allOf 7 = .ok (.ireturn, 1) := by decide +kernel
set_option maxRecDepth 20000 in
theorem ggX8_isCoin_X8_in : GoodIn wsX8_isCoin wsX8_in := goodIn_r _ [4] (by decide +kernel) (by decide +kernel)
set_option maxRecDepth 20000 in
theorem gX8_isCoin_X8_in : GoodIn wsX8_isCoin (va_wsS RX8 43 yX8_in wsX8_in) := goodIn_app (goodIn_of _ (by decide +kernel)) ggX8_isCoin_X8_in
theorem dX8_isCoin_0 : decode cX8_isCoin 0 = .ok (.iload_n 1, 1) := by decide +kernel
theorem dX8_isCoin_1 : decode cX8_isCoin 1 = .ok (.i2l, 1) := by decide +kernel
theorem dX8_isCoin_2 : decode cX8_isCoin 2 = .ok (.lconst 0, 1) := by decide +kernel
theorem dX8_isCoin_3 : decode cX8_isCoin 3 = .ok (.aload_n 0, 1) := by decide +kernel
theorem dX8_isCoin_4 : decode cX8_isCoin 4 = .ok (.iconst 0, 1) := by decide +kernel
theorem dX8_isCoin_5 : decode cX8_isCoin 5 = .ok (.iaload, 1) := by decide +kernel
theorem dX8_isCoin_6 : decode cX8_isCoin 6 = .ok (.iconst 1, 1) := by decide +kernel
theorem dX8_isCoin_7 : decode cX8_isCoin 7 = .ok (.isub, 1) := by decide +kernel
theorem dX8_isCoin_8 : decode cX8_isCoin 8 = .ok (.i2l, 1) := by decide +kernel
theorem dX8_isCoin_9 : decode cX8_isCoin 9 = .ok (.invokestatic 43, 3) := by decide +kernel
theorem dX8_isCoin_12 : decode cX8_isCoin 12 = .ok (.ireturn, 1) := by decide +kernel
set_option maxRecDepth 20000 in
theorem ggX8_isCoins_X8_in : GoodIn wsX8_isCoins wsX8_in := goodIn_r _ [6] (by decide +kernel) (by decide +kernel)
