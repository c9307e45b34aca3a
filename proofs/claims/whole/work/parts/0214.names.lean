set_option maxRecDepth 20000 in
theorem gX8_readCommand_X8_sign : GoodIn wsX8_readCommand (wsV RX8 109 RX8 yX8_sign wsX8_sign) := goodIn_app (goodIn_of _ (by decide +kernel)) ggX8_readCommand_X8_sign
set_option maxRecDepth 20000 in
theorem ggX8_readCommand_X8_letters : GoodIn wsX8_readCommand wsX8_letters := goodIn_r _ [12, 13, 1, 2, 3, 4, 5, 6, 7, 8, 14, 15, 16, 54, 55, 56, 57, 58, 59, 60, 61, 62, 63, 64, 65, 66, 67] (by decide +kernel) (by decide +kernel)
set_option maxRecDepth 20000 in
theorem gX8_readCommand_X8_letters : GoodIn wsX8_readCommand (wsV RX8 120 RX8 yX8_letters wsX8_letters) := goodIn_app (goodIn_of _ (by decide +kernel)) ggX8_readCommand_X8_letters
set_option maxRecDepth 20000 in
theorem ggX8_readCommand_X8_canWeigh : GoodIn wsX8_readCommand wsX8_canWeigh := goodIn_r _ [19, 20, 21, 5, 22, 23, 24, 25, 14, 15, 16] (by decide +kernel) (by decide +kernel)
set_option maxRecDepth 20000 in
theorem gX8_readCommand_X8_canWeigh : GoodIn wsX8_readCommand (va_wsS RX8 123 yX8_canWeigh wsX8_canWeigh) := goodIn_app (goodIn_of _ (by decide +kernel)) ggX8_readCommand_X8_canWeigh
set_option maxRecDepth 20000 in
theorem ggX8_readCommand_X8_weighOn : GoodIn wsX8_readCommand wsX8_weighOn := goodIn_r _ [28, 29, 30, 5, 31, 32, 33, 34, 35, 36, 37, 38, 39, 40] (by decide +kernel) (by decide +kernel)
set_option maxRecDepth 20000 in
theorem gX8_readCommand_X8_weighOn : GoodIn wsX8_readCommand (va_wsS RX8 126 yX8_weighOn wsX8_weighOn) := goodIn_app (goodIn_of _ (by decide +kernel)) ggX8_readCommand_X8_weighOn
set_option maxRecDepth 20000 in
theorem ggX8_readCommand_X8_done : GoodIn wsX8_readCommand wsX8_done := goodIn_r _ [44, 45, 54, 55, 56, 57, 58, 59, 60, 61, 62, 63, 64, 65, 66, 67] (by decide +kernel) (by decide +kernel)
set_option maxRecDepth 20000 in
theorem gX8_readCommand_X8_done : GoodIn wsX8_readCommand (wsV RX8 130 RX8 yX8_done wsX8_done) := goodIn_app (goodIn_of _ (by decide +kernel)) ggX8_readCommand_X8_done
set_option maxRecDepth 20000 in
theorem ggX8_readCommand_X8_figures : GoodIn wsX8_readCommand wsX8_figures := goodIn_r _ [49, 50, 1, 2, 3, 4, 5, 6, 7, 8, 14, 15, 16, 54, 55, 56, 57, 58, 59, 60, 61, 62, 63, 64, 65, 66, 67] (by decide +kernel) (by decide +kernel)
set_option maxRecDepth 20000 in
theorem gX8_readCommand_X8_figures : GoodIn wsX8_readCommand (wsV RX8 134 RX8 yX8_figures wsX8_figures) := goodIn_app (goodIn_of _ (by decide +kernel)) ggX8_readCommand_X8_figures
set_option maxRecDepth 20000 in
theorem ggX8_readCommand_X8_armsOn : GoodIn wsX8_readCommand wsX8_armsOn := goodIn_r _ [53] (by decide +kernel) (by decide +kernel)
set_option maxRecDepth 20000 in
theorem gX8_readCommand_X8_armsOn : GoodIn wsX8_readCommand (va_wsS RX8 138 yX8_armsOn wsX8_armsOn) := goodIn_app (goodIn_of _ (by decide +kernel)) ggX8_readCommand_X8_armsOn
theorem dX8_readCommand_0 : decode cX8_readCommand 0 = .ok (.aload_n 0, 1) := by decide +kernel
theorem dX8_readCommand_1 : decode cX8_readCommand 1 = .ok (.invokevirtual 109, 3) := by decide +kernel
theorem dX8_readCommand_4 : decode cX8_readCommand 4 = .ok (.lookupswitch 164 #[(97, 102), (119, 28)], 28) := by decide +kernel
theorem dX8_readCommand_32 : decode cX8_readCommand 32 = .ok (.aload_n 0, 1) := by decide +kernel
theorem dX8_readCommand_33 : decode cX8_readCommand 33 = .ok (.dup, 1) := by decide +kernel
theorem dX8_readCommand_34 : decode cX8_readCommand 34 = .ok (.getfield 106, 3) := by decide +kernel
theorem dX8_readCommand_37 : decode cX8_readCommand 37 = .ok (.iconst 1, 1) := by decide +kernel
theorem dX8_readCommand_38 : decode cX8_readCommand 38 = .ok (.iadd, 1) := by decide +kernel
theorem dX8_readCommand_39 : decode cX8_readCommand 39 = .ok (.putfield 106, 3) := by decide +kernel
theorem dX8_readCommand_42 : decode cX8_readCommand 42 = .ok (.aload_n 0, 1) := by decide +kernel
theorem dX8_readCommand_43 : decode cX8_readCommand 43 = .ok (.bipush 118, 2) := by decide +kernel
theorem dX8_readCommand_45 : decode cX8_readCommand 45 = .ok (.invokevirtual 120, 3) := by decide +kernel
theorem dX8_readCommand_48 : decode cX8_readCommand 48 = .ok (.istore_n 2, 1) := by decide +kernel
theorem dX8_readCommand_49 : decode cX8_readCommand 49 = .ok (.iload_n 2, 1) := by decide +kernel
theorem dX8_readCommand_50 : decode cX8_readCommand 50 = .ok (.iconst (-1), 1) := by decide +kernel
theorem dX8_readCommand_51 : decode cX8_readCommand 51 = .ok (.if_icmp .ne 7, 3) := by decide +kernel
theorem dX8_readCommand_54 : decode cX8_readCommand 54 = .ok (.iconst (-1), 1) := by decide +kernel
theorem dX8_readCommand_55 : decode cX8_readCommand 55 = .ok (.goto 9, 3) := by decide +kernel
theorem dX8_readCommand_58 : decode cX8_readCommand 58 = .ok (.aload_n 0, 1) := by decide +kernel
theorem dX8_readCommand_59 : decode cX8_readCommand 59 = .ok (.bipush 46, 2) := by decide +kernel
theorem dX8_readCommand_61 : decode cX8_readCommand 61 = .ok (.invokevirtual 120, 3) := by decide +kernel
theorem dX8_readCommand_64 : decode cX8_readCommand 64 = .ok (.istore_n 3, 1) := by decide +kernel
theorem dX8_readCommand_65 : decode cX8_readCommand 65 = .ok (.iload_n 3, 1) := by decide +kernel
theorem dX8_readCommand_66 : decode cX8_readCommand 66 = .ok (.iconst (-1), 1) := by decide +kernel
theorem dX8_readCommand_67 : decode cX8_readCommand 67 = .ok (.if_icmp .eq 37, 3) := by decide +kernel
theorem dX8_readCommand_70 : decode cX8_readCommand 70 = .ok (.aload_n 0, 1) := by decide +kernel
theorem dX8_readCommand_71 : decode cX8_readCommand 71 = .ok (.aload_n 1, 1) := by decide +kernel
theorem dX8_readCommand_72 : decode cX8_readCommand 72 = .ok (.iload_n 2, 1) := by decide +kernel
theorem dX8_readCommand_73 : decode cX8_readCommand 73 = .ok (.iload_n 3, 1) := by decide +kernel
theorem dX8_readCommand_74 : decode cX8_readCommand 74 = .ok (.invokestatic 123, 3) := by decide +kernel
theorem dX8_readCommand_77 : decode cX8_readCommand 77 = .ok (.ifCond .eq 16, 3) := by decide +kernel
theorem dX8_readCommand_80 : decode cX8_readCommand 80 = .ok (.aload_n 1, 1) := by decide +kernel
theorem dX8_readCommand_81 : decode cX8_readCommand 81 = .ok (.iload_n 2, 1) := by decide +kernel
theorem dX8_readCommand_82 : decode cX8_readCommand 82 = .ok (.iload_n 3, 1) := by decide +kernel
theorem dX8_readCommand_83 : decode cX8_readCommand 83 = .ok (.invokestatic 126, 3) := by decide +kernel
theorem dX8_readCommand_86 : decode cX8_readCommand 86 = .ok (.ifCond .lt 7, 3) := by decide +kernel
theorem dX8_readCommand_89 : decode cX8_readCommand 89 = .ok (.iconst 1, 1) := by decide +kernel
theorem dX8_readCommand_90 : decode cX8_readCommand 90 = .ok (.goto 4, 3) := by decide +kernel
theorem dX8_readCommand_93 : decode cX8_readCommand 93 = .ok (.iconst 0, 1) := by decide +kernel
theorem dX8_readCommand_94 : decode cX8_readCommand 94 = .ok (.invokevirtual 130, 3) := by decide +kernel
theorem dX8_readCommand_97 : decode cX8_readCommand 97 = .ok (.ifCond .eq 7, 3) := by decide +kernel
theorem dX8_readCommand_100 : decode cX8_readCommand 100 = .ok (.iconst 1, 1) := by decide +kernel
theorem dX8_readCommand_101 : decode cX8_readCommand 101 = .ok (.goto 4, 3) := by decide +kernel
theorem dX8_readCommand_104 : decode cX8_readCommand 104 = .ok (.iconst 0, 1) := by decide +kernel
theorem dX8_readCommand_105 : decode cX8_readCommand 105 = .ok (.ireturn, 1) := by decide +kernel
theorem dX8_readCommand_106 : decode cX8_readCommand 106 = .ok (.aload_n 0, 1) := by decide +kernel
theorem dX8_readCommand_107 : decode cX8_readCommand 107 = .ok (.dup, 1) := by decide +kernel
theorem dX8_readCommand_108 : decode cX8_readCommand 108 = .ok (.getfield 106, 3) := by decide +kernel
theorem dX8_readCommand_111 : decode cX8_readCommand 111 = .ok (.iconst 1, 1) := by decide +kernel
theorem dX8_readCommand_112 : decode cX8_readCommand 112 = .ok (.iadd, 1) := by decide +kernel
theorem dX8_readCommand_113 : decode cX8_readCommand 113 = .ok (.putfield 106, 3) := by decide +kernel
theorem dX8_readCommand_116 : decode cX8_readCommand 116 = .ok (.aload_n 0, 1) := by decide +kernel
theorem dX8_readCommand_117 : decode cX8_readCommand 117 = .ok (.iconst 0, 1) := by decide +kernel
theorem dX8_readCommand_118 : decode cX8_readCommand 118 = .ok (.iconst 2, 1) := by decide +kernel
theorem dX8_readCommand_119 : decode cX8_readCommand 119 = .ok (.iconst 1, 1) := by decide +kernel
theorem dX8_readCommand_120 : decode cX8_readCommand 120 = .ok (.bipush 20, 2) := by decide +kernel
theorem dX8_readCommand_122 : decode cX8_readCommand 122 = .ok (.invokevirtual 134, 3) := by decide +kernel
theorem dX8_readCommand_125 : decode cX8_readCommand 125 = .ok (.istore_n 2, 1) := by decide +kernel
theorem dX8_readCommand_126 : decode cX8_readCommand 126 = .ok (.aload_n 0, 1) := by decide +kernel
theorem dX8_readCommand_127 : decode cX8_readCommand 127 = .ok (.iload_n 2, 1) := by decide +kernel
theorem dX8_readCommand_128 : decode cX8_readCommand 128 = .ok (.iconst 2, 1) := by decide +kernel
theorem dX8_readCommand_129 : decode cX8_readCommand 129 = .ok (.iconst 1, 1) := by decide +kernel
theorem dX8_readCommand_130 : decode cX8_readCommand 130 = .ok (.bipush 20, 2) := by decide +kernel
theorem dX8_readCommand_132 : decode cX8_readCommand 132 = .ok (.invokevirtual 134, 3) := by decide +kernel
theorem dX8_readCommand_135 : decode cX8_readCommand 135 = .ok (.istore_n 3, 1) := by decide +kernel
theorem dX8_readCommand_136 : decode cX8_readCommand 136 = .ok (.iload_n 3, 1) := by decide +kernel
theorem dX8_readCommand_137 : decode cX8_readCommand 137 = .ok (.iconst (-1), 1) := by decide +kernel
theorem dX8_readCommand_138 : decode cX8_readCommand 138 = .ok (.if_icmp .eq 28, 3) := by decide +kernel
theorem dX8_readCommand_141 : decode cX8_readCommand 141 = .ok (.aload_n 0, 1) := by decide +kernel
theorem dX8_readCommand_142 : decode cX8_readCommand 142 = .ok (.aload_n 1, 1) := by decide +kernel
theorem dX8_readCommand_143 : decode cX8_readCommand 143 = .ok (.iload_n 2, 1) := by decide +kernel
theorem dX8_readCommand_144 : decode cX8_readCommand 144 = .ok (.iload_n 3, 1) := by decide +kernel
theorem dX8_readCommand_145 : decode cX8_readCommand 145 = .ok (.invokestatic 138, 3) := by decide +kernel
theorem dX8_readCommand_148 : decode cX8_readCommand 148 = .ok (.ifCond .lt 7, 3) := by decide +kernel
theorem dX8_readCommand_151 : decode cX8_readCommand 151 = .ok (.iconst 1, 1) := by decide +kernel
theorem dX8_readCommand_152 : decode cX8_readCommand 152 = .ok (.goto 4, 3) := by decide +kernel
theorem dX8_readCommand_155 : decode cX8_readCommand 155 = .ok (.iconst 0, 1) := by decide +kernel
theorem dX8_readCommand_156 : decode cX8_readCommand 156 = .ok (.invokevirtual 130, 3) := by decide +kernel
theorem dX8_readCommand_159 : decode cX8_readCommand 159 = .ok (.ifCond .eq 7, 3) := by decide +kernel
theorem dX8_readCommand_162 : decode cX8_readCommand 162 = .ok (.iconst 1, 1) := by decide +kernel
theorem dX8_readCommand_163 : decode cX8_readCommand 163 = .ok (.goto 4, 3) := by decide +kernel
theorem dX8_readCommand_166 : decode cX8_readCommand 166 = .ok (.iconst 0, 1) := by decide +kernel
theorem dX8_readCommand_167 : decode cX8_readCommand 167 = .ok (.ireturn, 1) := by decide +kernel
theorem dX8_readCommand_168 : decode cX8_readCommand 168 = .ok (.iconst 0, 1) := by decide +kernel
theorem dX8_readCommand_169 : decode cX8_readCommand 169 = .ok (.ireturn, 1) := by decide +kernel
set_option maxRecDepth 20000 in
theorem ggX8_readCase_X8_figures : GoodIn wsX8_readCase wsX8_figures := goodIn_r _ [6, 7, 1, 8, 9, 10, 5, 11, 12, 13, 14, 15, 16, 23, 24, 25, 26, 27, 28, 29, 30, 31, 32, 33, 34, 35, 36] (by decide +kernel) (by decide +kernel)
set_option maxRecDepth 20000 in
theorem gX8_readCase_X8_figures : GoodIn wsX8_readCase (wsV RX8 134 RX8 yX8_figures wsX8_figures) := goodIn_app (goodIn_of _ (by decide +kernel)) ggX8_readCase_X8_figures
set_option maxRecDepth 20000 in
theorem ggX8_readCase_X8_sign : GoodIn wsX8_readCase wsX8_sign := goodIn_r _ [11, 1, 12, 13, 23, 24, 25, 26, 27, 28, 29, 30, 31, 32, 33, 34, 35, 36] (by decide +kernel) (by decide +kernel)
set_option maxRecDepth 20000 in
theorem gX8_readCase_X8_sign : GoodIn wsX8_readCase (wsV RX8 109 RX8 yX8_sign wsX8_sign) := goodIn_app (goodIn_of _ (by decide +kernel)) ggX8_readCase_X8_sign
set_option maxRecDepth 20000 in
theorem ggX8_readCase_X8_hideOn : GoodIn wsX8_readCase wsX8_hideOn := goodIn_r _ [19, 20, 21, 5, 22] (by decide +kernel) (by decide +kernel)
set_option maxRecDepth 20000 in
theorem gX8_readCase_X8_hideOn : GoodIn wsX8_readCase (va_wsS RX8 141 yX8_hideOn wsX8_hideOn) := goodIn_app (goodIn_of _ (by decide +kernel)) ggX8_readCase_X8_hideOn
theorem dX8_readCase_0 : decode cX8_readCase 0 = .ok (.aload_n 0, 1) := by decide +kernel
theorem dX8_readCase_1 : decode cX8_readCase 1 = .ok (.iconst 0, 1) := by decide +kernel
theorem dX8_readCase_2 : decode cX8_readCase 2 = .ok (.iconst 2, 1) := by decide +kernel
theorem dX8_readCase_3 : decode cX8_readCase 3 = .ok (.iconst 3, 1) := by decide +kernel
theorem dX8_readCase_4 : decode cX8_readCase 4 = .ok (.bipush 12, 2) := by decide +kernel
theorem dX8_readCase_6 : decode cX8_readCase 6 = .ok (.invokevirtual 134, 3) := by decide +kernel
theorem dX8_readCase_9 : decode cX8_readCase 9 = .ok (.istore_n 2, 1) := by decide +kernel
theorem dX8_readCase_10 : decode cX8_readCase 10 = .ok (.aload_n 0, 1) := by decide +kernel
theorem dX8_readCase_11 : decode cX8_readCase 11 = .ok (.iload_n 2, 1) := by decide +kernel
theorem dX8_readCase_12 : decode cX8_readCase 12 = .ok (.iconst 2, 1) := by decide +kernel
theorem dX8_readCase_13 : decode cX8_readCase 13 = .ok (.iconst 0, 1) := by decide +kernel
theorem dX8_readCase_14 : decode cX8_readCase 14 = .ok (.bipush 11, 2) := by decide +kernel
theorem dX8_readCase_16 : decode cX8_readCase 16 = .ok (.invokevirtual 134, 3) := by decide +kernel
theorem dX8_readCase_19 : decode cX8_readCase 19 = .ok (.istore_n 3, 1) := by decide +kernel
theorem dX8_readCase_20 : decode cX8_readCase 20 = .ok (.iload_n 3, 1) := by decide +kernel
theorem dX8_readCase_21 : decode cX8_readCase 21 = .ok (.iconst (-1), 1) := by decide +kernel
theorem dX8_readCase_22 : decode cX8_readCase 22 = .ok (.if_icmp .ne 7, 3) := by decide +kernel
theorem dX8_readCase_25 : decode cX8_readCase 25 = .ok (.iconst (-1), 1) := by decide +kernel
theorem dX8_readCase_26 : decode cX8_readCase 26 = .ok (.goto 43, 3) := by decide +kernel
theorem dX8_readCase_29 : decode cX8_readCase 29 = .ok (.aload_n 0, 1) := by decide +kernel
theorem dX8_readCase_30 : decode cX8_readCase 30 = .ok (.invokevirtual 109, 3) := by decide +kernel
theorem dX8_readCase_33 : decode cX8_readCase 33 = .ok (.bipush 108, 2) := by decide +kernel
theorem dX8_readCase_35 : decode cX8_readCase 35 = .ok (.if_icmp .ne 7, 3) := by decide +kernel
theorem dX8_readCase_38 : decode cX8_readCase 38 = .ok (.iconst 0, 1) := by decide +kernel
theorem dX8_readCase_39 : decode cX8_readCase 39 = .ok (.goto 30, 3) := by decide +kernel
theorem dX8_readCase_42 : decode cX8_readCase 42 = .ok (.aload_n 0, 1) := by decide +kernel
theorem dX8_readCase_43 : decode cX8_readCase 43 = .ok (.invokevirtual 109, 3) := by decide +kernel
theorem dX8_readCase_46 : decode cX8_readCase 46 = .ok (.bipush 104, 2) := by decide +kernel
theorem dX8_readCase_48 : decode cX8_readCase 48 = .ok (.if_icmp .ne 7, 3) := by decide +kernel
theorem dX8_readCase_51 : decode cX8_readCase 51 = .ok (.iconst 1, 1) := by decide +kernel
theorem dX8_readCase_52 : decode cX8_readCase 52 = .ok (.goto 17, 3) := by decide +kernel
theorem dX8_readCase_55 : decode cX8_readCase 55 = .ok (.aload_n 0, 1) := by decide +kernel
theorem dX8_readCase_56 : decode cX8_readCase 56 = .ok (.invokevirtual 109, 3) := by decide +kernel
theorem dX8_readCase_59 : decode cX8_readCase 59 = .ok (.bipush 116, 2) := by decide +kernel
theorem dX8_readCase_61 : decode cX8_readCase 61 = .ok (.if_icmp .ne 7, 3) := by decide +kernel
theorem dX8_readCase_64 : decode cX8_readCase 64 = .ok (.iconst 2, 1) := by decide +kernel
theorem dX8_readCase_65 : decode cX8_readCase 65 = .ok (.goto 4, 3) := by decide +kernel
theorem dX8_readCase_68 : decode cX8_readCase 68 = .ok (.iconst (-1), 1) := by decide +kernel
theorem dX8_readCase_69 : decode cX8_readCase 69 = .ok (.istore 4, 2) := by decide +kernel
theorem dX8_readCase_71 : decode cX8_readCase 71 = .ok (.aload_n 0, 1) := by decide +kernel
theorem dX8_readCase_72 : decode cX8_readCase 72 = .ok (.dup, 1) := by decide +kernel
theorem dX8_readCase_73 : decode cX8_readCase 73 = .ok (.getfield 106, 3) := by decide +kernel
theorem dX8_readCase_76 : decode cX8_readCase 76 = .ok (.iload 4, 2) := by decide +kernel
theorem dX8_readCase_78 : decode cX8_readCase 78 = .ok (.iconst (-1), 1) := by decide +kernel
theorem dX8_readCase_79 : decode cX8_readCase 79 = .ok (.if_icmp .ne 7, 3) := by decide +kernel
theorem dX8_readCase_82 : decode cX8_readCase 82 = .ok (.iconst 0, 1) := by decide +kernel
theorem dX8_readCase_83 : decode cX8_readCase 83 = .ok (.goto 4, 3) := by decide +kernel
theorem dX8_readCase_86 : decode cX8_readCase 86 = .ok (.iconst 1, 1) := by decide +kernel
theorem dX8_readCase_87 : decode cX8_readCase 87 = .ok (.iadd, 1) := by decide +kernel
theorem dX8_readCase_88 : decode cX8_readCase 88 = .ok (.putfield 106, 3) := by decide +kernel
theorem dX8_readCase_91 : decode cX8_readCase 91 = .ok (.aload_n 0, 1) := by decide +kernel
theorem dX8_readCase_92 : decode cX8_readCase 92 = .ok (.iload 4, 2) := by decide +kernel
theorem dX8_readCase_94 : decode cX8_readCase 94 = .ok (.iconst 1, 1) := by decide +kernel
theorem dX8_readCase_95 : decode cX8_readCase 95 = .ok (.iconst 0, 1) := by decide +kernel
theorem dX8_readCase_96 : decode cX8_readCase 96 = .ok (.iconst 2, 1) := by decide +kernel
theorem dX8_readCase_97 : decode cX8_readCase 97 = .ok (.invokevirtual 134, 3) := by decide +kernel
theorem dX8_readCase_100 : decode cX8_readCase 100 = .ok (.istore 5, 2) := by decide +kernel
theorem dX8_readCase_102 : decode cX8_readCase 102 = .ok (.iload 5, 2) := by decide +kernel
theorem dX8_readCase_104 : decode cX8_readCase 104 = .ok (.iconst (-1), 1) := by decide +kernel
theorem dX8_readCase_105 : decode cX8_readCase 105 = .ok (.if_icmp .ne 5, 3) := by decide +kernel
theorem dX8_readCase_108 : decode cX8_readCase 108 = .ok (.iconst 0, 1) := by decide +kernel
theorem dX8_readCase_109 : decode cX8_readCase 109 = .ok (.ireturn, 1) := by decide +kernel
theorem dX8_readCase_110 : decode cX8_readCase 110 = .ok (.aload_n 1, 1) := by decide +kernel
theorem dX8_readCase_111 : decode cX8_readCase 111 = .ok (.iload_n 2, 1) := by decide +kernel
theorem dX8_readCase_112 : decode cX8_readCase 112 = .ok (.iconst 3, 1) := by decide +kernel
theorem dX8_readCase_113 : decode cX8_readCase 113 = .ok (.iload 4, 2) := by decide +kernel
theorem dX8_readCase_115 : decode cX8_readCase 115 = .ok (.iconst 2, 1) := by decide +kernel
theorem dX8_readCase_116 : decode cX8_readCase 116 = .ok (.if_icmp .eq 8, 3) := by decide +kernel
theorem dX8_readCase_119 : decode cX8_readCase 119 = .ok (.iload_n 3, 1) := by decide +kernel
theorem dX8_readCase_120 : decode cX8_readCase 120 = .ok (.iload_n 2, 1) := by decide +kernel
theorem dX8_readCase_121 : decode cX8_readCase 121 = .ok (.if_icmp .lt 9, 3) := by decide +kernel
theorem dX8_readCase_124 : decode cX8_readCase 124 = .ok (.iconst 2, 1) := by decide +kernel
theorem dX8_readCase_125 : decode cX8_readCase 125 = .ok (.iload_n 2, 1) := by decide +kernel
theorem dX8_readCase_126 : decode cX8_readCase 126 = .ok (.imul, 1) := by decide +kernel
theorem dX8_readCase_127 : decode cX8_readCase 127 = .ok (.goto 9, 3) := by decide +kernel
theorem dX8_readCase_130 : decode cX8_readCase 130 = .ok (.iconst 2, 1) := by decide +kernel
theorem dX8_readCase_131 : decode cX8_readCase 131 = .ok (.iload_n 3, 1) := by decide +kernel
theorem dX8_readCase_132 : decode cX8_readCase 132 = .ok (.imul, 1) := by decide +kernel
theorem dX8_readCase_133 : decode cX8_readCase 133 = .ok (.iload 4, 2) := by decide +kernel
theorem dX8_readCase_135 : decode cX8_readCase 135 = .ok (.iadd, 1) := by decide +kernel
theorem dX8_readCase_136 : decode cX8_readCase 136 = .ok (.imul, 1) := by decide +kernel
theorem dX8_readCase_137 : decode cX8_readCase 137 = .ok (.iload 5, 2) := by decide +kernel
theorem dX8_readCase_139 : decode cX8_readCase 139 = .ok (.iadd, 1) := by decide +kernel
theorem dX8_readCase_140 : decode cX8_readCase 140 = .ok (.invokestatic 141, 3) := by decide +kernel
theorem dX8_readCase_143 : decode cX8_readCase 143 = .ok (.pop, 1) := by decide +kernel
theorem dX8_readCase_144 : decode cX8_readCase 144 = .ok (.iconst 1, 1) := by decide +kernel
theorem dX8_readCase_145 : decode cX8_readCase 145 = .ok (.ireturn, 1) := by decide +kernel
set_option maxRecDepth 20000 in
theorem ggX8_readText_X8_clear : GoodIn wsX8_readText wsX8_clear := goodIn_r _ [7] (by decide +kernel) (by decide +kernel)
set_option maxRecDepth 20000 in
theorem gX8_readText_X8_clear : GoodIn wsX8_readText (va_wsS RX8 35 yX8_clear wsX8_clear) := goodIn_app (goodIn_of _ (by decide +kernel)) ggX8_readText_X8_clear
set_option maxRecDepth 20000 in
theorem ggX8_readText_X8_sign : GoodIn wsX8_readText wsX8_sign := goodIn_r _ [11, 2, 3, 12, 71, 72, 73, 74, 75, 76, 77, 78, 79, 80, 81, 82, 83, 84] (by decide +kernel) (by decide +kernel)
set_option maxRecDepth 20000 in
theorem gX8_readText_X8_sign : GoodIn wsX8_readText (wsV RX8 109 RX8 yX8_sign wsX8_sign) := goodIn_app (goodIn_of _ (by decide +kernel)) ggX8_readText_X8_sign
set_option maxRecDepth 20000 in
theorem ggX8_readText_X8_readCase : GoodIn wsX8_readText wsX8_readCase := goodIn_r _ [16, 2, 17, 18, 19, 6, 20, 21, 8, 9, 10, 11, 3, 12, 22, 23, 24, 25, 26, 27, 28, 29, 30, 71, 72, 73, 74, 75, 76, 77, 78, 79, 80, 81, 82, 83, 84] (by decide +kernel) (by decide +kernel)
set_option maxRecDepth 20000 in
theorem gX8_readText_X8_readCase : GoodIn wsX8_readText (wsV RX8 144 RX8 yX8_readCase wsX8_readCase) := goodIn_app (goodIn_of _ (by decide +kernel)) ggX8_readText_X8_readCase
set_option maxRecDepth 20000 in
theorem ggX8_readText_X8_readCommand : GoodIn wsX8_readText wsX8_readCommand := goodIn_r _ [34, 2, 8, 9, 10, 6, 11, 3, 12, 35, 36, 37, 38, 39, 22, 23, 24, 40, 41, 42, 43, 44, 45, 46, 47, 48, 49, 50, 51, 52, 53, 54, 55, 56, 57, 58, 59, 60, 61, 62, 63, 64, 65, 66, 67, 1, 17, 18, 19, 20, 21, 68, 69, 70, 71, 72, 73, 74, 75, 76, 77, 78, 79, 80, 81, 82, 83, 84] (by decide +kernel) (by decide +kernel)
set_option maxRecDepth 20000 in
theorem gX8_readText_X8_readCommand : GoodIn wsX8_readText (wsV RX8 148 RX8 yX8_readCommand wsX8_readCommand) := goodIn_app (goodIn_of _ (by decide +kernel)) ggX8_readText_X8_readCommand
theorem dX8_readText_0 : decode cX8_readText 0 = .ok (.aload_n 1, 1) := by decide +kernel
theorem dX8_readText_1 : decode cX8_readText 1 = .ok (.invokestatic 35, 3) := by decide +kernel
theorem dX8_readText_4 : decode cX8_readText 4 = .ok (.aload_n 0, 1) := by decide +kernel
theorem dX8_readText_5 : decode cX8_readText 5 = .ok (.iconst 0, 1) := by decide +kernel
theorem dX8_readText_6 : decode cX8_readText 6 = .ok (.putfield 117, 3) := by decide +kernel
theorem dX8_readText_9 : decode cX8_readText 9 = .ok (.aload_n 0, 1) := by decide +kernel
theorem dX8_readText_10 : decode cX8_readText 10 = .ok (.iconst 0, 1) := by decide +kernel
theorem dX8_readText_11 : decode cX8_readText 11 = .ok (.putfield 106, 3) := by decide +kernel
theorem dX8_readText_14 : decode cX8_readText 14 = .ok (.aload_n 0, 1) := by decide +kernel
theorem dX8_readText_15 : decode cX8_readText 15 = .ok (.invokevirtual 109, 3) := by decide +kernel
theorem dX8_readText_18 : decode cX8_readText 18 = .ok (.bipush 80, 2) := by decide +kernel
theorem dX8_readText_20 : decode cX8_readText 20 = .ok (.if_icmp .eq 5, 3) := by decide +kernel
theorem dX8_readText_23 : decode cX8_readText 23 = .ok (.iconst 0, 1) := by decide +kernel
theorem dX8_readText_24 : decode cX8_readText 24 = .ok (.ireturn, 1) := by decide +kernel
theorem dX8_readText_25 : decode cX8_readText 25 = .ok (.aload_n 0, 1) := by decide +kernel
theorem dX8_readText_26 : decode cX8_readText 26 = .ok (.iconst 1, 1) := by decide +kernel
theorem dX8_readText_27 : decode cX8_readText 27 = .ok (.putfield 106, 3) := by decide +kernel
theorem dX8_readText_30 : decode cX8_readText 30 = .ok (.aload_n 0, 1) := by decide +kernel
theorem dX8_readText_31 : decode cX8_readText 31 = .ok (.aload_n 1, 1) := by decide +kernel
theorem dX8_readText_32 : decode cX8_readText 32 = .ok (.invokevirtual 144, 3) := by decide +kernel
theorem dX8_readText_35 : decode cX8_readText 35 = .ok (.ifCond .ne 8, 3) := by decide +kernel
theorem dX8_readText_38 : decode cX8_readText 38 = .ok (.aload_n 0, 1) := by decide +kernel
theorem dX8_readText_39 : decode cX8_readText 39 = .ok (.getfield 106, 3) := by decide +kernel
theorem dX8_readText_42 : decode cX8_readText 42 = .ok (.ireturn, 1) := by decide +kernel
theorem dX8_readText_43 : decode cX8_readText 43 = .ok (.aload_n 0, 1) := by decide +kernel
theorem dX8_readText_44 : decode cX8_readText 44 = .ok (.getfield 106, 3) := by decide +kernel
theorem dX8_readText_47 : decode cX8_readText 47 = .ok (.aload_n 0, 1) := by decide +kernel
theorem dX8_readText_48 : decode cX8_readText 48 = .ok (.getfield 99, 3) := by decide +kernel
theorem dX8_readText_51 : decode cX8_readText 51 = .ok (.if_icmp .ge 16, 3) := by decide +kernel
theorem dX8_readText_54 : decode cX8_readText 54 = .ok (.aload_n 0, 1) := by decide +kernel
theorem dX8_readText_55 : decode cX8_readText 55 = .ok (.aload_n 1, 1) := by decide +kernel
theorem dX8_readText_56 : decode cX8_readText 56 = .ok (.invokevirtual 148, 3) := by decide +kernel
theorem dX8_readText_59 : decode cX8_readText 59 = .ok (.ifCond .ne (-16), 3) := by decide +kernel
theorem dX8_readText_62 : decode cX8_readText 62 = .ok (.aload_n 0, 1) := by decide +kernel
theorem dX8_readText_63 : decode cX8_readText 63 = .ok (.getfield 106, 3) := by decide +kernel
theorem dX8_readText_66 : decode cX8_readText 66 = .ok (.ireturn, 1) := by decide +kernel
theorem dX8_readText_67 : decode cX8_readText 67 = .ok (.iconst (-1), 1) := by decide +kernel
theorem dX8_readText_68 : decode cX8_readText 68 = .ok (.ireturn, 1) := by decide +kernel
set_option maxRecDepth 20000 in
theorem ggX8_errorPosition_X8_readText : GoodIn wsX8_errorPosition wsX8_readText := goodIn_r _ [7, 8, 9, 10, 11, 12, 6, 13, 14, 15, 16, 17, 18, 19, 20, 21, 22, 23, 24, 25, 26, 27, 28, 29, 30, 31, 32, 33, 34, 35, 36, 37, 38, 39, 40, 41, 42, 43, 44, 45, 46, 47, 48, 49, 50, 51, 52, 53, 54, 55, 56, 57, 58, 59, 60, 61, 62, 63, 64, 65, 66, 67, 68, 69, 70, 71, 72, 73, 74, 75, 76, 77, 78, 79, 80, 81, 82, 83, 84, 85, 86, 87, 88, 89, 90] (by decide +kernel) (by decide +kernel)
set_option maxRecDepth 20000 in
theorem gX8_errorPosition_X8_readText : GoodIn wsX8_errorPosition (wsV RX8 151 RX8 yX8_readText wsX8_readText) := goodIn_app (goodIn_of _ (by decide +kernel)) ggX8_errorPosition_X8_readText
theorem dX8_errorPosition_0 : decode cX8_errorPosition 0 = .ok (.aload_n 0, 1) := by decide +kernel
theorem dX8_errorPosition_1 : decode cX8_errorPosition 1 = .ok (.iconst 0, 1) := by decide +kernel
theorem dX8_errorPosition_2 : decode cX8_errorPosition 2 = .ok (.putfield 39, 3) := by decide +kernel
theorem dX8_errorPosition_5 : decode cX8_errorPosition 5 = .ok (.aload_n 0, 1) := by decide +kernel
theorem dX8_errorPosition_6 : decode cX8_errorPosition 6 = .ok (.aload_n 0, 1) := by decide +kernel
theorem dX8_errorPosition_7 : decode cX8_errorPosition 7 = .ok (.getfield 16, 3) := by decide +kernel
theorem dX8_errorPosition_10 : decode cX8_errorPosition 10 = .ok (.invokevirtual 151, 3) := by decide +kernel
theorem dX8_errorPosition_13 : decode cX8_errorPosition 13 = .ok (.ireturn, 1) := by decide +kernel
set_option maxRecDepth 20000 in
theorem ggX8_load_X8_readText : GoodIn wsX8_load wsX8_readText := goodIn_r _ [10, 5, 11, 12, 13, 14, 9, 15, 16, 17, 18, 19, 20, 21, 22, 23, 24, 25, 26, 27, 28, 29, 30, 31, 32, 33, 34, 35, 36, 37, 38, 39, 40, 41, 42, 43, 44, 45, 46, 47, 48, 49, 50, 51, 52, 53, 54, 55, 56, 57, 58, 59, 60, 61, 62, 63, 64, 65, 66, 67, 68, 69, 70, 71, 72, 73, 74, 75, 76, 77, 78, 87, 88, 89, 90, 91, 92, 93, 94, 95, 96, 97, 98, 99, 100] (by decide +kernel) (by decide +kernel)
set_option maxRecDepth 20000 in
theorem gX8_load_X8_readText : GoodIn wsX8_load (wsV RX8 151 RX8 yX8_readText wsX8_readText) := goodIn_app (goodIn_of _ (by decide +kernel)) ggX8_load_X8_readText
set_option maxRecDepth 20000 in
theorem ggX8_load_X8_refused : GoodIn wsX8_load wsX8_refused := goodIn_r _ [82, 83, 87, 88, 89, 90, 91, 92, 93, 94, 95, 96, 97, 98, 99, 100] (by decide +kernel) (by decide +kernel)
set_option maxRecDepth 20000 in
theorem gX8_load_X8_refused : GoodIn wsX8_load (wsV RX8 102 RX8 yX8_refused wsX8_refused) := goodIn_app (goodIn_of _ (by decide +kernel)) ggX8_load_X8_refused
set_option maxRecDepth 20000 in
theorem ggX8_load_X8_copyState : GoodIn wsX8_load wsX8_copyState := goodIn_r _ [86] (by decide +kernel) (by decide +kernel)
set_option maxRecDepth 20000 in
theorem gX8_load_X8_copyState : GoodIn wsX8_load (va_wsS RX8 154 yX8_copyState wsX8_copyState) := goodIn_app (goodIn_of _ (by decide +kernel)) ggX8_load_X8_copyState
theorem dX8_load_0 : decode cX8_load 0 = .ok (.aload_n 0, 1) := by decide +kernel
theorem dX8_load_1 : decode cX8_load 1 = .ok (.aload_n 0, 1) := by decide +kernel
theorem dX8_load_2 : decode cX8_load 2 = .ok (.aload_n 0, 1) := by decide +kernel
theorem dX8_load_3 : decode cX8_load 3 = .ok (.getfield 16, 3) := by decide +kernel
theorem dX8_load_6 : decode cX8_load 6 = .ok (.invokevirtual 151, 3) := by decide +kernel
theorem dX8_load_9 : decode cX8_load 9 = .ok (.iconst (-1), 1) := by decide +kernel
theorem dX8_load_10 : decode cX8_load 10 = .ok (.if_icmp .ne 7, 3) := by decide +kernel
theorem dX8_load_13 : decode cX8_load 13 = .ok (.iconst 0, 1) := by decide +kernel
theorem dX8_load_14 : decode cX8_load 14 = .ok (.goto 4, 3) := by decide +kernel
theorem dX8_load_17 : decode cX8_load 17 = .ok (.iconst 1, 1) := by decide +kernel
theorem dX8_load_18 : decode cX8_load 18 = .ok (.invokevirtual 102, 3) := by decide +kernel
theorem dX8_load_21 : decode cX8_load 21 = .ok (.ifCond .eq 5, 3) := by decide +kernel
theorem dX8_load_24 : decode cX8_load 24 = .ok (.iconst 0, 1) := by decide +kernel
theorem dX8_load_25 : decode cX8_load 25 = .ok (.ireturn, 1) := by decide +kernel
theorem dX8_load_26 : decode cX8_load 26 = .ok (.aload_n 0, 1) := by decide +kernel
theorem dX8_load_27 : decode cX8_load 27 = .ok (.getfield 16, 3) := by decide +kernel
theorem dX8_load_30 : decode cX8_load 30 = .ok (.iconst 0, 1) := by decide +kernel
theorem dX8_load_31 : decode cX8_load 31 = .ok (.aload_n 0, 1) := by decide +kernel
theorem dX8_load_32 : decode cX8_load 32 = .ok (.getfield 13, 3) := by decide +kernel
theorem dX8_load_35 : decode cX8_load 35 = .ok (.iconst 0, 1) := by decide +kernel
theorem dX8_load_36 : decode cX8_load 36 = .ok (.invokestatic 154, 3) := by decide +kernel
theorem dX8_load_39 : decode cX8_load 39 = .ok (.aload_n 0, 1) := by decide +kernel
theorem dX8_load_40 : decode cX8_load 40 = .ok (.iconst 0, 1) := by decide +kernel
theorem dX8_load_41 : decode cX8_load 41 = .ok (.putfield 158, 3) := by decide +kernel
theorem dX8_load_44 : decode cX8_load 44 = .ok (.aload_n 0, 1) := by decide +kernel
theorem dX8_load_45 : decode cX8_load 45 = .ok (.getfield 25, 3) := by decide +kernel
theorem dX8_load_48 : decode cX8_load 48 = .ok (.iconst 0, 1) := by decide +kernel
theorem dX8_load_49 : decode cX8_load 49 = .ok (.iconst 0, 1) := by decide +kernel
theorem dX8_load_50 : decode cX8_load 50 = .ok (.bastore, 1) := by decide +kernel
theorem dX8_load_51 : decode cX8_load 51 = .ok (.aload_n 0, 1) := by decide +kernel
theorem dX8_load_52 : decode cX8_load 52 = .ok (.getfield 25, 3) := by decide +kernel
theorem dX8_load_55 : decode cX8_load 55 = .ok (.iconst 1, 1) := by decide +kernel
theorem dX8_load_56 : decode cX8_load 56 = .ok (.iconst 0, 1) := by decide +kernel
theorem dX8_load_57 : decode cX8_load 57 = .ok (.bastore, 1) := by decide +kernel
theorem dX8_load_58 : decode cX8_load 58 = .ok (.aload_n 0, 1) := by decide +kernel
theorem dX8_load_59 : decode cX8_load 59 = .ok (.getfield 117, 3) := by decide +kernel
theorem dX8_load_62 : decode cX8_load 62 = .ok (.ireturn, 1) := by decide +kernel
set_option maxRecDepth 20000 in
theorem ggX8_about_X8_in : GoodIn wsX8_about wsX8_in := goodIn_r _ [6] (by decide +kernel) (by decide +kernel)
set_option maxRecDepth 20000 in
theorem gX8_about_X8_in : GoodIn wsX8_about (va_wsS RX8 43 yX8_in wsX8_in) := goodIn_app (goodIn_of _ (by decide +kernel)) ggX8_about_X8_in
set_option maxRecDepth 20000 in
theorem ggX8_about_X8_refused : GoodIn wsX8_about wsX8_refused := goodIn_r _ [10, 11, 36, 37, 38, 39, 40, 41, 42, 43, 44, 45, 46, 47, 48, 49] (by decide +kernel) (by decide +kernel)
set_option maxRecDepth 20000 in
theorem gX8_about_X8_refused : GoodIn wsX8_about (wsV RX8 102 RX8 yX8_refused wsX8_refused) := goodIn_app (goodIn_of _ (by decide +kernel)) ggX8_about_X8_refused
set_option maxRecDepth 20000 in
theorem ggX8_about_X8_allOf : GoodIn wsX8_about wsX8_allOf := goodIn_r _ [14] (by decide +kernel) (by decide +kernel)
set_option maxRecDepth 20000 in
theorem gX8_about_X8_allOf : GoodIn wsX8_about (va_wsS RX8 72 yX8_allOf wsX8_allOf) := goodIn_app (goodIn_of _ (by decide +kernel)) ggX8_about_X8_allOf
set_option maxRecDepth 20000 in
theorem ggX8_about_X8_leftOf : GoodIn wsX8_about wsX8_leftOf := goodIn_r _ [17, 18, 19, 5, 20, 12, 13, 14, 21, 22, 23, 24, 25, 26, 27, 28, 29, 30, 31, 32, 33, 34, 35] (by decide +kernel) (by decide +kernel)
set_option maxRecDepth 20000 in
theorem gX8_about_X8_leftOf : GoodIn wsX8_about (va_wsS RX8 86 yX8_leftOf wsX8_leftOf) := goodIn_app (goodIn_of _ (by decide +kernel)) ggX8_about_X8_leftOf
set_option maxRecDepth 20000 in
theorem ggX8_about_X8_many : GoodIn wsX8_about wsX8_many := goodIn_r _ [20, 12, 13, 5, 14, 21, 22, 23, 24, 25, 26, 27, 28, 29, 30, 31, 32, 33, 34, 35] (by decide +kernel) (by decide +kernel)
set_option maxRecDepth 20000 in
theorem gX8_about_X8_many : GoodIn wsX8_about (va_wsS RX8 79 yX8_many wsX8_many) := goodIn_app (goodIn_of _ (by decide +kernel)) ggX8_about_X8_many
theorem dX8_about_0 : decode cX8_about 0 = .ok (.aload_n 0, 1) := by decide +kernel
theorem dX8_about_1 : decode cX8_about 1 = .ok (.iload_n 1, 1) := by decide +kernel
theorem dX8_about_2 : decode cX8_about 2 = .ok (.i2l, 1) := by decide +kernel
theorem dX8_about_3 : decode cX8_about 3 = .ok (.lconst 0, 1) := by decide +kernel
theorem dX8_about_4 : decode cX8_about 4 = .ok (.ldc2_w 161, 3) := by decide +kernel
theorem dX8_about_7 : decode cX8_about 7 = .ok (.invokestatic 43, 3) := by decide +kernel
theorem dX8_about_10 : decode cX8_about 10 = .ok (.ifCond .eq 7, 3) := by decide +kernel
theorem dX8_about_13 : decode cX8_about 13 = .ok (.iconst 0, 1) := by decide +kernel
theorem dX8_about_14 : decode cX8_about 14 = .ok (.goto 4, 3) := by decide +kernel
theorem dX8_about_17 : decode cX8_about 17 = .ok (.iconst 1, 1) := by decide +kernel
theorem dX8_about_18 : decode cX8_about 18 = .ok (.invokevirtual 102, 3) := by decide +kernel
theorem dX8_about_21 : decode cX8_about 21 = .ok (.ifCond .eq 5, 3) := by decide +kernel
theorem dX8_about_24 : decode cX8_about 24 = .ok (.iconst 0, 1) := by decide +kernel
theorem dX8_about_25 : decode cX8_about 25 = .ok (.ireturn, 1) := by decide +kernel
theorem dX8_about_26 : decode cX8_about 26 = .ok (.iload_n 1, 1) := by decide +kernel
theorem dX8_about_27 : decode cX8_about 27 = .ok (.tableswitch 133 0 6 #[41, 48, 58, 66, 73, 73, 82], 41) := by decide +kernel
theorem dX8_about_68 : decode cX8_about 68 = .ok (.aload_n 0, 1) := by decide +kernel
theorem dX8_about_69 : decode cX8_about 69 = .ok (.getfield 13, 3) := by decide +kernel
theorem dX8_about_72 : decode cX8_about 72 = .ok (.iconst 0, 1) := by decide +kernel
theorem dX8_about_73 : decode cX8_about 73 = .ok (.iaload, 1) := by decide +kernel
theorem dX8_about_74 : decode cX8_about 74 = .ok (.ireturn, 1) := by decide +kernel
theorem dX8_about_75 : decode cX8_about 75 = .ok (.aload_n 0, 1) := by decide +kernel
theorem dX8_about_76 : decode cX8_about 76 = .ok (.getfield 13, 3) := by decide +kernel
theorem dX8_about_79 : decode cX8_about 79 = .ok (.iconst 0, 1) := by decide +kernel
theorem dX8_about_80 : decode cX8_about 80 = .ok (.iaload, 1) := by decide +kernel
theorem dX8_about_81 : decode cX8_about 81 = .ok (.invokestatic 72, 3) := by decide +kernel
theorem dX8_about_84 : decode cX8_about 84 = .ok (.ireturn, 1) := by decide +kernel
theorem dX8_about_85 : decode cX8_about 85 = .ok (.aload_n 0, 1) := by decide +kernel
theorem dX8_about_86 : decode cX8_about 86 = .ok (.getfield 13, 3) := by decide +kernel
theorem dX8_about_89 : decode cX8_about 89 = .ok (.invokestatic 86, 3) := by decide +kernel
theorem dX8_about_92 : decode cX8_about 92 = .ok (.ireturn, 1) := by decide +kernel
theorem dX8_about_93 : decode cX8_about 93 = .ok (.aload_n 0, 1) := by decide +kernel
theorem dX8_about_94 : decode cX8_about 94 = .ok (.getfield 13, 3) := by decide +kernel
theorem dX8_about_97 : decode cX8_about 97 = .ok (.iconst 4, 1) := by decide +kernel
theorem dX8_about_98 : decode cX8_about 98 = .ok (.iaload, 1) := by decide +kernel
theorem dX8_about_99 : decode cX8_about 99 = .ok (.ireturn, 1) := by decide +kernel
theorem dX8_about_100 : decode cX8_about 100 = .ok (.aload_n 0, 1) := by decide +kernel
theorem dX8_about_101 : decode cX8_about 101 = .ok (.getfield 13, 3) := by decide +kernel
theorem dX8_about_104 : decode cX8_about 104 = .ok (.iload_n 1, 1) := by decide +kernel
theorem dX8_about_105 : decode cX8_about 105 = .ok (.iconst 2, 1) := by decide +kernel
theorem dX8_about_106 : decode cX8_about 106 = .ok (.isub, 1) := by decide +kernel
theorem dX8_about_107 : decode cX8_about 107 = .ok (.iaload, 1) := by decide +kernel
theorem dX8_about_108 : decode cX8_about 108 = .ok (.ireturn, 1) := by decide +kernel
theorem dX8_about_109 : decode cX8_about 109 = .ok (.iconst 0, 1) := by decide +kernel
theorem dX8_about_110 : decode cX8_about 110 = .ok (.istore_n 2, 1) := by decide +kernel
theorem dX8_about_111 : decode cX8_about 111 = .ok (.iconst 0, 1) := by decide +kernel
theorem dX8_about_112 : decode cX8_about 112 = .ok (.istore_n 3, 1) := by decide +kernel
theorem dX8_about_113 : decode cX8_about 113 = .ok (.iload_n 3, 1) := by decide +kernel
theorem dX8_about_114 : decode cX8_about 114 = .ok (.aload_n 0, 1) := by decide +kernel
theorem dX8_about_115 : decode cX8_about 115 = .ok (.getfield 13, 3) := by decide +kernel
theorem dX8_about_118 : decode cX8_about 118 = .ok (.iconst 4, 1) := by decide +kernel
theorem dX8_about_119 : decode cX8_about 119 = .ok (.iaload, 1) := by decide +kernel
theorem dX8_about_120 : decode cX8_about 120 = .ok (.if_icmp .ge 38, 3) := by decide +kernel
theorem dX8_about_123 : decode cX8_about 123 = .ok (.iload_n 2, 1) := by decide +kernel
theorem dX8_about_124 : decode cX8_about 124 = .ok (.aload_n 0, 1) := by decide +kernel
theorem dX8_about_125 : decode cX8_about 125 = .ok (.getfield 13, 3) := by decide +kernel
theorem dX8_about_128 : decode cX8_about 128 = .ok (.iload_n 3, 1) := by decide +kernel
theorem dX8_about_129 : decode cX8_about 129 = .ok (.invokestatic 79, 3) := by decide +kernel
theorem dX8_about_132 : decode cX8_about 132 = .ok (.aload_n 0, 1) := by decide +kernel
theorem dX8_about_133 : decode cX8_about 133 = .ok (.getfield 13, 3) := by decide +kernel
theorem dX8_about_136 : decode cX8_about 136 = .ok (.iload_n 3, 1) := by decide +kernel
theorem dX8_about_137 : decode cX8_about 137 = .ok (.iconst 1, 1) := by decide +kernel
theorem dX8_about_138 : decode cX8_about 138 = .ok (.iadd, 1) := by decide +kernel
theorem dX8_about_139 : decode cX8_about 139 = .ok (.invokestatic 79, 3) := by decide +kernel
theorem dX8_about_142 : decode cX8_about 142 = .ok (.if_icmp .ne 7, 3) := by decide +kernel
theorem dX8_about_145 : decode cX8_about 145 = .ok (.iconst 1, 1) := by decide +kernel
theorem dX8_about_146 : decode cX8_about 146 = .ok (.goto 4, 3) := by decide +kernel
theorem dX8_about_149 : decode cX8_about 149 = .ok (.iconst 0, 1) := by decide +kernel
theorem dX8_about_150 : decode cX8_about 150 = .ok (.iadd, 1) := by decide +kernel
theorem dX8_about_151 : decode cX8_about 151 = .ok (.istore_n 2, 1) := by decide +kernel
theorem dX8_about_152 : decode cX8_about 152 = .ok (.iinc 3 1, 3) := by decide +kernel
theorem dX8_about_155 : decode cX8_about 155 = .ok (.goto (-42), 3) := by decide +kernel
theorem dX8_about_158 : decode cX8_about 158 = .ok (.iload_n 2, 1) := by decide +kernel
theorem dX8_about_159 : decode cX8_about 159 = .ok (.ireturn, 1) := by decide +kernel
theorem dX8_about_160 : decode cX8_about 160 = .ok (.aload_n 0, 1) := by decide +kernel
theorem dX8_about_161 : decode cX8_about 161 = .ok (.getfield 13, 3) := by decide +kernel
theorem dX8_about_164 : decode cX8_about 164 = .ok (.iload_n 1, 1) := by decide +kernel
theorem dX8_about_165 : decode cX8_about 165 = .ok (.iconst 2, 1) := by decide +kernel
theorem dX8_about_166 : decode cX8_about 166 = .ok (.isub, 1) := by decide +kernel
theorem dX8_about_167 : decode cX8_about 167 = .ok (.iaload, 1) := by decide +kernel
theorem dX8_about_168 : decode cX8_about 168 = .ok (.ireturn, 1) := by decide +kernel
set_option maxRecDepth 20000 in
theorem ggX8_coin_X8_isCoin : GoodIn wsX8_coin wsX8_isCoin := goodIn_r _ [5, 6, 7, 4, 8] (by decide +kernel) (by decide +kernel)
