set_option maxRecDepth 20000 in
theorem ggX8_bestArms_X8_refused : GoodIn wsX8_bestArms wsX8_refused := goodIn_r _ [15, 16, 46, 47, 48, 49, 50, 51, 52, 53, 54, 55, 56, 57, 58, 59] (by decide +kernel) (by decide +kernel)
set_option maxRecDepth 20000 in
theorem gX8_bestArms_X8_refused : GoodIn wsX8_bestArms (wsV RX8 102 RX8 yX8_refused wsX8_refused) := goodIn_app (goodIn_of _ (by decide +kernel)) ggX8_bestArms_X8_refused
set_option maxRecDepth 20000 in
theorem ggX8_bestArms_X8_gather : GoodIn wsX8_bestArms wsX8_gather := goodIn_r _ [20, 21, 22, 23, 24, 4, 25, 26, 27, 28, 29, 30, 31, 32, 33, 34, 35, 36, 37, 38, 39, 40, 46, 47, 48, 49, 50, 51, 52, 53, 54, 55, 56, 57, 58, 59] (by decide +kernel) (by decide +kernel)
set_option maxRecDepth 20000 in
theorem gX8_bestArms_X8_gather : GoodIn wsX8_bestArms (wsV RX8 193 RX8 yX8_gather wsX8_gather) := goodIn_app (goodIn_of _ (by decide +kernel)) ggX8_bestArms_X8_gather
set_option maxRecDepth 20000 in
theorem ggX8_bestArms_X8_worst : GoodIn wsX8_bestArms wsX8_worst := goodIn_r _ [44, 45, 21, 22, 32, 33, 4, 34, 35, 36, 37, 38, 39, 40, 46, 47, 48, 49, 50, 51, 52, 53, 54, 55, 56, 57, 58, 59] (by decide +kernel) (by decide +kernel)
set_option maxRecDepth 20000 in
theorem gX8_bestArms_X8_worst : GoodIn wsX8_bestArms (wsV RX8 196 RX8 yX8_worst wsX8_worst) := goodIn_app (goodIn_of _ (by decide +kernel)) ggX8_bestArms_X8_worst
theorem dX8_bestArms_0 : decode cX8_bestArms 0 = .ok (.aload_n 0, 1) := by decide +kernel
theorem dX8_bestArms_1 : decode cX8_bestArms 1 = .ok (.aload_n 0, 1) := by decide +kernel
theorem dX8_bestArms_2 : decode cX8_bestArms 2 = .ok (.getfield 13, 3) := by decide +kernel
theorem dX8_bestArms_5 : decode cX8_bestArms 5 = .ok (.iload_n 1, 1) := by decide +kernel
theorem dX8_bestArms_6 : decode cX8_bestArms 6 = .ok (.iload_n 2, 1) := by decide +kernel
theorem dX8_bestArms_7 : decode cX8_bestArms 7 = .ok (.invokestatic 90, 3) := by decide +kernel
theorem dX8_bestArms_10 : decode cX8_bestArms 10 = .ok (.ifCond .eq 7, 3) := by decide +kernel
theorem dX8_bestArms_13 : decode cX8_bestArms 13 = .ok (.iconst 0, 1) := by decide +kernel
theorem dX8_bestArms_14 : decode cX8_bestArms 14 = .ok (.goto 4, 3) := by decide +kernel
theorem dX8_bestArms_17 : decode cX8_bestArms 17 = .ok (.iconst 1, 1) := by decide +kernel
theorem dX8_bestArms_18 : decode cX8_bestArms 18 = .ok (.invokevirtual 102, 3) := by decide +kernel
theorem dX8_bestArms_21 : decode cX8_bestArms 21 = .ok (.ifCond .eq 5, 3) := by decide +kernel
theorem dX8_bestArms_24 : decode cX8_bestArms 24 = .ok (.iconst 0, 1) := by decide +kernel
theorem dX8_bestArms_25 : decode cX8_bestArms 25 = .ok (.ireturn, 1) := by decide +kernel
theorem dX8_bestArms_26 : decode cX8_bestArms 26 = .ok (.aload_n 0, 1) := by decide +kernel
theorem dX8_bestArms_27 : decode cX8_bestArms 27 = .ok (.aload_n 0, 1) := by decide +kernel
theorem dX8_bestArms_28 : decode cX8_bestArms 28 = .ok (.getfield 13, 3) := by decide +kernel
theorem dX8_bestArms_31 : decode cX8_bestArms 31 = .ok (.invokevirtual 193, 3) := by decide +kernel
theorem dX8_bestArms_34 : decode cX8_bestArms 34 = .ok (.iconst (-1), 1) := by decide +kernel
theorem dX8_bestArms_35 : decode cX8_bestArms 35 = .ok (.istore_n 3, 1) := by decide +kernel
theorem dX8_bestArms_36 : decode cX8_bestArms 36 = .ok (.iconst 0, 1) := by decide +kernel
theorem dX8_bestArms_37 : decode cX8_bestArms 37 = .ok (.istore 4, 2) := by decide +kernel
theorem dX8_bestArms_39 : decode cX8_bestArms 39 = .ok (.iconst 1, 1) := by decide +kernel
theorem dX8_bestArms_40 : decode cX8_bestArms 40 = .ok (.istore 5, 2) := by decide +kernel
theorem dX8_bestArms_42 : decode cX8_bestArms 42 = .ok (.iload 5, 2) := by decide +kernel
theorem dX8_bestArms_44 : decode cX8_bestArms 44 = .ok (.bipush 20, 2) := by decide +kernel
theorem dX8_bestArms_46 : decode cX8_bestArms 46 = .ok (.if_icmp .gt 88, 3) := by decide +kernel
theorem dX8_bestArms_49 : decode cX8_bestArms 49 = .ok (.iconst 1, 1) := by decide +kernel
theorem dX8_bestArms_50 : decode cX8_bestArms 50 = .ok (.istore 6, 2) := by decide +kernel
theorem dX8_bestArms_52 : decode cX8_bestArms 52 = .ok (.iload 6, 2) := by decide +kernel
theorem dX8_bestArms_54 : decode cX8_bestArms 54 = .ok (.bipush 20, 2) := by decide +kernel
theorem dX8_bestArms_56 : decode cX8_bestArms 56 = .ok (.if_icmp .gt 72, 3) := by decide +kernel
theorem dX8_bestArms_59 : decode cX8_bestArms 59 = .ok (.aload_n 0, 1) := by decide +kernel
theorem dX8_bestArms_60 : decode cX8_bestArms 60 = .ok (.iload_n 1, 1) := by decide +kernel
theorem dX8_bestArms_61 : decode cX8_bestArms 61 = .ok (.iload_n 2, 1) := by decide +kernel
theorem dX8_bestArms_62 : decode cX8_bestArms 62 = .ok (.iload 5, 2) := by decide +kernel
theorem dX8_bestArms_64 : decode cX8_bestArms 64 = .ok (.iload 6, 2) := by decide +kernel
theorem dX8_bestArms_66 : decode cX8_bestArms 66 = .ok (.invokevirtual 196, 3) := by decide +kernel
theorem dX8_bestArms_69 : decode cX8_bestArms 69 = .ok (.istore 7, 2) := by decide +kernel
theorem dX8_bestArms_71 : decode cX8_bestArms 71 = .ok (.iload_n 3, 1) := by decide +kernel
theorem dX8_bestArms_72 : decode cX8_bestArms 72 = .ok (.iconst (-1), 1) := by decide +kernel
theorem dX8_bestArms_73 : decode cX8_bestArms 73 = .ok (.if_icmp .eq 10, 3) := by decide +kernel
theorem dX8_bestArms_76 : decode cX8_bestArms 76 = .ok (.iload 7, 2) := by decide +kernel
theorem dX8_bestArms_78 : decode cX8_bestArms 78 = .ok (.iload 4, 2) := by decide +kernel
theorem dX8_bestArms_80 : decode cX8_bestArms 80 = .ok (.if_icmp .ge 7, 3) := by decide +kernel
theorem dX8_bestArms_83 : decode cX8_bestArms 83 = .ok (.iconst 1, 1) := by decide +kernel
theorem dX8_bestArms_84 : decode cX8_bestArms 84 = .ok (.goto 4, 3) := by decide +kernel
theorem dX8_bestArms_87 : decode cX8_bestArms 87 = .ok (.iconst 0, 1) := by decide +kernel
theorem dX8_bestArms_88 : decode cX8_bestArms 88 = .ok (.istore 8, 2) := by decide +kernel
theorem dX8_bestArms_90 : decode cX8_bestArms 90 = .ok (.iload 8, 2) := by decide +kernel
theorem dX8_bestArms_92 : decode cX8_bestArms 92 = .ok (.ifCond .eq 14, 3) := by decide +kernel
theorem dX8_bestArms_95 : decode cX8_bestArms 95 = .ok (.bipush 100, 2) := by decide +kernel
theorem dX8_bestArms_97 : decode cX8_bestArms 97 = .ok (.iload 5, 2) := by decide +kernel
theorem dX8_bestArms_99 : decode cX8_bestArms 99 = .ok (.imul, 1) := by decide +kernel
theorem dX8_bestArms_100 : decode cX8_bestArms 100 = .ok (.iload 6, 2) := by decide +kernel
theorem dX8_bestArms_102 : decode cX8_bestArms 102 = .ok (.iadd, 1) := by decide +kernel
theorem dX8_bestArms_103 : decode cX8_bestArms 103 = .ok (.goto 4, 3) := by decide +kernel
theorem dX8_bestArms_106 : decode cX8_bestArms 106 = .ok (.iload_n 3, 1) := by decide +kernel
theorem dX8_bestArms_107 : decode cX8_bestArms 107 = .ok (.istore_n 3, 1) := by decide +kernel
theorem dX8_bestArms_108 : decode cX8_bestArms 108 = .ok (.iload 8, 2) := by decide +kernel
theorem dX8_bestArms_110 : decode cX8_bestArms 110 = .ok (.ifCond .eq 8, 3) := by decide +kernel
theorem dX8_bestArms_113 : decode cX8_bestArms 113 = .ok (.iload 7, 2) := by decide +kernel
theorem dX8_bestArms_115 : decode cX8_bestArms 115 = .ok (.goto 5, 3) := by decide +kernel
theorem dX8_bestArms_118 : decode cX8_bestArms 118 = .ok (.iload 4, 2) := by decide +kernel
theorem dX8_bestArms_120 : decode cX8_bestArms 120 = .ok (.istore 4, 2) := by decide +kernel
theorem dX8_bestArms_122 : decode cX8_bestArms 122 = .ok (.iinc 6 1, 3) := by decide +kernel
theorem dX8_bestArms_125 : decode cX8_bestArms 125 = .ok (.goto (-73), 3) := by decide +kernel
theorem dX8_bestArms_128 : decode cX8_bestArms 128 = .ok (.iinc 5 1, 3) := by decide +kernel
theorem dX8_bestArms_131 : decode cX8_bestArms 131 = .ok (.goto (-89), 3) := by decide +kernel
theorem dX8_bestArms_134 : decode cX8_bestArms 134 = .ok (.iload_n 3, 1) := by decide +kernel
theorem dX8_bestArms_135 : decode cX8_bestArms 135 = .ok (.ireturn, 1) := by decide +kernel
set_option maxRecDepth 20000 in
theorem ggX8_weighs_X8_isCoin : GoodIn wsX8_weighs wsX8_isCoin := goodIn_r _ [5, 6, 7, 4, 8] (by decide +kernel) (by decide +kernel)
set_option maxRecDepth 20000 in
theorem gX8_weighs_X8_isCoin : GoodIn wsX8_weighs (va_wsS RX8 163 yX8_isCoin wsX8_isCoin) := goodIn_app (goodIn_of _ (by decide +kernel)) ggX8_weighs_X8_isCoin
set_option maxRecDepth 20000 in
theorem ggX8_weighs_X8_canWeigh : GoodIn wsX8_weighs wsX8_canWeigh := goodIn_r _ [11, 12, 13, 4, 14, 15, 16, 17, 6, 7, 8] (by decide +kernel) (by decide +kernel)
set_option maxRecDepth 20000 in
theorem gX8_weighs_X8_canWeigh : GoodIn wsX8_weighs (va_wsS RX8 123 yX8_canWeigh wsX8_canWeigh) := goodIn_app (goodIn_of _ (by decide +kernel)) ggX8_weighs_X8_canWeigh
set_option maxRecDepth 20000 in
theorem ggX8_weighs_X8_weighOn : GoodIn wsX8_weighs wsX8_weighOn := goodIn_r _ [20, 21, 22, 4, 23, 24, 25, 26, 27, 28, 29, 30, 31, 32] (by decide +kernel) (by decide +kernel)
set_option maxRecDepth 20000 in
theorem gX8_weighs_X8_weighOn : GoodIn wsX8_weighs (va_wsS RX8 126 yX8_weighOn wsX8_weighOn) := goodIn_app (goodIn_of _ (by decide +kernel)) ggX8_weighs_X8_weighOn
theorem dX8_weighs_0 : decode cX8_weighs 0 = .ok (.iload_n 2, 1) := by decide +kernel
theorem dX8_weighs_1 : decode cX8_weighs 1 = .ok (.bipush 99, 2) := by decide +kernel
theorem dX8_weighs_3 : decode cX8_weighs 3 = .ok (.if_icmp .ne 7, 3) := by decide +kernel
theorem dX8_weighs_6 : decode cX8_weighs 6 = .ok (.iconst 0, 1) := by decide +kernel
theorem dX8_weighs_7 : decode cX8_weighs 7 = .ok (.goto 21, 3) := by decide +kernel
theorem dX8_weighs_10 : decode cX8_weighs 10 = .ok (.aload_n 0, 1) := by decide +kernel
theorem dX8_weighs_11 : decode cX8_weighs 11 = .ok (.getfield 16, 3) := by decide +kernel
theorem dX8_weighs_14 : decode cX8_weighs 14 = .ok (.iload_n 2, 1) := by decide +kernel
theorem dX8_weighs_15 : decode cX8_weighs 15 = .ok (.invokestatic 163, 3) := by decide +kernel
theorem dX8_weighs_18 : decode cX8_weighs 18 = .ok (.ifCond .eq 9, 3) := by decide +kernel
theorem dX8_weighs_21 : decode cX8_weighs 21 = .ok (.iconst 1, 1) := by decide +kernel
theorem dX8_weighs_22 : decode cX8_weighs 22 = .ok (.iload_n 2, 1) := by decide +kernel
theorem dX8_weighs_23 : decode cX8_weighs 23 = .ok (.ishl, 1) := by decide +kernel
theorem dX8_weighs_24 : decode cX8_weighs 24 = .ok (.goto 4, 3) := by decide +kernel
theorem dX8_weighs_27 : decode cX8_weighs 27 = .ok (.iconst (-1), 1) := by decide +kernel
theorem dX8_weighs_28 : decode cX8_weighs 28 = .ok (.istore_n 3, 1) := by decide +kernel
theorem dX8_weighs_29 : decode cX8_weighs 29 = .ok (.aload_n 0, 1) := by decide +kernel
theorem dX8_weighs_30 : decode cX8_weighs 30 = .ok (.getfield 16, 3) := by decide +kernel
theorem dX8_weighs_33 : decode cX8_weighs 33 = .ok (.iload_n 1, 1) := by decide +kernel
theorem dX8_weighs_34 : decode cX8_weighs 34 = .ok (.invokestatic 163, 3) := by decide +kernel
theorem dX8_weighs_37 : decode cX8_weighs 37 = .ok (.ifCond .eq 40, 3) := by decide +kernel
theorem dX8_weighs_40 : decode cX8_weighs 40 = .ok (.iload_n 3, 1) := by decide +kernel
theorem dX8_weighs_41 : decode cX8_weighs 41 = .ok (.iconst (-1), 1) := by decide +kernel
theorem dX8_weighs_42 : decode cX8_weighs 42 = .ok (.if_icmp .eq 35, 3) := by decide +kernel
theorem dX8_weighs_45 : decode cX8_weighs 45 = .ok (.aload_n 0, 1) := by decide +kernel
theorem dX8_weighs_46 : decode cX8_weighs 46 = .ok (.getfield 16, 3) := by decide +kernel
theorem dX8_weighs_49 : decode cX8_weighs 49 = .ok (.iconst 1, 1) := by decide +kernel
theorem dX8_weighs_50 : decode cX8_weighs 50 = .ok (.iload_n 1, 1) := by decide +kernel
theorem dX8_weighs_51 : decode cX8_weighs 51 = .ok (.ishl, 1) := by decide +kernel
theorem dX8_weighs_52 : decode cX8_weighs 52 = .ok (.iload_n 3, 1) := by decide +kernel
theorem dX8_weighs_53 : decode cX8_weighs 53 = .ok (.invokestatic 123, 3) := by decide +kernel
theorem dX8_weighs_56 : decode cX8_weighs 56 = .ok (.ifCond .eq 21, 3) := by decide +kernel
theorem dX8_weighs_59 : decode cX8_weighs 59 = .ok (.aload_n 0, 1) := by decide +kernel
theorem dX8_weighs_60 : decode cX8_weighs 60 = .ok (.getfield 16, 3) := by decide +kernel
theorem dX8_weighs_63 : decode cX8_weighs 63 = .ok (.iconst 1, 1) := by decide +kernel
theorem dX8_weighs_64 : decode cX8_weighs 64 = .ok (.iload_n 1, 1) := by decide +kernel
theorem dX8_weighs_65 : decode cX8_weighs 65 = .ok (.ishl, 1) := by decide +kernel
theorem dX8_weighs_66 : decode cX8_weighs 66 = .ok (.iload_n 3, 1) := by decide +kernel
theorem dX8_weighs_67 : decode cX8_weighs 67 = .ok (.invokestatic 126, 3) := by decide +kernel
theorem dX8_weighs_70 : decode cX8_weighs 70 = .ok (.ifCond .lt 7, 3) := by decide +kernel
theorem dX8_weighs_73 : decode cX8_weighs 73 = .ok (.iconst 1, 1) := by decide +kernel
theorem dX8_weighs_74 : decode cX8_weighs 74 = .ok (.goto 4, 3) := by decide +kernel
theorem dX8_weighs_77 : decode cX8_weighs 77 = .ok (.iconst 0, 1) := by decide +kernel
theorem dX8_weighs_78 : decode cX8_weighs 78 = .ok (.ireturn, 1) := by decide +kernel
set_option maxRecDepth 20000 in
theorem ggX8_command_X8_weighs : GoodIn wsX8_command wsX8_weighs := goodIn_r _ [6, 1, 7, 8, 5, 9, 10, 11, 12, 13, 14, 15, 16, 17, 18, 19, 20, 21, 22, 23, 24, 25, 26, 27, 28, 29, 30, 31, 32, 33, 34, 35, 36, 74, 75, 76, 77, 78, 79, 80, 81, 82, 83, 84, 85, 86, 87] (by decide +kernel) (by decide +kernel)
set_option maxRecDepth 20000 in
theorem gX8_command_X8_weighs : GoodIn wsX8_command (wsV RX8 202 RX8 yX8_weighs wsX8_weighs) := goodIn_app (goodIn_of _ (by decide +kernel)) ggX8_command_X8_weighs
set_option maxRecDepth 20000 in
theorem ggX8_command_X8_isArms : GoodIn wsX8_command wsX8_isArms := goodIn_r _ [39, 40, 10, 11, 5, 12] (by decide +kernel) (by decide +kernel)
set_option maxRecDepth 20000 in
theorem gX8_command_X8_isArms : GoodIn wsX8_command (va_wsS RX8 180 yX8_isArms wsX8_isArms) := goodIn_app (goodIn_of _ (by decide +kernel)) ggX8_command_X8_isArms
set_option maxRecDepth 20000 in
theorem ggX8_command_X8_armsOn : GoodIn wsX8_command wsX8_armsOn := goodIn_r _ [43] (by decide +kernel) (by decide +kernel)
set_option maxRecDepth 20000 in
theorem gX8_command_X8_armsOn : GoodIn wsX8_command (va_wsS RX8 138 yX8_armsOn wsX8_armsOn) := goodIn_app (goodIn_of _ (by decide +kernel)) ggX8_command_X8_armsOn
set_option maxRecDepth 20000 in
theorem ggX8_command_X8_isCoin : GoodIn wsX8_command wsX8_isCoin := goodIn_r _ [9, 10, 11, 5, 12] (by decide +kernel) (by decide +kernel)
set_option maxRecDepth 20000 in
theorem gX8_command_X8_isCoin : GoodIn wsX8_command (va_wsS RX8 163 yX8_isCoin wsX8_isCoin) := goodIn_app (goodIn_of _ (by decide +kernel)) ggX8_command_X8_isCoin
set_option maxRecDepth 20000 in
theorem ggX8_command_X8_accuseOn : GoodIn wsX8_command wsX8_accuseOn := goodIn_r _ [46, 47, 48, 5, 49] (by decide +kernel) (by decide +kernel)
set_option maxRecDepth 20000 in
theorem gX8_command_X8_accuseOn : GoodIn wsX8_command (va_wsS RX8 184 yX8_accuseOn wsX8_accuseOn) := goodIn_app (goodIn_of _ (by decide +kernel)) ggX8_command_X8_accuseOn
set_option maxRecDepth 20000 in
theorem ggX8_command_X8_told : GoodIn wsX8_command wsX8_told := goodIn_r _ [49] (by decide +kernel) (by decide +kernel)
set_option maxRecDepth 20000 in
theorem gX8_command_X8_told : GoodIn wsX8_command (va_wsS RX8 93 yX8_told wsX8_told) := goodIn_app (goodIn_of _ (by decide +kernel)) ggX8_command_X8_told
set_option maxRecDepth 20000 in
theorem ggX8_command_X8_forgetOn : GoodIn wsX8_command wsX8_forgetOn := goodIn_r _ [52] (by decide +kernel) (by decide +kernel)
set_option maxRecDepth 20000 in
theorem gX8_command_X8_forgetOn : GoodIn wsX8_command (va_wsS RX8 190 yX8_forgetOn wsX8_forgetOn) := goodIn_app (goodIn_of _ (by decide +kernel)) ggX8_command_X8_forgetOn
set_option maxRecDepth 20000 in
theorem ggX8_command_X8_leftOf : GoodIn wsX8_command wsX8_leftOf := goodIn_r _ [55, 56, 57, 5, 58, 59, 60, 61, 62, 63, 64, 25, 26, 27, 28, 29, 30, 31, 32, 33, 34, 35, 36] (by decide +kernel) (by decide +kernel)
set_option maxRecDepth 20000 in
theorem gX8_command_X8_leftOf : GoodIn wsX8_command (va_wsS RX8 86 yX8_leftOf wsX8_leftOf) := goodIn_app (goodIn_of _ (by decide +kernel)) ggX8_command_X8_leftOf
set_option maxRecDepth 20000 in
theorem ggX8_command_X8_coinOf : GoodIn wsX8_command wsX8_coinOf := goodIn_r _ [67, 59, 60, 5, 61, 62, 63, 64, 25, 26, 27, 28, 29, 30, 31, 32, 33, 34, 35, 36] (by decide +kernel) (by decide +kernel)
set_option maxRecDepth 20000 in
theorem gX8_command_X8_coinOf : GoodIn wsX8_command (va_wsS RX8 166 yX8_coinOf wsX8_coinOf) := goodIn_app (goodIn_of _ (by decide +kernel)) ggX8_command_X8_coinOf
set_option maxRecDepth 20000 in
theorem ggX8_command_X8_pansOf : GoodIn wsX8_command wsX8_pansOf := goodIn_r _ [70, 59, 60, 5, 61, 62, 63, 64, 25, 26, 27, 28, 29, 30, 31, 32, 33, 34, 35, 36] (by decide +kernel) (by decide +kernel)
set_option maxRecDepth 20000 in
theorem gX8_command_X8_pansOf : GoodIn wsX8_command (va_wsS RX8 169 yX8_pansOf wsX8_pansOf) := goodIn_app (goodIn_of _ (by decide +kernel)) ggX8_command_X8_pansOf
set_option maxRecDepth 20000 in
theorem ggX8_command_X8_needsOf : GoodIn wsX8_command wsX8_needsOf := goodIn_r _ [73, 53, 54, 5, 55, 56, 57, 58, 59, 60, 61, 62, 63, 64, 25, 26, 27, 28, 29, 30, 31, 32, 33, 34, 35, 36] (by decide +kernel) (by decide +kernel)
set_option maxRecDepth 20000 in
theorem gX8_command_X8_needsOf : GoodIn wsX8_command (va_wsS RX8 199 yX8_needsOf wsX8_needsOf) := goodIn_app (goodIn_of _ (by decide +kernel)) ggX8_command_X8_needsOf
theorem dX8_command_0 : decode cX8_command 0 = .ok (.iload_n 2, 1) := by decide +kernel
theorem dX8_command_1 : decode cX8_command 1 = .ok (.bipush 100, 2) := by decide +kernel
theorem dX8_command_3 : decode cX8_command 3 = .ok (.idiv, 1) := by decide +kernel
theorem dX8_command_4 : decode cX8_command 4 = .ok (.istore_n 3, 1) := by decide +kernel
theorem dX8_command_5 : decode cX8_command 5 = .ok (.iload_n 2, 1) := by decide +kernel
theorem dX8_command_6 : decode cX8_command 6 = .ok (.bipush 100, 2) := by decide +kernel
theorem dX8_command_8 : decode cX8_command 8 = .ok (.irem, 1) := by decide +kernel
theorem dX8_command_9 : decode cX8_command 9 = .ok (.istore 4, 2) := by decide +kernel
theorem dX8_command_11 : decode cX8_command 11 = .ok (.iload_n 2, 1) := by decide +kernel
theorem dX8_command_12 : decode cX8_command 12 = .ok (.sipush 1000, 3) := by decide +kernel
theorem dX8_command_15 : decode cX8_command 15 = .ok (.idiv, 1) := by decide +kernel
theorem dX8_command_16 : decode cX8_command 16 = .ok (.istore 5, 2) := by decide +kernel
theorem dX8_command_18 : decode cX8_command 18 = .ok (.iload_n 1, 1) := by decide +kernel
theorem dX8_command_19 : decode cX8_command 19 = .ok (.tableswitch 315 1 9 #[49, 57, 85, 131, 180, 209, 232, 269, 292], 49) := by decide +kernel
theorem dX8_command_68 : decode cX8_command 68 = .ok (.aload_n 0, 1) := by decide +kernel
theorem dX8_command_69 : decode cX8_command 69 = .ok (.iload_n 3, 1) := by decide +kernel
theorem dX8_command_70 : decode cX8_command 70 = .ok (.iload 4, 2) := by decide +kernel
theorem dX8_command_72 : decode cX8_command 72 = .ok (.invokevirtual 202, 3) := by decide +kernel
theorem dX8_command_75 : decode cX8_command 75 = .ok (.ireturn, 1) := by decide +kernel
theorem dX8_command_76 : decode cX8_command 76 = .ok (.iload_n 3, 1) := by decide +kernel
theorem dX8_command_77 : decode cX8_command 77 = .ok (.iload 4, 2) := by decide +kernel
theorem dX8_command_79 : decode cX8_command 79 = .ok (.invokestatic 180, 3) := by decide +kernel
theorem dX8_command_82 : decode cX8_command 82 = .ok (.ifCond .eq 20, 3) := by decide +kernel
theorem dX8_command_85 : decode cX8_command 85 = .ok (.aload_n 0, 1) := by decide +kernel
theorem dX8_command_86 : decode cX8_command 86 = .ok (.getfield 16, 3) := by decide +kernel
theorem dX8_command_89 : decode cX8_command 89 = .ok (.iload_n 3, 1) := by decide +kernel
theorem dX8_command_90 : decode cX8_command 90 = .ok (.iload 4, 2) := by decide +kernel
theorem dX8_command_92 : decode cX8_command 92 = .ok (.invokestatic 138, 3) := by decide +kernel
theorem dX8_command_95 : decode cX8_command 95 = .ok (.ifCond .lt 7, 3) := by decide +kernel
theorem dX8_command_98 : decode cX8_command 98 = .ok (.iconst 1, 1) := by decide +kernel
theorem dX8_command_99 : decode cX8_command 99 = .ok (.goto 4, 3) := by decide +kernel
theorem dX8_command_102 : decode cX8_command 102 = .ok (.iconst 0, 1) := by decide +kernel
theorem dX8_command_103 : decode cX8_command 103 = .ok (.ireturn, 1) := by decide +kernel
theorem dX8_command_104 : decode cX8_command 104 = .ok (.iload 4, 2) := by decide +kernel
theorem dX8_command_106 : decode cX8_command 106 = .ok (.iconst 2, 1) := by decide +kernel
theorem dX8_command_107 : decode cX8_command 107 = .ok (.if_icmp .ge 41, 3) := by decide +kernel
theorem dX8_command_110 : decode cX8_command 110 = .ok (.aload_n 0, 1) := by decide +kernel
theorem dX8_command_111 : decode cX8_command 111 = .ok (.getfield 16, 3) := by decide +kernel
theorem dX8_command_114 : decode cX8_command 114 = .ok (.iload_n 3, 1) := by decide +kernel
theorem dX8_command_115 : decode cX8_command 115 = .ok (.invokestatic 163, 3) := by decide +kernel
theorem dX8_command_118 : decode cX8_command 118 = .ok (.ifCond .eq 30, 3) := by decide +kernel
theorem dX8_command_121 : decode cX8_command 121 = .ok (.aload_n 0, 1) := by decide +kernel
theorem dX8_command_122 : decode cX8_command 122 = .ok (.getfield 16, 3) := by decide +kernel
theorem dX8_command_125 : decode cX8_command 125 = .ok (.iload_n 3, 1) := by decide +kernel
theorem dX8_command_126 : decode cX8_command 126 = .ok (.iload 4, 2) := by decide +kernel
theorem dX8_command_128 : decode cX8_command 128 = .ok (.iconst 1, 1) := by decide +kernel
theorem dX8_command_129 : decode cX8_command 129 = .ok (.if_icmp .ne 7, 3) := by decide +kernel
theorem dX8_command_132 : decode cX8_command 132 = .ok (.iconst 1, 1) := by decide +kernel
theorem dX8_command_133 : decode cX8_command 133 = .ok (.goto 4, 3) := by decide +kernel
theorem dX8_command_136 : decode cX8_command 136 = .ok (.iconst 0, 1) := by decide +kernel
theorem dX8_command_137 : decode cX8_command 137 = .ok (.invokestatic 184, 3) := by decide +kernel
theorem dX8_command_140 : decode cX8_command 140 = .ok (.iconst 1, 1) := by decide +kernel
theorem dX8_command_141 : decode cX8_command 141 = .ok (.if_icmp .ne 7, 3) := by decide +kernel
theorem dX8_command_144 : decode cX8_command 144 = .ok (.iconst 1, 1) := by decide +kernel
theorem dX8_command_145 : decode cX8_command 145 = .ok (.goto 4, 3) := by decide +kernel
theorem dX8_command_148 : decode cX8_command 148 = .ok (.iconst 0, 1) := by decide +kernel
theorem dX8_command_149 : decode cX8_command 149 = .ok (.ireturn, 1) := by decide +kernel
theorem dX8_command_150 : decode cX8_command 150 = .ok (.iload_n 2, 1) := by decide +kernel
theorem dX8_command_151 : decode cX8_command 151 = .ok (.sipush 1000, 3) := by decide +kernel
theorem dX8_command_154 : decode cX8_command 154 = .ok (.irem, 1) := by decide +kernel
theorem dX8_command_155 : decode cX8_command 155 = .ok (.ifCond .ne 42, 3) := by decide +kernel
theorem dX8_command_158 : decode cX8_command 158 = .ok (.iload 5, 2) := by decide +kernel
theorem dX8_command_160 : decode cX8_command 160 = .ok (.iconst 3, 1) := by decide +kernel
theorem dX8_command_161 : decode cX8_command 161 = .ok (.if_icmp .ge 36, 3) := by decide +kernel
theorem dX8_command_164 : decode cX8_command 164 = .ok (.aload_n 0, 1) := by decide +kernel
theorem dX8_command_165 : decode cX8_command 165 = .ok (.getfield 16, 3) := by decide +kernel
theorem dX8_command_168 : decode cX8_command 168 = .ok (.aload_n 0, 1) := by decide +kernel
theorem dX8_command_169 : decode cX8_command 169 = .ok (.getfield 16, 3) := by decide +kernel
theorem dX8_command_172 : decode cX8_command 172 = .ok (.iconst 1, 1) := by decide +kernel
theorem dX8_command_173 : decode cX8_command 173 = .ok (.iaload, 1) := by decide +kernel
theorem dX8_command_174 : decode cX8_command 174 = .ok (.iconst 3, 1) := by decide +kernel
theorem dX8_command_175 : decode cX8_command 175 = .ok (.irem, 1) := by decide +kernel
theorem dX8_command_176 : decode cX8_command 176 = .ok (.iload 5, 2) := by decide +kernel
theorem dX8_command_178 : decode cX8_command 178 = .ok (.if_icmp .ne 7, 3) := by decide +kernel
theorem dX8_command_181 : decode cX8_command 181 = .ok (.iconst 1, 1) := by decide +kernel
theorem dX8_command_182 : decode cX8_command 182 = .ok (.goto 4, 3) := by decide +kernel
theorem dX8_command_185 : decode cX8_command 185 = .ok (.iconst 0, 1) := by decide +kernel
theorem dX8_command_186 : decode cX8_command 186 = .ok (.invokestatic 93, 3) := by decide +kernel
theorem dX8_command_189 : decode cX8_command 189 = .ok (.iconst 1, 1) := by decide +kernel
theorem dX8_command_190 : decode cX8_command 190 = .ok (.if_icmp .ne 7, 3) := by decide +kernel
theorem dX8_command_193 : decode cX8_command 193 = .ok (.iconst 1, 1) := by decide +kernel
theorem dX8_command_194 : decode cX8_command 194 = .ok (.goto 4, 3) := by decide +kernel
theorem dX8_command_197 : decode cX8_command 197 = .ok (.iconst 0, 1) := by decide +kernel
theorem dX8_command_198 : decode cX8_command 198 = .ok (.ireturn, 1) := by decide +kernel
theorem dX8_command_199 : decode cX8_command 199 = .ok (.iload_n 2, 1) := by decide +kernel
theorem dX8_command_200 : decode cX8_command 200 = .ok (.ifCond .ne 26, 3) := by decide +kernel
theorem dX8_command_203 : decode cX8_command 203 = .ok (.aload_n 0, 1) := by decide +kernel
theorem dX8_command_204 : decode cX8_command 204 = .ok (.getfield 16, 3) := by decide +kernel
theorem dX8_command_207 : decode cX8_command 207 = .ok (.iconst 4, 1) := by decide +kernel
theorem dX8_command_208 : decode cX8_command 208 = .ok (.iaload, 1) := by decide +kernel
theorem dX8_command_209 : decode cX8_command 209 = .ok (.ifCond .le 17, 3) := by decide +kernel
theorem dX8_command_212 : decode cX8_command 212 = .ok (.aload_n 0, 1) := by decide +kernel
theorem dX8_command_213 : decode cX8_command 213 = .ok (.getfield 16, 3) := by decide +kernel
theorem dX8_command_216 : decode cX8_command 216 = .ok (.invokestatic 190, 3) := by decide +kernel
theorem dX8_command_219 : decode cX8_command 219 = .ok (.ifCond .lt 7, 3) := by decide +kernel
theorem dX8_command_222 : decode cX8_command 222 = .ok (.iconst 1, 1) := by decide +kernel
theorem dX8_command_223 : decode cX8_command 223 = .ok (.goto 4, 3) := by decide +kernel
theorem dX8_command_226 : decode cX8_command 226 = .ok (.iconst 0, 1) := by decide +kernel
theorem dX8_command_227 : decode cX8_command 227 = .ok (.ireturn, 1) := by decide +kernel
theorem dX8_command_228 : decode cX8_command 228 = .ok (.iload_n 2, 1) := by decide +kernel
theorem dX8_command_229 : decode cX8_command 229 = .ok (.bipush 100, 2) := by decide +kernel
theorem dX8_command_231 : decode cX8_command 231 = .ok (.if_icmp .ge 18, 3) := by decide +kernel
theorem dX8_command_234 : decode cX8_command 234 = .ok (.aload_n 0, 1) := by decide +kernel
theorem dX8_command_235 : decode cX8_command 235 = .ok (.getfield 16, 3) := by decide +kernel
theorem dX8_command_238 : decode cX8_command 238 = .ok (.invokestatic 86, 3) := by decide +kernel
theorem dX8_command_241 : decode cX8_command 241 = .ok (.iload_n 2, 1) := by decide +kernel
theorem dX8_command_242 : decode cX8_command 242 = .ok (.if_icmp .gt 7, 3) := by decide +kernel
theorem dX8_command_245 : decode cX8_command 245 = .ok (.iconst 1, 1) := by decide +kernel
theorem dX8_command_246 : decode cX8_command 246 = .ok (.goto 4, 3) := by decide +kernel
theorem dX8_command_249 : decode cX8_command 249 = .ok (.iconst 0, 1) := by decide +kernel
theorem dX8_command_250 : decode cX8_command 250 = .ok (.ireturn, 1) := by decide +kernel
theorem dX8_command_251 : decode cX8_command 251 = .ok (.iload 4, 2) := by decide +kernel
theorem dX8_command_253 : decode cX8_command 253 = .ok (.bipush 10, 2) := by decide +kernel
theorem dX8_command_255 : decode cX8_command 255 = .ok (.if_icmp .ge 31, 3) := by decide +kernel
theorem dX8_command_258 : decode cX8_command 258 = .ok (.aload_n 0, 1) := by decide +kernel
theorem dX8_command_259 : decode cX8_command 259 = .ok (.getfield 16, 3) := by decide +kernel
theorem dX8_command_262 : decode cX8_command 262 = .ok (.iload_n 3, 1) := by decide +kernel
theorem dX8_command_263 : decode cX8_command 263 = .ok (.invokestatic 163, 3) := by decide +kernel
theorem dX8_command_266 : decode cX8_command 266 = .ok (.ifCond .eq 20, 3) := by decide +kernel
theorem dX8_command_269 : decode cX8_command 269 = .ok (.aload_n 0, 1) := by decide +kernel
theorem dX8_command_270 : decode cX8_command 270 = .ok (.getfield 16, 3) := by decide +kernel
theorem dX8_command_273 : decode cX8_command 273 = .ok (.iload_n 3, 1) := by decide +kernel
theorem dX8_command_274 : decode cX8_command 274 = .ok (.invokestatic 166, 3) := by decide +kernel
theorem dX8_command_277 : decode cX8_command 277 = .ok (.iload 4, 2) := by decide +kernel
theorem dX8_command_279 : decode cX8_command 279 = .ok (.if_icmp .ne 7, 3) := by decide +kernel
theorem dX8_command_282 : decode cX8_command 282 = .ok (.iconst 1, 1) := by decide +kernel
theorem dX8_command_283 : decode cX8_command 283 = .ok (.goto 4, 3) := by decide +kernel
theorem dX8_command_286 : decode cX8_command 286 = .ok (.iconst 0, 1) := by decide +kernel
theorem dX8_command_287 : decode cX8_command 287 = .ok (.ireturn, 1) := by decide +kernel
theorem dX8_command_288 : decode cX8_command 288 = .ok (.iload_n 2, 1) := by decide +kernel
theorem dX8_command_289 : decode cX8_command 289 = .ok (.bipush 10, 2) := by decide +kernel
theorem dX8_command_291 : decode cX8_command 291 = .ok (.if_icmp .ge 18, 3) := by decide +kernel
theorem dX8_command_294 : decode cX8_command 294 = .ok (.aload_n 0, 1) := by decide +kernel
theorem dX8_command_295 : decode cX8_command 295 = .ok (.getfield 16, 3) := by decide +kernel
theorem dX8_command_298 : decode cX8_command 298 = .ok (.invokestatic 169, 3) := by decide +kernel
theorem dX8_command_301 : decode cX8_command 301 = .ok (.iload_n 2, 1) := by decide +kernel
theorem dX8_command_302 : decode cX8_command 302 = .ok (.if_icmp .ne 7, 3) := by decide +kernel
theorem dX8_command_305 : decode cX8_command 305 = .ok (.iconst 1, 1) := by decide +kernel
theorem dX8_command_306 : decode cX8_command 306 = .ok (.goto 4, 3) := by decide +kernel
theorem dX8_command_309 : decode cX8_command 309 = .ok (.iconst 0, 1) := by decide +kernel
theorem dX8_command_310 : decode cX8_command 310 = .ok (.ireturn, 1) := by decide +kernel
theorem dX8_command_311 : decode cX8_command 311 = .ok (.iload_n 2, 1) := by decide +kernel
theorem dX8_command_312 : decode cX8_command 312 = .ok (.bipush 10, 2) := by decide +kernel
theorem dX8_command_314 : decode cX8_command 314 = .ok (.if_icmp .ge 18, 3) := by decide +kernel
theorem dX8_command_317 : decode cX8_command 317 = .ok (.aload_n 0, 1) := by decide +kernel
theorem dX8_command_318 : decode cX8_command 318 = .ok (.getfield 16, 3) := by decide +kernel
theorem dX8_command_321 : decode cX8_command 321 = .ok (.invokestatic 199, 3) := by decide +kernel
theorem dX8_command_324 : decode cX8_command 324 = .ok (.iload_n 2, 1) := by decide +kernel
theorem dX8_command_325 : decode cX8_command 325 = .ok (.if_icmp .gt 7, 3) := by decide +kernel
theorem dX8_command_328 : decode cX8_command 328 = .ok (.iconst 1, 1) := by decide +kernel
theorem dX8_command_329 : decode cX8_command 329 = .ok (.goto 4, 3) := by decide +kernel
theorem dX8_command_332 : decode cX8_command 332 = .ok (.iconst 0, 1) := by decide +kernel
theorem dX8_command_333 : decode cX8_command 333 = .ok (.ireturn, 1) := by decide +kernel
theorem dX8_command_334 : decode cX8_command 334 = .ok (.iconst 0, 1) := by decide +kernel
theorem dX8_command_335 : decode cX8_command 335 = .ok (.ireturn, 1) := by decide +kernel
set_option maxRecDepth 20000 in
theorem ggX8_runScript_X8_in : GoodIn wsX8_runScript wsX8_in := goodIn_r _ [8] (by decide +kernel) (by decide +kernel)
set_option maxRecDepth 20000 in
theorem gX8_runScript_X8_in : GoodIn wsX8_runScript (va_wsS RX8 43 yX8_in wsX8_in) := goodIn_app (goodIn_of _ (by decide +kernel)) ggX8_runScript_X8_in
set_option maxRecDepth 20000 in
theorem ggX8_runScript_X8_refused : GoodIn wsX8_runScript wsX8_refused := goodIn_r _ [12, 13, 89, 90, 91, 92, 93, 94, 95, 96, 97, 98, 99, 100, 101, 102] (by decide +kernel) (by decide +kernel)
set_option maxRecDepth 20000 in
theorem gX8_runScript_X8_refused : GoodIn wsX8_runScript (wsV RX8 102 RX8 yX8_refused wsX8_refused) := goodIn_app (goodIn_of _ (by decide +kernel)) ggX8_runScript_X8_refused
set_option maxRecDepth 20000 in
theorem ggX8_runScript_X8_copyState : GoodIn wsX8_runScript wsX8_copyState := goodIn_r _ [16] (by decide +kernel) (by decide +kernel)
set_option maxRecDepth 20000 in
theorem gX8_runScript_X8_copyState : GoodIn wsX8_runScript (va_wsS RX8 154 yX8_copyState wsX8_copyState) := goodIn_app (goodIn_of _ (by decide +kernel)) ggX8_runScript_X8_copyState
set_option maxRecDepth 20000 in
theorem ggX8_runScript_X8_command : GoodIn wsX8_runScript wsX8_command := goodIn_r _ [20, 4, 21, 22, 23, 7, 24, 25, 26, 27, 5, 6, 8, 28, 29, 30, 31, 32, 33, 34, 35, 36, 37, 38, 39, 40, 41, 42, 43, 44, 45, 46, 47, 48, 49, 50, 51, 52, 53, 54, 55, 56, 57, 58, 59, 60, 61, 62, 63, 64, 65, 66, 67, 68, 69, 70, 71, 72, 73, 74, 75, 76, 77, 78, 79, 80, 81, 82, 83, 84, 85, 86, 87, 88, 89, 90, 91, 92, 93, 94, 95, 96, 97, 98, 99, 100, 101, 102] (by decide +kernel) (by decide +kernel)
set_option maxRecDepth 20000 in
theorem gX8_runScript_X8_command : GoodIn wsX8_runScript (wsV RX8 207 RX8 yX8_command wsX8_command) := goodIn_app (goodIn_of _ (by decide +kernel)) ggX8_runScript_X8_command
theorem dX8_runScript_0 : decode cX8_runScript 0 = .ok (.lconst 1, 1) := by decide +kernel
theorem dX8_runScript_1 : decode cX8_runScript 1 = .ok (.lstore 4, 2) := by decide +kernel
theorem dX8_runScript_3 : decode cX8_runScript 3 = .ok (.iconst 0, 1) := by decide +kernel
theorem dX8_runScript_4 : decode cX8_runScript 4 = .ok (.istore 6, 2) := by decide +kernel
theorem dX8_runScript_6 : decode cX8_runScript 6 = .ok (.iload 6, 2) := by decide +kernel
theorem dX8_runScript_8 : decode cX8_runScript 8 = .ok (.iload_n 1, 1) := by decide +kernel
theorem dX8_runScript_9 : decode cX8_runScript 9 = .ok (.if_icmp .ge 23, 3) := by decide +kernel
theorem dX8_runScript_12 : decode cX8_runScript 12 = .ok (.iload 6, 2) := by decide +kernel
theorem dX8_runScript_14 : decode cX8_runScript 14 = .ok (.iconst 3, 1) := by decide +kernel
theorem dX8_runScript_15 : decode cX8_runScript 15 = .ok (.if_icmp .ge 17, 3) := by decide +kernel
theorem dX8_runScript_18 : decode cX8_runScript 18 = .ok (.lload 4, 2) := by decide +kernel
theorem dX8_runScript_20 : decode cX8_runScript 20 = .ok (.ldc2_w 205, 3) := by decide +kernel
theorem dX8_runScript_23 : decode cX8_runScript 23 = .ok (.lmul, 1) := by decide +kernel
theorem dX8_runScript_24 : decode cX8_runScript 24 = .ok (.lstore 4, 2) := by decide +kernel
theorem dX8_runScript_26 : decode cX8_runScript 26 = .ok (.iinc 6 1, 3) := by decide +kernel
theorem dX8_runScript_29 : decode cX8_runScript 29 = .ok (.goto (-23), 3) := by decide +kernel
theorem dX8_runScript_32 : decode cX8_runScript 32 = .ok (.aload_n 0, 1) := by decide +kernel
theorem dX8_runScript_33 : decode cX8_runScript 33 = .ok (.iload_n 1, 1) := by decide +kernel
theorem dX8_runScript_34 : decode cX8_runScript 34 = .ok (.i2l, 1) := by decide +kernel
theorem dX8_runScript_35 : decode cX8_runScript 35 = .ok (.lconst 1, 1) := by decide +kernel
theorem dX8_runScript_36 : decode cX8_runScript 36 = .ok (.ldc2_w 47, 3) := by decide +kernel
theorem dX8_runScript_39 : decode cX8_runScript 39 = .ok (.invokestatic 43, 3) := by decide +kernel
theorem dX8_runScript_42 : decode cX8_runScript 42 = .ok (.ifCond .eq 19, 3) := by decide +kernel
theorem dX8_runScript_45 : decode cX8_runScript 45 = .ok (.lload_n 2, 1) := by decide +kernel
theorem dX8_runScript_46 : decode cX8_runScript 46 = .ok (.lconst 0, 1) := by decide +kernel
theorem dX8_runScript_47 : decode cX8_runScript 47 = .ok (.lload 4, 2) := by decide +kernel
theorem dX8_runScript_49 : decode cX8_runScript 49 = .ok (.lconst 1, 1) := by decide +kernel
theorem dX8_runScript_50 : decode cX8_runScript 50 = .ok (.lsub, 1) := by decide +kernel
theorem dX8_runScript_51 : decode cX8_runScript 51 = .ok (.invokestatic 43, 3) := by decide +kernel
theorem dX8_runScript_54 : decode cX8_runScript 54 = .ok (.ifCond .eq 7, 3) := by decide +kernel
theorem dX8_runScript_57 : decode cX8_runScript 57 = .ok (.iconst 0, 1) := by decide +kernel
theorem dX8_runScript_58 : decode cX8_runScript 58 = .ok (.goto 4, 3) := by decide +kernel
theorem dX8_runScript_61 : decode cX8_runScript 61 = .ok (.iconst 1, 1) := by decide +kernel
theorem dX8_runScript_62 : decode cX8_runScript 62 = .ok (.invokevirtual 102, 3) := by decide +kernel
theorem dX8_runScript_65 : decode cX8_runScript 65 = .ok (.ifCond .eq 5, 3) := by decide +kernel
theorem dX8_runScript_68 : decode cX8_runScript 68 = .ok (.iconst 0, 1) := by decide +kernel
theorem dX8_runScript_69 : decode cX8_runScript 69 = .ok (.ireturn, 1) := by decide +kernel
theorem dX8_runScript_70 : decode cX8_runScript 70 = .ok (.aload_n 0, 1) := by decide +kernel
theorem dX8_runScript_71 : decode cX8_runScript 71 = .ok (.getfield 13, 3) := by decide +kernel
theorem dX8_runScript_74 : decode cX8_runScript 74 = .ok (.iconst 0, 1) := by decide +kernel
theorem dX8_runScript_75 : decode cX8_runScript 75 = .ok (.aload_n 0, 1) := by decide +kernel
theorem dX8_runScript_76 : decode cX8_runScript 76 = .ok (.getfield 16, 3) := by decide +kernel
theorem dX8_runScript_79 : decode cX8_runScript 79 = .ok (.iconst 0, 1) := by decide +kernel
theorem dX8_runScript_80 : decode cX8_runScript 80 = .ok (.invokestatic 154, 3) := by decide +kernel
theorem dX8_runScript_83 : decode cX8_runScript 83 = .ok (.iconst 0, 1) := by decide +kernel
theorem dX8_runScript_84 : decode cX8_runScript 84 = .ok (.istore 6, 2) := by decide +kernel
theorem dX8_runScript_86 : decode cX8_runScript 86 = .ok (.iload 6, 2) := by decide +kernel
theorem dX8_runScript_88 : decode cX8_runScript 88 = .ok (.iload_n 1, 1) := by decide +kernel
theorem dX8_runScript_89 : decode cX8_runScript 89 = .ok (.if_icmp .ge 50, 3) := by decide +kernel
theorem dX8_runScript_92 : decode cX8_runScript 92 = .ok (.lload 4, 2) := by decide +kernel
theorem dX8_runScript_94 : decode cX8_runScript 94 = .ok (.ldc2_w 205, 3) := by decide +kernel
theorem dX8_runScript_97 : decode cX8_runScript 97 = .ok (.ldiv, 1) := by decide +kernel
theorem dX8_runScript_98 : decode cX8_runScript 98 = .ok (.lstore 4, 2) := by decide +kernel
theorem dX8_runScript_100 : decode cX8_runScript 100 = .ok (.lload_n 2, 1) := by decide +kernel
theorem dX8_runScript_101 : decode cX8_runScript 101 = .ok (.lload 4, 2) := by decide +kernel
theorem dX8_runScript_103 : decode cX8_runScript 103 = .ok (.ldiv, 1) := by decide +kernel
theorem dX8_runScript_104 : decode cX8_runScript 104 = .ok (.ldc2_w 205, 3) := by decide +kernel
theorem dX8_runScript_107 : decode cX8_runScript 107 = .ok (.lrem, 1) := by decide +kernel
theorem dX8_runScript_108 : decode cX8_runScript 108 = .ok (.l2i, 1) := by decide +kernel
theorem dX8_runScript_109 : decode cX8_runScript 109 = .ok (.istore 7, 2) := by decide +kernel
theorem dX8_runScript_111 : decode cX8_runScript 111 = .ok (.aload_n 0, 1) := by decide +kernel
theorem dX8_runScript_112 : decode cX8_runScript 112 = .ok (.iload 7, 2) := by decide +kernel
theorem dX8_runScript_114 : decode cX8_runScript 114 = .ok (.sipush 10000, 3) := by decide +kernel
theorem dX8_runScript_117 : decode cX8_runScript 117 = .ok (.idiv, 1) := by decide +kernel
theorem dX8_runScript_118 : decode cX8_runScript 118 = .ok (.iload 7, 2) := by decide +kernel
theorem dX8_runScript_120 : decode cX8_runScript 120 = .ok (.sipush 10000, 3) := by decide +kernel
theorem dX8_runScript_123 : decode cX8_runScript 123 = .ok (.irem, 1) := by decide +kernel
theorem dX8_runScript_124 : decode cX8_runScript 124 = .ok (.invokevirtual 207, 3) := by decide +kernel
theorem dX8_runScript_127 : decode cX8_runScript 127 = .ok (.ifCond .ne 6, 3) := by decide +kernel
theorem dX8_runScript_130 : decode cX8_runScript 130 = .ok (.iload 6, 2) := by decide +kernel
theorem dX8_runScript_132 : decode cX8_runScript 132 = .ok (.ireturn, 1) := by decide +kernel
theorem dX8_runScript_133 : decode cX8_runScript 133 = .ok (.iinc 6 1, 3) := by decide +kernel
theorem dX8_runScript_136 : decode cX8_runScript 136 = .ok (.goto (-50), 3) := by decide +kernel
theorem dX8_runScript_139 : decode cX8_runScript 139 = .ok (.iconst (-1), 1) := by decide +kernel
theorem dX8_runScript_140 : decode cX8_runScript 140 = .ok (.ireturn, 1) := by decide +kernel
set_option maxRecDepth 20000 in
theorem ggX8_turn_X8_armsOn : GoodIn wsX8_turn wsX8_armsOn := goodIn_r _ [4] (by decide +kernel) (by decide +kernel)
