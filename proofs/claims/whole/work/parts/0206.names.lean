theorem dX4_tryWeighing_0 : decode cX4_tryWeighing 0 = .ok (.aload_n 0, 1) := by decide +kernel
theorem dX4_tryWeighing_1 : decode cX4_tryWeighing 1 = .ok (.iload_n 1, 1) := by decide +kernel
theorem dX4_tryWeighing_2 : decode cX4_tryWeighing 2 = .ok (.iload_n 2, 1) := by decide +kernel
theorem dX4_tryWeighing_3 : decode cX4_tryWeighing 3 = .ok (.invokevirtual 71, 3) := by decide +kernel
theorem dX4_tryWeighing_6 : decode cX4_tryWeighing 6 = .ok (.ifCond .eq 10, 3) := by decide +kernel
theorem dX4_tryWeighing_9 : decode cX4_tryWeighing 9 = .ok (.aload_n 0, 1) := by decide +kernel
theorem dX4_tryWeighing_10 : decode cX4_tryWeighing 10 = .ok (.invokevirtual 75, 3) := by decide +kernel
theorem dX4_tryWeighing_13 : decode cX4_tryWeighing 13 = .ok (.ifCond .eq 5, 3) := by decide +kernel
theorem dX4_tryWeighing_16 : decode cX4_tryWeighing 16 = .ok (.iconst 0, 1) := by decide +kernel
theorem dX4_tryWeighing_17 : decode cX4_tryWeighing 17 = .ok (.ireturn, 1) := by decide +kernel
theorem dX4_tryWeighing_18 : decode cX4_tryWeighing 18 = .ok (.aload_n 0, 1) := by decide +kernel
theorem dX4_tryWeighing_19 : decode cX4_tryWeighing 19 = .ok (.getfield 25, 3) := by decide +kernel
theorem dX4_tryWeighing_22 : decode cX4_tryWeighing 22 = .ok (.iload_n 1, 1) := by decide +kernel
theorem dX4_tryWeighing_23 : decode cX4_tryWeighing 23 = .ok (.iload_n 2, 1) := by decide +kernel
theorem dX4_tryWeighing_24 : decode cX4_tryWeighing 24 = .ok (.aload_n 0, 1) := by decide +kernel
theorem dX4_tryWeighing_25 : decode cX4_tryWeighing 25 = .ok (.getfield 33, 3) := by decide +kernel
theorem dX4_tryWeighing_28 : decode cX4_tryWeighing 28 = .ok (.aload_n 0, 1) := by decide +kernel
theorem dX4_tryWeighing_29 : decode cX4_tryWeighing 29 = .ok (.getfield 37, 3) := by decide +kernel
theorem dX4_tryWeighing_32 : decode cX4_tryWeighing 32 = .ok (.invokevirtual 79, 3) := by decide +kernel
theorem dX4_tryWeighing_35 : decode cX4_tryWeighing 35 = .ok (.aload_n 0, 1) := by decide +kernel
theorem dX4_tryWeighing_36 : decode cX4_tryWeighing 36 = .ok (.getfield 25, 3) := by decide +kernel
theorem dX4_tryWeighing_39 : decode cX4_tryWeighing 39 = .ok (.aload_n 0, 1) := by decide +kernel
theorem dX4_tryWeighing_40 : decode cX4_tryWeighing 40 = .ok (.getfield 49, 3) := by decide +kernel
theorem dX4_tryWeighing_43 : decode cX4_tryWeighing 43 = .ok (.invokevirtual 83, 3) := by decide +kernel
theorem dX4_tryWeighing_46 : decode cX4_tryWeighing 46 = .ok (.istore_n 3, 1) := by decide +kernel
theorem dX4_tryWeighing_47 : decode cX4_tryWeighing 47 = .ok (.aload_n 0, 1) := by decide +kernel
theorem dX4_tryWeighing_48 : decode cX4_tryWeighing 48 = .ok (.getfield 18, 3) := by decide +kernel
theorem dX4_tryWeighing_51 : decode cX4_tryWeighing 51 = .ok (.aload_n 0, 1) := by decide +kernel
theorem dX4_tryWeighing_52 : decode cX4_tryWeighing 52 = .ok (.getfield 25, 3) := by decide +kernel
theorem dX4_tryWeighing_55 : decode cX4_tryWeighing 55 = .ok (.iload_n 3, 1) := by decide +kernel
theorem dX4_tryWeighing_56 : decode cX4_tryWeighing 56 = .ok (.invokevirtual 86, 3) := by decide +kernel
theorem dX4_tryWeighing_59 : decode cX4_tryWeighing 59 = .ok (.aload_n 0, 1) := by decide +kernel
theorem dX4_tryWeighing_60 : decode cX4_tryWeighing 60 = .ok (.getfield 52, 3) := by decide +kernel
theorem dX4_tryWeighing_63 : decode cX4_tryWeighing 63 = .ok (.istore 4, 2) := by decide +kernel
theorem dX4_tryWeighing_65 : decode cX4_tryWeighing 65 = .ok (.aload_n 0, 1) := by decide +kernel
theorem dX4_tryWeighing_66 : decode cX4_tryWeighing 66 = .ok (.dup, 1) := by decide +kernel
theorem dX4_tryWeighing_67 : decode cX4_tryWeighing 67 = .ok (.getfield 52, 3) := by decide +kernel
theorem dX4_tryWeighing_70 : decode cX4_tryWeighing 70 = .ok (.iconst 1, 1) := by decide +kernel
theorem dX4_tryWeighing_71 : decode cX4_tryWeighing 71 = .ok (.iadd, 1) := by decide +kernel
theorem dX4_tryWeighing_72 : decode cX4_tryWeighing 72 = .ok (.putfield 52, 3) := by decide +kernel
theorem dX4_tryWeighing_75 : decode cX4_tryWeighing 75 = .ok (.aload_n 0, 1) := by decide +kernel
theorem dX4_tryWeighing_76 : decode cX4_tryWeighing 76 = .ok (.iload 4, 2) := by decide +kernel
theorem dX4_tryWeighing_78 : decode cX4_tryWeighing 78 = .ok (.iconst 0, 1) := by decide +kernel
theorem dX4_tryWeighing_79 : decode cX4_tryWeighing 79 = .ok (.iload_n 1, 1) := by decide +kernel
theorem dX4_tryWeighing_80 : decode cX4_tryWeighing 80 = .ok (.invokevirtual 90, 3) := by decide +kernel
theorem dX4_tryWeighing_83 : decode cX4_tryWeighing 83 = .ok (.aload_n 0, 1) := by decide +kernel
theorem dX4_tryWeighing_84 : decode cX4_tryWeighing 84 = .ok (.iload 4, 2) := by decide +kernel
theorem dX4_tryWeighing_86 : decode cX4_tryWeighing 86 = .ok (.iconst 1, 1) := by decide +kernel
theorem dX4_tryWeighing_87 : decode cX4_tryWeighing 87 = .ok (.iload_n 2, 1) := by decide +kernel
theorem dX4_tryWeighing_88 : decode cX4_tryWeighing 88 = .ok (.invokevirtual 90, 3) := by decide +kernel
theorem dX4_tryWeighing_91 : decode cX4_tryWeighing 91 = .ok (.aload_n 0, 1) := by decide +kernel
theorem dX4_tryWeighing_92 : decode cX4_tryWeighing 92 = .ok (.iload 4, 2) := by decide +kernel
theorem dX4_tryWeighing_94 : decode cX4_tryWeighing 94 = .ok (.iconst 2, 1) := by decide +kernel
theorem dX4_tryWeighing_95 : decode cX4_tryWeighing 95 = .ok (.iload_n 3, 1) := by decide +kernel
theorem dX4_tryWeighing_96 : decode cX4_tryWeighing 96 = .ok (.invokevirtual 90, 3) := by decide +kernel
theorem dX4_tryWeighing_99 : decode cX4_tryWeighing 99 = .ok (.aload_n 0, 1) := by decide +kernel
theorem dX4_tryWeighing_100 : decode cX4_tryWeighing 100 = .ok (.iload 4, 2) := by decide +kernel
theorem dX4_tryWeighing_102 : decode cX4_tryWeighing 102 = .ok (.iconst 3, 1) := by decide +kernel
theorem dX4_tryWeighing_103 : decode cX4_tryWeighing 103 = .ok (.aload_n 0, 1) := by decide +kernel
theorem dX4_tryWeighing_104 : decode cX4_tryWeighing 104 = .ok (.getfield 33, 3) := by decide +kernel
theorem dX4_tryWeighing_107 : decode cX4_tryWeighing 107 = .ok (.invokevirtual 90, 3) := by decide +kernel
theorem dX4_tryWeighing_110 : decode cX4_tryWeighing 110 = .ok (.aload_n 0, 1) := by decide +kernel
theorem dX4_tryWeighing_111 : decode cX4_tryWeighing 111 = .ok (.iload 4, 2) := by decide +kernel
theorem dX4_tryWeighing_113 : decode cX4_tryWeighing 113 = .ok (.iconst 4, 1) := by decide +kernel
theorem dX4_tryWeighing_114 : decode cX4_tryWeighing 114 = .ok (.aload_n 0, 1) := by decide +kernel
theorem dX4_tryWeighing_115 : decode cX4_tryWeighing 115 = .ok (.getfield 37, 3) := by decide +kernel
theorem dX4_tryWeighing_118 : decode cX4_tryWeighing 118 = .ok (.invokevirtual 90, 3) := by decide +kernel
theorem dX4_tryWeighing_121 : decode cX4_tryWeighing 121 = .ok (.aload_n 0, 1) := by decide +kernel
theorem dX4_tryWeighing_122 : decode cX4_tryWeighing 122 = .ok (.iload 4, 2) := by decide +kernel
theorem dX4_tryWeighing_124 : decode cX4_tryWeighing 124 = .ok (.iconst 5, 1) := by decide +kernel
theorem dX4_tryWeighing_125 : decode cX4_tryWeighing 125 = .ok (.aload_n 0, 1) := by decide +kernel
theorem dX4_tryWeighing_126 : decode cX4_tryWeighing 126 = .ok (.getfield 18, 3) := by decide +kernel
theorem dX4_tryWeighing_129 : decode cX4_tryWeighing 129 = .ok (.invokevirtual 94, 3) := by decide +kernel
theorem dX4_tryWeighing_132 : decode cX4_tryWeighing 132 = .ok (.invokevirtual 90, 3) := by decide +kernel
theorem dX4_tryWeighing_135 : decode cX4_tryWeighing 135 = .ok (.iconst 1, 1) := by decide +kernel
theorem dX4_tryWeighing_136 : decode cX4_tryWeighing 136 = .ok (.ireturn, 1) := by decide +kernel
set_option maxRecDepth 20000 in
theorem ggX4_lastOutcome_X4_kept : GoodIn wsX4_lastOutcome wsX4_kept := goodIn_r _ [6, 7, 8, 9, 10, 11, 12, 13, 14, 15, 16, 17] (by decide +kernel) (by decide +kernel)
set_option maxRecDepth 20000 in
theorem gX4_lastOutcome_X4_kept : GoodIn wsX4_lastOutcome (wsV RX4 98 RX4 yX4_kept wsX4_kept) := goodIn_app (goodIn_of _ (by decide +kernel)) ggX4_lastOutcome_X4_kept
theorem dX4_lastOutcome_0 : decode cX4_lastOutcome 0 = .ok (.aload_n 0, 1) := by decide +kernel
theorem dX4_lastOutcome_1 : decode cX4_lastOutcome 1 = .ok (.aload_n 0, 1) := by decide +kernel
theorem dX4_lastOutcome_2 : decode cX4_lastOutcome 2 = .ok (.getfield 52, 3) := by decide +kernel
theorem dX4_lastOutcome_5 : decode cX4_lastOutcome 5 = .ok (.iconst 1, 1) := by decide +kernel
theorem dX4_lastOutcome_6 : decode cX4_lastOutcome 6 = .ok (.isub, 1) := by decide +kernel
theorem dX4_lastOutcome_7 : decode cX4_lastOutcome 7 = .ok (.iconst 2, 1) := by decide +kernel
theorem dX4_lastOutcome_8 : decode cX4_lastOutcome 8 = .ok (.invokevirtual 98, 3) := by decide +kernel
theorem dX4_lastOutcome_11 : decode cX4_lastOutcome 11 = .ok (.ireturn, 1) := by decide +kernel
set_option maxRecDepth 20000 in
theorem ggX4_tryForgetting_X3_suspectAll : GoodIn wsX4_tryForgetting wsX3_suspectAll := goodIn_r _ [9, 10, 55] (by decide +kernel) (by decide +kernel)
set_option maxRecDepth 20000 in
theorem gX4_tryForgetting_X3_suspectAll : GoodIn wsX4_tryForgetting (wsV RX4 59 RX3 yX3_suspectAll wsX3_suspectAll) := goodIn_app (goodIn_of _ (by decide +kernel)) ggX4_tryForgetting_X3_suspectAll
set_option maxRecDepth 20000 in
theorem ggX4_tryForgetting_X4_kept : GoodIn wsX4_tryForgetting wsX4_kept := goodIn_r _ [15, 16, 45, 46, 47, 48, 49, 50, 51, 52, 53, 54] (by decide +kernel) (by decide +kernel)
set_option maxRecDepth 20000 in
theorem gX4_tryForgetting_X4_kept : GoodIn wsX4_tryForgetting (wsV RX4 98 RX4 yX4_kept wsX4_kept) := goodIn_app (goodIn_of _ (by decide +kernel)) ggX4_tryForgetting_X4_kept
set_option maxRecDepth 20000 in
theorem ggX4_tryForgetting_X1_set : GoodIn wsX4_tryForgetting wsX1_set := goodIn_r _ [21, 22, 23, 24, 25, 26, 27, 28, 29, 30, 31, 32, 33, 34, 56, 57, 58, 59, 60, 61] (by decide +kernel) (by decide +kernel)
set_option maxRecDepth 20000 in
theorem gX4_tryForgetting_X1_set : GoodIn wsX4_tryForgetting (wsV RX4 79 RX1 yX1_set wsX1_set) := goodIn_app (goodIn_of _ (by decide +kernel)) ggX4_tryForgetting_X1_set
set_option maxRecDepth 20000 in
theorem ggX4_tryForgetting_X3_keep : GoodIn wsX4_tryForgetting wsX3_keep := goodIn_r _ [38, 10, 39, 40, 41, 42, 43, 20, 44, 24, 26, 25, 27, 55, 56, 57, 58, 59, 60, 61] (by decide +kernel) (by decide +kernel)
set_option maxRecDepth 20000 in
theorem gX4_tryForgetting_X3_keep : GoodIn wsX4_tryForgetting (wsV RX4 86 RX3 yX3_keep wsX3_keep) := goodIn_app (goodIn_of _ (by decide +kernel)) ggX4_tryForgetting_X3_keep
theorem dX4_tryForgetting_0 : decode cX4_tryForgetting 0 = .ok (.aload_n 0, 1) := by decide +kernel
theorem dX4_tryForgetting_1 : decode cX4_tryForgetting 1 = .ok (.getfield 52, 3) := by decide +kernel
theorem dX4_tryForgetting_4 : decode cX4_tryForgetting 4 = .ok (.ifCond .gt 5, 3) := by decide +kernel
theorem dX4_tryForgetting_7 : decode cX4_tryForgetting 7 = .ok (.iconst 0, 1) := by decide +kernel
theorem dX4_tryForgetting_8 : decode cX4_tryForgetting 8 = .ok (.ireturn, 1) := by decide +kernel
theorem dX4_tryForgetting_9 : decode cX4_tryForgetting 9 = .ok (.aload_n 0, 1) := by decide +kernel
theorem dX4_tryForgetting_10 : decode cX4_tryForgetting 10 = .ok (.dup, 1) := by decide +kernel
theorem dX4_tryForgetting_11 : decode cX4_tryForgetting 11 = .ok (.getfield 52, 3) := by decide +kernel
theorem dX4_tryForgetting_14 : decode cX4_tryForgetting 14 = .ok (.iconst 1, 1) := by decide +kernel
theorem dX4_tryForgetting_15 : decode cX4_tryForgetting 15 = .ok (.isub, 1) := by decide +kernel
theorem dX4_tryForgetting_16 : decode cX4_tryForgetting 16 = .ok (.putfield 52, 3) := by decide +kernel
theorem dX4_tryForgetting_19 : decode cX4_tryForgetting 19 = .ok (.aload_n 0, 1) := by decide +kernel
theorem dX4_tryForgetting_20 : decode cX4_tryForgetting 20 = .ok (.getfield 18, 3) := by decide +kernel
theorem dX4_tryForgetting_23 : decode cX4_tryForgetting 23 = .ok (.aload_n 0, 1) := by decide +kernel
theorem dX4_tryForgetting_24 : decode cX4_tryForgetting 24 = .ok (.getfield 46, 3) := by decide +kernel
theorem dX4_tryForgetting_27 : decode cX4_tryForgetting 27 = .ok (.invokevirtual 59, 3) := by decide +kernel
theorem dX4_tryForgetting_30 : decode cX4_tryForgetting 30 = .ok (.iconst 0, 1) := by decide +kernel
theorem dX4_tryForgetting_31 : decode cX4_tryForgetting 31 = .ok (.istore_n 1, 1) := by decide +kernel
theorem dX4_tryForgetting_32 : decode cX4_tryForgetting 32 = .ok (.iload_n 1, 1) := by decide +kernel
theorem dX4_tryForgetting_33 : decode cX4_tryForgetting 33 = .ok (.aload_n 0, 1) := by decide +kernel
theorem dX4_tryForgetting_34 : decode cX4_tryForgetting 34 = .ok (.getfield 52, 3) := by decide +kernel
theorem dX4_tryForgetting_37 : decode cX4_tryForgetting 37 = .ok (.if_icmp .ge 57, 3) := by decide +kernel
theorem dX4_tryForgetting_40 : decode cX4_tryForgetting 40 = .ok (.aload_n 0, 1) := by decide +kernel
theorem dX4_tryForgetting_41 : decode cX4_tryForgetting 41 = .ok (.getfield 25, 3) := by decide +kernel
theorem dX4_tryForgetting_44 : decode cX4_tryForgetting 44 = .ok (.aload_n 0, 1) := by decide +kernel
theorem dX4_tryForgetting_45 : decode cX4_tryForgetting 45 = .ok (.iload_n 1, 1) := by decide +kernel
theorem dX4_tryForgetting_46 : decode cX4_tryForgetting 46 = .ok (.iconst 0, 1) := by decide +kernel
theorem dX4_tryForgetting_47 : decode cX4_tryForgetting 47 = .ok (.invokevirtual 98, 3) := by decide +kernel
theorem dX4_tryForgetting_50 : decode cX4_tryForgetting 50 = .ok (.aload_n 0, 1) := by decide +kernel
theorem dX4_tryForgetting_51 : decode cX4_tryForgetting 51 = .ok (.iload_n 1, 1) := by decide +kernel
theorem dX4_tryForgetting_52 : decode cX4_tryForgetting 52 = .ok (.iconst 1, 1) := by decide +kernel
theorem dX4_tryForgetting_53 : decode cX4_tryForgetting 53 = .ok (.invokevirtual 98, 3) := by decide +kernel
theorem dX4_tryForgetting_56 : decode cX4_tryForgetting 56 = .ok (.aload_n 0, 1) := by decide +kernel
theorem dX4_tryForgetting_57 : decode cX4_tryForgetting 57 = .ok (.iload_n 1, 1) := by decide +kernel
theorem dX4_tryForgetting_58 : decode cX4_tryForgetting 58 = .ok (.iconst 3, 1) := by decide +kernel
theorem dX4_tryForgetting_59 : decode cX4_tryForgetting 59 = .ok (.invokevirtual 98, 3) := by decide +kernel
theorem dX4_tryForgetting_62 : decode cX4_tryForgetting 62 = .ok (.aload_n 0, 1) := by decide +kernel
theorem dX4_tryForgetting_63 : decode cX4_tryForgetting 63 = .ok (.iload_n 1, 1) := by decide +kernel
theorem dX4_tryForgetting_64 : decode cX4_tryForgetting 64 = .ok (.iconst 4, 1) := by decide +kernel
theorem dX4_tryForgetting_65 : decode cX4_tryForgetting 65 = .ok (.invokevirtual 98, 3) := by decide +kernel
theorem dX4_tryForgetting_68 : decode cX4_tryForgetting 68 = .ok (.invokevirtual 79, 3) := by decide +kernel
theorem dX4_tryForgetting_71 : decode cX4_tryForgetting 71 = .ok (.aload_n 0, 1) := by decide +kernel
theorem dX4_tryForgetting_72 : decode cX4_tryForgetting 72 = .ok (.getfield 18, 3) := by decide +kernel
theorem dX4_tryForgetting_75 : decode cX4_tryForgetting 75 = .ok (.aload_n 0, 1) := by decide +kernel
theorem dX4_tryForgetting_76 : decode cX4_tryForgetting 76 = .ok (.getfield 25, 3) := by decide +kernel
theorem dX4_tryForgetting_79 : decode cX4_tryForgetting 79 = .ok (.aload_n 0, 1) := by decide +kernel
theorem dX4_tryForgetting_80 : decode cX4_tryForgetting 80 = .ok (.iload_n 1, 1) := by decide +kernel
theorem dX4_tryForgetting_81 : decode cX4_tryForgetting 81 = .ok (.iconst 2, 1) := by decide +kernel
theorem dX4_tryForgetting_82 : decode cX4_tryForgetting 82 = .ok (.invokevirtual 98, 3) := by decide +kernel
theorem dX4_tryForgetting_85 : decode cX4_tryForgetting 85 = .ok (.invokevirtual 86, 3) := by decide +kernel
theorem dX4_tryForgetting_88 : decode cX4_tryForgetting 88 = .ok (.iinc 1 1, 3) := by decide +kernel
theorem dX4_tryForgetting_91 : decode cX4_tryForgetting 91 = .ok (.goto (-59), 3) := by decide +kernel
theorem dX4_tryForgetting_94 : decode cX4_tryForgetting 94 = .ok (.iconst 1, 1) := by decide +kernel
theorem dX4_tryForgetting_95 : decode cX4_tryForgetting 95 = .ok (.ireturn, 1) := by decide +kernel
set_option maxRecDepth 20000 in
theorem ggX4_blameCoin_X4_noteBlame : GoodIn wsX4_blameCoin wsX4_noteBlame := goodIn_r _ [6, 7, 8, 9, 10, 11, 12, 13, 14, 15, 16, 17, 18] (by decide +kernel) (by decide +kernel)
set_option maxRecDepth 20000 in
theorem gX4_blameCoin_X4_noteBlame : GoodIn wsX4_blameCoin (wsV RX4 102 RX4 yX4_noteBlame wsX4_noteBlame) := goodIn_app (goodIn_of _ (by decide +kernel)) ggX4_blameCoin_X4_noteBlame
theorem dX4_blameCoin_0 : decode cX4_blameCoin 0 = .ok (.aload_n 0, 1) := by decide +kernel
theorem dX4_blameCoin_1 : decode cX4_blameCoin 1 = .ok (.aload_n 0, 1) := by decide +kernel
theorem dX4_blameCoin_2 : decode cX4_blameCoin 2 = .ok (.getfield 49, 3) := by decide +kernel
theorem dX4_blameCoin_5 : decode cX4_blameCoin 5 = .ok (.iconst 3, 1) := by decide +kernel
theorem dX4_blameCoin_6 : decode cX4_blameCoin 6 = .ok (.idiv, 1) := by decide +kernel
theorem dX4_blameCoin_7 : decode cX4_blameCoin 7 = .ok (.iconst 2, 1) := by decide +kernel
theorem dX4_blameCoin_8 : decode cX4_blameCoin 8 = .ok (.iload_n 1, 1) := by decide +kernel
theorem dX4_blameCoin_9 : decode cX4_blameCoin 9 = .ok (.imul, 1) := by decide +kernel
theorem dX4_blameCoin_10 : decode cX4_blameCoin 10 = .ok (.iload_n 2, 1) := by decide +kernel
theorem dX4_blameCoin_11 : decode cX4_blameCoin 11 = .ok (.ifCond .eq 7, 3) := by decide +kernel
theorem dX4_blameCoin_14 : decode cX4_blameCoin 14 = .ok (.iconst 1, 1) := by decide +kernel
theorem dX4_blameCoin_15 : decode cX4_blameCoin 15 = .ok (.goto 4, 3) := by decide +kernel
theorem dX4_blameCoin_18 : decode cX4_blameCoin 18 = .ok (.iconst 0, 1) := by decide +kernel
theorem dX4_blameCoin_19 : decode cX4_blameCoin 19 = .ok (.iadd, 1) := by decide +kernel
theorem dX4_blameCoin_20 : decode cX4_blameCoin 20 = .ok (.if_icmp .ne 7, 3) := by decide +kernel
theorem dX4_blameCoin_23 : decode cX4_blameCoin 23 = .ok (.iconst 1, 1) := by decide +kernel
theorem dX4_blameCoin_24 : decode cX4_blameCoin 24 = .ok (.goto 4, 3) := by decide +kernel
theorem dX4_blameCoin_27 : decode cX4_blameCoin 27 = .ok (.iconst 0, 1) := by decide +kernel
theorem dX4_blameCoin_28 : decode cX4_blameCoin 28 = .ok (.invokevirtual 102, 3) := by decide +kernel
theorem dX4_blameCoin_31 : decode cX4_blameCoin 31 = .ok (.ireturn, 1) := by decide +kernel
set_option maxRecDepth 20000 in
theorem ggX4_blamePan_X4_noteBlame : GoodIn wsX4_blamePan wsX4_noteBlame := goodIn_r _ [6, 7, 8, 9, 10, 11, 12, 13, 14, 15, 16, 17, 18] (by decide +kernel) (by decide +kernel)
set_option maxRecDepth 20000 in
theorem gX4_blamePan_X4_noteBlame : GoodIn wsX4_blamePan (wsV RX4 102 RX4 yX4_noteBlame wsX4_noteBlame) := goodIn_app (goodIn_of _ (by decide +kernel)) ggX4_blamePan_X4_noteBlame
theorem dX4_blamePan_0 : decode cX4_blamePan 0 = .ok (.aload_n 0, 1) := by decide +kernel
theorem dX4_blamePan_1 : decode cX4_blamePan 1 = .ok (.aload_n 0, 1) := by decide +kernel
theorem dX4_blamePan_2 : decode cX4_blamePan 2 = .ok (.getfield 49, 3) := by decide +kernel
theorem dX4_blamePan_5 : decode cX4_blamePan 5 = .ok (.iconst 3, 1) := by decide +kernel
theorem dX4_blamePan_6 : decode cX4_blamePan 6 = .ok (.irem, 1) := by decide +kernel
theorem dX4_blamePan_7 : decode cX4_blamePan 7 = .ok (.iload_n 1, 1) := by decide +kernel
theorem dX4_blamePan_8 : decode cX4_blamePan 8 = .ok (.if_icmp .ne 7, 3) := by decide +kernel
theorem dX4_blamePan_11 : decode cX4_blamePan 11 = .ok (.iconst 1, 1) := by decide +kernel
theorem dX4_blamePan_12 : decode cX4_blamePan 12 = .ok (.goto 4, 3) := by decide +kernel
theorem dX4_blamePan_15 : decode cX4_blamePan 15 = .ok (.iconst 0, 1) := by decide +kernel
theorem dX4_blamePan_16 : decode cX4_blamePan 16 = .ok (.invokevirtual 102, 3) := by decide +kernel
theorem dX4_blamePan_19 : decode cX4_blamePan 19 = .ok (.ireturn, 1) := by decide +kernel
theorem dX4_noteBlame_0 : decode cX4_noteBlame 0 = .ok (.iload_n 1, 1) := by decide +kernel
theorem dX4_noteBlame_1 : decode cX4_noteBlame 1 = .ok (.ifCond .eq 16, 3) := by decide +kernel
theorem dX4_noteBlame_4 : decode cX4_noteBlame 4 = .ok (.aload_n 0, 1) := by decide +kernel
theorem dX4_noteBlame_5 : decode cX4_noteBlame 5 = .ok (.dup, 1) := by decide +kernel
theorem dX4_noteBlame_6 : decode cX4_noteBlame 6 = .ok (.getfield 40, 3) := by decide +kernel
theorem dX4_noteBlame_9 : decode cX4_noteBlame 9 = .ok (.iconst 1, 1) := by decide +kernel
theorem dX4_noteBlame_10 : decode cX4_noteBlame 10 = .ok (.iadd, 1) := by decide +kernel
theorem dX4_noteBlame_11 : decode cX4_noteBlame 11 = .ok (.putfield 40, 3) := by decide +kernel
theorem dX4_noteBlame_14 : decode cX4_noteBlame 14 = .ok (.goto 13, 3) := by decide +kernel
theorem dX4_noteBlame_17 : decode cX4_noteBlame 17 = .ok (.aload_n 0, 1) := by decide +kernel
theorem dX4_noteBlame_18 : decode cX4_noteBlame 18 = .ok (.dup, 1) := by decide +kernel
theorem dX4_noteBlame_19 : decode cX4_noteBlame 19 = .ok (.getfield 43, 3) := by decide +kernel
theorem dX4_noteBlame_22 : decode cX4_noteBlame 22 = .ok (.iconst 1, 1) := by decide +kernel
theorem dX4_noteBlame_23 : decode cX4_noteBlame 23 = .ok (.iadd, 1) := by decide +kernel
theorem dX4_noteBlame_24 : decode cX4_noteBlame 24 = .ok (.putfield 43, 3) := by decide +kernel
theorem dX4_noteBlame_27 : decode cX4_noteBlame 27 = .ok (.iload_n 1, 1) := by decide +kernel
theorem dX4_noteBlame_28 : decode cX4_noteBlame 28 = .ok (.ireturn, 1) := by decide +kernel
set_option maxRecDepth 20000 in
theorem ggX4_idleWeighings_X4_allCases : GoodIn wsX4_idleWeighings wsX4_allCases := goodIn_r _ [6, 7, 8, 9, 10, 16, 17, 18, 19, 20, 21, 22, 23, 24, 25] (by decide +kernel) (by decide +kernel)
set_option maxRecDepth 20000 in
theorem gX4_idleWeighings_X4_allCases : GoodIn wsX4_idleWeighings (wsV RX4 106 RX4 yX4_allCases wsX4_allCases) := goodIn_app (goodIn_of _ (by decide +kernel)) ggX4_idleWeighings_X4_allCases
set_option maxRecDepth 20000 in
theorem ggX4_idleWeighings_X4_kept : GoodIn wsX4_idleWeighings wsX4_kept := goodIn_r _ [14, 15, 16, 17, 18, 19, 20, 21, 22, 23, 24, 25] (by decide +kernel) (by decide +kernel)
set_option maxRecDepth 20000 in
theorem gX4_idleWeighings_X4_kept : GoodIn wsX4_idleWeighings (wsV RX4 98 RX4 yX4_kept wsX4_kept) := goodIn_app (goodIn_of _ (by decide +kernel)) ggX4_idleWeighings_X4_kept
theorem dX4_idleWeighings_0 : decode cX4_idleWeighings 0 = .ok (.iconst 0, 1) := by decide +kernel
theorem dX4_idleWeighings_1 : decode cX4_idleWeighings 1 = .ok (.istore_n 1, 1) := by decide +kernel
theorem dX4_idleWeighings_2 : decode cX4_idleWeighings 2 = .ok (.aload_n 0, 1) := by decide +kernel
theorem dX4_idleWeighings_3 : decode cX4_idleWeighings 3 = .ok (.invokevirtual 106, 3) := by decide +kernel
theorem dX4_idleWeighings_6 : decode cX4_idleWeighings 6 = .ok (.istore_n 2, 1) := by decide +kernel
theorem dX4_idleWeighings_7 : decode cX4_idleWeighings 7 = .ok (.iconst 0, 1) := by decide +kernel
theorem dX4_idleWeighings_8 : decode cX4_idleWeighings 8 = .ok (.istore_n 3, 1) := by decide +kernel
theorem dX4_idleWeighings_9 : decode cX4_idleWeighings 9 = .ok (.iload_n 3, 1) := by decide +kernel
theorem dX4_idleWeighings_10 : decode cX4_idleWeighings 10 = .ok (.aload_n 0, 1) := by decide +kernel
theorem dX4_idleWeighings_11 : decode cX4_idleWeighings 11 = .ok (.getfield 52, 3) := by decide +kernel
theorem dX4_idleWeighings_14 : decode cX4_idleWeighings 14 = .ok (.if_icmp .ge 29, 3) := by decide +kernel
theorem dX4_idleWeighings_17 : decode cX4_idleWeighings 17 = .ok (.aload_n 0, 1) := by decide +kernel
theorem dX4_idleWeighings_18 : decode cX4_idleWeighings 18 = .ok (.iload_n 3, 1) := by decide +kernel
theorem dX4_idleWeighings_19 : decode cX4_idleWeighings 19 = .ok (.iconst 5, 1) := by decide +kernel
theorem dX4_idleWeighings_20 : decode cX4_idleWeighings 20 = .ok (.invokevirtual 98, 3) := by decide +kernel
theorem dX4_idleWeighings_23 : decode cX4_idleWeighings 23 = .ok (.istore 4, 2) := by decide +kernel
theorem dX4_idleWeighings_25 : decode cX4_idleWeighings 25 = .ok (.iload 4, 2) := by decide +kernel
theorem dX4_idleWeighings_27 : decode cX4_idleWeighings 27 = .ok (.iload_n 2, 1) := by decide +kernel
theorem dX4_idleWeighings_28 : decode cX4_idleWeighings 28 = .ok (.if_icmp .ne 6, 3) := by decide +kernel
theorem dX4_idleWeighings_31 : decode cX4_idleWeighings 31 = .ok (.iinc 1 1, 3) := by decide +kernel
theorem dX4_idleWeighings_34 : decode cX4_idleWeighings 34 = .ok (.iload 4, 2) := by decide +kernel
theorem dX4_idleWeighings_36 : decode cX4_idleWeighings 36 = .ok (.istore_n 2, 1) := by decide +kernel
theorem dX4_idleWeighings_37 : decode cX4_idleWeighings 37 = .ok (.iinc 3 1, 3) := by decide +kernel
theorem dX4_idleWeighings_40 : decode cX4_idleWeighings 40 = .ok (.goto (-31), 3) := by decide +kernel
theorem dX4_idleWeighings_43 : decode cX4_idleWeighings 43 = .ok (.iload_n 1, 1) := by decide +kernel
theorem dX4_idleWeighings_44 : decode cX4_idleWeighings 44 = .ok (.ireturn, 1) := by decide +kernel
set_option maxRecDepth 20000 in
theorem ggX4_foresee_X4_foreseeWith : GoodIn wsX4_foresee wsX4_foreseeWith := goodIn_r _ [7, 8, 9, 10, 11, 12, 13, 14, 15, 16, 17, 18, 19, 20, 21, 22, 23, 24, 25, 26, 27, 28, 29, 30, 31, 32, 33, 34, 35, 36, 37, 38, 39, 40, 41, 42, 43, 44, 45, 46, 47, 48, 49, 50, 51, 52, 53, 54, 55, 56, 57, 58, 59, 60, 61, 62, 63, 64, 65, 66, 67, 68, 69, 70, 71, 72] (by decide +kernel) (by decide +kernel)
set_option maxRecDepth 20000 in
theorem gX4_foresee_X4_foreseeWith : GoodIn wsX4_foresee (wsV RX4 109 RX4 yX4_foreseeWith wsX4_foreseeWith) := goodIn_app (goodIn_of _ (by decide +kernel)) ggX4_foresee_X4_foreseeWith
theorem dX4_foresee_0 : decode cX4_foresee 0 = .ok (.aload_n 0, 1) := by decide +kernel
theorem dX4_foresee_1 : decode cX4_foresee 1 = .ok (.iload_n 1, 1) := by decide +kernel
theorem dX4_foresee_2 : decode cX4_foresee 2 = .ok (.iload_n 2, 1) := by decide +kernel
theorem dX4_foresee_3 : decode cX4_foresee 3 = .ok (.aload_n 0, 1) := by decide +kernel
theorem dX4_foresee_4 : decode cX4_foresee 4 = .ok (.getfield 33, 3) := by decide +kernel
theorem dX4_foresee_7 : decode cX4_foresee 7 = .ok (.aload_n 0, 1) := by decide +kernel
theorem dX4_foresee_8 : decode cX4_foresee 8 = .ok (.getfield 37, 3) := by decide +kernel
theorem dX4_foresee_11 : decode cX4_foresee 11 = .ok (.aload_n 3, 1) := by decide +kernel
theorem dX4_foresee_12 : decode cX4_foresee 12 = .ok (.invokevirtual 109, 3) := by decide +kernel
theorem dX4_foresee_15 : decode cX4_foresee 15 = .ok (.return_, 1) := by decide +kernel
set_option maxRecDepth 20000 in
theorem ggX4_foreseeWith_X1_set : GoodIn wsX4_foreseeWith wsX1_set := goodIn_r _ [7, 8, 9, 10, 11, 12, 13, 14, 15, 16, 17, 18, 19, 20, 56, 57, 58, 59, 60, 61] (by decide +kernel) (by decide +kernel)
set_option maxRecDepth 20000 in
theorem gX4_foreseeWith_X1_set : GoodIn wsX4_foreseeWith (wsV RX4 79 RX1 yX1_set wsX1_set) := goodIn_app (goodIn_of _ (by decide +kernel)) ggX4_foreseeWith_X1_set
set_option maxRecDepth 20000 in
theorem ggX4_foreseeWith_X3_sort : GoodIn wsX4_foreseeWith wsX3_sort := goodIn_r _ [25, 26, 27, 28, 29, 30, 31, 32, 33, 34, 35, 36, 37, 38, 39, 6, 40, 10, 12, 11, 13, 41, 15, 16, 17, 18, 19, 20, 42, 43, 44, 45, 62, 56, 57, 58, 59, 60, 61, 63, 64, 65] (by decide +kernel) (by decide +kernel)
set_option maxRecDepth 20000 in
theorem gX4_foreseeWith_X3_sort : GoodIn wsX4_foreseeWith (wsV RX4 113 RX3 yX3_sort wsX3_sort) := goodIn_app (goodIn_of _ (by decide +kernel)) ggX4_foreseeWith_X3_sort
theorem dX4_foreseeWith_0 : decode cX4_foreseeWith 0 = .ok (.aload_n 0, 1) := by decide +kernel
theorem dX4_foreseeWith_1 : decode cX4_foreseeWith 1 = .ok (.getfield 25, 3) := by decide +kernel
theorem dX4_foreseeWith_4 : decode cX4_foreseeWith 4 = .ok (.iload_n 1, 1) := by decide +kernel
theorem dX4_foreseeWith_5 : decode cX4_foreseeWith 5 = .ok (.iload_n 2, 1) := by decide +kernel
theorem dX4_foreseeWith_6 : decode cX4_foreseeWith 6 = .ok (.iload_n 3, 1) := by decide +kernel
theorem dX4_foreseeWith_7 : decode cX4_foreseeWith 7 = .ok (.iload 4, 2) := by decide +kernel
theorem dX4_foreseeWith_9 : decode cX4_foreseeWith 9 = .ok (.invokevirtual 79, 3) := by decide +kernel
theorem dX4_foreseeWith_12 : decode cX4_foreseeWith 12 = .ok (.aload_n 0, 1) := by decide +kernel
theorem dX4_foreseeWith_13 : decode cX4_foreseeWith 13 = .ok (.getfield 18, 3) := by decide +kernel
theorem dX4_foreseeWith_16 : decode cX4_foreseeWith 16 = .ok (.aload_n 0, 1) := by decide +kernel
theorem dX4_foreseeWith_17 : decode cX4_foreseeWith 17 = .ok (.getfield 25, 3) := by decide +kernel
theorem dX4_foreseeWith_20 : decode cX4_foreseeWith 20 = .ok (.aload 5, 2) := by decide +kernel
theorem dX4_foreseeWith_22 : decode cX4_foreseeWith 22 = .ok (.invokevirtual 113, 3) := by decide +kernel
theorem dX4_foreseeWith_25 : decode cX4_foreseeWith 25 = .ok (.return_, 1) := by decide +kernel
theorem dX4_kept_0 : decode cX4_kept 0 = .ok (.bipush 6, 2) := by decide +kernel
theorem dX4_kept_2 : decode cX4_kept 2 = .ok (.iload_n 1, 1) := by decide +kernel
theorem dX4_kept_3 : decode cX4_kept 3 = .ok (.imul, 1) := by decide +kernel
theorem dX4_kept_4 : decode cX4_kept 4 = .ok (.iload_n 2, 1) := by decide +kernel
theorem dX4_kept_5 : decode cX4_kept 5 = .ok (.iadd, 1) := by decide +kernel
theorem dX4_kept_6 : decode cX4_kept 6 = .ok (.istore_n 3, 1) := by decide +kernel
theorem dX4_kept_7 : decode cX4_kept 7 = .ok (.iload_n 3, 1) := by decide +kernel
theorem dX4_kept_8 : decode cX4_kept 8 = .ok (.ifCond .lt 21, 3) := by decide +kernel
theorem dX4_kept_11 : decode cX4_kept 11 = .ok (.iload_n 3, 1) := by decide +kernel
theorem dX4_kept_12 : decode cX4_kept 12 = .ok (.aload_n 0, 1) := by decide +kernel
theorem dX4_kept_13 : decode cX4_kept 13 = .ok (.getfield 9, 3) := by decide +kernel
theorem dX4_kept_16 : decode cX4_kept 16 = .ok (.arraylength, 1) := by decide +kernel
theorem dX4_kept_17 : decode cX4_kept 17 = .ok (.if_icmp .ge 12, 3) := by decide +kernel
theorem dX4_kept_20 : decode cX4_kept 20 = .ok (.aload_n 0, 1) := by decide +kernel
theorem dX4_kept_21 : decode cX4_kept 21 = .ok (.getfield 9, 3) := by decide +kernel
theorem dX4_kept_24 : decode cX4_kept 24 = .ok (.iload_n 3, 1) := by decide +kernel
theorem dX4_kept_25 : decode cX4_kept 25 = .ok (.iaload, 1) := by decide +kernel
theorem dX4_kept_26 : decode cX4_kept 26 = .ok (.goto 4, 3) := by decide +kernel
theorem dX4_kept_29 : decode cX4_kept 29 = .ok (.iconst 0, 1) := by decide +kernel
theorem dX4_kept_30 : decode cX4_kept 30 = .ok (.ireturn, 1) := by decide +kernel
theorem dX4_write_0 : decode cX4_write 0 = .ok (.bipush 6, 2) := by decide +kernel
theorem dX4_write_2 : decode cX4_write 2 = .ok (.iload_n 1, 1) := by decide +kernel
theorem dX4_write_3 : decode cX4_write 3 = .ok (.imul, 1) := by decide +kernel
theorem dX4_write_4 : decode cX4_write 4 = .ok (.iload_n 2, 1) := by decide +kernel
theorem dX4_write_5 : decode cX4_write 5 = .ok (.iadd, 1) := by decide +kernel
theorem dX4_write_6 : decode cX4_write 6 = .ok (.istore 4, 2) := by decide +kernel
theorem dX4_write_8 : decode cX4_write 8 = .ok (.iload 4, 2) := by decide +kernel
theorem dX4_write_10 : decode cX4_write 10 = .ok (.ifCond .lt 21, 3) := by decide +kernel
theorem dX4_write_13 : decode cX4_write 13 = .ok (.iload 4, 2) := by decide +kernel
theorem dX4_write_15 : decode cX4_write 15 = .ok (.aload_n 0, 1) := by decide +kernel
theorem dX4_write_16 : decode cX4_write 16 = .ok (.getfield 9, 3) := by decide +kernel
theorem dX4_write_19 : decode cX4_write 19 = .ok (.arraylength, 1) := by decide +kernel
theorem dX4_write_20 : decode cX4_write 20 = .ok (.if_icmp .ge 11, 3) := by decide +kernel
theorem dX4_write_23 : decode cX4_write 23 = .ok (.aload_n 0, 1) := by decide +kernel
theorem dX4_write_24 : decode cX4_write 24 = .ok (.getfield 9, 3) := by decide +kernel
theorem dX4_write_27 : decode cX4_write 27 = .ok (.iload 4, 2) := by decide +kernel
theorem dX4_write_29 : decode cX4_write 29 = .ok (.iload_n 3, 1) := by decide +kernel
theorem dX4_write_30 : decode cX4_write 30 = .ok (.iastore, 1) := by decide +kernel
theorem dX4_write_31 : decode cX4_write 31 = .ok (.return_, 1) := by decide +kernel
theorem dX5_init_0 : decode cX5_init 0 = .ok (.aload_n 0, 1) := by decide +kernel
theorem dX5_init_1 : decode cX5_init 1 = .ok (.invokespecial 1, 3) := by decide +kernel
theorem dX5_init_4 : decode cX5_init 4 = .ok (.return_, 1) := by decide +kernel
theorem dX5_clear_0 : decode cX5_clear 0 = .ok (.aload_n 0, 1) := by decide +kernel
theorem dX5_clear_1 : decode cX5_clear 1 = .ok (.iconst 0, 1) := by decide +kernel
theorem dX5_clear_2 : decode cX5_clear 2 = .ok (.putfield 7, 3) := by decide +kernel
theorem dX5_clear_5 : decode cX5_clear 5 = .ok (.aload_n 0, 1) := by decide +kernel
theorem dX5_clear_6 : decode cX5_clear 6 = .ok (.iconst 0, 1) := by decide +kernel
theorem dX5_clear_7 : decode cX5_clear 7 = .ok (.putfield 13, 3) := by decide +kernel
theorem dX5_clear_10 : decode cX5_clear 10 = .ok (.aload_n 0, 1) := by decide +kernel
theorem dX5_clear_11 : decode cX5_clear 11 = .ok (.iconst 0, 1) := by decide +kernel
theorem dX5_clear_12 : decode cX5_clear 12 = .ok (.putfield 16, 3) := by decide +kernel
theorem dX5_clear_15 : decode cX5_clear 15 = .ok (.return_, 1) := by decide +kernel
theorem dX5_add_0 : decode cX5_add 0 = .ok (.iload_n 1, 1) := by decide +kernel
theorem dX5_add_1 : decode cX5_add 1 = .ok (.ifCond .ne 16, 3) := by decide +kernel
theorem dX5_add_4 : decode cX5_add 4 = .ok (.aload_n 0, 1) := by decide +kernel
theorem dX5_add_5 : decode cX5_add 5 = .ok (.dup, 1) := by decide +kernel
theorem dX5_add_6 : decode cX5_add 6 = .ok (.getfield 7, 3) := by decide +kernel
theorem dX5_add_9 : decode cX5_add 9 = .ok (.iload_n 2, 1) := by decide +kernel
theorem dX5_add_10 : decode cX5_add 10 = .ok (.iadd, 1) := by decide +kernel
theorem dX5_add_11 : decode cX5_add 11 = .ok (.putfield 7, 3) := by decide +kernel
theorem dX5_add_14 : decode cX5_add 14 = .ok (.goto 31, 3) := by decide +kernel
theorem dX5_add_17 : decode cX5_add 17 = .ok (.iload_n 1, 1) := by decide +kernel
theorem dX5_add_18 : decode cX5_add 18 = .ok (.iconst 1, 1) := by decide +kernel
theorem dX5_add_19 : decode cX5_add 19 = .ok (.if_icmp .ne 16, 3) := by decide +kernel
theorem dX5_add_22 : decode cX5_add 22 = .ok (.aload_n 0, 1) := by decide +kernel
theorem dX5_add_23 : decode cX5_add 23 = .ok (.dup, 1) := by decide +kernel
theorem dX5_add_24 : decode cX5_add 24 = .ok (.getfield 13, 3) := by decide +kernel
theorem dX5_add_27 : decode cX5_add 27 = .ok (.iload_n 2, 1) := by decide +kernel
theorem dX5_add_28 : decode cX5_add 28 = .ok (.iadd, 1) := by decide +kernel
theorem dX5_add_29 : decode cX5_add 29 = .ok (.putfield 13, 3) := by decide +kernel
theorem dX5_add_32 : decode cX5_add 32 = .ok (.goto 13, 3) := by decide +kernel
theorem dX5_add_35 : decode cX5_add 35 = .ok (.aload_n 0, 1) := by decide +kernel
theorem dX5_add_36 : decode cX5_add 36 = .ok (.dup, 1) := by decide +kernel
theorem dX5_add_37 : decode cX5_add 37 = .ok (.getfield 16, 3) := by decide +kernel
theorem dX5_add_40 : decode cX5_add 40 = .ok (.iload_n 2, 1) := by decide +kernel
theorem dX5_add_41 : decode cX5_add 41 = .ok (.iadd, 1) := by decide +kernel
theorem dX5_add_42 : decode cX5_add 42 = .ok (.putfield 16, 3) := by decide +kernel
theorem dX5_add_45 : decode cX5_add 45 = .ok (.return_, 1) := by decide +kernel
theorem dX5_of_0 : decode cX5_of 0 = .ok (.iload_n 1, 1) := by decide +kernel
theorem dX5_of_1 : decode cX5_of 1 = .ok (.ifCond .ne 10, 3) := by decide +kernel
theorem dX5_of_4 : decode cX5_of 4 = .ok (.aload_n 0, 1) := by decide +kernel
theorem dX5_of_5 : decode cX5_of 5 = .ok (.getfield 7, 3) := by decide +kernel
theorem dX5_of_8 : decode cX5_of 8 = .ok (.goto 19, 3) := by decide +kernel
theorem dX5_of_11 : decode cX5_of 11 = .ok (.iload_n 1, 1) := by decide +kernel
theorem dX5_of_12 : decode cX5_of 12 = .ok (.iconst 1, 1) := by decide +kernel
theorem dX5_of_13 : decode cX5_of 13 = .ok (.if_icmp .ne 10, 3) := by decide +kernel
theorem dX5_of_16 : decode cX5_of 16 = .ok (.aload_n 0, 1) := by decide +kernel
theorem dX5_of_17 : decode cX5_of 17 = .ok (.getfield 13, 3) := by decide +kernel
theorem dX5_of_20 : decode cX5_of 20 = .ok (.goto 7, 3) := by decide +kernel
theorem dX5_of_23 : decode cX5_of 23 = .ok (.aload_n 0, 1) := by decide +kernel
theorem dX5_of_24 : decode cX5_of 24 = .ok (.getfield 16, 3) := by decide +kernel
theorem dX5_of_27 : decode cX5_of 27 = .ok (.ireturn, 1) := by decide +kernel
theorem dX5_worst_0 : decode cX5_worst 0 = .ok (.aload_n 0, 1) := by decide +kernel
theorem dX5_worst_1 : decode cX5_worst 1 = .ok (.getfield 7, 3) := by decide +kernel
theorem dX5_worst_4 : decode cX5_worst 4 = .ok (.aload_n 0, 1) := by decide +kernel
theorem dX5_worst_5 : decode cX5_worst 5 = .ok (.getfield 13, 3) := by decide +kernel
theorem dX5_worst_8 : decode cX5_worst 8 = .ok (.aload_n 0, 1) := by decide +kernel
theorem dX5_worst_9 : decode cX5_worst 9 = .ok (.getfield 16, 3) := by decide +kernel
theorem dX5_worst_12 : decode cX5_worst 12 = .ok (.invokestatic 19, 3) := by decide +kernel
theorem dX5_worst_15 : decode cX5_worst 15 = .ok (.invokestatic 19, 3) := by decide +kernel
theorem dX5_worst_18 : decode cX5_worst 18 = .ok (.ireturn, 1) := by decide +kernel
theorem dX5_unlikePairs_0 : decode cX5_unlikePairs 0 = .ok (.aload_n 0, 1) := by decide +kernel
theorem dX5_unlikePairs_1 : decode cX5_unlikePairs 1 = .ok (.getfield 7, 3) := by decide +kernel
theorem dX5_unlikePairs_4 : decode cX5_unlikePairs 4 = .ok (.aload_n 0, 1) := by decide +kernel
theorem dX5_unlikePairs_5 : decode cX5_unlikePairs 5 = .ok (.getfield 13, 3) := by decide +kernel
theorem dX5_unlikePairs_8 : decode cX5_unlikePairs 8 = .ok (.imul, 1) := by decide +kernel
theorem dX5_unlikePairs_9 : decode cX5_unlikePairs 9 = .ok (.aload_n 0, 1) := by decide +kernel
theorem dX5_unlikePairs_10 : decode cX5_unlikePairs 10 = .ok (.getfield 7, 3) := by decide +kernel
theorem dX5_unlikePairs_13 : decode cX5_unlikePairs 13 = .ok (.aload_n 0, 1) := by decide +kernel
theorem dX5_unlikePairs_14 : decode cX5_unlikePairs 14 = .ok (.getfield 16, 3) := by decide +kernel
theorem dX5_unlikePairs_17 : decode cX5_unlikePairs 17 = .ok (.imul, 1) := by decide +kernel
theorem dX5_unlikePairs_18 : decode cX5_unlikePairs 18 = .ok (.iadd, 1) := by decide +kernel
theorem dX5_unlikePairs_19 : decode cX5_unlikePairs 19 = .ok (.aload_n 0, 1) := by decide +kernel
theorem dX5_unlikePairs_20 : decode cX5_unlikePairs 20 = .ok (.getfield 13, 3) := by decide +kernel
theorem dX5_unlikePairs_23 : decode cX5_unlikePairs 23 = .ok (.aload_n 0, 1) := by decide +kernel
theorem dX5_unlikePairs_24 : decode cX5_unlikePairs 24 = .ok (.getfield 16, 3) := by decide +kernel
theorem dX5_unlikePairs_27 : decode cX5_unlikePairs 27 = .ok (.imul, 1) := by decide +kernel
theorem dX5_unlikePairs_28 : decode cX5_unlikePairs 28 = .ok (.iadd, 1) := by decide +kernel
theorem dX5_unlikePairs_29 : decode cX5_unlikePairs 29 = .ok (.ireturn, 1) := by decide +kernel
theorem dX6_init_0 : decode cX6_init 0 = .ok (.aload_n 0, 1) := by decide +kernel
theorem dX6_init_1 : decode cX6_init 1 = .ok (.invokespecial 3, 3) := by decide +kernel
theorem dX6_init_4 : decode cX6_init 4 = .ok (.aload_n 0, 1) := by decide +kernel
theorem dX6_init_5 : decode cX6_init 5 = .ok (.bipush 120, 2) := by decide +kernel
theorem dX6_init_7 : decode cX6_init 7 = .ok (.newarray .char, 2) := by decide +kernel
theorem dX6_init_9 : decode cX6_init 9 = .ok (.putfield 9, 3) := by decide +kernel
theorem dX6_init_12 : decode cX6_init 12 = .ok (.return_, 1) := by decide +kernel
theorem dX6_add_0 : decode cX6_add 0 = .ok (.aload_n 0, 1) := by decide +kernel
theorem dX6_add_1 : decode cX6_add 1 = .ok (.getfield 15, 3) := by decide +kernel
theorem dX6_add_4 : decode cX6_add 4 = .ok (.ifCond .lt 35, 3) := by decide +kernel
theorem dX6_add_7 : decode cX6_add 7 = .ok (.aload_n 0, 1) := by decide +kernel
theorem dX6_add_8 : decode cX6_add 8 = .ok (.getfield 15, 3) := by decide +kernel
theorem dX6_add_11 : decode cX6_add 11 = .ok (.aload_n 0, 1) := by decide +kernel
theorem dX6_add_12 : decode cX6_add 12 = .ok (.getfield 9, 3) := by decide +kernel
theorem dX6_add_15 : decode cX6_add 15 = .ok (.arraylength, 1) := by decide +kernel
theorem dX6_add_16 : decode cX6_add 16 = .ok (.if_icmp .ge 23, 3) := by decide +kernel
theorem dX6_add_19 : decode cX6_add 19 = .ok (.aload_n 0, 1) := by decide +kernel
theorem dX6_add_20 : decode cX6_add 20 = .ok (.getfield 9, 3) := by decide +kernel
theorem dX6_add_23 : decode cX6_add 23 = .ok (.aload_n 0, 1) := by decide +kernel
theorem dX6_add_24 : decode cX6_add 24 = .ok (.getfield 15, 3) := by decide +kernel
theorem dX6_add_27 : decode cX6_add 27 = .ok (.iload_n 1, 1) := by decide +kernel
theorem dX6_add_28 : decode cX6_add 28 = .ok (.castore, 1) := by decide +kernel
theorem dX6_add_29 : decode cX6_add 29 = .ok (.aload_n 0, 1) := by decide +kernel
theorem dX6_add_30 : decode cX6_add 30 = .ok (.dup, 1) := by decide +kernel
theorem dX6_add_31 : decode cX6_add 31 = .ok (.getfield 15, 3) := by decide +kernel
theorem dX6_add_34 : decode cX6_add 34 = .ok (.iconst 1, 1) := by decide +kernel
theorem dX6_add_35 : decode cX6_add 35 = .ok (.iadd, 1) := by decide +kernel
theorem dX6_add_36 : decode cX6_add 36 = .ok (.putfield 15, 3) := by decide +kernel
theorem dX6_add_39 : decode cX6_add 39 = .ok (.return_, 1) := by decide +kernel
theorem dX6_hasMore_0 : decode cX6_hasMore 0 = .ok (.aload_n 0, 1) := by decide +kernel
theorem dX6_hasMore_1 : decode cX6_hasMore 1 = .ok (.getfield 19, 3) := by decide +kernel
theorem dX6_hasMore_4 : decode cX6_hasMore 4 = .ok (.ifCond .ne 18, 3) := by decide +kernel
theorem dX6_hasMore_7 : decode cX6_hasMore 7 = .ok (.aload_n 0, 1) := by decide +kernel
theorem dX6_hasMore_8 : decode cX6_hasMore 8 = .ok (.getfield 23, 3) := by decide +kernel
theorem dX6_hasMore_11 : decode cX6_hasMore 11 = .ok (.aload_n 0, 1) := by decide +kernel
theorem dX6_hasMore_12 : decode cX6_hasMore 12 = .ok (.getfield 15, 3) := by decide +kernel
theorem dX6_hasMore_15 : decode cX6_hasMore 15 = .ok (.if_icmp .ge 7, 3) := by decide +kernel
theorem dX6_hasMore_18 : decode cX6_hasMore 18 = .ok (.iconst 1, 1) := by decide +kernel
theorem dX6_hasMore_19 : decode cX6_hasMore 19 = .ok (.goto 4, 3) := by decide +kernel
theorem dX6_hasMore_22 : decode cX6_hasMore 22 = .ok (.iconst 0, 1) := by decide +kernel
theorem dX6_hasMore_23 : decode cX6_hasMore 23 = .ok (.ireturn, 1) := by decide +kernel
set_option maxRecDepth 20000 in
theorem ggX6_readHead_X6_readOneOf : GoodIn wsX6_readHead wsX6_readOneOf := goodIn_r _ [9, 2, 1, 10, 11, 12, 8, 13, 14, 15, 16, 17, 18, 19, 20, 21, 22, 23, 24, 25, 26, 27, 28, 29, 30, 31, 32, 33, 34, 35, 36, 37, 38, 39, 40, 41, 42, 43, 44, 45, 46, 47, 48, 49, 50, 51, 52, 53, 54, 55, 56, 57, 58, 59, 60, 61, 62, 63, 64, 65, 66, 67, 68, 69, 70, 71, 72, 73, 74, 75, 76, 77, 78, 79, 80, 81, 82, 83, 84, 85, 86, 87, 88, 89, 90, 91, 92, 93, 94, 95, 96, 97, 98, 99, 100, 101, 102, 103, 104, 105, 106, 107, 108, 119, 120, 121, 122, 123, 124, 125, 126, 127] (by decide +kernel) (by decide +kernel)
