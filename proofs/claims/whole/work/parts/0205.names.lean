set_option maxRecDepth 20000 in
theorem gX3_keep_X1_outcome : GoodIn wsX3_keep (wsV RX3 21 RX1 yX1_outcome wsX1_outcome) := goodIn_app (goodIn_of _ (by decide +kernel)) ggX3_keep_X1_outcome
theorem dX3_keep_0 : decode cX3_keep 0 = .ok (.iconst 0, 1) := by decide +kernel
theorem dX3_keep_1 : decode cX3_keep 1 = .ok (.istore_n 3, 1) := by decide +kernel
theorem dX3_keep_2 : decode cX3_keep 2 = .ok (.iload_n 3, 1) := by decide +kernel
theorem dX3_keep_3 : decode cX3_keep 3 = .ok (.aload_n 0, 1) := by decide +kernel
theorem dX3_keep_4 : decode cX3_keep 4 = .ok (.getfield 9, 3) := by decide +kernel
theorem dX3_keep_7 : decode cX3_keep 7 = .ok (.arraylength, 1) := by decide +kernel
theorem dX3_keep_8 : decode cX3_keep 8 = .ok (.if_icmp .ge 111, 3) := by decide +kernel
theorem dX3_keep_11 : decode cX3_keep 11 = .ok (.iload_n 3, 1) := by decide +kernel
theorem dX3_keep_12 : decode cX3_keep 12 = .ok (.iconst 2, 1) := by decide +kernel
theorem dX3_keep_13 : decode cX3_keep 13 = .ok (.irem, 1) := by decide +kernel
theorem dX3_keep_14 : decode cX3_keep 14 = .ok (.ifCond .ne 7, 3) := by decide +kernel
theorem dX3_keep_17 : decode cX3_keep 17 = .ok (.iconst (-1), 1) := by decide +kernel
theorem dX3_keep_18 : decode cX3_keep 18 = .ok (.goto 4, 3) := by decide +kernel
theorem dX3_keep_21 : decode cX3_keep 21 = .ok (.iconst 1, 1) := by decide +kernel
theorem dX3_keep_22 : decode cX3_keep 22 = .ok (.istore 4, 2) := by decide +kernel
theorem dX3_keep_24 : decode cX3_keep 24 = .ok (.iconst 0, 1) := by decide +kernel
theorem dX3_keep_25 : decode cX3_keep 25 = .ok (.istore 5, 2) := by decide +kernel
theorem dX3_keep_27 : decode cX3_keep 27 = .ok (.aload_n 1, 1) := by decide +kernel
theorem dX3_keep_28 : decode cX3_keep 28 = .ok (.iload_n 3, 1) := by decide +kernel
theorem dX3_keep_29 : decode cX3_keep 29 = .ok (.iconst 2, 1) := by decide +kernel
theorem dX3_keep_30 : decode cX3_keep 30 = .ok (.idiv, 1) := by decide +kernel
theorem dX3_keep_31 : decode cX3_keep 31 = .ok (.iload 4, 2) := by decide +kernel
theorem dX3_keep_33 : decode cX3_keep 33 = .ok (.iconst 0, 1) := by decide +kernel
theorem dX3_keep_34 : decode cX3_keep 34 = .ok (.invokevirtual 21, 3) := by decide +kernel
theorem dX3_keep_37 : decode cX3_keep 37 = .ok (.iload_n 2, 1) := by decide +kernel
theorem dX3_keep_38 : decode cX3_keep 38 = .ok (.if_icmp .ne 12, 3) := by decide +kernel
theorem dX3_keep_41 : decode cX3_keep 41 = .ok (.iload 5, 2) := by decide +kernel
theorem dX3_keep_43 : decode cX3_keep 43 = .ok (.aload_n 1, 1) := by decide +kernel
theorem dX3_keep_44 : decode cX3_keep 44 = .ok (.getfield 27, 3) := by decide +kernel
theorem dX3_keep_47 : decode cX3_keep 47 = .ok (.ior, 1) := by decide +kernel
theorem dX3_keep_48 : decode cX3_keep 48 = .ok (.istore 5, 2) := by decide +kernel
theorem dX3_keep_50 : decode cX3_keep 50 = .ok (.aload_n 1, 1) := by decide +kernel
theorem dX3_keep_51 : decode cX3_keep 51 = .ok (.iload_n 3, 1) := by decide +kernel
theorem dX3_keep_52 : decode cX3_keep 52 = .ok (.iconst 2, 1) := by decide +kernel
theorem dX3_keep_53 : decode cX3_keep 53 = .ok (.idiv, 1) := by decide +kernel
theorem dX3_keep_54 : decode cX3_keep 54 = .ok (.iconst 0, 1) := by decide +kernel
theorem dX3_keep_55 : decode cX3_keep 55 = .ok (.iload 4, 2) := by decide +kernel
theorem dX3_keep_57 : decode cX3_keep 57 = .ok (.invokevirtual 21, 3) := by decide +kernel
theorem dX3_keep_60 : decode cX3_keep 60 = .ok (.iload_n 2, 1) := by decide +kernel
theorem dX3_keep_61 : decode cX3_keep 61 = .ok (.if_icmp .ne 12, 3) := by decide +kernel
theorem dX3_keep_64 : decode cX3_keep 64 = .ok (.iload 5, 2) := by decide +kernel
theorem dX3_keep_66 : decode cX3_keep 66 = .ok (.aload_n 1, 1) := by decide +kernel
theorem dX3_keep_67 : decode cX3_keep 67 = .ok (.getfield 31, 3) := by decide +kernel
theorem dX3_keep_70 : decode cX3_keep 70 = .ok (.ior, 1) := by decide +kernel
theorem dX3_keep_71 : decode cX3_keep 71 = .ok (.istore 5, 2) := by decide +kernel
theorem dX3_keep_73 : decode cX3_keep 73 = .ok (.aload_n 1, 1) := by decide +kernel
theorem dX3_keep_74 : decode cX3_keep 74 = .ok (.iload_n 3, 1) := by decide +kernel
theorem dX3_keep_75 : decode cX3_keep 75 = .ok (.iconst 2, 1) := by decide +kernel
theorem dX3_keep_76 : decode cX3_keep 76 = .ok (.idiv, 1) := by decide +kernel
theorem dX3_keep_77 : decode cX3_keep 77 = .ok (.iconst 0, 1) := by decide +kernel
theorem dX3_keep_78 : decode cX3_keep 78 = .ok (.iconst 0, 1) := by decide +kernel
theorem dX3_keep_79 : decode cX3_keep 79 = .ok (.invokevirtual 21, 3) := by decide +kernel
theorem dX3_keep_82 : decode cX3_keep 82 = .ok (.iload_n 2, 1) := by decide +kernel
theorem dX3_keep_83 : decode cX3_keep 83 = .ok (.if_icmp .ne 19, 3) := by decide +kernel
theorem dX3_keep_86 : decode cX3_keep 86 = .ok (.iload 5, 2) := by decide +kernel
theorem dX3_keep_88 : decode cX3_keep 88 = .ok (.aload_n 1, 1) := by decide +kernel
theorem dX3_keep_89 : decode cX3_keep 89 = .ok (.getfield 27, 3) := by decide +kernel
theorem dX3_keep_92 : decode cX3_keep 92 = .ok (.aload_n 1, 1) := by decide +kernel
theorem dX3_keep_93 : decode cX3_keep 93 = .ok (.getfield 31, 3) := by decide +kernel
theorem dX3_keep_96 : decode cX3_keep 96 = .ok (.ior, 1) := by decide +kernel
theorem dX3_keep_97 : decode cX3_keep 97 = .ok (.iconst (-1), 1) := by decide +kernel
theorem dX3_keep_98 : decode cX3_keep 98 = .ok (.ixor, 1) := by decide +kernel
theorem dX3_keep_99 : decode cX3_keep 99 = .ok (.ior, 1) := by decide +kernel
theorem dX3_keep_100 : decode cX3_keep 100 = .ok (.istore 5, 2) := by decide +kernel
theorem dX3_keep_102 : decode cX3_keep 102 = .ok (.aload_n 0, 1) := by decide +kernel
theorem dX3_keep_103 : decode cX3_keep 103 = .ok (.getfield 9, 3) := by decide +kernel
theorem dX3_keep_106 : decode cX3_keep 106 = .ok (.iload_n 3, 1) := by decide +kernel
theorem dX3_keep_107 : decode cX3_keep 107 = .ok (.dup2, 1) := by decide +kernel
theorem dX3_keep_108 : decode cX3_keep 108 = .ok (.iaload, 1) := by decide +kernel
theorem dX3_keep_109 : decode cX3_keep 109 = .ok (.iload 5, 2) := by decide +kernel
theorem dX3_keep_111 : decode cX3_keep 111 = .ok (.iand, 1) := by decide +kernel
theorem dX3_keep_112 : decode cX3_keep 112 = .ok (.iastore, 1) := by decide +kernel
theorem dX3_keep_113 : decode cX3_keep 113 = .ok (.iinc 3 1, 3) := by decide +kernel
theorem dX3_keep_116 : decode cX3_keep 116 = .ok (.goto (-114), 3) := by decide +kernel
theorem dX3_keep_119 : decode cX3_keep 119 = .ok (.return_, 1) := by decide +kernel
set_option maxRecDepth 20000 in
theorem ggX3_sort_X5_clear : GoodIn wsX3_sort wsX5_clear := goodIn_r _ [8, 9, 10, 11, 39, 40, 41] (by decide +kernel) (by decide +kernel)
set_option maxRecDepth 20000 in
theorem gX3_sort_X5_clear : GoodIn wsX3_sort (wsV RX3 34 RX5 yX5_clear wsX5_clear) := goodIn_app (goodIn_of _ (by decide +kernel)) ggX3_sort_X5_clear
set_option maxRecDepth 20000 in
theorem ggX3_sort_X1_outcome : GoodIn wsX3_sort wsX1_outcome := goodIn_r _ [16, 17, 18, 19, 20, 33, 34, 35, 36, 37, 38] (by decide +kernel) (by decide +kernel)
set_option maxRecDepth 20000 in
theorem gX3_sort_X1_outcome : GoodIn wsX3_sort (wsV RX3 21 RX1 yX1_outcome wsX1_outcome) := goodIn_app (goodIn_of _ (by decide +kernel)) ggX3_sort_X1_outcome
set_option maxRecDepth 20000 in
theorem ggX3_sort_J6_bitCount_0f7a4 : GoodIn wsX3_sort wsJ6_bitCount_0f7a4 := goodIn_r _ [24, 25, 26, 27] (by decide +kernel) (by decide +kernel)
set_option maxRecDepth 20000 in
theorem gX3_sort_J6_bitCount_0f7a4 : GoodIn wsX3_sort (va_wsS RX3 15 yJ6_bitCount_0f7a4 wsJ6_bitCount_0f7a4) := goodIn_app (goodIn_of _ (by decide +kernel)) ggX3_sort_J6_bitCount_0f7a4
set_option maxRecDepth 20000 in
theorem ggX3_sort_X5_add : GoodIn wsX3_sort wsX5_add := goodIn_r _ [31, 9, 10, 11, 39, 40, 41] (by decide +kernel) (by decide +kernel)
set_option maxRecDepth 20000 in
theorem gX3_sort_X5_add : GoodIn wsX3_sort (wsV RX3 39 RX5 yX5_add wsX5_add) := goodIn_app (goodIn_of _ (by decide +kernel)) ggX3_sort_X5_add
theorem dX3_sort_0 : decode cX3_sort 0 = .ok (.aload_n 2, 1) := by decide +kernel
theorem dX3_sort_1 : decode cX3_sort 1 = .ok (.invokevirtual 34, 3) := by decide +kernel
theorem dX3_sort_4 : decode cX3_sort 4 = .ok (.iconst 0, 1) := by decide +kernel
theorem dX3_sort_5 : decode cX3_sort 5 = .ok (.istore_n 3, 1) := by decide +kernel
theorem dX3_sort_6 : decode cX3_sort 6 = .ok (.iload_n 3, 1) := by decide +kernel
theorem dX3_sort_7 : decode cX3_sort 7 = .ok (.aload_n 0, 1) := by decide +kernel
theorem dX3_sort_8 : decode cX3_sort 8 = .ok (.getfield 9, 3) := by decide +kernel
theorem dX3_sort_11 : decode cX3_sort 11 = .ok (.arraylength, 1) := by decide +kernel
theorem dX3_sort_12 : decode cX3_sort 12 = .ok (.if_icmp .ge 124, 3) := by decide +kernel
theorem dX3_sort_15 : decode cX3_sort 15 = .ok (.iload_n 3, 1) := by decide +kernel
theorem dX3_sort_16 : decode cX3_sort 16 = .ok (.iconst 2, 1) := by decide +kernel
theorem dX3_sort_17 : decode cX3_sort 17 = .ok (.irem, 1) := by decide +kernel
theorem dX3_sort_18 : decode cX3_sort 18 = .ok (.ifCond .ne 7, 3) := by decide +kernel
theorem dX3_sort_21 : decode cX3_sort 21 = .ok (.iconst (-1), 1) := by decide +kernel
theorem dX3_sort_22 : decode cX3_sort 22 = .ok (.goto 4, 3) := by decide +kernel
theorem dX3_sort_25 : decode cX3_sort 25 = .ok (.iconst 1, 1) := by decide +kernel
theorem dX3_sort_26 : decode cX3_sort 26 = .ok (.istore 4, 2) := by decide +kernel
theorem dX3_sort_28 : decode cX3_sort 28 = .ok (.aload_n 0, 1) := by decide +kernel
theorem dX3_sort_29 : decode cX3_sort 29 = .ok (.getfield 9, 3) := by decide +kernel
theorem dX3_sort_32 : decode cX3_sort 32 = .ok (.iload_n 3, 1) := by decide +kernel
theorem dX3_sort_33 : decode cX3_sort 33 = .ok (.iaload, 1) := by decide +kernel
theorem dX3_sort_34 : decode cX3_sort 34 = .ok (.aload_n 1, 1) := by decide +kernel
theorem dX3_sort_35 : decode cX3_sort 35 = .ok (.getfield 27, 3) := by decide +kernel
theorem dX3_sort_38 : decode cX3_sort 38 = .ok (.iand, 1) := by decide +kernel
theorem dX3_sort_39 : decode cX3_sort 39 = .ok (.istore 5, 2) := by decide +kernel
theorem dX3_sort_41 : decode cX3_sort 41 = .ok (.aload_n 0, 1) := by decide +kernel
theorem dX3_sort_42 : decode cX3_sort 42 = .ok (.getfield 9, 3) := by decide +kernel
theorem dX3_sort_45 : decode cX3_sort 45 = .ok (.iload_n 3, 1) := by decide +kernel
theorem dX3_sort_46 : decode cX3_sort 46 = .ok (.iaload, 1) := by decide +kernel
theorem dX3_sort_47 : decode cX3_sort 47 = .ok (.aload_n 1, 1) := by decide +kernel
theorem dX3_sort_48 : decode cX3_sort 48 = .ok (.getfield 31, 3) := by decide +kernel
theorem dX3_sort_51 : decode cX3_sort 51 = .ok (.iand, 1) := by decide +kernel
theorem dX3_sort_52 : decode cX3_sort 52 = .ok (.istore 6, 2) := by decide +kernel
theorem dX3_sort_54 : decode cX3_sort 54 = .ok (.aload_n 0, 1) := by decide +kernel
theorem dX3_sort_55 : decode cX3_sort 55 = .ok (.getfield 9, 3) := by decide +kernel
theorem dX3_sort_58 : decode cX3_sort 58 = .ok (.iload_n 3, 1) := by decide +kernel
theorem dX3_sort_59 : decode cX3_sort 59 = .ok (.iaload, 1) := by decide +kernel
theorem dX3_sort_60 : decode cX3_sort 60 = .ok (.aload_n 1, 1) := by decide +kernel
theorem dX3_sort_61 : decode cX3_sort 61 = .ok (.getfield 27, 3) := by decide +kernel
theorem dX3_sort_64 : decode cX3_sort 64 = .ok (.aload_n 1, 1) := by decide +kernel
theorem dX3_sort_65 : decode cX3_sort 65 = .ok (.getfield 31, 3) := by decide +kernel
theorem dX3_sort_68 : decode cX3_sort 68 = .ok (.ior, 1) := by decide +kernel
theorem dX3_sort_69 : decode cX3_sort 69 = .ok (.iconst (-1), 1) := by decide +kernel
theorem dX3_sort_70 : decode cX3_sort 70 = .ok (.ixor, 1) := by decide +kernel
theorem dX3_sort_71 : decode cX3_sort 71 = .ok (.iand, 1) := by decide +kernel
theorem dX3_sort_72 : decode cX3_sort 72 = .ok (.istore 7, 2) := by decide +kernel
theorem dX3_sort_74 : decode cX3_sort 74 = .ok (.aload_n 2, 1) := by decide +kernel
theorem dX3_sort_75 : decode cX3_sort 75 = .ok (.aload_n 1, 1) := by decide +kernel
theorem dX3_sort_76 : decode cX3_sort 76 = .ok (.iload_n 3, 1) := by decide +kernel
theorem dX3_sort_77 : decode cX3_sort 77 = .ok (.iconst 2, 1) := by decide +kernel
theorem dX3_sort_78 : decode cX3_sort 78 = .ok (.idiv, 1) := by decide +kernel
theorem dX3_sort_79 : decode cX3_sort 79 = .ok (.iload 4, 2) := by decide +kernel
theorem dX3_sort_81 : decode cX3_sort 81 = .ok (.iconst 0, 1) := by decide +kernel
theorem dX3_sort_82 : decode cX3_sort 82 = .ok (.invokevirtual 21, 3) := by decide +kernel
theorem dX3_sort_85 : decode cX3_sort 85 = .ok (.iload 5, 2) := by decide +kernel
theorem dX3_sort_87 : decode cX3_sort 87 = .ok (.invokestatic 15, 3) := by decide +kernel
theorem dX3_sort_90 : decode cX3_sort 90 = .ok (.invokevirtual 39, 3) := by decide +kernel
theorem dX3_sort_93 : decode cX3_sort 93 = .ok (.aload_n 2, 1) := by decide +kernel
theorem dX3_sort_94 : decode cX3_sort 94 = .ok (.aload_n 1, 1) := by decide +kernel
theorem dX3_sort_95 : decode cX3_sort 95 = .ok (.iload_n 3, 1) := by decide +kernel
theorem dX3_sort_96 : decode cX3_sort 96 = .ok (.iconst 2, 1) := by decide +kernel
theorem dX3_sort_97 : decode cX3_sort 97 = .ok (.idiv, 1) := by decide +kernel
theorem dX3_sort_98 : decode cX3_sort 98 = .ok (.iconst 0, 1) := by decide +kernel
theorem dX3_sort_99 : decode cX3_sort 99 = .ok (.iload 4, 2) := by decide +kernel
theorem dX3_sort_101 : decode cX3_sort 101 = .ok (.invokevirtual 21, 3) := by decide +kernel
theorem dX3_sort_104 : decode cX3_sort 104 = .ok (.iload 6, 2) := by decide +kernel
theorem dX3_sort_106 : decode cX3_sort 106 = .ok (.invokestatic 15, 3) := by decide +kernel
theorem dX3_sort_109 : decode cX3_sort 109 = .ok (.invokevirtual 39, 3) := by decide +kernel
theorem dX3_sort_112 : decode cX3_sort 112 = .ok (.aload_n 2, 1) := by decide +kernel
theorem dX3_sort_113 : decode cX3_sort 113 = .ok (.aload_n 1, 1) := by decide +kernel
theorem dX3_sort_114 : decode cX3_sort 114 = .ok (.iload_n 3, 1) := by decide +kernel
theorem dX3_sort_115 : decode cX3_sort 115 = .ok (.iconst 2, 1) := by decide +kernel
theorem dX3_sort_116 : decode cX3_sort 116 = .ok (.idiv, 1) := by decide +kernel
theorem dX3_sort_117 : decode cX3_sort 117 = .ok (.iconst 0, 1) := by decide +kernel
theorem dX3_sort_118 : decode cX3_sort 118 = .ok (.iconst 0, 1) := by decide +kernel
theorem dX3_sort_119 : decode cX3_sort 119 = .ok (.invokevirtual 21, 3) := by decide +kernel
theorem dX3_sort_122 : decode cX3_sort 122 = .ok (.iload 7, 2) := by decide +kernel
theorem dX3_sort_124 : decode cX3_sort 124 = .ok (.invokestatic 15, 3) := by decide +kernel
theorem dX3_sort_127 : decode cX3_sort 127 = .ok (.invokevirtual 39, 3) := by decide +kernel
theorem dX3_sort_130 : decode cX3_sort 130 = .ok (.iinc 3 1, 3) := by decide +kernel
theorem dX3_sort_133 : decode cX3_sort 133 = .ok (.goto (-127), 3) := by decide +kernel
theorem dX3_sort_136 : decode cX3_sort 136 = .ok (.return_, 1) := by decide +kernel
set_option maxRecDepth 20000 in
theorem ggX4_init_X3_init : GoodIn wsX4_init wsX3_init := goodIn_r _ [15, 16, 2, 3, 4, 17, 31] (by decide +kernel) (by decide +kernel)
set_option maxRecDepth 20000 in
theorem gX4_init_X3_init_n17 : GoodIn wsX4_init (wsX3_init) := ggX4_init_X3_init
set_option maxRecDepth 20000 in
theorem ggX4_init_X1_init : GoodIn wsX4_init wsX1_init := goodIn_r _ [19, 20, 2, 3] (by decide +kernel) (by decide +kernel)
set_option maxRecDepth 20000 in
theorem gX4_init_X1_init_n24 : GoodIn wsX4_init (wsX1_init) := ggX4_init_X1_init
theorem dX4_init_0 : decode cX4_init 0 = .ok (.aload_n 0, 1) := by decide +kernel
theorem dX4_init_1 : decode cX4_init 1 = .ok (.invokespecial 3, 3) := by decide +kernel
theorem dX4_init_4 : decode cX4_init 4 = .ok (.aload_n 0, 1) := by decide +kernel
theorem dX4_init_5 : decode cX4_init 5 = .ok (.bipush 120, 2) := by decide +kernel
theorem dX4_init_7 : decode cX4_init 7 = .ok (.newarray .int, 2) := by decide +kernel
theorem dX4_init_9 : decode cX4_init 9 = .ok (.putfield 9, 3) := by decide +kernel
theorem dX4_init_12 : decode cX4_init 12 = .ok (.aload_n 0, 1) := by decide +kernel
theorem dX4_init_13 : decode cX4_init 13 = .ok (.new 15, 3) := by decide +kernel
theorem dX4_init_16 : decode cX4_init 16 = .ok (.dup, 1) := by decide +kernel
theorem dX4_init_17 : decode cX4_init 17 = .ok (.invokespecial 17, 3) := by decide +kernel
theorem dX4_init_20 : decode cX4_init 20 = .ok (.putfield 18, 3) := by decide +kernel
theorem dX4_init_23 : decode cX4_init 23 = .ok (.aload_n 0, 1) := by decide +kernel
theorem dX4_init_24 : decode cX4_init 24 = .ok (.new 22, 3) := by decide +kernel
theorem dX4_init_27 : decode cX4_init 27 = .ok (.dup, 1) := by decide +kernel
theorem dX4_init_28 : decode cX4_init 28 = .ok (.invokespecial 24, 3) := by decide +kernel
theorem dX4_init_31 : decode cX4_init 31 = .ok (.putfield 25, 3) := by decide +kernel
theorem dX4_init_34 : decode cX4_init 34 = .ok (.return_, 1) := by decide +kernel
set_option maxRecDepth 20000 in
theorem ggX4_reset_X4_layOut : GoodIn wsX4_reset wsX4_layOut := goodIn_r _ [9, 10, 11, 12, 13, 14, 15, 16, 17, 18, 19, 20, 21, 22, 23, 24, 25, 26, 27, 28, 29, 30] (by decide +kernel) (by decide +kernel)
set_option maxRecDepth 20000 in
theorem gX4_reset_X4_layOut : GoodIn wsX4_reset (wsV RX4 29 RX4 yX4_layOut wsX4_layOut) := goodIn_app (goodIn_of _ (by decide +kernel)) ggX4_reset_X4_layOut
theorem dX4_reset_0 : decode cX4_reset 0 = .ok (.aload_n 0, 1) := by decide +kernel
theorem dX4_reset_1 : decode cX4_reset 1 = .ok (.bipush 9, 2) := by decide +kernel
theorem dX4_reset_3 : decode cX4_reset 3 = .ok (.iconst 0, 1) := by decide +kernel
theorem dX4_reset_4 : decode cX4_reset 4 = .ok (.invokevirtual 29, 3) := by decide +kernel
theorem dX4_reset_7 : decode cX4_reset 7 = .ok (.aload_n 0, 1) := by decide +kernel
theorem dX4_reset_8 : decode cX4_reset 8 = .ok (.bipush 10, 2) := by decide +kernel
theorem dX4_reset_10 : decode cX4_reset 10 = .ok (.putfield 33, 3) := by decide +kernel
theorem dX4_reset_13 : decode cX4_reset 13 = .ok (.aload_n 0, 1) := by decide +kernel
theorem dX4_reset_14 : decode cX4_reset 14 = .ok (.bipush 10, 2) := by decide +kernel
theorem dX4_reset_16 : decode cX4_reset 16 = .ok (.putfield 37, 3) := by decide +kernel
theorem dX4_reset_19 : decode cX4_reset 19 = .ok (.aload_n 0, 1) := by decide +kernel
theorem dX4_reset_20 : decode cX4_reset 20 = .ok (.iconst 0, 1) := by decide +kernel
theorem dX4_reset_21 : decode cX4_reset 21 = .ok (.putfield 40, 3) := by decide +kernel
theorem dX4_reset_24 : decode cX4_reset 24 = .ok (.aload_n 0, 1) := by decide +kernel
theorem dX4_reset_25 : decode cX4_reset 25 = .ok (.iconst 0, 1) := by decide +kernel
theorem dX4_reset_26 : decode cX4_reset 26 = .ok (.putfield 43, 3) := by decide +kernel
theorem dX4_reset_29 : decode cX4_reset 29 = .ok (.return_, 1) := by decide +kernel
set_option maxRecDepth 20000 in
theorem ggX4_copyFrom_X3_copyFrom : GoodIn wsX4_copyFrom wsX3_copyFrom := goodIn_r _ [14, 15, 26] (by decide +kernel) (by decide +kernel)
set_option maxRecDepth 20000 in
theorem gX4_copyFrom_X3_copyFrom : GoodIn wsX4_copyFrom (wsV RX4 55 RX3 yX3_copyFrom wsX3_copyFrom) := goodIn_app (goodIn_of _ (by decide +kernel)) ggX4_copyFrom_X3_copyFrom
theorem dX4_copyFrom_0 : decode cX4_copyFrom 0 = .ok (.aload_n 0, 1) := by decide +kernel
theorem dX4_copyFrom_1 : decode cX4_copyFrom 1 = .ok (.aload_n 1, 1) := by decide +kernel
theorem dX4_copyFrom_2 : decode cX4_copyFrom 2 = .ok (.getfield 46, 3) := by decide +kernel
theorem dX4_copyFrom_5 : decode cX4_copyFrom 5 = .ok (.putfield 46, 3) := by decide +kernel
theorem dX4_copyFrom_8 : decode cX4_copyFrom 8 = .ok (.aload_n 0, 1) := by decide +kernel
theorem dX4_copyFrom_9 : decode cX4_copyFrom 9 = .ok (.aload_n 1, 1) := by decide +kernel
theorem dX4_copyFrom_10 : decode cX4_copyFrom 10 = .ok (.getfield 49, 3) := by decide +kernel
theorem dX4_copyFrom_13 : decode cX4_copyFrom 13 = .ok (.putfield 49, 3) := by decide +kernel
theorem dX4_copyFrom_16 : decode cX4_copyFrom 16 = .ok (.aload_n 0, 1) := by decide +kernel
theorem dX4_copyFrom_17 : decode cX4_copyFrom 17 = .ok (.aload_n 1, 1) := by decide +kernel
theorem dX4_copyFrom_18 : decode cX4_copyFrom 18 = .ok (.getfield 33, 3) := by decide +kernel
theorem dX4_copyFrom_21 : decode cX4_copyFrom 21 = .ok (.putfield 33, 3) := by decide +kernel
theorem dX4_copyFrom_24 : decode cX4_copyFrom 24 = .ok (.aload_n 0, 1) := by decide +kernel
theorem dX4_copyFrom_25 : decode cX4_copyFrom 25 = .ok (.aload_n 1, 1) := by decide +kernel
theorem dX4_copyFrom_26 : decode cX4_copyFrom 26 = .ok (.getfield 37, 3) := by decide +kernel
theorem dX4_copyFrom_29 : decode cX4_copyFrom 29 = .ok (.putfield 37, 3) := by decide +kernel
theorem dX4_copyFrom_32 : decode cX4_copyFrom 32 = .ok (.aload_n 0, 1) := by decide +kernel
theorem dX4_copyFrom_33 : decode cX4_copyFrom 33 = .ok (.aload_n 1, 1) := by decide +kernel
theorem dX4_copyFrom_34 : decode cX4_copyFrom 34 = .ok (.getfield 40, 3) := by decide +kernel
theorem dX4_copyFrom_37 : decode cX4_copyFrom 37 = .ok (.putfield 40, 3) := by decide +kernel
theorem dX4_copyFrom_40 : decode cX4_copyFrom 40 = .ok (.aload_n 0, 1) := by decide +kernel
theorem dX4_copyFrom_41 : decode cX4_copyFrom 41 = .ok (.aload_n 1, 1) := by decide +kernel
theorem dX4_copyFrom_42 : decode cX4_copyFrom 42 = .ok (.getfield 43, 3) := by decide +kernel
theorem dX4_copyFrom_45 : decode cX4_copyFrom 45 = .ok (.putfield 43, 3) := by decide +kernel
theorem dX4_copyFrom_48 : decode cX4_copyFrom 48 = .ok (.aload_n 0, 1) := by decide +kernel
theorem dX4_copyFrom_49 : decode cX4_copyFrom 49 = .ok (.aload_n 1, 1) := by decide +kernel
theorem dX4_copyFrom_50 : decode cX4_copyFrom 50 = .ok (.getfield 52, 3) := by decide +kernel
theorem dX4_copyFrom_53 : decode cX4_copyFrom 53 = .ok (.putfield 52, 3) := by decide +kernel
theorem dX4_copyFrom_56 : decode cX4_copyFrom 56 = .ok (.iconst 0, 1) := by decide +kernel
theorem dX4_copyFrom_57 : decode cX4_copyFrom 57 = .ok (.istore_n 2, 1) := by decide +kernel
theorem dX4_copyFrom_58 : decode cX4_copyFrom 58 = .ok (.iload_n 2, 1) := by decide +kernel
theorem dX4_copyFrom_59 : decode cX4_copyFrom 59 = .ok (.aload_n 0, 1) := by decide +kernel
theorem dX4_copyFrom_60 : decode cX4_copyFrom 60 = .ok (.getfield 9, 3) := by decide +kernel
theorem dX4_copyFrom_63 : decode cX4_copyFrom 63 = .ok (.arraylength, 1) := by decide +kernel
theorem dX4_copyFrom_64 : decode cX4_copyFrom 64 = .ok (.if_icmp .ge 30, 3) := by decide +kernel
theorem dX4_copyFrom_67 : decode cX4_copyFrom 67 = .ok (.iload_n 2, 1) := by decide +kernel
theorem dX4_copyFrom_68 : decode cX4_copyFrom 68 = .ok (.aload_n 1, 1) := by decide +kernel
theorem dX4_copyFrom_69 : decode cX4_copyFrom 69 = .ok (.getfield 9, 3) := by decide +kernel
theorem dX4_copyFrom_72 : decode cX4_copyFrom 72 = .ok (.arraylength, 1) := by decide +kernel
theorem dX4_copyFrom_73 : decode cX4_copyFrom 73 = .ok (.if_icmp .ge 21, 3) := by decide +kernel
theorem dX4_copyFrom_76 : decode cX4_copyFrom 76 = .ok (.aload_n 0, 1) := by decide +kernel
theorem dX4_copyFrom_77 : decode cX4_copyFrom 77 = .ok (.getfield 9, 3) := by decide +kernel
theorem dX4_copyFrom_80 : decode cX4_copyFrom 80 = .ok (.iload_n 2, 1) := by decide +kernel
theorem dX4_copyFrom_81 : decode cX4_copyFrom 81 = .ok (.aload_n 1, 1) := by decide +kernel
theorem dX4_copyFrom_82 : decode cX4_copyFrom 82 = .ok (.getfield 9, 3) := by decide +kernel
theorem dX4_copyFrom_85 : decode cX4_copyFrom 85 = .ok (.iload_n 2, 1) := by decide +kernel
theorem dX4_copyFrom_86 : decode cX4_copyFrom 86 = .ok (.iaload, 1) := by decide +kernel
theorem dX4_copyFrom_87 : decode cX4_copyFrom 87 = .ok (.iastore, 1) := by decide +kernel
theorem dX4_copyFrom_88 : decode cX4_copyFrom 88 = .ok (.iinc 2 1, 3) := by decide +kernel
theorem dX4_copyFrom_91 : decode cX4_copyFrom 91 = .ok (.goto (-33), 3) := by decide +kernel
theorem dX4_copyFrom_94 : decode cX4_copyFrom 94 = .ok (.aload_n 0, 1) := by decide +kernel
theorem dX4_copyFrom_95 : decode cX4_copyFrom 95 = .ok (.getfield 18, 3) := by decide +kernel
theorem dX4_copyFrom_98 : decode cX4_copyFrom 98 = .ok (.aload_n 1, 1) := by decide +kernel
theorem dX4_copyFrom_99 : decode cX4_copyFrom 99 = .ok (.getfield 18, 3) := by decide +kernel
theorem dX4_copyFrom_102 : decode cX4_copyFrom 102 = .ok (.invokevirtual 55, 3) := by decide +kernel
theorem dX4_copyFrom_105 : decode cX4_copyFrom 105 = .ok (.return_, 1) := by decide +kernel
set_option maxRecDepth 20000 in
theorem ggX4_layOut_X3_suspectAll : GoodIn wsX4_layOut wsX3_suspectAll := goodIn_r _ [9, 10, 21] (by decide +kernel) (by decide +kernel)
set_option maxRecDepth 20000 in
theorem gX4_layOut_X3_suspectAll : GoodIn wsX4_layOut (wsV RX4 59 RX3 yX3_suspectAll wsX3_suspectAll) := goodIn_app (goodIn_of _ (by decide +kernel)) ggX4_layOut_X3_suspectAll
theorem dX4_layOut_0 : decode cX4_layOut 0 = .ok (.aload_n 0, 1) := by decide +kernel
theorem dX4_layOut_1 : decode cX4_layOut 1 = .ok (.iload_n 1, 1) := by decide +kernel
theorem dX4_layOut_2 : decode cX4_layOut 2 = .ok (.putfield 46, 3) := by decide +kernel
theorem dX4_layOut_5 : decode cX4_layOut 5 = .ok (.aload_n 0, 1) := by decide +kernel
theorem dX4_layOut_6 : decode cX4_layOut 6 = .ok (.iload_n 2, 1) := by decide +kernel
theorem dX4_layOut_7 : decode cX4_layOut 7 = .ok (.putfield 49, 3) := by decide +kernel
theorem dX4_layOut_10 : decode cX4_layOut 10 = .ok (.aload_n 0, 1) := by decide +kernel
theorem dX4_layOut_11 : decode cX4_layOut 11 = .ok (.iconst 0, 1) := by decide +kernel
theorem dX4_layOut_12 : decode cX4_layOut 12 = .ok (.putfield 52, 3) := by decide +kernel
theorem dX4_layOut_15 : decode cX4_layOut 15 = .ok (.aload_n 0, 1) := by decide +kernel
theorem dX4_layOut_16 : decode cX4_layOut 16 = .ok (.getfield 18, 3) := by decide +kernel
theorem dX4_layOut_19 : decode cX4_layOut 19 = .ok (.iload_n 1, 1) := by decide +kernel
theorem dX4_layOut_20 : decode cX4_layOut 20 = .ok (.invokevirtual 59, 3) := by decide +kernel
theorem dX4_layOut_23 : decode cX4_layOut 23 = .ok (.return_, 1) := by decide +kernel
set_option maxRecDepth 20000 in
theorem ggX4_allCases_X7_casesOf : GoodIn wsX4_allCases wsX7_casesOf := goodIn_r _ [4] (by decide +kernel) (by decide +kernel)
set_option maxRecDepth 20000 in
theorem gX4_allCases_X7_casesOf_n63 : GoodIn wsX4_allCases (wsX7_casesOf) := ggX4_allCases_X7_casesOf
theorem dX4_allCases_0 : decode cX4_allCases 0 = .ok (.aload_n 0, 1) := by decide +kernel
theorem dX4_allCases_1 : decode cX4_allCases 1 = .ok (.getfield 46, 3) := by decide +kernel
theorem dX4_allCases_4 : decode cX4_allCases 4 = .ok (.invokestatic 63, 3) := by decide +kernel
theorem dX4_allCases_7 : decode cX4_allCases 7 = .ok (.ireturn, 1) := by decide +kernel
theorem dX4_hasCoin_0 : decode cX4_hasCoin 0 = .ok (.iload_n 1, 1) := by decide +kernel
theorem dX4_hasCoin_1 : decode cX4_hasCoin 1 = .ok (.ifCond .lt 15, 3) := by decide +kernel
theorem dX4_hasCoin_4 : decode cX4_hasCoin 4 = .ok (.iload_n 1, 1) := by decide +kernel
theorem dX4_hasCoin_5 : decode cX4_hasCoin 5 = .ok (.aload_n 0, 1) := by decide +kernel
theorem dX4_hasCoin_6 : decode cX4_hasCoin 6 = .ok (.getfield 46, 3) := by decide +kernel
theorem dX4_hasCoin_9 : decode cX4_hasCoin 9 = .ok (.if_icmp .ge 7, 3) := by decide +kernel
theorem dX4_hasCoin_12 : decode cX4_hasCoin 12 = .ok (.iconst 1, 1) := by decide +kernel
theorem dX4_hasCoin_13 : decode cX4_hasCoin 13 = .ok (.goto 4, 3) := by decide +kernel
theorem dX4_hasCoin_16 : decode cX4_hasCoin 16 = .ok (.iconst 0, 1) := by decide +kernel
theorem dX4_hasCoin_17 : decode cX4_hasCoin 17 = .ok (.ireturn, 1) := by decide +kernel
theorem dX4_isFull_0 : decode cX4_isFull 0 = .ok (.aload_n 0, 1) := by decide +kernel
theorem dX4_isFull_1 : decode cX4_isFull 1 = .ok (.getfield 52, 3) := by decide +kernel
theorem dX4_isFull_4 : decode cX4_isFull 4 = .ok (.bipush 20, 2) := by decide +kernel
theorem dX4_isFull_6 : decode cX4_isFull 6 = .ok (.if_icmp .lt 7, 3) := by decide +kernel
theorem dX4_isFull_9 : decode cX4_isFull 9 = .ok (.iconst 1, 1) := by decide +kernel
theorem dX4_isFull_10 : decode cX4_isFull 10 = .ok (.goto 4, 3) := by decide +kernel
theorem dX4_isFull_13 : decode cX4_isFull 13 = .ok (.iconst 0, 1) := by decide +kernel
theorem dX4_isFull_14 : decode cX4_isFull 14 = .ok (.ireturn, 1) := by decide +kernel
theorem dX4_canWeigh_0 : decode cX4_canWeigh 0 = .ok (.iconst 1, 1) := by decide +kernel
theorem dX4_canWeigh_1 : decode cX4_canWeigh 1 = .ok (.aload_n 0, 1) := by decide +kernel
theorem dX4_canWeigh_2 : decode cX4_canWeigh 2 = .ok (.getfield 46, 3) := by decide +kernel
theorem dX4_canWeigh_5 : decode cX4_canWeigh 5 = .ok (.ishl, 1) := by decide +kernel
theorem dX4_canWeigh_6 : decode cX4_canWeigh 6 = .ok (.iconst 1, 1) := by decide +kernel
theorem dX4_canWeigh_7 : decode cX4_canWeigh 7 = .ok (.isub, 1) := by decide +kernel
theorem dX4_canWeigh_8 : decode cX4_canWeigh 8 = .ok (.iconst (-1), 1) := by decide +kernel
theorem dX4_canWeigh_9 : decode cX4_canWeigh 9 = .ok (.ixor, 1) := by decide +kernel
theorem dX4_canWeigh_10 : decode cX4_canWeigh 10 = .ok (.istore_n 3, 1) := by decide +kernel
theorem dX4_canWeigh_11 : decode cX4_canWeigh 11 = .ok (.iload_n 1, 1) := by decide +kernel
theorem dX4_canWeigh_12 : decode cX4_canWeigh 12 = .ok (.iload_n 2, 1) := by decide +kernel
theorem dX4_canWeigh_13 : decode cX4_canWeigh 13 = .ok (.ior, 1) := by decide +kernel
theorem dX4_canWeigh_14 : decode cX4_canWeigh 14 = .ok (.iload_n 3, 1) := by decide +kernel
theorem dX4_canWeigh_15 : decode cX4_canWeigh 15 = .ok (.iand, 1) := by decide +kernel
theorem dX4_canWeigh_16 : decode cX4_canWeigh 16 = .ok (.ifCond .ne 19, 3) := by decide +kernel
theorem dX4_canWeigh_19 : decode cX4_canWeigh 19 = .ok (.iload_n 1, 1) := by decide +kernel
theorem dX4_canWeigh_20 : decode cX4_canWeigh 20 = .ok (.iload_n 2, 1) := by decide +kernel
theorem dX4_canWeigh_21 : decode cX4_canWeigh 21 = .ok (.iand, 1) := by decide +kernel
theorem dX4_canWeigh_22 : decode cX4_canWeigh 22 = .ok (.ifCond .ne 13, 3) := by decide +kernel
theorem dX4_canWeigh_25 : decode cX4_canWeigh 25 = .ok (.iload_n 1, 1) := by decide +kernel
theorem dX4_canWeigh_26 : decode cX4_canWeigh 26 = .ok (.iload_n 2, 1) := by decide +kernel
theorem dX4_canWeigh_27 : decode cX4_canWeigh 27 = .ok (.ior, 1) := by decide +kernel
theorem dX4_canWeigh_28 : decode cX4_canWeigh 28 = .ok (.ifCond .eq 7, 3) := by decide +kernel
theorem dX4_canWeigh_31 : decode cX4_canWeigh 31 = .ok (.iconst 1, 1) := by decide +kernel
theorem dX4_canWeigh_32 : decode cX4_canWeigh 32 = .ok (.goto 4, 3) := by decide +kernel
theorem dX4_canWeigh_35 : decode cX4_canWeigh 35 = .ok (.iconst 0, 1) := by decide +kernel
theorem dX4_canWeigh_36 : decode cX4_canWeigh 36 = .ok (.ireturn, 1) := by decide +kernel
set_option maxRecDepth 20000 in
theorem ggX4_tryArms_X7_isArm : GoodIn wsX4_tryArms wsX7_isArm := goodIn_r _ [5] (by decide +kernel) (by decide +kernel)
set_option maxRecDepth 20000 in
theorem gX4_tryArms_X7_isArm_n67 : GoodIn wsX4_tryArms (wsX7_isArm) := ggX4_tryArms_X7_isArm
theorem dX4_tryArms_0 : decode cX4_tryArms 0 = .ok (.iload_n 1, 1) := by decide +kernel
theorem dX4_tryArms_1 : decode cX4_tryArms 1 = .ok (.invokestatic 67, 3) := by decide +kernel
theorem dX4_tryArms_4 : decode cX4_tryArms 4 = .ok (.ifCond .eq 10, 3) := by decide +kernel
theorem dX4_tryArms_7 : decode cX4_tryArms 7 = .ok (.iload_n 2, 1) := by decide +kernel
theorem dX4_tryArms_8 : decode cX4_tryArms 8 = .ok (.invokestatic 67, 3) := by decide +kernel
theorem dX4_tryArms_11 : decode cX4_tryArms 11 = .ok (.ifCond .ne 5, 3) := by decide +kernel
theorem dX4_tryArms_14 : decode cX4_tryArms 14 = .ok (.iconst 0, 1) := by decide +kernel
theorem dX4_tryArms_15 : decode cX4_tryArms 15 = .ok (.ireturn, 1) := by decide +kernel
theorem dX4_tryArms_16 : decode cX4_tryArms 16 = .ok (.aload_n 0, 1) := by decide +kernel
theorem dX4_tryArms_17 : decode cX4_tryArms 17 = .ok (.iload_n 1, 1) := by decide +kernel
theorem dX4_tryArms_18 : decode cX4_tryArms 18 = .ok (.putfield 33, 3) := by decide +kernel
theorem dX4_tryArms_21 : decode cX4_tryArms 21 = .ok (.aload_n 0, 1) := by decide +kernel
theorem dX4_tryArms_22 : decode cX4_tryArms 22 = .ok (.iload_n 2, 1) := by decide +kernel
theorem dX4_tryArms_23 : decode cX4_tryArms 23 = .ok (.putfield 37, 3) := by decide +kernel
theorem dX4_tryArms_26 : decode cX4_tryArms 26 = .ok (.iconst 1, 1) := by decide +kernel
theorem dX4_tryArms_27 : decode cX4_tryArms 27 = .ok (.ireturn, 1) := by decide +kernel
set_option maxRecDepth 20000 in
theorem ggX4_tryWeighing_X4_canWeigh : GoodIn wsX4_tryWeighing wsX4_canWeigh := goodIn_r _ [11, 12, 62, 63, 64, 65, 66, 67, 68, 69, 70, 71] (by decide +kernel) (by decide +kernel)
set_option maxRecDepth 20000 in
theorem gX4_tryWeighing_X4_canWeigh : GoodIn wsX4_tryWeighing (wsV RX4 71 RX4 yX4_canWeigh wsX4_canWeigh) := goodIn_app (goodIn_of _ (by decide +kernel)) ggX4_tryWeighing_X4_canWeigh
set_option maxRecDepth 20000 in
theorem ggX4_tryWeighing_X4_isFull : GoodIn wsX4_tryWeighing wsX4_isFull := goodIn_r _ [16, 6, 62, 63, 64, 65, 66, 67, 68, 69, 70, 71] (by decide +kernel) (by decide +kernel)
set_option maxRecDepth 20000 in
theorem gX4_tryWeighing_X4_isFull : GoodIn wsX4_tryWeighing (wsV RX4 75 RX4 yX4_isFull wsX4_isFull) := goodIn_app (goodIn_of _ (by decide +kernel)) ggX4_tryWeighing_X4_isFull
set_option maxRecDepth 20000 in
theorem ggX4_tryWeighing_X1_set : GoodIn wsX4_tryWeighing wsX1_set := goodIn_r _ [21, 22, 23, 24, 25, 26, 27, 28, 29, 30, 31, 32, 33, 34, 72, 73, 74, 75, 76, 77] (by decide +kernel) (by decide +kernel)
set_option maxRecDepth 20000 in
theorem gX4_tryWeighing_X1_set : GoodIn wsX4_tryWeighing (wsV RX4 79 RX1 yX1_set wsX1_set) := goodIn_app (goodIn_of _ (by decide +kernel)) ggX4_tryWeighing_X1_set
set_option maxRecDepth 20000 in
theorem ggX4_tryWeighing_X1_outcomeInCase : GoodIn wsX4_tryWeighing wsX1_outcomeInCase := goodIn_r _ [38, 22, 23, 39, 40, 41, 20, 42, 24, 26, 25, 27, 72, 73, 74, 75, 76, 77] (by decide +kernel) (by decide +kernel)
set_option maxRecDepth 20000 in
theorem gX4_tryWeighing_X1_outcomeInCase : GoodIn wsX4_tryWeighing (wsV RX4 83 RX1 yX1_outcomeInCase wsX1_outcomeInCase) := goodIn_app (goodIn_of _ (by decide +kernel)) ggX4_tryWeighing_X1_outcomeInCase
set_option maxRecDepth 20000 in
theorem ggX4_tryWeighing_X3_keep : GoodIn wsX4_tryWeighing wsX3_keep := goodIn_r _ [47, 48, 49, 50, 51, 40, 41, 20, 42, 24, 26, 25, 27, 78, 72, 73, 74, 75, 76, 77] (by decide +kernel) (by decide +kernel)
set_option maxRecDepth 20000 in
theorem gX4_tryWeighing_X3_keep : GoodIn wsX4_tryWeighing (wsV RX4 86 RX3 yX3_keep wsX3_keep) := goodIn_app (goodIn_of _ (by decide +kernel)) ggX4_tryWeighing_X3_keep
set_option maxRecDepth 20000 in
theorem ggX4_tryWeighing_X4_write : GoodIn wsX4_tryWeighing wsX4_write := goodIn_r _ [55, 56, 62, 63, 64, 65, 66, 67, 68, 69, 70, 71] (by decide +kernel) (by decide +kernel)
set_option maxRecDepth 20000 in
theorem gX4_tryWeighing_X4_write : GoodIn wsX4_tryWeighing (wsV RX4 90 RX4 yX4_write wsX4_write) := goodIn_app (goodIn_of _ (by decide +kernel)) ggX4_tryWeighing_X4_write
set_option maxRecDepth 20000 in
theorem ggX4_tryWeighing_X3_count : GoodIn wsX4_tryWeighing wsX3_count := goodIn_r _ [60, 48, 61, 29, 30, 31, 32, 33, 34, 78] (by decide +kernel) (by decide +kernel)
set_option maxRecDepth 20000 in
theorem gX4_tryWeighing_X3_count : GoodIn wsX4_tryWeighing (wsV RX4 94 RX3 yX3_count wsX3_count) := goodIn_app (goodIn_of _ (by decide +kernel)) ggX4_tryWeighing_X3_count
