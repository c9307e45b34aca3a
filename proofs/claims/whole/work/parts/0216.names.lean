set_option maxRecDepth 20000 in
theorem gX8_forget_X8_refused : GoodIn wsX8_forget (wsV RX8 102 RX8 yX8_refused wsX8_refused) := goodIn_app (goodIn_of _ (by decide +kernel)) ggX8_forget_X8_refused
set_option maxRecDepth 20000 in
theorem ggX8_forget_X8_remember : GoodIn wsX8_forget wsX8_remember := goodIn_r _ [11, 12, 13, 1, 14, 15, 5, 16, 20, 21, 22, 23, 24, 25, 26, 27, 28, 29, 30, 31, 32, 33] (by decide +kernel) (by decide +kernel)
set_option maxRecDepth 20000 in
theorem gX8_forget_X8_remember : GoodIn wsX8_forget (wsV RX8 177 RX8 yX8_remember wsX8_remember) := goodIn_app (goodIn_of _ (by decide +kernel)) ggX8_forget_X8_remember
set_option maxRecDepth 20000 in
theorem ggX8_forget_X8_forgetOn : GoodIn wsX8_forget wsX8_forgetOn := goodIn_r _ [19] (by decide +kernel) (by decide +kernel)
set_option maxRecDepth 20000 in
theorem gX8_forget_X8_forgetOn : GoodIn wsX8_forget (va_wsS RX8 190 yX8_forgetOn wsX8_forgetOn) := goodIn_app (goodIn_of _ (by decide +kernel)) ggX8_forget_X8_forgetOn
theorem dX8_forget_0 : decode cX8_forget 0 = .ok (.aload_n 0, 1) := by decide +kernel
theorem dX8_forget_1 : decode cX8_forget 1 = .ok (.aload_n 0, 1) := by decide +kernel
theorem dX8_forget_2 : decode cX8_forget 2 = .ok (.getfield 13, 3) := by decide +kernel
theorem dX8_forget_5 : decode cX8_forget 5 = .ok (.iconst 4, 1) := by decide +kernel
theorem dX8_forget_6 : decode cX8_forget 6 = .ok (.iaload, 1) := by decide +kernel
theorem dX8_forget_7 : decode cX8_forget 7 = .ok (.ifCond .ne 7, 3) := by decide +kernel
theorem dX8_forget_10 : decode cX8_forget 10 = .ok (.iconst 1, 1) := by decide +kernel
theorem dX8_forget_11 : decode cX8_forget 11 = .ok (.goto 4, 3) := by decide +kernel
theorem dX8_forget_14 : decode cX8_forget 14 = .ok (.iconst 0, 1) := by decide +kernel
theorem dX8_forget_15 : decode cX8_forget 15 = .ok (.invokevirtual 102, 3) := by decide +kernel
theorem dX8_forget_18 : decode cX8_forget 18 = .ok (.ifCond .eq 5, 3) := by decide +kernel
theorem dX8_forget_21 : decode cX8_forget 21 = .ok (.iconst 0, 1) := by decide +kernel
theorem dX8_forget_22 : decode cX8_forget 22 = .ok (.ireturn, 1) := by decide +kernel
theorem dX8_forget_23 : decode cX8_forget 23 = .ok (.aload_n 0, 1) := by decide +kernel
theorem dX8_forget_24 : decode cX8_forget 24 = .ok (.invokevirtual 177, 3) := by decide +kernel
theorem dX8_forget_27 : decode cX8_forget 27 = .ok (.aload_n 0, 1) := by decide +kernel
theorem dX8_forget_28 : decode cX8_forget 28 = .ok (.getfield 13, 3) := by decide +kernel
theorem dX8_forget_31 : decode cX8_forget 31 = .ok (.invokestatic 190, 3) := by decide +kernel
theorem dX8_forget_34 : decode cX8_forget 34 = .ok (.ireturn, 1) := by decide +kernel
set_option maxRecDepth 20000 in
theorem ggX8_undo_X8_refused : GoodIn wsX8_undo wsX8_refused := goodIn_r _ [8, 9, 13, 14, 15, 16, 17, 18, 19, 20, 21, 22, 23, 24, 25, 26] (by decide +kernel) (by decide +kernel)
set_option maxRecDepth 20000 in
theorem gX8_undo_X8_refused : GoodIn wsX8_undo (wsV RX8 102 RX8 yX8_refused wsX8_refused) := goodIn_app (goodIn_of _ (by decide +kernel)) ggX8_undo_X8_refused
set_option maxRecDepth 20000 in
theorem ggX8_undo_X8_copyState : GoodIn wsX8_undo wsX8_copyState := goodIn_r _ [12] (by decide +kernel) (by decide +kernel)
set_option maxRecDepth 20000 in
theorem gX8_undo_X8_copyState : GoodIn wsX8_undo (va_wsS RX8 154 yX8_copyState wsX8_copyState) := goodIn_app (goodIn_of _ (by decide +kernel)) ggX8_undo_X8_copyState
theorem dX8_undo_0 : decode cX8_undo 0 = .ok (.aload_n 0, 1) := by decide +kernel
theorem dX8_undo_1 : decode cX8_undo 1 = .ok (.aload_n 0, 1) := by decide +kernel
theorem dX8_undo_2 : decode cX8_undo 2 = .ok (.getfield 158, 3) := by decide +kernel
theorem dX8_undo_5 : decode cX8_undo 5 = .ok (.ifCond .ne 7, 3) := by decide +kernel
theorem dX8_undo_8 : decode cX8_undo 8 = .ok (.iconst 1, 1) := by decide +kernel
theorem dX8_undo_9 : decode cX8_undo 9 = .ok (.goto 4, 3) := by decide +kernel
theorem dX8_undo_12 : decode cX8_undo 12 = .ok (.iconst 0, 1) := by decide +kernel
theorem dX8_undo_13 : decode cX8_undo 13 = .ok (.invokevirtual 102, 3) := by decide +kernel
theorem dX8_undo_16 : decode cX8_undo 16 = .ok (.ifCond .eq 5, 3) := by decide +kernel
theorem dX8_undo_19 : decode cX8_undo 19 = .ok (.iconst 0, 1) := by decide +kernel
theorem dX8_undo_20 : decode cX8_undo 20 = .ok (.ireturn, 1) := by decide +kernel
theorem dX8_undo_21 : decode cX8_undo 21 = .ok (.aload_n 0, 1) := by decide +kernel
theorem dX8_undo_22 : decode cX8_undo 22 = .ok (.dup, 1) := by decide +kernel
theorem dX8_undo_23 : decode cX8_undo 23 = .ok (.getfield 158, 3) := by decide +kernel
theorem dX8_undo_26 : decode cX8_undo 26 = .ok (.iconst 1, 1) := by decide +kernel
theorem dX8_undo_27 : decode cX8_undo 27 = .ok (.isub, 1) := by decide +kernel
theorem dX8_undo_28 : decode cX8_undo 28 = .ok (.putfield 158, 3) := by decide +kernel
theorem dX8_undo_31 : decode cX8_undo 31 = .ok (.aload_n 0, 1) := by decide +kernel
theorem dX8_undo_32 : decode cX8_undo 32 = .ok (.getfield 19, 3) := by decide +kernel
theorem dX8_undo_35 : decode cX8_undo 35 = .ok (.bipush 107, 2) := by decide +kernel
theorem dX8_undo_37 : decode cX8_undo 37 = .ok (.aload_n 0, 1) := by decide +kernel
theorem dX8_undo_38 : decode cX8_undo 38 = .ok (.getfield 158, 3) := by decide +kernel
theorem dX8_undo_41 : decode cX8_undo 41 = .ok (.imul, 1) := by decide +kernel
theorem dX8_undo_42 : decode cX8_undo 42 = .ok (.aload_n 0, 1) := by decide +kernel
theorem dX8_undo_43 : decode cX8_undo 43 = .ok (.getfield 13, 3) := by decide +kernel
theorem dX8_undo_46 : decode cX8_undo 46 = .ok (.iconst 0, 1) := by decide +kernel
theorem dX8_undo_47 : decode cX8_undo 47 = .ok (.invokestatic 154, 3) := by decide +kernel
theorem dX8_undo_50 : decode cX8_undo 50 = .ok (.aload_n 0, 1) := by decide +kernel
theorem dX8_undo_51 : decode cX8_undo 51 = .ok (.getfield 158, 3) := by decide +kernel
theorem dX8_undo_54 : decode cX8_undo 54 = .ok (.ireturn, 1) := by decide +kernel
set_option maxRecDepth 20000 in
theorem ggX8_leaves_X8_in : GoodIn wsX8_leaves wsX8_in := goodIn_r _ [7] (by decide +kernel) (by decide +kernel)
set_option maxRecDepth 20000 in
theorem gX8_leaves_X8_in : GoodIn wsX8_leaves (va_wsS RX8 43 yX8_in wsX8_in) := goodIn_app (goodIn_of _ (by decide +kernel)) ggX8_leaves_X8_in
set_option maxRecDepth 20000 in
theorem ggX8_leaves_X8_isWeighing : GoodIn wsX8_leaves wsX8_isWeighing := goodIn_r _ [10, 11, 12, 6, 13, 4, 5, 7] (by decide +kernel) (by decide +kernel)
set_option maxRecDepth 20000 in
theorem gX8_leaves_X8_isWeighing : GoodIn wsX8_leaves (va_wsS RX8 90 yX8_isWeighing wsX8_isWeighing) := goodIn_app (goodIn_of _ (by decide +kernel)) ggX8_leaves_X8_isWeighing
set_option maxRecDepth 20000 in
theorem ggX8_leaves_X8_refused : GoodIn wsX8_leaves wsX8_refused := goodIn_r _ [17, 18, 47, 48, 49, 50, 51, 52, 53, 54, 55, 56, 57, 58, 59, 60] (by decide +kernel) (by decide +kernel)
set_option maxRecDepth 20000 in
theorem gX8_leaves_X8_refused : GoodIn wsX8_leaves (wsV RX8 102 RX8 yX8_refused wsX8_refused) := goodIn_app (goodIn_of _ (by decide +kernel)) ggX8_leaves_X8_refused
set_option maxRecDepth 20000 in
theorem ggX8_leaves_X8_gather : GoodIn wsX8_leaves wsX8_gather := goodIn_r _ [22, 23, 24, 25, 26, 6, 27, 28, 29, 30, 31, 32, 33, 34, 35, 36, 37, 38, 39, 40, 41, 42, 47, 48, 49, 50, 51, 52, 53, 54, 55, 56, 57, 58, 59, 60] (by decide +kernel) (by decide +kernel)
set_option maxRecDepth 20000 in
theorem gX8_leaves_X8_gather : GoodIn wsX8_leaves (wsV RX8 193 RX8 yX8_gather wsX8_gather) := goodIn_app (goodIn_of _ (by decide +kernel)) ggX8_leaves_X8_gather
set_option maxRecDepth 20000 in
theorem ggX8_leaves_X8_worst : GoodIn wsX8_leaves wsX8_worst := goodIn_r _ [46, 3, 23, 24, 34, 35, 6, 36, 37, 38, 39, 40, 41, 42, 47, 48, 49, 50, 51, 52, 53, 54, 55, 56, 57, 58, 59, 60] (by decide +kernel) (by decide +kernel)
set_option maxRecDepth 20000 in
theorem gX8_leaves_X8_worst : GoodIn wsX8_leaves (wsV RX8 196 RX8 yX8_worst wsX8_worst) := goodIn_app (goodIn_of _ (by decide +kernel)) ggX8_leaves_X8_worst
theorem dX8_leaves_0 : decode cX8_leaves 0 = .ok (.aload_n 0, 1) := by decide +kernel
theorem dX8_leaves_1 : decode cX8_leaves 1 = .ok (.iload_n 3, 1) := by decide +kernel
theorem dX8_leaves_2 : decode cX8_leaves 2 = .ok (.i2l, 1) := by decide +kernel
theorem dX8_leaves_3 : decode cX8_leaves 3 = .ok (.lconst 0, 1) := by decide +kernel
theorem dX8_leaves_4 : decode cX8_leaves 4 = .ok (.ldc2_w 188, 3) := by decide +kernel
theorem dX8_leaves_7 : decode cX8_leaves 7 = .ok (.invokestatic 43, 3) := by decide +kernel
theorem dX8_leaves_10 : decode cX8_leaves 10 = .ok (.ifCond .ne 7, 3) := by decide +kernel
theorem dX8_leaves_13 : decode cX8_leaves 13 = .ok (.iconst 1, 1) := by decide +kernel
theorem dX8_leaves_14 : decode cX8_leaves 14 = .ok (.goto 20, 3) := by decide +kernel
theorem dX8_leaves_17 : decode cX8_leaves 17 = .ok (.aload_n 0, 1) := by decide +kernel
theorem dX8_leaves_18 : decode cX8_leaves 18 = .ok (.getfield 13, 3) := by decide +kernel
theorem dX8_leaves_21 : decode cX8_leaves 21 = .ok (.iload_n 1, 1) := by decide +kernel
theorem dX8_leaves_22 : decode cX8_leaves 22 = .ok (.iload_n 2, 1) := by decide +kernel
theorem dX8_leaves_23 : decode cX8_leaves 23 = .ok (.invokestatic 90, 3) := by decide +kernel
theorem dX8_leaves_26 : decode cX8_leaves 26 = .ok (.ifCond .eq 7, 3) := by decide +kernel
theorem dX8_leaves_29 : decode cX8_leaves 29 = .ok (.iconst 0, 1) := by decide +kernel
theorem dX8_leaves_30 : decode cX8_leaves 30 = .ok (.goto 4, 3) := by decide +kernel
theorem dX8_leaves_33 : decode cX8_leaves 33 = .ok (.iconst 2, 1) := by decide +kernel
theorem dX8_leaves_34 : decode cX8_leaves 34 = .ok (.invokevirtual 102, 3) := by decide +kernel
theorem dX8_leaves_37 : decode cX8_leaves 37 = .ok (.ifCond .eq 5, 3) := by decide +kernel
theorem dX8_leaves_40 : decode cX8_leaves 40 = .ok (.iconst 0, 1) := by decide +kernel
theorem dX8_leaves_41 : decode cX8_leaves 41 = .ok (.ireturn, 1) := by decide +kernel
theorem dX8_leaves_42 : decode cX8_leaves 42 = .ok (.aload_n 0, 1) := by decide +kernel
theorem dX8_leaves_43 : decode cX8_leaves 43 = .ok (.aload_n 0, 1) := by decide +kernel
theorem dX8_leaves_44 : decode cX8_leaves 44 = .ok (.getfield 13, 3) := by decide +kernel
theorem dX8_leaves_47 : decode cX8_leaves 47 = .ok (.invokevirtual 193, 3) := by decide +kernel
theorem dX8_leaves_50 : decode cX8_leaves 50 = .ok (.aload_n 0, 1) := by decide +kernel
theorem dX8_leaves_51 : decode cX8_leaves 51 = .ok (.iload_n 1, 1) := by decide +kernel
theorem dX8_leaves_52 : decode cX8_leaves 52 = .ok (.iload_n 2, 1) := by decide +kernel
theorem dX8_leaves_53 : decode cX8_leaves 53 = .ok (.aload_n 0, 1) := by decide +kernel
theorem dX8_leaves_54 : decode cX8_leaves 54 = .ok (.getfield 13, 3) := by decide +kernel
theorem dX8_leaves_57 : decode cX8_leaves 57 = .ok (.iconst 2, 1) := by decide +kernel
theorem dX8_leaves_58 : decode cX8_leaves 58 = .ok (.iaload, 1) := by decide +kernel
theorem dX8_leaves_59 : decode cX8_leaves 59 = .ok (.aload_n 0, 1) := by decide +kernel
theorem dX8_leaves_60 : decode cX8_leaves 60 = .ok (.getfield 13, 3) := by decide +kernel
theorem dX8_leaves_63 : decode cX8_leaves 63 = .ok (.iconst 3, 1) := by decide +kernel
theorem dX8_leaves_64 : decode cX8_leaves 64 = .ok (.iaload, 1) := by decide +kernel
theorem dX8_leaves_65 : decode cX8_leaves 65 = .ok (.invokevirtual 196, 3) := by decide +kernel
theorem dX8_leaves_68 : decode cX8_leaves 68 = .ok (.pop, 1) := by decide +kernel
theorem dX8_leaves_69 : decode cX8_leaves 69 = .ok (.aload_n 0, 1) := by decide +kernel
theorem dX8_leaves_70 : decode cX8_leaves 70 = .ok (.getfield 32, 3) := by decide +kernel
theorem dX8_leaves_73 : decode cX8_leaves 73 = .ok (.iload_n 3, 1) := by decide +kernel
theorem dX8_leaves_74 : decode cX8_leaves 74 = .ok (.iaload, 1) := by decide +kernel
theorem dX8_leaves_75 : decode cX8_leaves 75 = .ok (.ireturn, 1) := by decide +kernel
set_option maxRecDepth 20000 in
theorem ggX8_best_X8_in : GoodIn wsX8_best wsX8_in := goodIn_r _ [6] (by decide +kernel) (by decide +kernel)
set_option maxRecDepth 20000 in
theorem gX8_best_X8_in : GoodIn wsX8_best (va_wsS RX8 43 yX8_in wsX8_in) := goodIn_app (goodIn_of _ (by decide +kernel)) ggX8_best_X8_in
set_option maxRecDepth 20000 in
theorem ggX8_best_X8_refused : GoodIn wsX8_best wsX8_refused := goodIn_r _ [10, 11, 41, 42, 43, 44, 45, 46, 47, 48, 49, 50, 51, 52, 53, 54] (by decide +kernel) (by decide +kernel)
set_option maxRecDepth 20000 in
theorem gX8_best_X8_refused : GoodIn wsX8_best (wsV RX8 102 RX8 yX8_refused wsX8_refused) := goodIn_app (goodIn_of _ (by decide +kernel)) ggX8_best_X8_refused
set_option maxRecDepth 20000 in
theorem ggX8_best_X8_gather : GoodIn wsX8_best wsX8_gather := goodIn_r _ [15, 16, 17, 18, 19, 5, 20, 21, 22, 23, 24, 25, 26, 27, 28, 29, 30, 31, 32, 33, 34, 35, 41, 42, 43, 44, 45, 46, 47, 48, 49, 50, 51, 52, 53, 54] (by decide +kernel) (by decide +kernel)
set_option maxRecDepth 20000 in
theorem gX8_best_X8_gather : GoodIn wsX8_best (wsV RX8 193 RX8 yX8_gather wsX8_gather) := goodIn_app (goodIn_of _ (by decide +kernel)) ggX8_best_X8_gather
set_option maxRecDepth 20000 in
theorem ggX8_best_X8_bits : GoodIn wsX8_best wsX8_bits := goodIn_r _ [35] (by decide +kernel) (by decide +kernel)
set_option maxRecDepth 20000 in
theorem gX8_best_X8_bits : GoodIn wsX8_best (va_wsS RX8 57 yX8_bits wsX8_bits) := goodIn_app (goodIn_of _ (by decide +kernel)) ggX8_best_X8_bits
set_option maxRecDepth 20000 in
theorem ggX8_best_X8_worst : GoodIn wsX8_best wsX8_worst := goodIn_r _ [39, 40, 16, 17, 27, 28, 5, 29, 30, 31, 32, 33, 34, 35, 41, 42, 43, 44, 45, 46, 47, 48, 49, 50, 51, 52, 53, 54] (by decide +kernel) (by decide +kernel)
set_option maxRecDepth 20000 in
theorem gX8_best_X8_worst : GoodIn wsX8_best (wsV RX8 196 RX8 yX8_worst wsX8_worst) := goodIn_app (goodIn_of _ (by decide +kernel)) ggX8_best_X8_worst
theorem dX8_best_0 : decode cX8_best 0 = .ok (.aload_n 0, 1) := by decide +kernel
theorem dX8_best_1 : decode cX8_best 1 = .ok (.iload_n 1, 1) := by decide +kernel
theorem dX8_best_2 : decode cX8_best 2 = .ok (.i2l, 1) := by decide +kernel
theorem dX8_best_3 : decode cX8_best 3 = .ok (.lconst 1, 1) := by decide +kernel
theorem dX8_best_4 : decode cX8_best 4 = .ok (.ldc2_w 188, 3) := by decide +kernel
theorem dX8_best_7 : decode cX8_best 7 = .ok (.invokestatic 43, 3) := by decide +kernel
theorem dX8_best_10 : decode cX8_best 10 = .ok (.ifCond .eq 19, 3) := by decide +kernel
theorem dX8_best_13 : decode cX8_best 13 = .ok (.iload_n 2, 1) := by decide +kernel
theorem dX8_best_14 : decode cX8_best 14 = .ok (.i2l, 1) := by decide +kernel
theorem dX8_best_15 : decode cX8_best 15 = .ok (.lconst 0, 1) := by decide +kernel
theorem dX8_best_16 : decode cX8_best 16 = .ok (.ldc2_w 188, 3) := by decide +kernel
theorem dX8_best_19 : decode cX8_best 19 = .ok (.invokestatic 43, 3) := by decide +kernel
theorem dX8_best_22 : decode cX8_best 22 = .ok (.ifCond .eq 7, 3) := by decide +kernel
theorem dX8_best_25 : decode cX8_best 25 = .ok (.iconst 0, 1) := by decide +kernel
theorem dX8_best_26 : decode cX8_best 26 = .ok (.goto 4, 3) := by decide +kernel
theorem dX8_best_29 : decode cX8_best 29 = .ok (.iconst 1, 1) := by decide +kernel
theorem dX8_best_30 : decode cX8_best 30 = .ok (.invokevirtual 102, 3) := by decide +kernel
theorem dX8_best_33 : decode cX8_best 33 = .ok (.ifCond .eq 5, 3) := by decide +kernel
theorem dX8_best_36 : decode cX8_best 36 = .ok (.iconst 0, 1) := by decide +kernel
theorem dX8_best_37 : decode cX8_best 37 = .ok (.ireturn, 1) := by decide +kernel
theorem dX8_best_38 : decode cX8_best 38 = .ok (.aload_n 0, 1) := by decide +kernel
theorem dX8_best_39 : decode cX8_best 39 = .ok (.aload_n 0, 1) := by decide +kernel
theorem dX8_best_40 : decode cX8_best 40 = .ok (.getfield 13, 3) := by decide +kernel
theorem dX8_best_43 : decode cX8_best 43 = .ok (.invokevirtual 193, 3) := by decide +kernel
theorem dX8_best_46 : decode cX8_best 46 = .ok (.iconst 1, 1) := by decide +kernel
theorem dX8_best_47 : decode cX8_best 47 = .ok (.aload_n 0, 1) := by decide +kernel
theorem dX8_best_48 : decode cX8_best 48 = .ok (.getfield 13, 3) := by decide +kernel
theorem dX8_best_51 : decode cX8_best 51 = .ok (.iconst 0, 1) := by decide +kernel
theorem dX8_best_52 : decode cX8_best 52 = .ok (.iaload, 1) := by decide +kernel
theorem dX8_best_53 : decode cX8_best 53 = .ok (.ishl, 1) := by decide +kernel
theorem dX8_best_54 : decode cX8_best 54 = .ok (.istore_n 3, 1) := by decide +kernel
theorem dX8_best_55 : decode cX8_best 55 = .ok (.iconst (-1), 1) := by decide +kernel
theorem dX8_best_56 : decode cX8_best 56 = .ok (.istore 4, 2) := by decide +kernel
theorem dX8_best_58 : decode cX8_best 58 = .ok (.iconst (-1), 1) := by decide +kernel
theorem dX8_best_59 : decode cX8_best 59 = .ok (.istore 5, 2) := by decide +kernel
theorem dX8_best_61 : decode cX8_best 61 = .ok (.iconst (-1), 1) := by decide +kernel
theorem dX8_best_62 : decode cX8_best 62 = .ok (.istore 6, 2) := by decide +kernel
theorem dX8_best_64 : decode cX8_best 64 = .ok (.iconst 0, 1) := by decide +kernel
theorem dX8_best_65 : decode cX8_best 65 = .ok (.istore 7, 2) := by decide +kernel
theorem dX8_best_67 : decode cX8_best 67 = .ok (.iload 7, 2) := by decide +kernel
theorem dX8_best_69 : decode cX8_best 69 = .ok (.iload_n 3, 1) := by decide +kernel
theorem dX8_best_70 : decode cX8_best 70 = .ok (.if_icmp .ge 134, 3) := by decide +kernel
theorem dX8_best_73 : decode cX8_best 73 = .ok (.iconst 0, 1) := by decide +kernel
theorem dX8_best_74 : decode cX8_best 74 = .ok (.istore 8, 2) := by decide +kernel
theorem dX8_best_76 : decode cX8_best 76 = .ok (.iload 8, 2) := by decide +kernel
theorem dX8_best_78 : decode cX8_best 78 = .ok (.iload_n 3, 1) := by decide +kernel
theorem dX8_best_79 : decode cX8_best 79 = .ok (.if_icmp .ge 119, 3) := by decide +kernel
theorem dX8_best_82 : decode cX8_best 82 = .ok (.iload 7, 2) := by decide +kernel
theorem dX8_best_84 : decode cX8_best 84 = .ok (.invokestatic 57, 3) := by decide +kernel
theorem dX8_best_87 : decode cX8_best 87 = .ok (.iload_n 1, 1) := by decide +kernel
theorem dX8_best_88 : decode cX8_best 88 = .ok (.if_icmp .ne 110, 3) := by decide +kernel
theorem dX8_best_91 : decode cX8_best 91 = .ok (.iload 7, 2) := by decide +kernel
theorem dX8_best_93 : decode cX8_best 93 = .ok (.iload 8, 2) := by decide +kernel
theorem dX8_best_95 : decode cX8_best 95 = .ok (.iand, 1) := by decide +kernel
theorem dX8_best_96 : decode cX8_best 96 = .ok (.ifCond .ne 96, 3) := by decide +kernel
theorem dX8_best_99 : decode cX8_best 99 = .ok (.iload 8, 2) := by decide +kernel
theorem dX8_best_101 : decode cX8_best 101 = .ok (.invokestatic 57, 3) := by decide +kernel
theorem dX8_best_104 : decode cX8_best 104 = .ok (.iload_n 1, 1) := by decide +kernel
theorem dX8_best_105 : decode cX8_best 105 = .ok (.if_icmp .ne 87, 3) := by decide +kernel
theorem dX8_best_108 : decode cX8_best 108 = .ok (.aload_n 0, 1) := by decide +kernel
theorem dX8_best_109 : decode cX8_best 109 = .ok (.iload 7, 2) := by decide +kernel
theorem dX8_best_111 : decode cX8_best 111 = .ok (.iload 8, 2) := by decide +kernel
theorem dX8_best_113 : decode cX8_best 113 = .ok (.aload_n 0, 1) := by decide +kernel
theorem dX8_best_114 : decode cX8_best 114 = .ok (.getfield 13, 3) := by decide +kernel
theorem dX8_best_117 : decode cX8_best 117 = .ok (.iconst 2, 1) := by decide +kernel
theorem dX8_best_118 : decode cX8_best 118 = .ok (.iaload, 1) := by decide +kernel
theorem dX8_best_119 : decode cX8_best 119 = .ok (.aload_n 0, 1) := by decide +kernel
theorem dX8_best_120 : decode cX8_best 120 = .ok (.getfield 13, 3) := by decide +kernel
theorem dX8_best_123 : decode cX8_best 123 = .ok (.iconst 3, 1) := by decide +kernel
theorem dX8_best_124 : decode cX8_best 124 = .ok (.iaload, 1) := by decide +kernel
theorem dX8_best_125 : decode cX8_best 125 = .ok (.invokevirtual 196, 3) := by decide +kernel
theorem dX8_best_128 : decode cX8_best 128 = .ok (.istore 9, 2) := by decide +kernel
theorem dX8_best_130 : decode cX8_best 130 = .ok (.iload 6, 2) := by decide +kernel
theorem dX8_best_132 : decode cX8_best 132 = .ok (.iconst (-1), 1) := by decide +kernel
theorem dX8_best_133 : decode cX8_best 133 = .ok (.if_icmp .eq 10, 3) := by decide +kernel
theorem dX8_best_136 : decode cX8_best 136 = .ok (.iload 9, 2) := by decide +kernel
theorem dX8_best_138 : decode cX8_best 138 = .ok (.iload 6, 2) := by decide +kernel
theorem dX8_best_140 : decode cX8_best 140 = .ok (.if_icmp .ge 7, 3) := by decide +kernel
theorem dX8_best_143 : decode cX8_best 143 = .ok (.iconst 1, 1) := by decide +kernel
theorem dX8_best_144 : decode cX8_best 144 = .ok (.goto 4, 3) := by decide +kernel
theorem dX8_best_147 : decode cX8_best 147 = .ok (.iconst 0, 1) := by decide +kernel
theorem dX8_best_148 : decode cX8_best 148 = .ok (.istore 10, 2) := by decide +kernel
theorem dX8_best_150 : decode cX8_best 150 = .ok (.iload 10, 2) := by decide +kernel
theorem dX8_best_152 : decode cX8_best 152 = .ok (.ifCond .eq 8, 3) := by decide +kernel
theorem dX8_best_155 : decode cX8_best 155 = .ok (.iload 7, 2) := by decide +kernel
theorem dX8_best_157 : decode cX8_best 157 = .ok (.goto 5, 3) := by decide +kernel
theorem dX8_best_160 : decode cX8_best 160 = .ok (.iload 4, 2) := by decide +kernel
theorem dX8_best_162 : decode cX8_best 162 = .ok (.istore 4, 2) := by decide +kernel
theorem dX8_best_164 : decode cX8_best 164 = .ok (.iload 10, 2) := by decide +kernel
theorem dX8_best_166 : decode cX8_best 166 = .ok (.ifCond .eq 8, 3) := by decide +kernel
theorem dX8_best_169 : decode cX8_best 169 = .ok (.iload 8, 2) := by decide +kernel
theorem dX8_best_171 : decode cX8_best 171 = .ok (.goto 5, 3) := by decide +kernel
theorem dX8_best_174 : decode cX8_best 174 = .ok (.iload 5, 2) := by decide +kernel
theorem dX8_best_176 : decode cX8_best 176 = .ok (.istore 5, 2) := by decide +kernel
theorem dX8_best_178 : decode cX8_best 178 = .ok (.iload 10, 2) := by decide +kernel
theorem dX8_best_180 : decode cX8_best 180 = .ok (.ifCond .eq 8, 3) := by decide +kernel
theorem dX8_best_183 : decode cX8_best 183 = .ok (.iload 9, 2) := by decide +kernel
theorem dX8_best_185 : decode cX8_best 185 = .ok (.goto 5, 3) := by decide +kernel
theorem dX8_best_188 : decode cX8_best 188 = .ok (.iload 6, 2) := by decide +kernel
theorem dX8_best_190 : decode cX8_best 190 = .ok (.istore 6, 2) := by decide +kernel
theorem dX8_best_192 : decode cX8_best 192 = .ok (.iinc 8 1, 3) := by decide +kernel
theorem dX8_best_195 : decode cX8_best 195 = .ok (.goto (-119), 3) := by decide +kernel
theorem dX8_best_198 : decode cX8_best 198 = .ok (.iinc 7 1, 3) := by decide +kernel
theorem dX8_best_201 : decode cX8_best 201 = .ok (.goto (-134), 3) := by decide +kernel
theorem dX8_best_204 : decode cX8_best 204 = .ok (.iload_n 2, 1) := by decide +kernel
theorem dX8_best_205 : decode cX8_best 205 = .ok (.ifCond .ne 8, 3) := by decide +kernel
theorem dX8_best_208 : decode cX8_best 208 = .ok (.iload 4, 2) := by decide +kernel
theorem dX8_best_210 : decode cX8_best 210 = .ok (.goto 15, 3) := by decide +kernel
theorem dX8_best_213 : decode cX8_best 213 = .ok (.iload_n 2, 1) := by decide +kernel
theorem dX8_best_214 : decode cX8_best 214 = .ok (.iconst 1, 1) := by decide +kernel
theorem dX8_best_215 : decode cX8_best 215 = .ok (.if_icmp .ne 8, 3) := by decide +kernel
theorem dX8_best_218 : decode cX8_best 218 = .ok (.iload 5, 2) := by decide +kernel
theorem dX8_best_220 : decode cX8_best 220 = .ok (.goto 5, 3) := by decide +kernel
theorem dX8_best_223 : decode cX8_best 223 = .ok (.iload 6, 2) := by decide +kernel
theorem dX8_best_225 : decode cX8_best 225 = .ok (.ireturn, 1) := by decide +kernel
set_option maxRecDepth 20000 in
theorem ggX8_sharpest_X8_gather : GoodIn wsX8_sharpest wsX8_gather := goodIn_r _ [8, 9, 10, 11, 12, 7, 13, 14, 15, 16, 17, 18, 19, 20, 21, 22, 23, 24, 25, 26, 27, 28, 33, 34, 35, 36, 37, 38, 39, 40, 41, 42, 43, 44, 45, 46] (by decide +kernel) (by decide +kernel)
set_option maxRecDepth 20000 in
theorem gX8_sharpest_X8_gather : GoodIn wsX8_sharpest (wsV RX8 193 RX8 yX8_gather wsX8_gather) := goodIn_app (goodIn_of _ (by decide +kernel)) ggX8_sharpest_X8_gather
set_option maxRecDepth 20000 in
theorem ggX8_sharpest_X8_worst : GoodIn wsX8_sharpest wsX8_worst := goodIn_r _ [32, 3, 9, 10, 20, 21, 7, 22, 23, 24, 25, 26, 27, 28, 33, 34, 35, 36, 37, 38, 39, 40, 41, 42, 43, 44, 45, 46] (by decide +kernel) (by decide +kernel)
set_option maxRecDepth 20000 in
theorem gX8_sharpest_X8_worst : GoodIn wsX8_sharpest (wsV RX8 196 RX8 yX8_worst wsX8_worst) := goodIn_app (goodIn_of _ (by decide +kernel)) ggX8_sharpest_X8_worst
theorem dX8_sharpest_0 : decode cX8_sharpest 0 = .ok (.aload_n 0, 1) := by decide +kernel
theorem dX8_sharpest_1 : decode cX8_sharpest 1 = .ok (.iconst 0, 1) := by decide +kernel
theorem dX8_sharpest_2 : decode cX8_sharpest 2 = .ok (.putfield 39, 3) := by decide +kernel
theorem dX8_sharpest_5 : decode cX8_sharpest 5 = .ok (.aload_n 0, 1) := by decide +kernel
theorem dX8_sharpest_6 : decode cX8_sharpest 6 = .ok (.aload_n 0, 1) := by decide +kernel
theorem dX8_sharpest_7 : decode cX8_sharpest 7 = .ok (.getfield 13, 3) := by decide +kernel
theorem dX8_sharpest_10 : decode cX8_sharpest 10 = .ok (.invokevirtual 193, 3) := by decide +kernel
theorem dX8_sharpest_13 : decode cX8_sharpest 13 = .ok (.iconst (-1), 1) := by decide +kernel
theorem dX8_sharpest_14 : decode cX8_sharpest 14 = .ok (.istore_n 1, 1) := by decide +kernel
theorem dX8_sharpest_15 : decode cX8_sharpest 15 = .ok (.iconst 0, 1) := by decide +kernel
theorem dX8_sharpest_16 : decode cX8_sharpest 16 = .ok (.istore_n 2, 1) := by decide +kernel
theorem dX8_sharpest_17 : decode cX8_sharpest 17 = .ok (.iconst 0, 1) := by decide +kernel
theorem dX8_sharpest_18 : decode cX8_sharpest 18 = .ok (.istore_n 3, 1) := by decide +kernel
theorem dX8_sharpest_19 : decode cX8_sharpest 19 = .ok (.iload_n 3, 1) := by decide +kernel
theorem dX8_sharpest_20 : decode cX8_sharpest 20 = .ok (.aload_n 0, 1) := by decide +kernel
theorem dX8_sharpest_21 : decode cX8_sharpest 21 = .ok (.getfield 13, 3) := by decide +kernel
theorem dX8_sharpest_24 : decode cX8_sharpest 24 = .ok (.iconst 0, 1) := by decide +kernel
theorem dX8_sharpest_25 : decode cX8_sharpest 25 = .ok (.iaload, 1) := by decide +kernel
theorem dX8_sharpest_26 : decode cX8_sharpest 26 = .ok (.if_icmp .ge 158, 3) := by decide +kernel
theorem dX8_sharpest_29 : decode cX8_sharpest 29 = .ok (.iconst 0, 1) := by decide +kernel
theorem dX8_sharpest_30 : decode cX8_sharpest 30 = .ok (.istore 4, 2) := by decide +kernel
theorem dX8_sharpest_32 : decode cX8_sharpest 32 = .ok (.iload 4, 2) := by decide +kernel
theorem dX8_sharpest_34 : decode cX8_sharpest 34 = .ok (.bipush 12, 2) := by decide +kernel
theorem dX8_sharpest_36 : decode cX8_sharpest 36 = .ok (.if_icmp .gt 142, 3) := by decide +kernel
theorem dX8_sharpest_39 : decode cX8_sharpest 39 = .ok (.iload 4, 2) := by decide +kernel
theorem dX8_sharpest_41 : decode cX8_sharpest 41 = .ok (.bipush 12, 2) := by decide +kernel
theorem dX8_sharpest_43 : decode cX8_sharpest 43 = .ok (.if_icmp .eq 20, 3) := by decide +kernel
theorem dX8_sharpest_46 : decode cX8_sharpest 46 = .ok (.iload 4, 2) := by decide +kernel
theorem dX8_sharpest_48 : decode cX8_sharpest 48 = .ok (.aload_n 0, 1) := by decide +kernel
theorem dX8_sharpest_49 : decode cX8_sharpest 49 = .ok (.getfield 13, 3) := by decide +kernel
theorem dX8_sharpest_52 : decode cX8_sharpest 52 = .ok (.iconst 0, 1) := by decide +kernel
theorem dX8_sharpest_53 : decode cX8_sharpest 53 = .ok (.iaload, 1) := by decide +kernel
theorem dX8_sharpest_54 : decode cX8_sharpest 54 = .ok (.if_icmp .ge 118, 3) := by decide +kernel
theorem dX8_sharpest_57 : decode cX8_sharpest 57 = .ok (.iload 4, 2) := by decide +kernel
theorem dX8_sharpest_59 : decode cX8_sharpest 59 = .ok (.iload_n 3, 1) := by decide +kernel
theorem dX8_sharpest_60 : decode cX8_sharpest 60 = .ok (.if_icmp .eq 112, 3) := by decide +kernel
theorem dX8_sharpest_63 : decode cX8_sharpest 63 = .ok (.aload_n 0, 1) := by decide +kernel
theorem dX8_sharpest_64 : decode cX8_sharpest 64 = .ok (.iconst 1, 1) := by decide +kernel
theorem dX8_sharpest_65 : decode cX8_sharpest 65 = .ok (.iload_n 3, 1) := by decide +kernel
theorem dX8_sharpest_66 : decode cX8_sharpest 66 = .ok (.ishl, 1) := by decide +kernel
theorem dX8_sharpest_67 : decode cX8_sharpest 67 = .ok (.iload 4, 2) := by decide +kernel
theorem dX8_sharpest_69 : decode cX8_sharpest 69 = .ok (.bipush 12, 2) := by decide +kernel
theorem dX8_sharpest_71 : decode cX8_sharpest 71 = .ok (.if_icmp .ne 7, 3) := by decide +kernel
theorem dX8_sharpest_74 : decode cX8_sharpest 74 = .ok (.iconst 0, 1) := by decide +kernel
theorem dX8_sharpest_75 : decode cX8_sharpest 75 = .ok (.goto 7, 3) := by decide +kernel
theorem dX8_sharpest_78 : decode cX8_sharpest 78 = .ok (.iconst 1, 1) := by decide +kernel
theorem dX8_sharpest_79 : decode cX8_sharpest 79 = .ok (.iload 4, 2) := by decide +kernel
theorem dX8_sharpest_81 : decode cX8_sharpest 81 = .ok (.ishl, 1) := by decide +kernel
theorem dX8_sharpest_82 : decode cX8_sharpest 82 = .ok (.aload_n 0, 1) := by decide +kernel
theorem dX8_sharpest_83 : decode cX8_sharpest 83 = .ok (.getfield 13, 3) := by decide +kernel
theorem dX8_sharpest_86 : decode cX8_sharpest 86 = .ok (.iconst 2, 1) := by decide +kernel
theorem dX8_sharpest_87 : decode cX8_sharpest 87 = .ok (.iaload, 1) := by decide +kernel
theorem dX8_sharpest_88 : decode cX8_sharpest 88 = .ok (.aload_n 0, 1) := by decide +kernel
theorem dX8_sharpest_89 : decode cX8_sharpest 89 = .ok (.getfield 13, 3) := by decide +kernel
theorem dX8_sharpest_92 : decode cX8_sharpest 92 = .ok (.iconst 3, 1) := by decide +kernel
theorem dX8_sharpest_93 : decode cX8_sharpest 93 = .ok (.iaload, 1) := by decide +kernel
theorem dX8_sharpest_94 : decode cX8_sharpest 94 = .ok (.invokevirtual 196, 3) := by decide +kernel
theorem dX8_sharpest_97 : decode cX8_sharpest 97 = .ok (.pop, 1) := by decide +kernel
theorem dX8_sharpest_98 : decode cX8_sharpest 98 = .ok (.aload_n 0, 1) := by decide +kernel
theorem dX8_sharpest_99 : decode cX8_sharpest 99 = .ok (.getfield 32, 3) := by decide +kernel
theorem dX8_sharpest_102 : decode cX8_sharpest 102 = .ok (.iconst 0, 1) := by decide +kernel
theorem dX8_sharpest_103 : decode cX8_sharpest 103 = .ok (.iaload, 1) := by decide +kernel
theorem dX8_sharpest_104 : decode cX8_sharpest 104 = .ok (.aload_n 0, 1) := by decide +kernel
theorem dX8_sharpest_105 : decode cX8_sharpest 105 = .ok (.getfield 32, 3) := by decide +kernel
theorem dX8_sharpest_108 : decode cX8_sharpest 108 = .ok (.iconst 1, 1) := by decide +kernel
theorem dX8_sharpest_109 : decode cX8_sharpest 109 = .ok (.iaload, 1) := by decide +kernel
theorem dX8_sharpest_110 : decode cX8_sharpest 110 = .ok (.imul, 1) := by decide +kernel
theorem dX8_sharpest_111 : decode cX8_sharpest 111 = .ok (.aload_n 0, 1) := by decide +kernel
theorem dX8_sharpest_112 : decode cX8_sharpest 112 = .ok (.getfield 32, 3) := by decide +kernel
theorem dX8_sharpest_115 : decode cX8_sharpest 115 = .ok (.iconst 0, 1) := by decide +kernel
theorem dX8_sharpest_116 : decode cX8_sharpest 116 = .ok (.iaload, 1) := by decide +kernel
theorem dX8_sharpest_117 : decode cX8_sharpest 117 = .ok (.aload_n 0, 1) := by decide +kernel
theorem dX8_sharpest_118 : decode cX8_sharpest 118 = .ok (.getfield 32, 3) := by decide +kernel
theorem dX8_sharpest_121 : decode cX8_sharpest 121 = .ok (.iconst 2, 1) := by decide +kernel
theorem dX8_sharpest_122 : decode cX8_sharpest 122 = .ok (.iaload, 1) := by decide +kernel
theorem dX8_sharpest_123 : decode cX8_sharpest 123 = .ok (.imul, 1) := by decide +kernel
theorem dX8_sharpest_124 : decode cX8_sharpest 124 = .ok (.iadd, 1) := by decide +kernel
theorem dX8_sharpest_125 : decode cX8_sharpest 125 = .ok (.aload_n 0, 1) := by decide +kernel
theorem dX8_sharpest_126 : decode cX8_sharpest 126 = .ok (.getfield 32, 3) := by decide +kernel
theorem dX8_sharpest_129 : decode cX8_sharpest 129 = .ok (.iconst 1, 1) := by decide +kernel
theorem dX8_sharpest_130 : decode cX8_sharpest 130 = .ok (.iaload, 1) := by decide +kernel
theorem dX8_sharpest_131 : decode cX8_sharpest 131 = .ok (.aload_n 0, 1) := by decide +kernel
theorem dX8_sharpest_132 : decode cX8_sharpest 132 = .ok (.getfield 32, 3) := by decide +kernel
theorem dX8_sharpest_135 : decode cX8_sharpest 135 = .ok (.iconst 2, 1) := by decide +kernel
theorem dX8_sharpest_136 : decode cX8_sharpest 136 = .ok (.iaload, 1) := by decide +kernel
theorem dX8_sharpest_137 : decode cX8_sharpest 137 = .ok (.imul, 1) := by decide +kernel
theorem dX8_sharpest_138 : decode cX8_sharpest 138 = .ok (.iadd, 1) := by decide +kernel
theorem dX8_sharpest_139 : decode cX8_sharpest 139 = .ok (.istore 5, 2) := by decide +kernel
theorem dX8_sharpest_141 : decode cX8_sharpest 141 = .ok (.iload 5, 2) := by decide +kernel
theorem dX8_sharpest_143 : decode cX8_sharpest 143 = .ok (.iload_n 2, 1) := by decide +kernel
theorem dX8_sharpest_144 : decode cX8_sharpest 144 = .ok (.if_icmp .le 13, 3) := by decide +kernel
theorem dX8_sharpest_147 : decode cX8_sharpest 147 = .ok (.bipush 100, 2) := by decide +kernel
theorem dX8_sharpest_149 : decode cX8_sharpest 149 = .ok (.iload_n 3, 1) := by decide +kernel
theorem dX8_sharpest_150 : decode cX8_sharpest 150 = .ok (.imul, 1) := by decide +kernel
theorem dX8_sharpest_151 : decode cX8_sharpest 151 = .ok (.iload 4, 2) := by decide +kernel
theorem dX8_sharpest_153 : decode cX8_sharpest 153 = .ok (.iadd, 1) := by decide +kernel
theorem dX8_sharpest_154 : decode cX8_sharpest 154 = .ok (.goto 4, 3) := by decide +kernel
theorem dX8_sharpest_157 : decode cX8_sharpest 157 = .ok (.iload_n 1, 1) := by decide +kernel
theorem dX8_sharpest_158 : decode cX8_sharpest 158 = .ok (.istore_n 1, 1) := by decide +kernel
theorem dX8_sharpest_159 : decode cX8_sharpest 159 = .ok (.iload 5, 2) := by decide +kernel
theorem dX8_sharpest_161 : decode cX8_sharpest 161 = .ok (.iload_n 2, 1) := by decide +kernel
theorem dX8_sharpest_162 : decode cX8_sharpest 162 = .ok (.if_icmp .le 8, 3) := by decide +kernel
theorem dX8_sharpest_165 : decode cX8_sharpest 165 = .ok (.iload 5, 2) := by decide +kernel
theorem dX8_sharpest_167 : decode cX8_sharpest 167 = .ok (.goto 4, 3) := by decide +kernel
theorem dX8_sharpest_170 : decode cX8_sharpest 170 = .ok (.iload_n 2, 1) := by decide +kernel
theorem dX8_sharpest_171 : decode cX8_sharpest 171 = .ok (.istore_n 2, 1) := by decide +kernel
theorem dX8_sharpest_172 : decode cX8_sharpest 172 = .ok (.iinc 4 1, 3) := by decide +kernel
theorem dX8_sharpest_175 : decode cX8_sharpest 175 = .ok (.goto (-143), 3) := by decide +kernel
theorem dX8_sharpest_178 : decode cX8_sharpest 178 = .ok (.iinc 3 1, 3) := by decide +kernel
theorem dX8_sharpest_181 : decode cX8_sharpest 181 = .ok (.goto (-162), 3) := by decide +kernel
theorem dX8_sharpest_184 : decode cX8_sharpest 184 = .ok (.iload_n 1, 1) := by decide +kernel
theorem dX8_sharpest_185 : decode cX8_sharpest 185 = .ok (.ireturn, 1) := by decide +kernel
set_option maxRecDepth 20000 in
theorem ggX8_needs_X8_needsOf : GoodIn wsX8_needs wsX8_needsOf := goodIn_r _ [6, 7, 8, 5, 9, 10, 11, 12, 13, 14, 15, 16, 17, 18, 19, 20, 21, 22, 23, 24, 25, 26, 27, 28, 29, 30] (by decide +kernel) (by decide +kernel)
set_option maxRecDepth 20000 in
theorem gX8_needs_X8_needsOf : GoodIn wsX8_needs (va_wsS RX8 199 yX8_needsOf wsX8_needsOf) := goodIn_app (goodIn_of _ (by decide +kernel)) ggX8_needs_X8_needsOf
theorem dX8_needs_0 : decode cX8_needs 0 = .ok (.aload_n 0, 1) := by decide +kernel
theorem dX8_needs_1 : decode cX8_needs 1 = .ok (.iconst 0, 1) := by decide +kernel
theorem dX8_needs_2 : decode cX8_needs 2 = .ok (.putfield 39, 3) := by decide +kernel
theorem dX8_needs_5 : decode cX8_needs 5 = .ok (.aload_n 0, 1) := by decide +kernel
theorem dX8_needs_6 : decode cX8_needs 6 = .ok (.getfield 13, 3) := by decide +kernel
theorem dX8_needs_9 : decode cX8_needs 9 = .ok (.invokestatic 199, 3) := by decide +kernel
theorem dX8_needs_12 : decode cX8_needs 12 = .ok (.ireturn, 1) := by decide +kernel
set_option maxRecDepth 20000 in
theorem ggX8_bestArms_X8_isWeighing : GoodIn wsX8_bestArms wsX8_isWeighing := goodIn_r _ [5, 6, 7, 4, 8, 9, 10, 11] (by decide +kernel) (by decide +kernel)
set_option maxRecDepth 20000 in
theorem gX8_bestArms_X8_isWeighing : GoodIn wsX8_bestArms (va_wsS RX8 90 yX8_isWeighing wsX8_isWeighing) := goodIn_app (goodIn_of _ (by decide +kernel)) ggX8_bestArms_X8_isWeighing
