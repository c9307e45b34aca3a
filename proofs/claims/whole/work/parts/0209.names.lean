set_option maxRecDepth 20000 in
theorem gX7_weigh_X7_refuseBadSets : GoodIn wsX7_weigh (wsV RX7 221 RX7 yX7_refuseBadSets wsX7_refuseBadSets) := goodIn_app (goodIn_of _ (by decide +kernel)) ggX7_weigh_X7_refuseBadSets
set_option maxRecDepth 20000 in
theorem ggX7_weigh_X4_isFull : GoodIn wsX7_weigh wsX4_isFull := goodIn_r _ [21, 22, 122, 123, 124, 125, 126, 127, 128, 129, 130, 131] (by decide +kernel) (by decide +kernel)
set_option maxRecDepth 20000 in
theorem gX7_weigh_X4_isFull : GoodIn wsX7_weigh (wsV RX7 224 RX4 yX4_isFull wsX4_isFull) := goodIn_app (goodIn_of _ (by decide +kernel)) ggX7_weigh_X4_isFull
set_option maxRecDepth 20000 in
theorem ggX7_weigh_X0_remember : GoodIn wsX7_weigh wsX0_remember := goodIn_r _ [27, 28, 29, 30, 31, 32, 33, 34, 35, 36, 26, 37, 38, 39, 40, 41, 15, 42, 17, 43, 44, 45, 46, 47, 22, 48, 49, 50, 51, 52, 53, 54, 55, 132, 133, 134, 122, 123, 124, 125, 126, 127, 128, 129, 130, 131, 135] (by decide +kernel) (by decide +kernel)
set_option maxRecDepth 20000 in
theorem gX7_weigh_X0_remember : GoodIn wsX7_weigh (wsV RX7 212 RX0 yX0_remember wsX0_remember) := goodIn_app (goodIn_of _ (by decide +kernel)) ggX7_weigh_X0_remember
set_option maxRecDepth 20000 in
theorem ggX7_weigh_X4_tryWeighing : GoodIn wsX7_weigh wsX4_tryWeighing := goodIn_r _ [59, 60, 44, 45, 43, 49, 22, 61, 13, 14, 15, 16, 17, 62, 19, 20, 21, 63, 64, 65, 66, 67, 68, 69, 70, 71, 72, 73, 74, 75, 76, 77, 78, 79, 80, 81, 82, 83, 84, 85, 86, 87, 88, 89, 90, 91, 53, 92, 55, 93, 94, 95, 96, 97, 98, 99, 48, 100, 101, 102, 103, 104, 122, 123, 124, 125, 126, 127, 128, 129, 130, 131, 136, 137, 138, 139, 140, 141, 135] (by decide +kernel) (by decide +kernel)
set_option maxRecDepth 20000 in
theorem gX7_weigh_X4_tryWeighing : GoodIn wsX7_weigh (wsV RX7 142 RX4 yX4_tryWeighing wsX4_tryWeighing) := goodIn_app (goodIn_of _ (by decide +kernel)) ggX7_weigh_X4_tryWeighing
set_option maxRecDepth 20000 in
theorem ggX7_weigh_X4_lastOutcome : GoodIn wsX7_weigh wsX4_lastOutcome := goodIn_r _ [108, 22, 109, 110, 111, 15, 112, 48, 122, 123, 124, 125, 126, 127, 128, 129, 130, 131] (by decide +kernel) (by decide +kernel)
set_option maxRecDepth 20000 in
theorem gX7_weigh_X4_lastOutcome : GoodIn wsX7_weigh (wsV RX7 229 RX4 yX4_lastOutcome wsX4_lastOutcome) := goodIn_app (goodIn_of _ (by decide +kernel)) ggX7_weigh_X4_lastOutcome
theorem dX7_weigh_0 : decode cX7_weigh 0 = .ok (.aload_n 0, 1) := by decide +kernel
theorem dX7_weigh_1 : decode cX7_weigh 1 = .ok (.iload_n 1, 1) := by decide +kernel
theorem dX7_weigh_2 : decode cX7_weigh 2 = .ok (.iload_n 2, 1) := by decide +kernel
theorem dX7_weigh_3 : decode cX7_weigh 3 = .ok (.invokevirtual 221, 3) := by decide +kernel
theorem dX7_weigh_6 : decode cX7_weigh 6 = .ok (.aload_n 0, 1) := by decide +kernel
theorem dX7_weigh_7 : decode cX7_weigh 7 = .ok (.getfield 19, 3) := by decide +kernel
theorem dX7_weigh_10 : decode cX7_weigh 10 = .ok (.invokevirtual 224, 3) := by decide +kernel
theorem dX7_weigh_13 : decode cX7_weigh 13 = .ok (.ifCond .eq 13, 3) := by decide +kernel
theorem dX7_weigh_16 : decode cX7_weigh 16 = .ok (.new 78, 3) := by decide +kernel
theorem dX7_weigh_19 : decode cX7_weigh 19 = .ok (.dup, 1) := by decide +kernel
theorem dX7_weigh_20 : decode cX7_weigh 20 = .ok (.ldc 227, 2) := by decide +kernel
theorem dX7_weigh_22 : decode cX7_weigh 22 = .ok (.invokespecial 82, 3) := by decide +kernel
theorem dX7_weigh_25 : decode cX7_weigh 25 = .ok (.athrow, 1) := by decide +kernel
theorem dX7_weigh_26 : decode cX7_weigh 26 = .ok (.aload_n 0, 1) := by decide +kernel
theorem dX7_weigh_27 : decode cX7_weigh 27 = .ok (.getfield 29, 3) := by decide +kernel
theorem dX7_weigh_30 : decode cX7_weigh 30 = .ok (.aload_n 0, 1) := by decide +kernel
theorem dX7_weigh_31 : decode cX7_weigh 31 = .ok (.getfield 19, 3) := by decide +kernel
theorem dX7_weigh_34 : decode cX7_weigh 34 = .ok (.invokevirtual 212, 3) := by decide +kernel
theorem dX7_weigh_37 : decode cX7_weigh 37 = .ok (.aload_n 0, 1) := by decide +kernel
theorem dX7_weigh_38 : decode cX7_weigh 38 = .ok (.getfield 19, 3) := by decide +kernel
theorem dX7_weigh_41 : decode cX7_weigh 41 = .ok (.iload_n 1, 1) := by decide +kernel
theorem dX7_weigh_42 : decode cX7_weigh 42 = .ok (.iload_n 2, 1) := by decide +kernel
theorem dX7_weigh_43 : decode cX7_weigh 43 = .ok (.invokevirtual 142, 3) := by decide +kernel
theorem dX7_weigh_46 : decode cX7_weigh 46 = .ok (.pop, 1) := by decide +kernel
theorem dX7_weigh_47 : decode cX7_weigh 47 = .ok (.aload_n 0, 1) := by decide +kernel
theorem dX7_weigh_48 : decode cX7_weigh 48 = .ok (.getfield 19, 3) := by decide +kernel
theorem dX7_weigh_51 : decode cX7_weigh 51 = .ok (.invokevirtual 229, 3) := by decide +kernel
theorem dX7_weigh_54 : decode cX7_weigh 54 = .ok (.ireturn, 1) := by decide +kernel
set_option maxRecDepth 20000 in
theorem ggX7_accuse_X4_hasCoin : GoodIn wsX7_accuse wsX4_hasCoin := goodIn_r _ [9, 10, 62, 63, 64, 65, 66, 67, 68, 69, 70, 71] (by decide +kernel) (by decide +kernel)
set_option maxRecDepth 20000 in
theorem gX7_accuse_X4_hasCoin : GoodIn wsX7_accuse (wsV RX7 178 RX4 yX4_hasCoin wsX4_hasCoin) := goodIn_app (goodIn_of _ (by decide +kernel)) ggX7_accuse_X4_hasCoin
set_option maxRecDepth 20000 in
theorem ggX7_accuse_X0_remember : GoodIn wsX7_accuse wsX0_remember := goodIn_r _ [15, 16, 17, 18, 19, 20, 21, 22, 23, 24, 14, 25, 26, 27, 28, 29, 8, 30, 10, 31, 32, 33, 34, 35, 36, 37, 38, 39, 40, 41, 42, 43, 44, 72, 73, 74, 62, 63, 64, 65, 66, 67, 68, 69, 70, 71, 75] (by decide +kernel) (by decide +kernel)
set_option maxRecDepth 20000 in
theorem gX7_accuse_X0_remember : GoodIn wsX7_accuse (wsV RX7 212 RX0 yX0_remember wsX0_remember) := goodIn_app (goodIn_of _ (by decide +kernel)) ggX7_accuse_X0_remember
set_option maxRecDepth 20000 in
theorem ggX7_accuse_X4_blameCoin : GoodIn wsX7_accuse wsX4_blameCoin := goodIn_r _ [48, 31, 49, 50, 51, 8, 52, 34, 35, 62, 63, 64, 65, 66, 67, 68, 69, 70, 71] (by decide +kernel) (by decide +kernel)
set_option maxRecDepth 20000 in
theorem gX7_accuse_X4_blameCoin : GoodIn wsX7_accuse (wsV RX7 232 RX4 yX4_blameCoin wsX4_blameCoin) := goodIn_app (goodIn_of _ (by decide +kernel)) ggX7_accuse_X4_blameCoin
theorem dX7_accuse_0 : decode cX7_accuse 0 = .ok (.aload_n 0, 1) := by decide +kernel
theorem dX7_accuse_1 : decode cX7_accuse 1 = .ok (.getfield 19, 3) := by decide +kernel
theorem dX7_accuse_4 : decode cX7_accuse 4 = .ok (.iload_n 1, 1) := by decide +kernel
theorem dX7_accuse_5 : decode cX7_accuse 5 = .ok (.invokevirtual 178, 3) := by decide +kernel
theorem dX7_accuse_8 : decode cX7_accuse 8 = .ok (.ifCond .ne 13, 3) := by decide +kernel
theorem dX7_accuse_11 : decode cX7_accuse 11 = .ok (.new 182, 3) := by decide +kernel
theorem dX7_accuse_14 : decode cX7_accuse 14 = .ok (.dup, 1) := by decide +kernel
theorem dX7_accuse_15 : decode cX7_accuse 15 = .ok (.ldc 184, 2) := by decide +kernel
theorem dX7_accuse_17 : decode cX7_accuse 17 = .ok (.invokespecial 186, 3) := by decide +kernel
theorem dX7_accuse_20 : decode cX7_accuse 20 = .ok (.athrow, 1) := by decide +kernel
theorem dX7_accuse_21 : decode cX7_accuse 21 = .ok (.aload_n 0, 1) := by decide +kernel
theorem dX7_accuse_22 : decode cX7_accuse 22 = .ok (.getfield 29, 3) := by decide +kernel
theorem dX7_accuse_25 : decode cX7_accuse 25 = .ok (.aload_n 0, 1) := by decide +kernel
theorem dX7_accuse_26 : decode cX7_accuse 26 = .ok (.getfield 19, 3) := by decide +kernel
theorem dX7_accuse_29 : decode cX7_accuse 29 = .ok (.invokevirtual 212, 3) := by decide +kernel
theorem dX7_accuse_32 : decode cX7_accuse 32 = .ok (.aload_n 0, 1) := by decide +kernel
theorem dX7_accuse_33 : decode cX7_accuse 33 = .ok (.getfield 19, 3) := by decide +kernel
theorem dX7_accuse_36 : decode cX7_accuse 36 = .ok (.iload_n 1, 1) := by decide +kernel
theorem dX7_accuse_37 : decode cX7_accuse 37 = .ok (.iload_n 2, 1) := by decide +kernel
theorem dX7_accuse_38 : decode cX7_accuse 38 = .ok (.invokevirtual 232, 3) := by decide +kernel
theorem dX7_accuse_41 : decode cX7_accuse 41 = .ok (.ifCond .eq 7, 3) := by decide +kernel
theorem dX7_accuse_44 : decode cX7_accuse 44 = .ok (.iconst 1, 1) := by decide +kernel
theorem dX7_accuse_45 : decode cX7_accuse 45 = .ok (.goto 4, 3) := by decide +kernel
theorem dX7_accuse_48 : decode cX7_accuse 48 = .ok (.iconst 0, 1) := by decide +kernel
theorem dX7_accuse_49 : decode cX7_accuse 49 = .ok (.ireturn, 1) := by decide +kernel
set_option maxRecDepth 20000 in
theorem ggX7_accusePan_X7_isPan : GoodIn wsX7_accusePan wsX7_isPan := goodIn_r _ [8] (by decide +kernel) (by decide +kernel)
set_option maxRecDepth 20000 in
theorem gX7_accusePan_X7_isPan : GoodIn wsX7_accusePan (va_wsS RX7 236 yX7_isPan wsX7_isPan) := goodIn_app (goodIn_of _ (by decide +kernel)) ggX7_accusePan_X7_isPan
set_option maxRecDepth 20000 in
theorem ggX7_accusePan_X0_remember : GoodIn wsX7_accusePan wsX0_remember := goodIn_r _ [13, 14, 15, 16, 17, 18, 19, 20, 21, 22, 12, 23, 24, 25, 26, 27, 28, 29, 30, 31, 32, 33, 34, 35, 36, 37, 38, 39, 40, 41, 42, 43, 44, 62, 63, 64, 65, 66, 67, 68, 69, 70, 71, 72, 73, 74, 75] (by decide +kernel) (by decide +kernel)
set_option maxRecDepth 20000 in
theorem gX7_accusePan_X0_remember : GoodIn wsX7_accusePan (wsV RX7 212 RX0 yX0_remember wsX0_remember) := goodIn_app (goodIn_of _ (by decide +kernel)) ggX7_accusePan_X0_remember
set_option maxRecDepth 20000 in
theorem ggX7_accusePan_X4_blamePan : GoodIn wsX7_accusePan wsX4_blamePan := goodIn_r _ [48, 31, 49, 50, 51, 28, 52, 34, 35, 65, 66, 67, 68, 69, 70, 71, 72, 73, 74] (by decide +kernel) (by decide +kernel)
set_option maxRecDepth 20000 in
theorem gX7_accusePan_X4_blamePan : GoodIn wsX7_accusePan (wsV RX7 241 RX4 yX4_blamePan wsX4_blamePan) := goodIn_app (goodIn_of _ (by decide +kernel)) ggX7_accusePan_X4_blamePan
theorem dX7_accusePan_0 : decode cX7_accusePan 0 = .ok (.iload_n 1, 1) := by decide +kernel
theorem dX7_accusePan_1 : decode cX7_accusePan 1 = .ok (.invokestatic 236, 3) := by decide +kernel
theorem dX7_accusePan_4 : decode cX7_accusePan 4 = .ok (.ifCond .ne 13, 3) := by decide +kernel
theorem dX7_accusePan_7 : decode cX7_accusePan 7 = .ok (.new 67, 3) := by decide +kernel
theorem dX7_accusePan_10 : decode cX7_accusePan 10 = .ok (.dup, 1) := by decide +kernel
theorem dX7_accusePan_11 : decode cX7_accusePan 11 = .ok (.ldc 239, 2) := by decide +kernel
theorem dX7_accusePan_13 : decode cX7_accusePan 13 = .ok (.invokespecial 71, 3) := by decide +kernel
theorem dX7_accusePan_16 : decode cX7_accusePan 16 = .ok (.athrow, 1) := by decide +kernel
theorem dX7_accusePan_17 : decode cX7_accusePan 17 = .ok (.aload_n 0, 1) := by decide +kernel
theorem dX7_accusePan_18 : decode cX7_accusePan 18 = .ok (.getfield 29, 3) := by decide +kernel
theorem dX7_accusePan_21 : decode cX7_accusePan 21 = .ok (.aload_n 0, 1) := by decide +kernel
theorem dX7_accusePan_22 : decode cX7_accusePan 22 = .ok (.getfield 19, 3) := by decide +kernel
theorem dX7_accusePan_25 : decode cX7_accusePan 25 = .ok (.invokevirtual 212, 3) := by decide +kernel
theorem dX7_accusePan_28 : decode cX7_accusePan 28 = .ok (.aload_n 0, 1) := by decide +kernel
theorem dX7_accusePan_29 : decode cX7_accusePan 29 = .ok (.getfield 19, 3) := by decide +kernel
theorem dX7_accusePan_32 : decode cX7_accusePan 32 = .ok (.iload_n 1, 1) := by decide +kernel
theorem dX7_accusePan_33 : decode cX7_accusePan 33 = .ok (.invokevirtual 241, 3) := by decide +kernel
theorem dX7_accusePan_36 : decode cX7_accusePan 36 = .ok (.ifCond .eq 7, 3) := by decide +kernel
theorem dX7_accusePan_39 : decode cX7_accusePan 39 = .ok (.iconst 1, 1) := by decide +kernel
theorem dX7_accusePan_40 : decode cX7_accusePan 40 = .ok (.goto 4, 3) := by decide +kernel
theorem dX7_accusePan_43 : decode cX7_accusePan 43 = .ok (.iconst 0, 1) := by decide +kernel
theorem dX7_accusePan_44 : decode cX7_accusePan 44 = .ok (.ireturn, 1) := by decide +kernel
set_option maxRecDepth 20000 in
theorem ggX7_forget_X0_remember : GoodIn wsX7_forget wsX0_remember := goodIn_r _ [10, 11, 12, 13, 14, 15, 16, 17, 18, 19, 9, 20, 21, 22, 23, 24, 25, 26, 27, 28, 29, 30, 31, 32, 33, 34, 35, 36, 37, 38, 39, 40, 41, 102, 103, 104, 92, 93, 94, 95, 96, 97, 98, 99, 100, 101, 105] (by decide +kernel) (by decide +kernel)
set_option maxRecDepth 20000 in
theorem gX7_forget_X0_remember : GoodIn wsX7_forget (wsV RX7 212 RX0 yX0_remember wsX0_remember) := goodIn_app (goodIn_of _ (by decide +kernel)) ggX7_forget_X0_remember
set_option maxRecDepth 20000 in
theorem ggX7_forget_X4_tryForgetting : GoodIn wsX7_forget wsX4_tryForgetting := goodIn_r _ [45, 33, 35, 27, 46, 47, 48, 49, 39, 50, 41, 51, 52, 53, 25, 54, 34, 55, 56, 57, 58, 59, 60, 61, 62, 63, 64, 65, 66, 67, 68, 69, 70, 71, 72, 73, 74, 75, 76, 77, 78, 79, 80, 81, 82, 92, 93, 94, 95, 96, 97, 98, 99, 100, 101, 105, 106, 107, 108, 109, 110, 111] (by decide +kernel) (by decide +kernel)
set_option maxRecDepth 20000 in
theorem gX7_forget_X4_tryForgetting : GoodIn wsX7_forget (wsV RX7 246 RX4 yX4_tryForgetting wsX4_tryForgetting) := goodIn_app (goodIn_of _ (by decide +kernel)) ggX7_forget_X4_tryForgetting
theorem dX7_forget_0 : decode cX7_forget 0 = .ok (.aload_n 0, 1) := by decide +kernel
theorem dX7_forget_1 : decode cX7_forget 1 = .ok (.getfield 19, 3) := by decide +kernel
theorem dX7_forget_4 : decode cX7_forget 4 = .ok (.getfield 158, 3) := by decide +kernel
theorem dX7_forget_7 : decode cX7_forget 7 = .ok (.ifCond .gt 13, 3) := by decide +kernel
theorem dX7_forget_10 : decode cX7_forget 10 = .ok (.new 78, 3) := by decide +kernel
theorem dX7_forget_13 : decode cX7_forget 13 = .ok (.dup, 1) := by decide +kernel
theorem dX7_forget_14 : decode cX7_forget 14 = .ok (.ldc 244, 2) := by decide +kernel
theorem dX7_forget_16 : decode cX7_forget 16 = .ok (.invokespecial 82, 3) := by decide +kernel
theorem dX7_forget_19 : decode cX7_forget 19 = .ok (.athrow, 1) := by decide +kernel
theorem dX7_forget_20 : decode cX7_forget 20 = .ok (.aload_n 0, 1) := by decide +kernel
theorem dX7_forget_21 : decode cX7_forget 21 = .ok (.getfield 29, 3) := by decide +kernel
theorem dX7_forget_24 : decode cX7_forget 24 = .ok (.aload_n 0, 1) := by decide +kernel
theorem dX7_forget_25 : decode cX7_forget 25 = .ok (.getfield 19, 3) := by decide +kernel
theorem dX7_forget_28 : decode cX7_forget 28 = .ok (.invokevirtual 212, 3) := by decide +kernel
theorem dX7_forget_31 : decode cX7_forget 31 = .ok (.aload_n 0, 1) := by decide +kernel
theorem dX7_forget_32 : decode cX7_forget 32 = .ok (.getfield 19, 3) := by decide +kernel
theorem dX7_forget_35 : decode cX7_forget 35 = .ok (.invokevirtual 246, 3) := by decide +kernel
theorem dX7_forget_38 : decode cX7_forget 38 = .ok (.pop, 1) := by decide +kernel
theorem dX7_forget_39 : decode cX7_forget 39 = .ok (.aload_n 0, 1) := by decide +kernel
theorem dX7_forget_40 : decode cX7_forget 40 = .ok (.getfield 19, 3) := by decide +kernel
theorem dX7_forget_43 : decode cX7_forget 43 = .ok (.getfield 158, 3) := by decide +kernel
theorem dX7_forget_46 : decode cX7_forget 46 = .ok (.ireturn, 1) := by decide +kernel
set_option maxRecDepth 20000 in
theorem ggX7_undo_X0_takeBack : GoodIn wsX7_undo wsX0_takeBack := goodIn_r _ [10, 11, 12, 13, 14, 15, 9, 16, 17, 18, 19, 20, 21, 22, 23, 24, 25, 26, 27, 28, 29, 30, 31, 32, 33, 34, 35, 36, 37, 47, 48, 49, 50, 51, 52, 53, 54, 55, 56, 57, 58, 59, 60] (by decide +kernel) (by decide +kernel)
set_option maxRecDepth 20000 in
theorem gX7_undo_X0_takeBack : GoodIn wsX7_undo (wsV RX7 253 RX0 yX0_takeBack wsX0_takeBack) := goodIn_app (goodIn_of _ (by decide +kernel)) ggX7_undo_X0_takeBack
theorem dX7_undo_0 : decode cX7_undo 0 = .ok (.aload_n 0, 1) := by decide +kernel
theorem dX7_undo_1 : decode cX7_undo 1 = .ok (.getfield 29, 3) := by decide +kernel
theorem dX7_undo_4 : decode cX7_undo 4 = .ok (.getfield 249, 3) := by decide +kernel
theorem dX7_undo_7 : decode cX7_undo 7 = .ok (.ifCond .gt 13, 3) := by decide +kernel
theorem dX7_undo_10 : decode cX7_undo 10 = .ok (.new 78, 3) := by decide +kernel
theorem dX7_undo_13 : decode cX7_undo 13 = .ok (.dup, 1) := by decide +kernel
theorem dX7_undo_14 : decode cX7_undo 14 = .ok (.ldc 251, 2) := by decide +kernel
theorem dX7_undo_16 : decode cX7_undo 16 = .ok (.invokespecial 82, 3) := by decide +kernel
theorem dX7_undo_19 : decode cX7_undo 19 = .ok (.athrow, 1) := by decide +kernel
theorem dX7_undo_20 : decode cX7_undo 20 = .ok (.aload_n 0, 1) := by decide +kernel
theorem dX7_undo_21 : decode cX7_undo 21 = .ok (.getfield 29, 3) := by decide +kernel
theorem dX7_undo_24 : decode cX7_undo 24 = .ok (.aload_n 0, 1) := by decide +kernel
theorem dX7_undo_25 : decode cX7_undo 25 = .ok (.getfield 19, 3) := by decide +kernel
theorem dX7_undo_28 : decode cX7_undo 28 = .ok (.invokevirtual 253, 3) := by decide +kernel
theorem dX7_undo_31 : decode cX7_undo 31 = .ok (.aload_n 0, 1) := by decide +kernel
theorem dX7_undo_32 : decode cX7_undo 32 = .ok (.getfield 29, 3) := by decide +kernel
theorem dX7_undo_35 : decode cX7_undo 35 = .ok (.getfield 249, 3) := by decide +kernel
theorem dX7_undo_38 : decode cX7_undo 38 = .ok (.ireturn, 1) := by decide +kernel
set_option maxRecDepth 20000 in
theorem ggX7_leaves_X7_refuseBadSets : GoodIn wsX7_leaves wsX7_refuseBadSets := goodIn_ca (goodIn_r _ [9, 10, 11, 3, 12, 13, 14, 15, 16, 17, 77, 78, 79, 80, 81, 82, 83, 84, 85, 86, 87, 88, 89, 90, 91, 92, 93, 94, 95] (by decide +kernel) (by decide +kernel)) (goodIn_sub (fun _ h => List.mem_cons_of_mem _ (List.mem_append_right _ h)) (by decide +kernel))
set_option maxRecDepth 20000 in
theorem gX7_leaves_X7_refuseBadSets : GoodIn wsX7_leaves (wsV RX7 221 RX7 yX7_refuseBadSets wsX7_refuseBadSets) := goodIn_app (goodIn_of _ (by decide +kernel)) ggX7_leaves_X7_refuseBadSets
set_option maxRecDepth 20000 in
theorem ggX7_leaves_X4_foresee : GoodIn wsX7_leaves wsX4_foresee := goodIn_r _ [21, 22, 23, 24, 25, 26, 15, 27, 28, 29, 30, 31, 32, 33, 34, 35, 36, 37, 38, 39, 40, 41, 42, 43, 44, 45, 46, 47, 48, 49, 50, 51, 52, 53, 54, 55, 56, 57, 58, 59, 60, 61, 62, 63, 64, 65, 66, 67, 68, 69, 70, 71, 72, 86, 87, 88, 89, 90, 91, 92, 93, 94, 95, 96, 97, 98, 99, 100, 101, 102, 103, 104, 105] (by decide +kernel) (by decide +kernel)
set_option maxRecDepth 20000 in
theorem gX7_leaves_X4_foresee : GoodIn wsX7_leaves (wsV RX7 258 RX4 yX4_foresee wsX4_foresee) := goodIn_app (goodIn_of _ (by decide +kernel)) ggX7_leaves_X4_foresee
set_option maxRecDepth 20000 in
theorem ggX7_leaves_X5_of : GoodIn wsX7_leaves wsX5_of := goodIn_r _ [76, 61, 62, 63, 103, 104, 105] (by decide +kernel) (by decide +kernel)
set_option maxRecDepth 20000 in
theorem gX7_leaves_X5_of : GoodIn wsX7_leaves (wsV RX7 262 RX5 yX5_of wsX5_of) := goodIn_app (goodIn_of _ (by decide +kernel)) ggX7_leaves_X5_of
theorem dX7_leaves_0 : decode cX7_leaves 0 = .ok (.iload_n 3, 1) := by decide +kernel
theorem dX7_leaves_1 : decode cX7_leaves 1 = .ok (.ifCond .lt 8, 3) := by decide +kernel
theorem dX7_leaves_4 : decode cX7_leaves 4 = .ok (.iload_n 3, 1) := by decide +kernel
theorem dX7_leaves_5 : decode cX7_leaves 5 = .ok (.iconst 3, 1) := by decide +kernel
theorem dX7_leaves_6 : decode cX7_leaves 6 = .ok (.if_icmp .lt 14, 3) := by decide +kernel
theorem dX7_leaves_9 : decode cX7_leaves 9 = .ok (.new 182, 3) := by decide +kernel
theorem dX7_leaves_12 : decode cX7_leaves 12 = .ok (.dup, 1) := by decide +kernel
theorem dX7_leaves_13 : decode cX7_leaves 13 = .ok (.ldc_w 256, 3) := by decide +kernel
theorem dX7_leaves_16 : decode cX7_leaves 16 = .ok (.invokespecial 186, 3) := by decide +kernel
theorem dX7_leaves_19 : decode cX7_leaves 19 = .ok (.athrow, 1) := by decide +kernel
theorem dX7_leaves_20 : decode cX7_leaves 20 = .ok (.aload_n 0, 1) := by decide +kernel
theorem dX7_leaves_21 : decode cX7_leaves 21 = .ok (.iload_n 1, 1) := by decide +kernel
theorem dX7_leaves_22 : decode cX7_leaves 22 = .ok (.iload_n 2, 1) := by decide +kernel
theorem dX7_leaves_23 : decode cX7_leaves 23 = .ok (.invokevirtual 221, 3) := by decide +kernel
theorem dX7_leaves_26 : decode cX7_leaves 26 = .ok (.aload_n 0, 1) := by decide +kernel
theorem dX7_leaves_27 : decode cX7_leaves 27 = .ok (.getfield 19, 3) := by decide +kernel
theorem dX7_leaves_30 : decode cX7_leaves 30 = .ok (.iload_n 1, 1) := by decide +kernel
theorem dX7_leaves_31 : decode cX7_leaves 31 = .ok (.iload_n 2, 1) := by decide +kernel
theorem dX7_leaves_32 : decode cX7_leaves 32 = .ok (.aload_n 0, 1) := by decide +kernel
theorem dX7_leaves_33 : decode cX7_leaves 33 = .ok (.getfield 46, 3) := by decide +kernel
theorem dX7_leaves_36 : decode cX7_leaves 36 = .ok (.invokevirtual 258, 3) := by decide +kernel
theorem dX7_leaves_39 : decode cX7_leaves 39 = .ok (.aload_n 0, 1) := by decide +kernel
theorem dX7_leaves_40 : decode cX7_leaves 40 = .ok (.getfield 46, 3) := by decide +kernel
theorem dX7_leaves_43 : decode cX7_leaves 43 = .ok (.iload_n 3, 1) := by decide +kernel
theorem dX7_leaves_44 : decode cX7_leaves 44 = .ok (.invokevirtual 262, 3) := by decide +kernel
theorem dX7_leaves_47 : decode cX7_leaves 47 = .ok (.ireturn, 1) := by decide +kernel
set_option maxRecDepth 20000 in
theorem ggX7_best_X4_foresee : GoodIn wsX7_best wsX4_foresee := goodIn_r _ [12, 13, 14, 15, 16, 17, 11, 18, 19, 20, 21, 22, 23, 24, 25, 26, 27, 28, 29, 30, 31, 32, 33, 34, 35, 36, 37, 38, 39, 40, 41, 42, 43, 44, 45, 46, 47, 48, 49, 50, 51, 52, 53, 54, 55, 56, 57, 58, 59, 60, 61, 62, 63, 81, 82, 83, 84, 85, 86, 87, 88, 89, 90, 91, 92, 93, 94, 95, 96, 97, 98, 99, 100] (by decide +kernel) (by decide +kernel)
set_option maxRecDepth 20000 in
theorem gX7_best_X4_foresee : GoodIn wsX7_best (wsV RX7 258 RX4 yX4_foresee wsX4_foresee) := goodIn_app (goodIn_of _ (by decide +kernel)) ggX7_best_X4_foresee
set_option maxRecDepth 20000 in
theorem ggX7_best_X5_worst : GoodIn wsX7_best wsX5_worst := goodIn_r _ [67, 52, 53, 54, 68, 69, 70, 71, 98, 99, 100] (by decide +kernel) (by decide +kernel)
set_option maxRecDepth 20000 in
theorem gX7_best_X5_worst : GoodIn wsX7_best (wsV RX7 269 RX5 yX5_worst wsX5_worst) := goodIn_app (goodIn_of _ (by decide +kernel)) ggX7_best_X5_worst
theorem dX7_best_0 : decode cX7_best 0 = .ok (.iload_n 1, 1) := by decide +kernel
theorem dX7_best_1 : decode cX7_best 1 = .ok (.iconst 1, 1) := by decide +kernel
theorem dX7_best_2 : decode cX7_best 2 = .ok (.if_icmp .lt 8, 3) := by decide +kernel
theorem dX7_best_5 : decode cX7_best 5 = .ok (.iload_n 1, 1) := by decide +kernel
theorem dX7_best_6 : decode cX7_best 6 = .ok (.iconst 2, 1) := by decide +kernel
theorem dX7_best_7 : decode cX7_best 7 = .ok (.if_icmp .le 14, 3) := by decide +kernel
theorem dX7_best_10 : decode cX7_best 10 = .ok (.new 67, 3) := by decide +kernel
theorem dX7_best_13 : decode cX7_best 13 = .ok (.dup, 1) := by decide +kernel
theorem dX7_best_14 : decode cX7_best 14 = .ok (.ldc_w 265, 3) := by decide +kernel
theorem dX7_best_17 : decode cX7_best 17 = .ok (.invokespecial 71, 3) := by decide +kernel
theorem dX7_best_20 : decode cX7_best 20 = .ok (.athrow, 1) := by decide +kernel
theorem dX7_best_21 : decode cX7_best 21 = .ok (.iload_n 2, 1) := by decide +kernel
theorem dX7_best_22 : decode cX7_best 22 = .ok (.ifCond .lt 8, 3) := by decide +kernel
theorem dX7_best_25 : decode cX7_best 25 = .ok (.iload_n 2, 1) := by decide +kernel
theorem dX7_best_26 : decode cX7_best 26 = .ok (.iconst 2, 1) := by decide +kernel
theorem dX7_best_27 : decode cX7_best 27 = .ok (.if_icmp .le 14, 3) := by decide +kernel
theorem dX7_best_30 : decode cX7_best 30 = .ok (.new 67, 3) := by decide +kernel
theorem dX7_best_33 : decode cX7_best 33 = .ok (.dup, 1) := by decide +kernel
theorem dX7_best_34 : decode cX7_best 34 = .ok (.ldc_w 267, 3) := by decide +kernel
theorem dX7_best_37 : decode cX7_best 37 = .ok (.invokespecial 71, 3) := by decide +kernel
theorem dX7_best_40 : decode cX7_best 40 = .ok (.athrow, 1) := by decide +kernel
theorem dX7_best_41 : decode cX7_best 41 = .ok (.iload_n 1, 1) := by decide +kernel
theorem dX7_best_42 : decode cX7_best 42 = .ok (.iconst 1, 1) := by decide +kernel
theorem dX7_best_43 : decode cX7_best 43 = .ok (.if_icmp .ne 10, 3) := by decide +kernel
theorem dX7_best_46 : decode cX7_best 46 = .ok (.aload_n 0, 1) := by decide +kernel
theorem dX7_best_47 : decode cX7_best 47 = .ok (.getfield 54, 3) := by decide +kernel
theorem dX7_best_50 : decode cX7_best 50 = .ok (.goto 7, 3) := by decide +kernel
theorem dX7_best_53 : decode cX7_best 53 = .ok (.aload_n 0, 1) := by decide +kernel
theorem dX7_best_54 : decode cX7_best 54 = .ok (.getfield 61, 3) := by decide +kernel
theorem dX7_best_57 : decode cX7_best 57 = .ok (.astore_n 3, 1) := by decide +kernel
theorem dX7_best_58 : decode cX7_best 58 = .ok (.iconst 1, 1) := by decide +kernel
theorem dX7_best_59 : decode cX7_best 59 = .ok (.aload_n 0, 1) := by decide +kernel
theorem dX7_best_60 : decode cX7_best 60 = .ok (.getfield 19, 3) := by decide +kernel
theorem dX7_best_63 : decode cX7_best 63 = .ok (.getfield 145, 3) := by decide +kernel
theorem dX7_best_66 : decode cX7_best 66 = .ok (.ishl, 1) := by decide +kernel
theorem dX7_best_67 : decode cX7_best 67 = .ok (.istore 4, 2) := by decide +kernel
theorem dX7_best_69 : decode cX7_best 69 = .ok (.iconst (-1), 1) := by decide +kernel
theorem dX7_best_70 : decode cX7_best 70 = .ok (.istore 5, 2) := by decide +kernel
theorem dX7_best_72 : decode cX7_best 72 = .ok (.iconst (-1), 1) := by decide +kernel
theorem dX7_best_73 : decode cX7_best 73 = .ok (.istore 6, 2) := by decide +kernel
theorem dX7_best_75 : decode cX7_best 75 = .ok (.iconst (-1), 1) := by decide +kernel
theorem dX7_best_76 : decode cX7_best 76 = .ok (.istore 7, 2) := by decide +kernel
theorem dX7_best_78 : decode cX7_best 78 = .ok (.iconst 0, 1) := by decide +kernel
theorem dX7_best_79 : decode cX7_best 79 = .ok (.istore 8, 2) := by decide +kernel
theorem dX7_best_81 : decode cX7_best 81 = .ok (.iload 8, 2) := by decide +kernel
theorem dX7_best_83 : decode cX7_best 83 = .ok (.aload_n 3, 1) := by decide +kernel
theorem dX7_best_84 : decode cX7_best 84 = .ok (.arraylength, 1) := by decide +kernel
theorem dX7_best_85 : decode cX7_best 85 = .ok (.if_icmp .ge 116, 3) := by decide +kernel
theorem dX7_best_88 : decode cX7_best 88 = .ok (.aload_n 3, 1) := by decide +kernel
theorem dX7_best_89 : decode cX7_best 89 = .ok (.iload 8, 2) := by decide +kernel
theorem dX7_best_91 : decode cX7_best 91 = .ok (.iaload, 1) := by decide +kernel
theorem dX7_best_92 : decode cX7_best 92 = .ok (.iload 4, 2) := by decide +kernel
theorem dX7_best_94 : decode cX7_best 94 = .ok (.if_icmp .ge 107, 3) := by decide +kernel
theorem dX7_best_97 : decode cX7_best 97 = .ok (.iconst 0, 1) := by decide +kernel
theorem dX7_best_98 : decode cX7_best 98 = .ok (.istore 9, 2) := by decide +kernel
theorem dX7_best_100 : decode cX7_best 100 = .ok (.iload 9, 2) := by decide +kernel
theorem dX7_best_102 : decode cX7_best 102 = .ok (.aload_n 3, 1) := by decide +kernel
theorem dX7_best_103 : decode cX7_best 103 = .ok (.arraylength, 1) := by decide +kernel
theorem dX7_best_104 : decode cX7_best 104 = .ok (.if_icmp .ge 91, 3) := by decide +kernel
theorem dX7_best_107 : decode cX7_best 107 = .ok (.aload_n 3, 1) := by decide +kernel
theorem dX7_best_108 : decode cX7_best 108 = .ok (.iload 9, 2) := by decide +kernel
theorem dX7_best_110 : decode cX7_best 110 = .ok (.iaload, 1) := by decide +kernel
theorem dX7_best_111 : decode cX7_best 111 = .ok (.iload 4, 2) := by decide +kernel
theorem dX7_best_113 : decode cX7_best 113 = .ok (.if_icmp .ge 82, 3) := by decide +kernel
theorem dX7_best_116 : decode cX7_best 116 = .ok (.aload_n 3, 1) := by decide +kernel
theorem dX7_best_117 : decode cX7_best 117 = .ok (.iload 8, 2) := by decide +kernel
theorem dX7_best_119 : decode cX7_best 119 = .ok (.iaload, 1) := by decide +kernel
theorem dX7_best_120 : decode cX7_best 120 = .ok (.aload_n 3, 1) := by decide +kernel
theorem dX7_best_121 : decode cX7_best 121 = .ok (.iload 9, 2) := by decide +kernel
theorem dX7_best_123 : decode cX7_best 123 = .ok (.iaload, 1) := by decide +kernel
theorem dX7_best_124 : decode cX7_best 124 = .ok (.iand, 1) := by decide +kernel
theorem dX7_best_125 : decode cX7_best 125 = .ok (.ifCond .eq 6, 3) := by decide +kernel
theorem dX7_best_128 : decode cX7_best 128 = .ok (.goto 61, 3) := by decide +kernel
theorem dX7_best_131 : decode cX7_best 131 = .ok (.aload_n 0, 1) := by decide +kernel
theorem dX7_best_132 : decode cX7_best 132 = .ok (.getfield 19, 3) := by decide +kernel
theorem dX7_best_135 : decode cX7_best 135 = .ok (.aload_n 3, 1) := by decide +kernel
theorem dX7_best_136 : decode cX7_best 136 = .ok (.iload 8, 2) := by decide +kernel
theorem dX7_best_138 : decode cX7_best 138 = .ok (.iaload, 1) := by decide +kernel
theorem dX7_best_139 : decode cX7_best 139 = .ok (.aload_n 3, 1) := by decide +kernel
theorem dX7_best_140 : decode cX7_best 140 = .ok (.iload 9, 2) := by decide +kernel
theorem dX7_best_142 : decode cX7_best 142 = .ok (.iaload, 1) := by decide +kernel
theorem dX7_best_143 : decode cX7_best 143 = .ok (.aload_n 0, 1) := by decide +kernel
theorem dX7_best_144 : decode cX7_best 144 = .ok (.getfield 46, 3) := by decide +kernel
theorem dX7_best_147 : decode cX7_best 147 = .ok (.invokevirtual 258, 3) := by decide +kernel
theorem dX7_best_150 : decode cX7_best 150 = .ok (.iload 7, 2) := by decide +kernel
theorem dX7_best_152 : decode cX7_best 152 = .ok (.iconst (-1), 1) := by decide +kernel
theorem dX7_best_153 : decode cX7_best 153 = .ok (.if_icmp .eq 15, 3) := by decide +kernel
theorem dX7_best_156 : decode cX7_best 156 = .ok (.aload_n 0, 1) := by decide +kernel
theorem dX7_best_157 : decode cX7_best 157 = .ok (.getfield 46, 3) := by decide +kernel
theorem dX7_best_160 : decode cX7_best 160 = .ok (.invokevirtual 269, 3) := by decide +kernel
theorem dX7_best_163 : decode cX7_best 163 = .ok (.iload 7, 2) := by decide +kernel
theorem dX7_best_165 : decode cX7_best 165 = .ok (.if_icmp .ge 24, 3) := by decide +kernel
theorem dX7_best_168 : decode cX7_best 168 = .ok (.aload_n 0, 1) := by decide +kernel
theorem dX7_best_169 : decode cX7_best 169 = .ok (.getfield 46, 3) := by decide +kernel
theorem dX7_best_172 : decode cX7_best 172 = .ok (.invokevirtual 269, 3) := by decide +kernel
theorem dX7_best_175 : decode cX7_best 175 = .ok (.istore 7, 2) := by decide +kernel
theorem dX7_best_177 : decode cX7_best 177 = .ok (.aload_n 3, 1) := by decide +kernel
theorem dX7_best_178 : decode cX7_best 178 = .ok (.iload 8, 2) := by decide +kernel
theorem dX7_best_180 : decode cX7_best 180 = .ok (.iaload, 1) := by decide +kernel
theorem dX7_best_181 : decode cX7_best 181 = .ok (.istore 5, 2) := by decide +kernel
theorem dX7_best_183 : decode cX7_best 183 = .ok (.aload_n 3, 1) := by decide +kernel
theorem dX7_best_184 : decode cX7_best 184 = .ok (.iload 9, 2) := by decide +kernel
theorem dX7_best_186 : decode cX7_best 186 = .ok (.iaload, 1) := by decide +kernel
theorem dX7_best_187 : decode cX7_best 187 = .ok (.istore 6, 2) := by decide +kernel
theorem dX7_best_189 : decode cX7_best 189 = .ok (.iinc 9 1, 3) := by decide +kernel
theorem dX7_best_192 : decode cX7_best 192 = .ok (.goto (-92), 3) := by decide +kernel
theorem dX7_best_195 : decode cX7_best 195 = .ok (.iinc 8 1, 3) := by decide +kernel
theorem dX7_best_198 : decode cX7_best 198 = .ok (.goto (-117), 3) := by decide +kernel
theorem dX7_best_201 : decode cX7_best 201 = .ok (.iload_n 2, 1) := by decide +kernel
theorem dX7_best_202 : decode cX7_best 202 = .ok (.ifCond .ne 8, 3) := by decide +kernel
theorem dX7_best_205 : decode cX7_best 205 = .ok (.iload 5, 2) := by decide +kernel
theorem dX7_best_207 : decode cX7_best 207 = .ok (.goto 15, 3) := by decide +kernel
theorem dX7_best_210 : decode cX7_best 210 = .ok (.iload_n 2, 1) := by decide +kernel
theorem dX7_best_211 : decode cX7_best 211 = .ok (.iconst 1, 1) := by decide +kernel
theorem dX7_best_212 : decode cX7_best 212 = .ok (.if_icmp .ne 8, 3) := by decide +kernel
theorem dX7_best_215 : decode cX7_best 215 = .ok (.iload 6, 2) := by decide +kernel
theorem dX7_best_217 : decode cX7_best 217 = .ok (.goto 5, 3) := by decide +kernel
theorem dX7_best_220 : decode cX7_best 220 = .ok (.iload 7, 2) := by decide +kernel
theorem dX7_best_222 : decode cX7_best 222 = .ok (.ireturn, 1) := by decide +kernel
set_option maxRecDepth 20000 in
theorem ggX7_sharpest_X4_foresee : GoodIn wsX7_sharpest wsX4_foresee := goodIn_r _ [8, 9, 10, 11, 12, 13, 7, 14, 15, 16, 17, 18, 19, 20, 21, 22, 23, 24, 25, 26, 27, 28, 29, 30, 31, 32, 33, 34, 35, 36, 37, 38, 39, 40, 41, 42, 43, 44, 45, 46, 47, 48, 49, 50, 51, 52, 53, 54, 55, 56, 57, 58, 59, 73, 74, 75, 76, 77, 78, 79, 80, 81, 82, 83, 84, 85, 86, 87, 88, 89, 90, 91, 92] (by decide +kernel) (by decide +kernel)
set_option maxRecDepth 20000 in
theorem gX7_sharpest_X4_foresee : GoodIn wsX7_sharpest (wsV RX7 258 RX4 yX4_foresee wsX4_foresee) := goodIn_app (goodIn_of _ (by decide +kernel)) ggX7_sharpest_X4_foresee
set_option maxRecDepth 20000 in
theorem ggX7_sharpest_X5_unlikePairs : GoodIn wsX7_sharpest wsX5_unlikePairs := goodIn_r _ [63, 48, 49, 50, 90, 91, 92] (by decide +kernel) (by decide +kernel)
set_option maxRecDepth 20000 in
theorem gX7_sharpest_X5_unlikePairs : GoodIn wsX7_sharpest (wsV RX7 272 RX5 yX5_unlikePairs wsX5_unlikePairs) := goodIn_app (goodIn_of _ (by decide +kernel)) ggX7_sharpest_X5_unlikePairs
theorem dX7_sharpest_0 : decode cX7_sharpest 0 = .ok (.iconst 0, 1) := by decide +kernel
theorem dX7_sharpest_1 : decode cX7_sharpest 1 = .ok (.istore_n 1, 1) := by decide +kernel
theorem dX7_sharpest_2 : decode cX7_sharpest 2 = .ok (.iconst (-1), 1) := by decide +kernel
theorem dX7_sharpest_3 : decode cX7_sharpest 3 = .ok (.istore_n 2, 1) := by decide +kernel
theorem dX7_sharpest_4 : decode cX7_sharpest 4 = .ok (.iconst 0, 1) := by decide +kernel
theorem dX7_sharpest_5 : decode cX7_sharpest 5 = .ok (.istore_n 3, 1) := by decide +kernel
theorem dX7_sharpest_6 : decode cX7_sharpest 6 = .ok (.iload_n 3, 1) := by decide +kernel
theorem dX7_sharpest_7 : decode cX7_sharpest 7 = .ok (.aload_n 0, 1) := by decide +kernel
theorem dX7_sharpest_8 : decode cX7_sharpest 8 = .ok (.getfield 19, 3) := by decide +kernel
theorem dX7_sharpest_11 : decode cX7_sharpest 11 = .ok (.getfield 145, 3) := by decide +kernel
theorem dX7_sharpest_14 : decode cX7_sharpest 14 = .ok (.if_icmp .ge 109, 3) := by decide +kernel
theorem dX7_sharpest_17 : decode cX7_sharpest 17 = .ok (.iconst 0, 1) := by decide +kernel
theorem dX7_sharpest_18 : decode cX7_sharpest 18 = .ok (.istore 4, 2) := by decide +kernel
theorem dX7_sharpest_20 : decode cX7_sharpest 20 = .ok (.iload 4, 2) := by decide +kernel
theorem dX7_sharpest_22 : decode cX7_sharpest 22 = .ok (.bipush 12, 2) := by decide +kernel
theorem dX7_sharpest_24 : decode cX7_sharpest 24 = .ok (.if_icmp .gt 93, 3) := by decide +kernel
theorem dX7_sharpest_27 : decode cX7_sharpest 27 = .ok (.iload 4, 2) := by decide +kernel
theorem dX7_sharpest_29 : decode cX7_sharpest 29 = .ok (.iload_n 3, 1) := by decide +kernel
theorem dX7_sharpest_30 : decode cX7_sharpest 30 = .ok (.if_icmp .eq 81, 3) := by decide +kernel
theorem dX7_sharpest_33 : decode cX7_sharpest 33 = .ok (.iload 4, 2) := by decide +kernel
theorem dX7_sharpest_35 : decode cX7_sharpest 35 = .ok (.aload_n 0, 1) := by decide +kernel
theorem dX7_sharpest_36 : decode cX7_sharpest 36 = .ok (.getfield 19, 3) := by decide +kernel
theorem dX7_sharpest_39 : decode cX7_sharpest 39 = .ok (.getfield 145, 3) := by decide +kernel
theorem dX7_sharpest_42 : decode cX7_sharpest 42 = .ok (.if_icmp .lt 13, 3) := by decide +kernel
theorem dX7_sharpest_45 : decode cX7_sharpest 45 = .ok (.iload 4, 2) := by decide +kernel
theorem dX7_sharpest_47 : decode cX7_sharpest 47 = .ok (.bipush 12, 2) := by decide +kernel
theorem dX7_sharpest_49 : decode cX7_sharpest 49 = .ok (.if_icmp .ge 6, 3) := by decide +kernel
theorem dX7_sharpest_52 : decode cX7_sharpest 52 = .ok (.goto 59, 3) := by decide +kernel
theorem dX7_sharpest_55 : decode cX7_sharpest 55 = .ok (.aload_n 0, 1) := by decide +kernel
theorem dX7_sharpest_56 : decode cX7_sharpest 56 = .ok (.getfield 19, 3) := by decide +kernel
theorem dX7_sharpest_59 : decode cX7_sharpest 59 = .ok (.iconst 1, 1) := by decide +kernel
theorem dX7_sharpest_60 : decode cX7_sharpest 60 = .ok (.iload_n 3, 1) := by decide +kernel
theorem dX7_sharpest_61 : decode cX7_sharpest 61 = .ok (.ishl, 1) := by decide +kernel
theorem dX7_sharpest_62 : decode cX7_sharpest 62 = .ok (.iload 4, 2) := by decide +kernel
theorem dX7_sharpest_64 : decode cX7_sharpest 64 = .ok (.bipush 12, 2) := by decide +kernel
theorem dX7_sharpest_66 : decode cX7_sharpest 66 = .ok (.if_icmp .ge 10, 3) := by decide +kernel
theorem dX7_sharpest_69 : decode cX7_sharpest 69 = .ok (.iconst 1, 1) := by decide +kernel
theorem dX7_sharpest_70 : decode cX7_sharpest 70 = .ok (.iload 4, 2) := by decide +kernel
theorem dX7_sharpest_72 : decode cX7_sharpest 72 = .ok (.ishl, 1) := by decide +kernel
theorem dX7_sharpest_73 : decode cX7_sharpest 73 = .ok (.goto 4, 3) := by decide +kernel
theorem dX7_sharpest_76 : decode cX7_sharpest 76 = .ok (.iconst 0, 1) := by decide +kernel
theorem dX7_sharpest_77 : decode cX7_sharpest 77 = .ok (.aload_n 0, 1) := by decide +kernel
theorem dX7_sharpest_78 : decode cX7_sharpest 78 = .ok (.getfield 46, 3) := by decide +kernel
theorem dX7_sharpest_81 : decode cX7_sharpest 81 = .ok (.invokevirtual 258, 3) := by decide +kernel
theorem dX7_sharpest_84 : decode cX7_sharpest 84 = .ok (.aload_n 0, 1) := by decide +kernel
theorem dX7_sharpest_85 : decode cX7_sharpest 85 = .ok (.getfield 46, 3) := by decide +kernel
theorem dX7_sharpest_88 : decode cX7_sharpest 88 = .ok (.invokevirtual 272, 3) := by decide +kernel
theorem dX7_sharpest_91 : decode cX7_sharpest 91 = .ok (.iload_n 1, 1) := by decide +kernel
theorem dX7_sharpest_92 : decode cX7_sharpest 92 = .ok (.if_icmp .le 19, 3) := by decide +kernel
theorem dX7_sharpest_95 : decode cX7_sharpest 95 = .ok (.aload_n 0, 1) := by decide +kernel
theorem dX7_sharpest_96 : decode cX7_sharpest 96 = .ok (.getfield 46, 3) := by decide +kernel
theorem dX7_sharpest_99 : decode cX7_sharpest 99 = .ok (.invokevirtual 272, 3) := by decide +kernel
theorem dX7_sharpest_102 : decode cX7_sharpest 102 = .ok (.istore_n 1, 1) := by decide +kernel
theorem dX7_sharpest_103 : decode cX7_sharpest 103 = .ok (.bipush 100, 2) := by decide +kernel
theorem dX7_sharpest_105 : decode cX7_sharpest 105 = .ok (.iload_n 3, 1) := by decide +kernel
theorem dX7_sharpest_106 : decode cX7_sharpest 106 = .ok (.imul, 1) := by decide +kernel
theorem dX7_sharpest_107 : decode cX7_sharpest 107 = .ok (.iload 4, 2) := by decide +kernel
theorem dX7_sharpest_109 : decode cX7_sharpest 109 = .ok (.iadd, 1) := by decide +kernel
theorem dX7_sharpest_110 : decode cX7_sharpest 110 = .ok (.istore_n 2, 1) := by decide +kernel
theorem dX7_sharpest_111 : decode cX7_sharpest 111 = .ok (.iinc 4 1, 3) := by decide +kernel
theorem dX7_sharpest_114 : decode cX7_sharpest 114 = .ok (.goto (-94), 3) := by decide +kernel
theorem dX7_sharpest_117 : decode cX7_sharpest 117 = .ok (.iinc 3 1, 3) := by decide +kernel
theorem dX7_sharpest_120 : decode cX7_sharpest 120 = .ok (.goto (-114), 3) := by decide +kernel
theorem dX7_sharpest_123 : decode cX7_sharpest 123 = .ok (.iload_n 2, 1) := by decide +kernel
theorem dX7_sharpest_124 : decode cX7_sharpest 124 = .ok (.ireturn, 1) := by decide +kernel
set_option maxRecDepth 20000 in
theorem ggX7_needs_X3_count : GoodIn wsX7_needs wsX3_count := goodIn_r _ [7, 8, 9, 10, 11, 12, 13, 14, 15, 39] (by decide +kernel) (by decide +kernel)
