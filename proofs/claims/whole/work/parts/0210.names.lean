set_option maxRecDepth 20000 in
theorem gX7_needs_X3_count : GoodIn wsX7_needs (wsV RX7 153 RX3 yX3_count wsX3_count) := goodIn_app (goodIn_of _ (by decide +kernel)) ggX7_needs_X3_count
set_option maxRecDepth 20000 in
theorem ggX7_needs_X7_weighingsFor : GoodIn wsX7_needs wsX7_weighingsFor := goodIn_r _ [19] (by decide +kernel) (by decide +kernel)
set_option maxRecDepth 20000 in
theorem gX7_needs_X7_weighingsFor : GoodIn wsX7_needs (va_wsS RX7 275 yX7_weighingsFor wsX7_weighingsFor) := goodIn_app (goodIn_of _ (by decide +kernel)) ggX7_needs_X7_weighingsFor
theorem dX7_needs_0 : decode cX7_needs 0 = .ok (.aload_n 0, 1) := by decide +kernel
theorem dX7_needs_1 : decode cX7_needs 1 = .ok (.getfield 19, 3) := by decide +kernel
theorem dX7_needs_4 : decode cX7_needs 4 = .ok (.getfield 149, 3) := by decide +kernel
theorem dX7_needs_7 : decode cX7_needs 7 = .ok (.invokevirtual 153, 3) := by decide +kernel
theorem dX7_needs_10 : decode cX7_needs 10 = .ok (.invokestatic 275, 3) := by decide +kernel
theorem dX7_needs_13 : decode cX7_needs 13 = .ok (.ireturn, 1) := by decide +kernel
set_option maxRecDepth 20000 in
theorem ggX7_bestArms_X7_refuseBadSets : GoodIn wsX7_bestArms wsX7_refuseBadSets := goodIn_ca (goodIn_r _ [7, 8, 9, 1, 10, 11, 12, 13, 14, 15, 73, 74, 75, 76, 77, 78, 79, 80, 81, 82, 83, 84, 85, 86, 87, 88, 89, 90, 91] (by decide +kernel) (by decide +kernel)) (goodIn_sub (fun _ h => List.mem_cons_of_mem _ (List.mem_append_right _ h)) (by decide +kernel))
set_option maxRecDepth 20000 in
theorem gX7_bestArms_X7_refuseBadSets : GoodIn wsX7_bestArms (wsV RX7 221 RX7 yX7_refuseBadSets wsX7_refuseBadSets) := goodIn_app (goodIn_of _ (by decide +kernel)) ggX7_bestArms_X7_refuseBadSets
set_option maxRecDepth 20000 in
theorem ggX7_bestArms_X4_foreseeWith : GoodIn wsX7_bestArms wsX4_foreseeWith := goodIn_r _ [19, 20, 21, 22, 23, 24, 25, 26, 27, 28, 29, 30, 31, 32, 33, 34, 35, 36, 37, 38, 39, 40, 41, 42, 43, 44, 45, 46, 47, 48, 49, 50, 51, 52, 53, 54, 55, 56, 57, 58, 59, 60, 61, 62, 63, 64, 82, 83, 84, 85, 86, 87, 88, 89, 90, 91, 92, 93, 94, 95, 96, 97, 98, 99, 100, 101] (by decide +kernel) (by decide +kernel)
set_option maxRecDepth 20000 in
theorem gX7_bestArms_X4_foreseeWith : GoodIn wsX7_bestArms (wsV RX7 278 RX4 yX4_foreseeWith wsX4_foreseeWith) := goodIn_app (goodIn_of _ (by decide +kernel)) ggX7_bestArms_X4_foreseeWith
set_option maxRecDepth 20000 in
theorem ggX7_bestArms_X5_worst : GoodIn wsX7_bestArms wsX5_worst := goodIn_r _ [68, 53, 54, 55, 69, 70, 71, 72, 99, 100, 101] (by decide +kernel) (by decide +kernel)
set_option maxRecDepth 20000 in
theorem gX7_bestArms_X5_worst : GoodIn wsX7_bestArms (wsV RX7 269 RX5 yX5_worst wsX5_worst) := goodIn_app (goodIn_of _ (by decide +kernel)) ggX7_bestArms_X5_worst
theorem dX7_bestArms_0 : decode cX7_bestArms 0 = .ok (.aload_n 0, 1) := by decide +kernel
theorem dX7_bestArms_1 : decode cX7_bestArms 1 = .ok (.iload_n 1, 1) := by decide +kernel
theorem dX7_bestArms_2 : decode cX7_bestArms 2 = .ok (.iload_n 2, 1) := by decide +kernel
theorem dX7_bestArms_3 : decode cX7_bestArms 3 = .ok (.invokevirtual 221, 3) := by decide +kernel
theorem dX7_bestArms_6 : decode cX7_bestArms 6 = .ok (.iconst (-1), 1) := by decide +kernel
theorem dX7_bestArms_7 : decode cX7_bestArms 7 = .ok (.istore_n 3, 1) := by decide +kernel
theorem dX7_bestArms_8 : decode cX7_bestArms 8 = .ok (.iconst (-1), 1) := by decide +kernel
theorem dX7_bestArms_9 : decode cX7_bestArms 9 = .ok (.istore 4, 2) := by decide +kernel
theorem dX7_bestArms_11 : decode cX7_bestArms 11 = .ok (.iconst 1, 1) := by decide +kernel
theorem dX7_bestArms_12 : decode cX7_bestArms 12 = .ok (.istore 5, 2) := by decide +kernel
theorem dX7_bestArms_14 : decode cX7_bestArms 14 = .ok (.iload 5, 2) := by decide +kernel
theorem dX7_bestArms_16 : decode cX7_bestArms 16 = .ok (.bipush 20, 2) := by decide +kernel
theorem dX7_bestArms_18 : decode cX7_bestArms 18 = .ok (.if_icmp .gt 76, 3) := by decide +kernel
theorem dX7_bestArms_21 : decode cX7_bestArms 21 = .ok (.iconst 1, 1) := by decide +kernel
theorem dX7_bestArms_22 : decode cX7_bestArms 22 = .ok (.istore 6, 2) := by decide +kernel
theorem dX7_bestArms_24 : decode cX7_bestArms 24 = .ok (.iload 6, 2) := by decide +kernel
theorem dX7_bestArms_26 : decode cX7_bestArms 26 = .ok (.bipush 20, 2) := by decide +kernel
theorem dX7_bestArms_28 : decode cX7_bestArms 28 = .ok (.if_icmp .gt 60, 3) := by decide +kernel
theorem dX7_bestArms_31 : decode cX7_bestArms 31 = .ok (.aload_n 0, 1) := by decide +kernel
theorem dX7_bestArms_32 : decode cX7_bestArms 32 = .ok (.getfield 19, 3) := by decide +kernel
theorem dX7_bestArms_35 : decode cX7_bestArms 35 = .ok (.iload_n 1, 1) := by decide +kernel
theorem dX7_bestArms_36 : decode cX7_bestArms 36 = .ok (.iload_n 2, 1) := by decide +kernel
theorem dX7_bestArms_37 : decode cX7_bestArms 37 = .ok (.iload 5, 2) := by decide +kernel
theorem dX7_bestArms_39 : decode cX7_bestArms 39 = .ok (.iload 6, 2) := by decide +kernel
theorem dX7_bestArms_41 : decode cX7_bestArms 41 = .ok (.aload_n 0, 1) := by decide +kernel
theorem dX7_bestArms_42 : decode cX7_bestArms 42 = .ok (.getfield 46, 3) := by decide +kernel
theorem dX7_bestArms_45 : decode cX7_bestArms 45 = .ok (.invokevirtual 278, 3) := by decide +kernel
theorem dX7_bestArms_48 : decode cX7_bestArms 48 = .ok (.iload_n 3, 1) := by decide +kernel
theorem dX7_bestArms_49 : decode cX7_bestArms 49 = .ok (.iconst (-1), 1) := by decide +kernel
theorem dX7_bestArms_50 : decode cX7_bestArms 50 = .ok (.if_icmp .eq 14, 3) := by decide +kernel
theorem dX7_bestArms_53 : decode cX7_bestArms 53 = .ok (.aload_n 0, 1) := by decide +kernel
theorem dX7_bestArms_54 : decode cX7_bestArms 54 = .ok (.getfield 46, 3) := by decide +kernel
theorem dX7_bestArms_57 : decode cX7_bestArms 57 = .ok (.invokevirtual 269, 3) := by decide +kernel
theorem dX7_bestArms_60 : decode cX7_bestArms 60 = .ok (.iload_n 3, 1) := by decide +kernel
theorem dX7_bestArms_61 : decode cX7_bestArms 61 = .ok (.if_icmp .ge 21, 3) := by decide +kernel
theorem dX7_bestArms_64 : decode cX7_bestArms 64 = .ok (.aload_n 0, 1) := by decide +kernel
theorem dX7_bestArms_65 : decode cX7_bestArms 65 = .ok (.getfield 46, 3) := by decide +kernel
theorem dX7_bestArms_68 : decode cX7_bestArms 68 = .ok (.invokevirtual 269, 3) := by decide +kernel
theorem dX7_bestArms_71 : decode cX7_bestArms 71 = .ok (.istore_n 3, 1) := by decide +kernel
theorem dX7_bestArms_72 : decode cX7_bestArms 72 = .ok (.bipush 100, 2) := by decide +kernel
theorem dX7_bestArms_74 : decode cX7_bestArms 74 = .ok (.iload 5, 2) := by decide +kernel
theorem dX7_bestArms_76 : decode cX7_bestArms 76 = .ok (.imul, 1) := by decide +kernel
theorem dX7_bestArms_77 : decode cX7_bestArms 77 = .ok (.iload 6, 2) := by decide +kernel
theorem dX7_bestArms_79 : decode cX7_bestArms 79 = .ok (.iadd, 1) := by decide +kernel
theorem dX7_bestArms_80 : decode cX7_bestArms 80 = .ok (.istore 4, 2) := by decide +kernel
theorem dX7_bestArms_82 : decode cX7_bestArms 82 = .ok (.iinc 6 1, 3) := by decide +kernel
theorem dX7_bestArms_85 : decode cX7_bestArms 85 = .ok (.goto (-61), 3) := by decide +kernel
theorem dX7_bestArms_88 : decode cX7_bestArms 88 = .ok (.iinc 5 1, 3) := by decide +kernel
theorem dX7_bestArms_91 : decode cX7_bestArms 91 = .ok (.goto (-77), 3) := by decide +kernel
theorem dX7_bestArms_94 : decode cX7_bestArms 94 = .ok (.iload 4, 2) := by decide +kernel
theorem dX7_bestArms_96 : decode cX7_bestArms 96 = .ok (.ireturn, 1) := by decide +kernel
set_option maxRecDepth 20000 in
theorem ggX7_runScript_X7_withoutGroups : GoodIn wsX7_runScript wsX7_withoutGroups := goodIn_r _ [9, 5] (by decide +kernel) (by decide +kernel)
set_option maxRecDepth 20000 in
theorem gX7_runScript_X7_withoutGroups : GoodIn wsX7_runScript (va_wsS RX7 284 yX7_withoutGroups wsX7_withoutGroups) := goodIn_app (goodIn_of _ (by decide +kernel)) ggX7_runScript_X7_withoutGroups
set_option maxRecDepth 20000 in
theorem ggX7_runScript_X4_copyFrom : GoodIn wsX7_runScript wsX4_copyFrom := goodIn_r _ [14, 15, 16, 17, 18, 19, 20, 21, 22, 23, 24, 25, 26, 27, 28, 29, 152, 153, 154, 155, 156, 157, 158, 159, 160, 161, 162] (by decide +kernel) (by decide +kernel)
set_option maxRecDepth 20000 in
theorem gX7_runScript_X4_copyFrom : GoodIn wsX7_runScript (wsV RX7 290 RX4 yX4_copyFrom wsX4_copyFrom) := goodIn_app (goodIn_of _ (by decide +kernel)) ggX7_runScript_X4_copyFrom
set_option maxRecDepth 20000 in
theorem ggX7_runScript_X7_obeyGroup : GoodIn wsX7_runScript wsX7_obeyGroup := goodIn_r _ [33, 3, 34, 35, 36, 37, 8, 38, 39, 40, 41, 13, 42, 15, 43, 44, 45, 46, 47, 17, 18, 16, 23, 21, 48, 49, 50, 51, 52, 53, 54, 55, 56, 57, 58, 59, 60, 61, 62, 63, 64, 65, 66, 67, 68, 69, 70, 71, 72, 73, 74, 75, 76, 77, 78, 79, 80, 81, 82, 83, 84, 27, 85, 29, 86, 87, 88, 89, 90, 91, 92, 22, 93, 94, 95, 96, 97, 98, 99, 100, 101, 102, 103, 104, 105, 106, 107, 108, 109, 110, 111, 19, 20, 112, 113, 114, 115, 116, 117, 118, 119, 120, 121, 122, 123, 124, 125, 126, 127, 128, 129, 130, 131, 132, 133, 134, 135, 136, 137, 138, 139, 140, 141, 142, 143, 144, 145, 146, 147, 148, 149, 150, 151, 152, 153, 154, 155, 156, 157, 158, 159, 160, 161, 163, 164, 165, 166, 167, 168, 162] (by decide +kernel) (by decide +kernel)
set_option maxRecDepth 20000 in
theorem gX7_runScript_X7_obeyGroup : GoodIn wsX7_runScript (wsV RX7 295 RX7 yX7_obeyGroup wsX7_obeyGroup) := goodIn_app (goodIn_of _ (by decide +kernel)) ggX7_runScript_X7_obeyGroup
theorem dX7_runScript_0 : decode cX7_runScript 0 = .ok (.iload_n 1, 1) := by decide +kernel
theorem dX7_runScript_1 : decode cX7_runScript 1 = .ok (.iconst 1, 1) := by decide +kernel
theorem dX7_runScript_2 : decode cX7_runScript 2 = .ok (.if_icmp .lt 8, 3) := by decide +kernel
theorem dX7_runScript_5 : decode cX7_runScript 5 = .ok (.iload_n 1, 1) := by decide +kernel
theorem dX7_runScript_6 : decode cX7_runScript 6 = .ok (.iconst 3, 1) := by decide +kernel
theorem dX7_runScript_7 : decode cX7_runScript 7 = .ok (.if_icmp .le 14, 3) := by decide +kernel
theorem dX7_runScript_10 : decode cX7_runScript 10 = .ok (.new 67, 3) := by decide +kernel
theorem dX7_runScript_13 : decode cX7_runScript 13 = .ok (.dup, 1) := by decide +kernel
theorem dX7_runScript_14 : decode cX7_runScript 14 = .ok (.ldc_w 282, 3) := by decide +kernel
theorem dX7_runScript_17 : decode cX7_runScript 17 = .ok (.invokespecial 71, 3) := by decide +kernel
theorem dX7_runScript_20 : decode cX7_runScript 20 = .ok (.athrow, 1) := by decide +kernel
theorem dX7_runScript_21 : decode cX7_runScript 21 = .ok (.lload_n 2, 1) := by decide +kernel
theorem dX7_runScript_22 : decode cX7_runScript 22 = .ok (.lconst 0, 1) := by decide +kernel
theorem dX7_runScript_23 : decode cX7_runScript 23 = .ok (.lcmp, 1) := by decide +kernel
theorem dX7_runScript_24 : decode cX7_runScript 24 = .ok (.ifCond .lt 13, 3) := by decide +kernel
theorem dX7_runScript_27 : decode cX7_runScript 27 = .ok (.lload_n 2, 1) := by decide +kernel
theorem dX7_runScript_28 : decode cX7_runScript 28 = .ok (.iload_n 1, 1) := by decide +kernel
theorem dX7_runScript_29 : decode cX7_runScript 29 = .ok (.invokestatic 284, 3) := by decide +kernel
theorem dX7_runScript_32 : decode cX7_runScript 32 = .ok (.lconst 0, 1) := by decide +kernel
theorem dX7_runScript_33 : decode cX7_runScript 33 = .ok (.lcmp, 1) := by decide +kernel
theorem dX7_runScript_34 : decode cX7_runScript 34 = .ok (.ifCond .eq 14, 3) := by decide +kernel
theorem dX7_runScript_37 : decode cX7_runScript 37 = .ok (.new 67, 3) := by decide +kernel
theorem dX7_runScript_40 : decode cX7_runScript 40 = .ok (.dup, 1) := by decide +kernel
theorem dX7_runScript_41 : decode cX7_runScript 41 = .ok (.ldc_w 288, 3) := by decide +kernel
theorem dX7_runScript_44 : decode cX7_runScript 44 = .ok (.invokespecial 71, 3) := by decide +kernel
theorem dX7_runScript_47 : decode cX7_runScript 47 = .ok (.athrow, 1) := by decide +kernel
theorem dX7_runScript_48 : decode cX7_runScript 48 = .ok (.aload_n 0, 1) := by decide +kernel
theorem dX7_runScript_49 : decode cX7_runScript 49 = .ok (.getfield 23, 3) := by decide +kernel
theorem dX7_runScript_52 : decode cX7_runScript 52 = .ok (.aload_n 0, 1) := by decide +kernel
theorem dX7_runScript_53 : decode cX7_runScript 53 = .ok (.getfield 19, 3) := by decide +kernel
theorem dX7_runScript_56 : decode cX7_runScript 56 = .ok (.invokevirtual 290, 3) := by decide +kernel
theorem dX7_runScript_59 : decode cX7_runScript 59 = .ok (.iconst 0, 1) := by decide +kernel
theorem dX7_runScript_60 : decode cX7_runScript 60 = .ok (.istore 4, 2) := by decide +kernel
theorem dX7_runScript_62 : decode cX7_runScript 62 = .ok (.iload 4, 2) := by decide +kernel
theorem dX7_runScript_64 : decode cX7_runScript 64 = .ok (.iload_n 1, 1) := by decide +kernel
theorem dX7_runScript_65 : decode cX7_runScript 65 = .ok (.if_icmp .ge 34, 3) := by decide +kernel
theorem dX7_runScript_68 : decode cX7_runScript 68 = .ok (.aload_n 0, 1) := by decide +kernel
theorem dX7_runScript_69 : decode cX7_runScript 69 = .ok (.lload_n 2, 1) := by decide +kernel
theorem dX7_runScript_70 : decode cX7_runScript 70 = .ok (.iload_n 1, 1) := by decide +kernel
theorem dX7_runScript_71 : decode cX7_runScript 71 = .ok (.iconst 1, 1) := by decide +kernel
theorem dX7_runScript_72 : decode cX7_runScript 72 = .ok (.isub, 1) := by decide +kernel
theorem dX7_runScript_73 : decode cX7_runScript 73 = .ok (.iload 4, 2) := by decide +kernel
theorem dX7_runScript_75 : decode cX7_runScript 75 = .ok (.isub, 1) := by decide +kernel
theorem dX7_runScript_76 : decode cX7_runScript 76 = .ok (.invokestatic 284, 3) := by decide +kernel
theorem dX7_runScript_79 : decode cX7_runScript 79 = .ok (.ldc2_w 293, 3) := by decide +kernel
theorem dX7_runScript_82 : decode cX7_runScript 82 = .ok (.lrem, 1) := by decide +kernel
theorem dX7_runScript_83 : decode cX7_runScript 83 = .ok (.l2i, 1) := by decide +kernel
theorem dX7_runScript_84 : decode cX7_runScript 84 = .ok (.invokevirtual 295, 3) := by decide +kernel
theorem dX7_runScript_87 : decode cX7_runScript 87 = .ok (.ifCond .ne 6, 3) := by decide +kernel
theorem dX7_runScript_90 : decode cX7_runScript 90 = .ok (.iload 4, 2) := by decide +kernel
theorem dX7_runScript_92 : decode cX7_runScript 92 = .ok (.ireturn, 1) := by decide +kernel
theorem dX7_runScript_93 : decode cX7_runScript 93 = .ok (.iinc 4 1, 3) := by decide +kernel
theorem dX7_runScript_96 : decode cX7_runScript 96 = .ok (.goto (-34), 3) := by decide +kernel
theorem dX7_runScript_99 : decode cX7_runScript 99 = .ok (.iconst (-1), 1) := by decide +kernel
theorem dX7_runScript_100 : decode cX7_runScript 100 = .ok (.ireturn, 1) := by decide +kernel
set_option maxRecDepth 20000 in
theorem ggX7_simulate_X4_copyFrom : GoodIn wsX7_simulate wsX4_copyFrom := goodIn_r _ [13, 14, 15, 16, 17, 18, 19, 20, 21, 22, 23, 24, 25, 26, 27, 28, 130, 131, 132, 133, 134, 135, 136, 137, 138, 139, 140] (by decide +kernel) (by decide +kernel)
set_option maxRecDepth 20000 in
theorem gX7_simulate_X4_copyFrom : GoodIn wsX7_simulate (wsV RX7 290 RX4 yX4_copyFrom wsX4_copyFrom) := goodIn_app (goodIn_of _ (by decide +kernel)) ggX7_simulate_X4_copyFrom
set_option maxRecDepth 20000 in
theorem ggX7_simulate_X7_takeTurn : GoodIn wsX7_simulate wsX7_takeTurn := goodIn_r _ [33, 3, 34, 35, 36, 37, 12, 38, 16, 17, 39, 32, 40, 41, 42, 43, 44, 20, 22, 14, 45, 46, 47, 48, 26, 49, 28, 50, 51, 52, 53, 21, 54, 55, 56, 57, 58, 59, 60, 61, 62, 63, 64, 65, 66, 67, 68, 69, 70, 71, 72, 73, 74, 75, 76, 77, 78, 79, 80, 81, 82, 83, 84, 85, 86, 87, 88, 89, 15, 90, 91, 92, 93, 18, 19, 94, 95, 96, 97, 98, 99, 100, 101, 102, 103, 104, 105, 106, 107, 108, 109, 110, 111, 112, 113, 114, 115, 116, 117, 118, 119, 121, 122, 123, 124, 125, 126, 127, 128, 129, 130, 131, 132, 133, 134, 135, 136, 137, 138, 139, 140, 141, 142, 143, 144, 145, 146] (by decide +kernel) (by decide +kernel)
set_option maxRecDepth 20000 in
theorem gX7_simulate_X7_takeTurn : GoodIn wsX7_simulate (wsV RX7 304 RX7 yX7_takeTurn wsX7_takeTurn) := goodIn_app (goodIn_of _ (by decide +kernel)) ggX7_simulate_X7_takeTurn
set_option maxRecDepth 20000 in
theorem ggX7_simulate_X3_count : GoodIn wsX7_simulate wsX3_count := goodIn_r _ [118, 28, 119, 66, 67, 68, 69, 70, 71, 140] (by decide +kernel) (by decide +kernel)
set_option maxRecDepth 20000 in
theorem gX7_simulate_X3_count : GoodIn wsX7_simulate (wsV RX7 153 RX3 yX3_count wsX3_count) := goodIn_app (goodIn_of _ (by decide +kernel)) ggX7_simulate_X3_count
theorem dX7_simulate_0 : decode cX7_simulate 0 = .ok (.iload_n 3, 1) := by decide +kernel
theorem dX7_simulate_1 : decode cX7_simulate 1 = .ok (.iconst 1, 1) := by decide +kernel
theorem dX7_simulate_2 : decode cX7_simulate 2 = .ok (.if_icmp .lt 9, 3) := by decide +kernel
theorem dX7_simulate_5 : decode cX7_simulate 5 = .ok (.iload_n 3, 1) := by decide +kernel
theorem dX7_simulate_6 : decode cX7_simulate 6 = .ok (.bipush 60, 2) := by decide +kernel
theorem dX7_simulate_8 : decode cX7_simulate 8 = .ok (.if_icmp .le 14, 3) := by decide +kernel
theorem dX7_simulate_11 : decode cX7_simulate 11 = .ok (.new 67, 3) := by decide +kernel
theorem dX7_simulate_14 : decode cX7_simulate 14 = .ok (.dup, 1) := by decide +kernel
theorem dX7_simulate_15 : decode cX7_simulate 15 = .ok (.ldc_w 298, 3) := by decide +kernel
theorem dX7_simulate_18 : decode cX7_simulate 18 = .ok (.invokespecial 71, 3) := by decide +kernel
theorem dX7_simulate_21 : decode cX7_simulate 21 = .ok (.athrow, 1) := by decide +kernel
theorem dX7_simulate_22 : decode cX7_simulate 22 = .ok (.aload_n 0, 1) := by decide +kernel
theorem dX7_simulate_23 : decode cX7_simulate 23 = .ok (.getfield 23, 3) := by decide +kernel
theorem dX7_simulate_26 : decode cX7_simulate 26 = .ok (.aload_n 0, 1) := by decide +kernel
theorem dX7_simulate_27 : decode cX7_simulate 27 = .ok (.getfield 19, 3) := by decide +kernel
theorem dX7_simulate_30 : decode cX7_simulate 30 = .ok (.invokevirtual 290, 3) := by decide +kernel
theorem dX7_simulate_33 : decode cX7_simulate 33 = .ok (.lload_n 1, 1) := by decide +kernel
theorem dX7_simulate_34 : decode cX7_simulate 34 = .ok (.lstore 4, 2) := by decide +kernel
theorem dX7_simulate_36 : decode cX7_simulate 36 = .ok (.iconst 0, 1) := by decide +kernel
theorem dX7_simulate_37 : decode cX7_simulate 37 = .ok (.istore 6, 2) := by decide +kernel
theorem dX7_simulate_39 : decode cX7_simulate 39 = .ok (.iload 6, 2) := by decide +kernel
theorem dX7_simulate_41 : decode cX7_simulate 41 = .ok (.iload_n 3, 1) := by decide +kernel
theorem dX7_simulate_42 : decode cX7_simulate 42 = .ok (.if_icmp .ge 31, 3) := by decide +kernel
theorem dX7_simulate_45 : decode cX7_simulate 45 = .ok (.lload 4, 2) := by decide +kernel
theorem dX7_simulate_47 : decode cX7_simulate 47 = .ok (.ldc2_w 300, 3) := by decide +kernel
theorem dX7_simulate_50 : decode cX7_simulate 50 = .ok (.lmul, 1) := by decide +kernel
theorem dX7_simulate_51 : decode cX7_simulate 51 = .ok (.ldc2_w 302, 3) := by decide +kernel
theorem dX7_simulate_54 : decode cX7_simulate 54 = .ok (.ladd, 1) := by decide +kernel
theorem dX7_simulate_55 : decode cX7_simulate 55 = .ok (.lstore 4, 2) := by decide +kernel
theorem dX7_simulate_57 : decode cX7_simulate 57 = .ok (.aload_n 0, 1) := by decide +kernel
theorem dX7_simulate_58 : decode cX7_simulate 58 = .ok (.lload 4, 2) := by decide +kernel
theorem dX7_simulate_60 : decode cX7_simulate 60 = .ok (.bipush 33, 2) := by decide +kernel
theorem dX7_simulate_62 : decode cX7_simulate 62 = .ok (.lushr, 1) := by decide +kernel
theorem dX7_simulate_63 : decode cX7_simulate 63 = .ok (.l2i, 1) := by decide +kernel
theorem dX7_simulate_64 : decode cX7_simulate 64 = .ok (.invokevirtual 304, 3) := by decide +kernel
theorem dX7_simulate_67 : decode cX7_simulate 67 = .ok (.iinc 6 1, 3) := by decide +kernel
theorem dX7_simulate_70 : decode cX7_simulate 70 = .ok (.goto (-31), 3) := by decide +kernel
theorem dX7_simulate_73 : decode cX7_simulate 73 = .ok (.sipush 1000, 3) := by decide +kernel
theorem dX7_simulate_76 : decode cX7_simulate 76 = .ok (.aload_n 0, 1) := by decide +kernel
theorem dX7_simulate_77 : decode cX7_simulate 77 = .ok (.getfield 23, 3) := by decide +kernel
theorem dX7_simulate_80 : decode cX7_simulate 80 = .ok (.getfield 158, 3) := by decide +kernel
theorem dX7_simulate_83 : decode cX7_simulate 83 = .ok (.imul, 1) := by decide +kernel
theorem dX7_simulate_84 : decode cX7_simulate 84 = .ok (.aload_n 0, 1) := by decide +kernel
theorem dX7_simulate_85 : decode cX7_simulate 85 = .ok (.getfield 23, 3) := by decide +kernel
theorem dX7_simulate_88 : decode cX7_simulate 88 = .ok (.getfield 149, 3) := by decide +kernel
theorem dX7_simulate_91 : decode cX7_simulate 91 = .ok (.invokevirtual 153, 3) := by decide +kernel
theorem dX7_simulate_94 : decode cX7_simulate 94 = .ok (.iadd, 1) := by decide +kernel
theorem dX7_simulate_95 : decode cX7_simulate 95 = .ok (.ireturn, 1) := by decide +kernel
set_option maxRecDepth 20000 in
theorem ggX7_save_X4_copyFrom : GoodIn wsX7_save wsX4_copyFrom := goodIn_r _ [13, 14, 15, 16, 17, 18, 19, 20, 21, 22, 23, 24, 25, 26, 27, 28, 51, 52, 53, 54, 55, 56, 57, 58, 59, 60, 61] (by decide +kernel) (by decide +kernel)
set_option maxRecDepth 20000 in
theorem gX7_save_X4_copyFrom : GoodIn wsX7_save (wsV RX7 290 RX4 yX4_copyFrom wsX4_copyFrom) := goodIn_app (goodIn_of _ (by decide +kernel)) ggX7_save_X4_copyFrom
set_option maxRecDepth 20000 in
theorem ggX7_save_X3_count : GoodIn wsX7_save wsX3_count := goodIn_r _ [32, 28, 33, 34, 35, 36, 37, 38, 39, 61] (by decide +kernel) (by decide +kernel)
set_option maxRecDepth 20000 in
theorem gX7_save_X3_count : GoodIn wsX7_save (wsV RX7 153 RX3 yX3_count wsX3_count) := goodIn_app (goodIn_of _ (by decide +kernel)) ggX7_save_X3_count
theorem dX7_save_0 : decode cX7_save 0 = .ok (.iload_n 1, 1) := by decide +kernel
theorem dX7_save_1 : decode cX7_save 1 = .ok (.ifCond .lt 8, 3) := by decide +kernel
theorem dX7_save_4 : decode cX7_save 4 = .ok (.iload_n 1, 1) := by decide +kernel
theorem dX7_save_5 : decode cX7_save 5 = .ok (.iconst 2, 1) := by decide +kernel
theorem dX7_save_6 : decode cX7_save 6 = .ok (.if_icmp .lt 14, 3) := by decide +kernel
theorem dX7_save_9 : decode cX7_save 9 = .ok (.new 182, 3) := by decide +kernel
theorem dX7_save_12 : decode cX7_save 12 = .ok (.dup, 1) := by decide +kernel
theorem dX7_save_13 : decode cX7_save 13 = .ok (.ldc_w 308, 3) := by decide +kernel
theorem dX7_save_16 : decode cX7_save 16 = .ok (.invokespecial 186, 3) := by decide +kernel
theorem dX7_save_19 : decode cX7_save 19 = .ok (.athrow, 1) := by decide +kernel
theorem dX7_save_20 : decode cX7_save 20 = .ok (.iload_n 1, 1) := by decide +kernel
theorem dX7_save_21 : decode cX7_save 21 = .ok (.ifCond .ne 10, 3) := by decide +kernel
theorem dX7_save_24 : decode cX7_save 24 = .ok (.aload_n 0, 1) := by decide +kernel
theorem dX7_save_25 : decode cX7_save 25 = .ok (.getfield 36, 3) := by decide +kernel
theorem dX7_save_28 : decode cX7_save 28 = .ok (.goto 7, 3) := by decide +kernel
theorem dX7_save_31 : decode cX7_save 31 = .ok (.aload_n 0, 1) := by decide +kernel
theorem dX7_save_32 : decode cX7_save 32 = .ok (.getfield 40, 3) := by decide +kernel
theorem dX7_save_35 : decode cX7_save 35 = .ok (.astore_n 2, 1) := by decide +kernel
theorem dX7_save_36 : decode cX7_save 36 = .ok (.aload_n 2, 1) := by decide +kernel
theorem dX7_save_37 : decode cX7_save 37 = .ok (.getfield 310, 3) := by decide +kernel
theorem dX7_save_40 : decode cX7_save 40 = .ok (.aload_n 0, 1) := by decide +kernel
theorem dX7_save_41 : decode cX7_save 41 = .ok (.getfield 19, 3) := by decide +kernel
theorem dX7_save_44 : decode cX7_save 44 = .ok (.invokevirtual 290, 3) := by decide +kernel
theorem dX7_save_47 : decode cX7_save 47 = .ok (.aload_n 2, 1) := by decide +kernel
theorem dX7_save_48 : decode cX7_save 48 = .ok (.iconst 1, 1) := by decide +kernel
theorem dX7_save_49 : decode cX7_save 49 = .ok (.putfield 113, 3) := by decide +kernel
theorem dX7_save_52 : decode cX7_save 52 = .ok (.aload_n 0, 1) := by decide +kernel
theorem dX7_save_53 : decode cX7_save 53 = .ok (.getfield 19, 3) := by decide +kernel
theorem dX7_save_56 : decode cX7_save 56 = .ok (.getfield 149, 3) := by decide +kernel
theorem dX7_save_59 : decode cX7_save 59 = .ok (.invokevirtual 153, 3) := by decide +kernel
theorem dX7_save_62 : decode cX7_save 62 = .ok (.ireturn, 1) := by decide +kernel
set_option maxRecDepth 20000 in
theorem ggX7_restore_X4_copyFrom : GoodIn wsX7_restore wsX4_copyFrom := goodIn_r _ [16, 17, 18, 19, 20, 21, 22, 23, 24, 25, 26, 27, 28, 29, 30, 31, 61, 62, 63, 64, 65, 66, 67, 68, 69, 70, 71] (by decide +kernel) (by decide +kernel)
set_option maxRecDepth 20000 in
theorem gX7_restore_X4_copyFrom : GoodIn wsX7_restore (wsV RX7 290 RX4 yX4_copyFrom wsX4_copyFrom) := goodIn_app (goodIn_of _ (by decide +kernel)) ggX7_restore_X4_copyFrom
set_option maxRecDepth 20000 in
theorem ggX7_restore_X0_clear : GoodIn wsX7_restore wsX0_clear := goodIn_r _ [36, 37, 38, 72, 73, 74] (by decide +kernel) (by decide +kernel)
set_option maxRecDepth 20000 in
theorem gX7_restore_X0_clear : GoodIn wsX7_restore (wsV RX7 110 RX0 yX0_clear wsX0_clear) := goodIn_app (goodIn_of _ (by decide +kernel)) ggX7_restore_X0_clear
set_option maxRecDepth 20000 in
theorem ggX7_restore_X3_count : GoodIn wsX7_restore wsX3_count := goodIn_r _ [42, 31, 43, 44, 45, 46, 47, 48, 49, 71] (by decide +kernel) (by decide +kernel)
set_option maxRecDepth 20000 in
theorem gX7_restore_X3_count : GoodIn wsX7_restore (wsV RX7 153 RX3 yX3_count wsX3_count) := goodIn_app (goodIn_of _ (by decide +kernel)) ggX7_restore_X3_count
theorem dX7_restore_0 : decode cX7_restore 0 = .ok (.iload_n 1, 1) := by decide +kernel
theorem dX7_restore_1 : decode cX7_restore 1 = .ok (.ifCond .lt 8, 3) := by decide +kernel
theorem dX7_restore_4 : decode cX7_restore 4 = .ok (.iload_n 1, 1) := by decide +kernel
theorem dX7_restore_5 : decode cX7_restore 5 = .ok (.iconst 2, 1) := by decide +kernel
theorem dX7_restore_6 : decode cX7_restore 6 = .ok (.if_icmp .lt 14, 3) := by decide +kernel
theorem dX7_restore_9 : decode cX7_restore 9 = .ok (.new 182, 3) := by decide +kernel
theorem dX7_restore_12 : decode cX7_restore 12 = .ok (.dup, 1) := by decide +kernel
theorem dX7_restore_13 : decode cX7_restore 13 = .ok (.ldc_w 308, 3) := by decide +kernel
theorem dX7_restore_16 : decode cX7_restore 16 = .ok (.invokespecial 186, 3) := by decide +kernel
theorem dX7_restore_19 : decode cX7_restore 19 = .ok (.athrow, 1) := by decide +kernel
theorem dX7_restore_20 : decode cX7_restore 20 = .ok (.iload_n 1, 1) := by decide +kernel
theorem dX7_restore_21 : decode cX7_restore 21 = .ok (.ifCond .ne 10, 3) := by decide +kernel
theorem dX7_restore_24 : decode cX7_restore 24 = .ok (.aload_n 0, 1) := by decide +kernel
theorem dX7_restore_25 : decode cX7_restore 25 = .ok (.getfield 36, 3) := by decide +kernel
theorem dX7_restore_28 : decode cX7_restore 28 = .ok (.goto 7, 3) := by decide +kernel
theorem dX7_restore_31 : decode cX7_restore 31 = .ok (.aload_n 0, 1) := by decide +kernel
theorem dX7_restore_32 : decode cX7_restore 32 = .ok (.getfield 40, 3) := by decide +kernel
theorem dX7_restore_35 : decode cX7_restore 35 = .ok (.astore_n 2, 1) := by decide +kernel
theorem dX7_restore_36 : decode cX7_restore 36 = .ok (.aload_n 2, 1) := by decide +kernel
theorem dX7_restore_37 : decode cX7_restore 37 = .ok (.getfield 113, 3) := by decide +kernel
theorem dX7_restore_40 : decode cX7_restore 40 = .ok (.ifCond .ne 14, 3) := by decide +kernel
theorem dX7_restore_43 : decode cX7_restore 43 = .ok (.new 78, 3) := by decide +kernel
theorem dX7_restore_46 : decode cX7_restore 46 = .ok (.dup, 1) := by decide +kernel
theorem dX7_restore_47 : decode cX7_restore 47 = .ok (.ldc_w 313, 3) := by decide +kernel
theorem dX7_restore_50 : decode cX7_restore 50 = .ok (.invokespecial 82, 3) := by decide +kernel
theorem dX7_restore_53 : decode cX7_restore 53 = .ok (.athrow, 1) := by decide +kernel
theorem dX7_restore_54 : decode cX7_restore 54 = .ok (.aload_n 0, 1) := by decide +kernel
theorem dX7_restore_55 : decode cX7_restore 55 = .ok (.getfield 19, 3) := by decide +kernel
theorem dX7_restore_58 : decode cX7_restore 58 = .ok (.aload_n 2, 1) := by decide +kernel
theorem dX7_restore_59 : decode cX7_restore 59 = .ok (.getfield 310, 3) := by decide +kernel
theorem dX7_restore_62 : decode cX7_restore 62 = .ok (.invokevirtual 290, 3) := by decide +kernel
theorem dX7_restore_65 : decode cX7_restore 65 = .ok (.aload_n 0, 1) := by decide +kernel
theorem dX7_restore_66 : decode cX7_restore 66 = .ok (.getfield 29, 3) := by decide +kernel
theorem dX7_restore_69 : decode cX7_restore 69 = .ok (.invokevirtual 110, 3) := by decide +kernel
theorem dX7_restore_72 : decode cX7_restore 72 = .ok (.aload_n 0, 1) := by decide +kernel
theorem dX7_restore_73 : decode cX7_restore 73 = .ok (.getfield 19, 3) := by decide +kernel
theorem dX7_restore_76 : decode cX7_restore 76 = .ok (.getfield 149, 3) := by decide +kernel
theorem dX7_restore_79 : decode cX7_restore 79 = .ok (.invokevirtual 153, 3) := by decide +kernel
theorem dX7_restore_82 : decode cX7_restore 82 = .ok (.ireturn, 1) := by decide +kernel
set_option maxRecDepth 20000 in
theorem ggX7_refuseBadSets_X4_canWeigh : GoodIn wsX7_refuseBadSets wsX4_canWeigh := goodIn_r _ [8, 9, 19, 20, 21, 22, 23, 24, 25, 26, 27, 28] (by decide +kernel) (by decide +kernel)
set_option maxRecDepth 20000 in
theorem gX7_refuseBadSets_X4_canWeigh : GoodIn wsX7_refuseBadSets (wsV RX7 315 RX4 yX4_canWeigh wsX4_canWeigh) := goodIn_app (goodIn_of _ (by decide +kernel)) ggX7_refuseBadSets_X4_canWeigh
theorem dX7_refuseBadSets_0 : decode cX7_refuseBadSets 0 = .ok (.aload_n 0, 1) := by decide +kernel
theorem dX7_refuseBadSets_1 : decode cX7_refuseBadSets 1 = .ok (.getfield 19, 3) := by decide +kernel
theorem dX7_refuseBadSets_4 : decode cX7_refuseBadSets 4 = .ok (.iload_n 1, 1) := by decide +kernel
theorem dX7_refuseBadSets_5 : decode cX7_refuseBadSets 5 = .ok (.iload_n 2, 1) := by decide +kernel
theorem dX7_refuseBadSets_6 : decode cX7_refuseBadSets 6 = .ok (.invokevirtual 315, 3) := by decide +kernel
theorem dX7_refuseBadSets_9 : decode cX7_refuseBadSets 9 = .ok (.ifCond .ne 14, 3) := by decide +kernel
theorem dX7_refuseBadSets_12 : decode cX7_refuseBadSets 12 = .ok (.new 67, 3) := by decide +kernel
theorem dX7_refuseBadSets_15 : decode cX7_refuseBadSets 15 = .ok (.dup, 1) := by decide +kernel
theorem dX7_refuseBadSets_16 : decode cX7_refuseBadSets 16 = .ok (.ldc_w 318, 3) := by decide +kernel
theorem dX7_refuseBadSets_19 : decode cX7_refuseBadSets 19 = .ok (.invokespecial 71, 3) := by decide +kernel
theorem dX7_refuseBadSets_22 : decode cX7_refuseBadSets 22 = .ok (.athrow, 1) := by decide +kernel
theorem dX7_refuseBadSets_23 : decode cX7_refuseBadSets 23 = .ok (.return_, 1) := by decide +kernel
set_option maxRecDepth 20000 in
theorem ggX7_obeyGroup_X7_tryCoins : GoodIn wsX7_obeyGroup wsX7_tryCoins := goodIn_r _ [7, 1, 8, 9, 10, 11, 12, 13, 14, 15, 16, 17, 18, 19, 20, 21, 22, 23, 24, 25, 26, 27, 28, 29, 30, 31, 32, 33, 34, 35, 36, 37, 38, 39, 40, 41, 42, 43, 44, 45, 46, 47, 48, 49, 50, 51, 52, 53, 54, 55, 56, 57, 58, 59, 60, 61, 62, 63, 64, 65, 66, 67, 68, 69, 70, 71, 72, 73, 74, 75, 76, 124, 125, 126, 127, 128, 129, 130, 131, 132, 133, 134, 135, 136, 137, 138, 139, 140, 141, 142, 143, 144, 145, 146, 147, 148, 149] (by decide +kernel) (by decide +kernel)
set_option maxRecDepth 20000 in
theorem gX7_obeyGroup_X7_tryCoins : GoodIn wsX7_obeyGroup (wsV RX7 320 RX7 yX7_tryCoins wsX7_tryCoins) := goodIn_app (goodIn_of _ (by decide +kernel)) ggX7_obeyGroup_X7_tryCoins
set_option maxRecDepth 20000 in
theorem ggX7_obeyGroup_X4_tryArms : GoodIn wsX7_obeyGroup wsX4_tryArms := goodIn_r _ [80, 19, 20, 81, 6, 82, 133, 134, 135, 136, 137, 138, 139, 140, 141, 142] (by decide +kernel) (by decide +kernel)
set_option maxRecDepth 20000 in
theorem gX7_obeyGroup_X4_tryArms : GoodIn wsX7_obeyGroup (wsV RX7 138 RX4 yX4_tryArms wsX4_tryArms) := goodIn_app (goodIn_of _ (by decide +kernel)) ggX7_obeyGroup_X4_tryArms
set_option maxRecDepth 20000 in
theorem ggX7_obeyGroup_X4_hasCoin : GoodIn wsX7_obeyGroup wsX4_hasCoin := goodIn_r _ [12, 13, 133, 134, 135, 136, 137, 138, 139, 140, 141, 142] (by decide +kernel) (by decide +kernel)
set_option maxRecDepth 20000 in
theorem gX7_obeyGroup_X4_hasCoin : GoodIn wsX7_obeyGroup (wsV RX7 178 RX4 yX4_hasCoin wsX4_hasCoin) := goodIn_app (goodIn_of _ (by decide +kernel)) ggX7_obeyGroup_X4_hasCoin
set_option maxRecDepth 20000 in
theorem ggX7_obeyGroup_X4_blameCoin : GoodIn wsX7_obeyGroup wsX4_blameCoin := goodIn_r _ [86, 21, 87, 88, 89, 11, 90, 91, 92, 133, 134, 135, 136, 137, 138, 139, 140, 141, 142] (by decide +kernel) (by decide +kernel)
set_option maxRecDepth 20000 in
theorem gX7_obeyGroup_X4_blameCoin : GoodIn wsX7_obeyGroup (wsV RX7 232 RX4 yX4_blameCoin wsX4_blameCoin) := goodIn_app (goodIn_of _ (by decide +kernel)) ggX7_obeyGroup_X4_blameCoin
set_option maxRecDepth 20000 in
theorem ggX7_obeyGroup_X7_isPan : GoodIn wsX7_obeyGroup wsX7_isPan := goodIn_r _ [95] (by decide +kernel) (by decide +kernel)
set_option maxRecDepth 20000 in
theorem gX7_obeyGroup_X7_isPan : GoodIn wsX7_obeyGroup (va_wsS RX7 236 yX7_isPan wsX7_isPan) := goodIn_app (goodIn_of _ (by decide +kernel)) ggX7_obeyGroup_X7_isPan
set_option maxRecDepth 20000 in
theorem ggX7_obeyGroup_X4_blamePan : GoodIn wsX7_obeyGroup wsX4_blamePan := goodIn_r _ [99, 21, 87, 88, 89, 11, 90, 91, 92, 133, 134, 135, 136, 137, 138, 139, 140, 141, 142] (by decide +kernel) (by decide +kernel)
set_option maxRecDepth 20000 in
theorem gX7_obeyGroup_X4_blamePan : GoodIn wsX7_obeyGroup (wsV RX7 241 RX4 yX4_blamePan wsX4_blamePan) := goodIn_app (goodIn_of _ (by decide +kernel)) ggX7_obeyGroup_X4_blamePan
set_option maxRecDepth 20000 in
theorem ggX7_obeyGroup_X4_tryForgetting : GoodIn wsX7_obeyGroup wsX4_tryForgetting := goodIn_r _ [103, 23, 22, 13, 18, 104, 105, 106, 61, 107, 63, 108, 109, 110, 11, 111, 71, 32, 33, 34, 35, 36, 37, 38, 39, 40, 41, 42, 43, 44, 45, 46, 47, 48, 49, 58, 59, 60, 62, 64, 65, 66, 55, 56, 57, 133, 134, 135, 136, 137, 138, 139, 140, 141, 142, 149, 143, 144, 145, 146, 147, 148] (by decide +kernel) (by decide +kernel)
set_option maxRecDepth 20000 in
theorem gX7_obeyGroup_X4_tryForgetting : GoodIn wsX7_obeyGroup (wsV RX7 246 RX4 yX4_tryForgetting wsX4_tryForgetting) := goodIn_app (goodIn_of _ (by decide +kernel)) ggX7_obeyGroup_X4_tryForgetting
set_option maxRecDepth 20000 in
theorem ggX7_obeyGroup_X3_count : GoodIn wsX7_obeyGroup wsX3_count := goodIn_r _ [75, 63, 76, 44, 45, 46, 47, 48, 49, 149] (by decide +kernel) (by decide +kernel)
set_option maxRecDepth 20000 in
theorem gX7_obeyGroup_X3_count : GoodIn wsX7_obeyGroup (wsV RX7 153 RX3 yX3_count wsX3_count) := goodIn_app (goodIn_of _ (by decide +kernel)) ggX7_obeyGroup_X3_count
set_option maxRecDepth 20000 in
theorem ggX7_obeyGroup_X3_coinMayBe : GoodIn wsX7_obeyGroup wsX3_coinMayBe := goodIn_r _ [116, 63, 149] (by decide +kernel) (by decide +kernel)
set_option maxRecDepth 20000 in
theorem gX7_obeyGroup_X3_coinMayBe : GoodIn wsX7_obeyGroup (wsV RX7 187 RX3 yX3_coinMayBe wsX3_coinMayBe) := goodIn_app (goodIn_of _ (by decide +kernel)) ggX7_obeyGroup_X3_coinMayBe
set_option maxRecDepth 20000 in
theorem ggX7_obeyGroup_X3_pansMayBe : GoodIn wsX7_obeyGroup wsX3_pansMayBe := goodIn_r _ [120, 63, 149] (by decide +kernel) (by decide +kernel)
set_option maxRecDepth 20000 in
theorem gX7_obeyGroup_X3_pansMayBe : GoodIn wsX7_obeyGroup (wsV RX7 191 RX3 yX3_pansMayBe wsX3_pansMayBe) := goodIn_app (goodIn_of _ (by decide +kernel)) ggX7_obeyGroup_X3_pansMayBe
set_option maxRecDepth 20000 in
theorem ggX7_obeyGroup_X7_weighingsFor : GoodIn wsX7_obeyGroup wsX7_weighingsFor := goodIn_r _ [123] (by decide +kernel) (by decide +kernel)
set_option maxRecDepth 20000 in
theorem gX7_obeyGroup_X7_weighingsFor : GoodIn wsX7_obeyGroup (va_wsS RX7 275 yX7_weighingsFor wsX7_weighingsFor) := goodIn_app (goodIn_of _ (by decide +kernel)) ggX7_obeyGroup_X7_weighingsFor
theorem dX7_obeyGroup_0 : decode cX7_obeyGroup 0 = .ok (.iload_n 1, 1) := by decide +kernel
theorem dX7_obeyGroup_1 : decode cX7_obeyGroup 1 = .ok (.bipush 100, 2) := by decide +kernel
theorem dX7_obeyGroup_3 : decode cX7_obeyGroup 3 = .ok (.idiv, 1) := by decide +kernel
theorem dX7_obeyGroup_4 : decode cX7_obeyGroup 4 = .ok (.bipush 100, 2) := by decide +kernel
theorem dX7_obeyGroup_6 : decode cX7_obeyGroup 6 = .ok (.irem, 1) := by decide +kernel
theorem dX7_obeyGroup_7 : decode cX7_obeyGroup 7 = .ok (.istore_n 2, 1) := by decide +kernel
theorem dX7_obeyGroup_8 : decode cX7_obeyGroup 8 = .ok (.iload_n 1, 1) := by decide +kernel
theorem dX7_obeyGroup_9 : decode cX7_obeyGroup 9 = .ok (.bipush 100, 2) := by decide +kernel
theorem dX7_obeyGroup_11 : decode cX7_obeyGroup 11 = .ok (.irem, 1) := by decide +kernel
theorem dX7_obeyGroup_12 : decode cX7_obeyGroup 12 = .ok (.istore_n 3, 1) := by decide +kernel
theorem dX7_obeyGroup_13 : decode cX7_obeyGroup 13 = .ok (.iload_n 1, 1) := by decide +kernel
theorem dX7_obeyGroup_14 : decode cX7_obeyGroup 14 = .ok (.bipush 10, 2) := by decide +kernel
theorem dX7_obeyGroup_16 : decode cX7_obeyGroup 16 = .ok (.irem, 1) := by decide +kernel
theorem dX7_obeyGroup_17 : decode cX7_obeyGroup 17 = .ok (.istore 4, 2) := by decide +kernel
theorem dX7_obeyGroup_19 : decode cX7_obeyGroup 19 = .ok (.iload_n 1, 1) := by decide +kernel
theorem dX7_obeyGroup_20 : decode cX7_obeyGroup 20 = .ok (.sipush 10000, 3) := by decide +kernel
theorem dX7_obeyGroup_23 : decode cX7_obeyGroup 23 = .ok (.idiv, 1) := by decide +kernel
theorem dX7_obeyGroup_24 : decode cX7_obeyGroup 24 = .ok (.tableswitch 310 1 9 #[52, 59, 69, 112, 158, 182, 206, 245, 276], 52) := by decide +kernel
theorem dX7_obeyGroup_76 : decode cX7_obeyGroup 76 = .ok (.aload_n 0, 1) := by decide +kernel
theorem dX7_obeyGroup_77 : decode cX7_obeyGroup 77 = .ok (.iload_n 2, 1) := by decide +kernel
theorem dX7_obeyGroup_78 : decode cX7_obeyGroup 78 = .ok (.iload_n 3, 1) := by decide +kernel
theorem dX7_obeyGroup_79 : decode cX7_obeyGroup 79 = .ok (.invokevirtual 320, 3) := by decide +kernel
theorem dX7_obeyGroup_82 : decode cX7_obeyGroup 82 = .ok (.ireturn, 1) := by decide +kernel
theorem dX7_obeyGroup_83 : decode cX7_obeyGroup 83 = .ok (.aload_n 0, 1) := by decide +kernel
theorem dX7_obeyGroup_84 : decode cX7_obeyGroup 84 = .ok (.getfield 23, 3) := by decide +kernel
theorem dX7_obeyGroup_87 : decode cX7_obeyGroup 87 = .ok (.iload_n 2, 1) := by decide +kernel
theorem dX7_obeyGroup_88 : decode cX7_obeyGroup 88 = .ok (.iload_n 3, 1) := by decide +kernel
theorem dX7_obeyGroup_89 : decode cX7_obeyGroup 89 = .ok (.invokevirtual 138, 3) := by decide +kernel
theorem dX7_obeyGroup_92 : decode cX7_obeyGroup 92 = .ok (.ireturn, 1) := by decide +kernel
theorem dX7_obeyGroup_93 : decode cX7_obeyGroup 93 = .ok (.iload_n 3, 1) := by decide +kernel
theorem dX7_obeyGroup_94 : decode cX7_obeyGroup 94 = .ok (.iconst 1, 1) := by decide +kernel
theorem dX7_obeyGroup_95 : decode cX7_obeyGroup 95 = .ok (.if_icmp .gt 39, 3) := by decide +kernel
theorem dX7_obeyGroup_98 : decode cX7_obeyGroup 98 = .ok (.aload_n 0, 1) := by decide +kernel
theorem dX7_obeyGroup_99 : decode cX7_obeyGroup 99 = .ok (.getfield 23, 3) := by decide +kernel
theorem dX7_obeyGroup_102 : decode cX7_obeyGroup 102 = .ok (.iload_n 2, 1) := by decide +kernel
theorem dX7_obeyGroup_103 : decode cX7_obeyGroup 103 = .ok (.invokevirtual 178, 3) := by decide +kernel
theorem dX7_obeyGroup_106 : decode cX7_obeyGroup 106 = .ok (.ifCond .eq 28, 3) := by decide +kernel
theorem dX7_obeyGroup_109 : decode cX7_obeyGroup 109 = .ok (.aload_n 0, 1) := by decide +kernel
theorem dX7_obeyGroup_110 : decode cX7_obeyGroup 110 = .ok (.getfield 23, 3) := by decide +kernel
theorem dX7_obeyGroup_113 : decode cX7_obeyGroup 113 = .ok (.iload_n 2, 1) := by decide +kernel
theorem dX7_obeyGroup_114 : decode cX7_obeyGroup 114 = .ok (.iload_n 3, 1) := by decide +kernel
theorem dX7_obeyGroup_115 : decode cX7_obeyGroup 115 = .ok (.iconst 1, 1) := by decide +kernel
theorem dX7_obeyGroup_116 : decode cX7_obeyGroup 116 = .ok (.if_icmp .ne 7, 3) := by decide +kernel
theorem dX7_obeyGroup_119 : decode cX7_obeyGroup 119 = .ok (.iconst 1, 1) := by decide +kernel
theorem dX7_obeyGroup_120 : decode cX7_obeyGroup 120 = .ok (.goto 4, 3) := by decide +kernel
theorem dX7_obeyGroup_123 : decode cX7_obeyGroup 123 = .ok (.iconst 0, 1) := by decide +kernel
theorem dX7_obeyGroup_124 : decode cX7_obeyGroup 124 = .ok (.invokevirtual 232, 3) := by decide +kernel
theorem dX7_obeyGroup_127 : decode cX7_obeyGroup 127 = .ok (.ifCond .eq 7, 3) := by decide +kernel
theorem dX7_obeyGroup_130 : decode cX7_obeyGroup 130 = .ok (.iconst 1, 1) := by decide +kernel
theorem dX7_obeyGroup_131 : decode cX7_obeyGroup 131 = .ok (.goto 4, 3) := by decide +kernel
theorem dX7_obeyGroup_134 : decode cX7_obeyGroup 134 = .ok (.iconst 0, 1) := by decide +kernel
theorem dX7_obeyGroup_135 : decode cX7_obeyGroup 135 = .ok (.ireturn, 1) := by decide +kernel
theorem dX7_obeyGroup_136 : decode cX7_obeyGroup 136 = .ok (.iload_n 1, 1) := by decide +kernel
theorem dX7_obeyGroup_137 : decode cX7_obeyGroup 137 = .ok (.sipush 1000, 3) := by decide +kernel
theorem dX7_obeyGroup_140 : decode cX7_obeyGroup 140 = .ok (.irem, 1) := by decide +kernel
theorem dX7_obeyGroup_141 : decode cX7_obeyGroup 141 = .ok (.ifCond .ne 39, 3) := by decide +kernel
theorem dX7_obeyGroup_144 : decode cX7_obeyGroup 144 = .ok (.iload_n 1, 1) := by decide +kernel
theorem dX7_obeyGroup_145 : decode cX7_obeyGroup 145 = .ok (.sipush 1000, 3) := by decide +kernel
theorem dX7_obeyGroup_148 : decode cX7_obeyGroup 148 = .ok (.idiv, 1) := by decide +kernel
theorem dX7_obeyGroup_149 : decode cX7_obeyGroup 149 = .ok (.bipush 10, 2) := by decide +kernel
theorem dX7_obeyGroup_151 : decode cX7_obeyGroup 151 = .ok (.irem, 1) := by decide +kernel
theorem dX7_obeyGroup_152 : decode cX7_obeyGroup 152 = .ok (.invokestatic 236, 3) := by decide +kernel
theorem dX7_obeyGroup_155 : decode cX7_obeyGroup 155 = .ok (.ifCond .eq 25, 3) := by decide +kernel
theorem dX7_obeyGroup_158 : decode cX7_obeyGroup 158 = .ok (.aload_n 0, 1) := by decide +kernel
theorem dX7_obeyGroup_159 : decode cX7_obeyGroup 159 = .ok (.getfield 23, 3) := by decide +kernel
theorem dX7_obeyGroup_162 : decode cX7_obeyGroup 162 = .ok (.iload_n 1, 1) := by decide +kernel
theorem dX7_obeyGroup_163 : decode cX7_obeyGroup 163 = .ok (.sipush 1000, 3) := by decide +kernel
theorem dX7_obeyGroup_166 : decode cX7_obeyGroup 166 = .ok (.idiv, 1) := by decide +kernel
theorem dX7_obeyGroup_167 : decode cX7_obeyGroup 167 = .ok (.bipush 10, 2) := by decide +kernel
theorem dX7_obeyGroup_169 : decode cX7_obeyGroup 169 = .ok (.irem, 1) := by decide +kernel
theorem dX7_obeyGroup_170 : decode cX7_obeyGroup 170 = .ok (.invokevirtual 241, 3) := by decide +kernel
theorem dX7_obeyGroup_173 : decode cX7_obeyGroup 173 = .ok (.ifCond .eq 7, 3) := by decide +kernel
theorem dX7_obeyGroup_176 : decode cX7_obeyGroup 176 = .ok (.iconst 1, 1) := by decide +kernel
theorem dX7_obeyGroup_177 : decode cX7_obeyGroup 177 = .ok (.goto 4, 3) := by decide +kernel
theorem dX7_obeyGroup_180 : decode cX7_obeyGroup 180 = .ok (.iconst 0, 1) := by decide +kernel
theorem dX7_obeyGroup_181 : decode cX7_obeyGroup 181 = .ok (.ireturn, 1) := by decide +kernel
theorem dX7_obeyGroup_182 : decode cX7_obeyGroup 182 = .ok (.iload_n 1, 1) := by decide +kernel
theorem dX7_obeyGroup_183 : decode cX7_obeyGroup 183 = .ok (.sipush 10000, 3) := by decide +kernel
theorem dX7_obeyGroup_186 : decode cX7_obeyGroup 186 = .ok (.irem, 1) := by decide +kernel
theorem dX7_obeyGroup_187 : decode cX7_obeyGroup 187 = .ok (.ifCond .ne 17, 3) := by decide +kernel
theorem dX7_obeyGroup_190 : decode cX7_obeyGroup 190 = .ok (.aload_n 0, 1) := by decide +kernel
theorem dX7_obeyGroup_191 : decode cX7_obeyGroup 191 = .ok (.getfield 23, 3) := by decide +kernel
theorem dX7_obeyGroup_194 : decode cX7_obeyGroup 194 = .ok (.invokevirtual 246, 3) := by decide +kernel
theorem dX7_obeyGroup_197 : decode cX7_obeyGroup 197 = .ok (.ifCond .eq 7, 3) := by decide +kernel
theorem dX7_obeyGroup_200 : decode cX7_obeyGroup 200 = .ok (.iconst 1, 1) := by decide +kernel
theorem dX7_obeyGroup_201 : decode cX7_obeyGroup 201 = .ok (.goto 4, 3) := by decide +kernel
theorem dX7_obeyGroup_204 : decode cX7_obeyGroup 204 = .ok (.iconst 0, 1) := by decide +kernel
theorem dX7_obeyGroup_205 : decode cX7_obeyGroup 205 = .ok (.ireturn, 1) := by decide +kernel
theorem dX7_obeyGroup_206 : decode cX7_obeyGroup 206 = .ok (.iload_n 2, 1) := by decide +kernel
theorem dX7_obeyGroup_207 : decode cX7_obeyGroup 207 = .ok (.ifCond .ne 21, 3) := by decide +kernel
theorem dX7_obeyGroup_210 : decode cX7_obeyGroup 210 = .ok (.aload_n 0, 1) := by decide +kernel
theorem dX7_obeyGroup_211 : decode cX7_obeyGroup 211 = .ok (.getfield 23, 3) := by decide +kernel
theorem dX7_obeyGroup_214 : decode cX7_obeyGroup 214 = .ok (.getfield 149, 3) := by decide +kernel
theorem dX7_obeyGroup_217 : decode cX7_obeyGroup 217 = .ok (.invokevirtual 153, 3) := by decide +kernel
theorem dX7_obeyGroup_220 : decode cX7_obeyGroup 220 = .ok (.iload_n 3, 1) := by decide +kernel
theorem dX7_obeyGroup_221 : decode cX7_obeyGroup 221 = .ok (.if_icmp .gt 7, 3) := by decide +kernel
theorem dX7_obeyGroup_224 : decode cX7_obeyGroup 224 = .ok (.iconst 1, 1) := by decide +kernel
theorem dX7_obeyGroup_225 : decode cX7_obeyGroup 225 = .ok (.goto 4, 3) := by decide +kernel
theorem dX7_obeyGroup_228 : decode cX7_obeyGroup 228 = .ok (.iconst 0, 1) := by decide +kernel
theorem dX7_obeyGroup_229 : decode cX7_obeyGroup 229 = .ok (.ireturn, 1) := by decide +kernel
theorem dX7_obeyGroup_230 : decode cX7_obeyGroup 230 = .ok (.iload_n 3, 1) := by decide +kernel
theorem dX7_obeyGroup_231 : decode cX7_obeyGroup 231 = .ok (.bipush 9, 2) := by decide +kernel
theorem dX7_obeyGroup_233 : decode cX7_obeyGroup 233 = .ok (.if_icmp .gt 34, 3) := by decide +kernel
theorem dX7_obeyGroup_236 : decode cX7_obeyGroup 236 = .ok (.aload_n 0, 1) := by decide +kernel
theorem dX7_obeyGroup_237 : decode cX7_obeyGroup 237 = .ok (.getfield 23, 3) := by decide +kernel
theorem dX7_obeyGroup_240 : decode cX7_obeyGroup 240 = .ok (.iload_n 2, 1) := by decide +kernel
theorem dX7_obeyGroup_241 : decode cX7_obeyGroup 241 = .ok (.invokevirtual 178, 3) := by decide +kernel
theorem dX7_obeyGroup_244 : decode cX7_obeyGroup 244 = .ok (.ifCond .eq 23, 3) := by decide +kernel
theorem dX7_obeyGroup_247 : decode cX7_obeyGroup 247 = .ok (.aload_n 0, 1) := by decide +kernel
theorem dX7_obeyGroup_248 : decode cX7_obeyGroup 248 = .ok (.getfield 23, 3) := by decide +kernel
theorem dX7_obeyGroup_251 : decode cX7_obeyGroup 251 = .ok (.getfield 149, 3) := by decide +kernel
theorem dX7_obeyGroup_254 : decode cX7_obeyGroup 254 = .ok (.iload_n 2, 1) := by decide +kernel
theorem dX7_obeyGroup_255 : decode cX7_obeyGroup 255 = .ok (.invokevirtual 187, 3) := by decide +kernel
theorem dX7_obeyGroup_258 : decode cX7_obeyGroup 258 = .ok (.iload 4, 2) := by decide +kernel
theorem dX7_obeyGroup_260 : decode cX7_obeyGroup 260 = .ok (.if_icmp .ne 7, 3) := by decide +kernel
theorem dX7_obeyGroup_263 : decode cX7_obeyGroup 263 = .ok (.iconst 1, 1) := by decide +kernel
theorem dX7_obeyGroup_264 : decode cX7_obeyGroup 264 = .ok (.goto 4, 3) := by decide +kernel
theorem dX7_obeyGroup_267 : decode cX7_obeyGroup 267 = .ok (.iconst 0, 1) := by decide +kernel
theorem dX7_obeyGroup_268 : decode cX7_obeyGroup 268 = .ok (.ireturn, 1) := by decide +kernel
theorem dX7_obeyGroup_269 : decode cX7_obeyGroup 269 = .ok (.iload_n 1, 1) := by decide +kernel
theorem dX7_obeyGroup_270 : decode cX7_obeyGroup 270 = .ok (.sipush 10000, 3) := by decide +kernel
theorem dX7_obeyGroup_273 : decode cX7_obeyGroup 273 = .ok (.irem, 1) := by decide +kernel
theorem dX7_obeyGroup_274 : decode cX7_obeyGroup 274 = .ok (.bipush 9, 2) := by decide +kernel
theorem dX7_obeyGroup_276 : decode cX7_obeyGroup 276 = .ok (.if_icmp .gt 22, 3) := by decide +kernel
theorem dX7_obeyGroup_279 : decode cX7_obeyGroup 279 = .ok (.aload_n 0, 1) := by decide +kernel
theorem dX7_obeyGroup_280 : decode cX7_obeyGroup 280 = .ok (.getfield 23, 3) := by decide +kernel
theorem dX7_obeyGroup_283 : decode cX7_obeyGroup 283 = .ok (.getfield 149, 3) := by decide +kernel
theorem dX7_obeyGroup_286 : decode cX7_obeyGroup 286 = .ok (.invokevirtual 191, 3) := by decide +kernel
theorem dX7_obeyGroup_289 : decode cX7_obeyGroup 289 = .ok (.iload 4, 2) := by decide +kernel
theorem dX7_obeyGroup_291 : decode cX7_obeyGroup 291 = .ok (.if_icmp .ne 7, 3) := by decide +kernel
theorem dX7_obeyGroup_294 : decode cX7_obeyGroup 294 = .ok (.iconst 1, 1) := by decide +kernel
theorem dX7_obeyGroup_295 : decode cX7_obeyGroup 295 = .ok (.goto 4, 3) := by decide +kernel
theorem dX7_obeyGroup_298 : decode cX7_obeyGroup 298 = .ok (.iconst 0, 1) := by decide +kernel
theorem dX7_obeyGroup_299 : decode cX7_obeyGroup 299 = .ok (.ireturn, 1) := by decide +kernel
theorem dX7_obeyGroup_300 : decode cX7_obeyGroup 300 = .ok (.iload_n 1, 1) := by decide +kernel
theorem dX7_obeyGroup_301 : decode cX7_obeyGroup 301 = .ok (.sipush 10000, 3) := by decide +kernel
theorem dX7_obeyGroup_304 : decode cX7_obeyGroup 304 = .ok (.irem, 1) := by decide +kernel
theorem dX7_obeyGroup_305 : decode cX7_obeyGroup 305 = .ok (.bipush 9, 2) := by decide +kernel
theorem dX7_obeyGroup_307 : decode cX7_obeyGroup 307 = .ok (.if_icmp .gt 25, 3) := by decide +kernel
theorem dX7_obeyGroup_310 : decode cX7_obeyGroup 310 = .ok (.aload_n 0, 1) := by decide +kernel
theorem dX7_obeyGroup_311 : decode cX7_obeyGroup 311 = .ok (.getfield 23, 3) := by decide +kernel
theorem dX7_obeyGroup_314 : decode cX7_obeyGroup 314 = .ok (.getfield 149, 3) := by decide +kernel
theorem dX7_obeyGroup_317 : decode cX7_obeyGroup 317 = .ok (.invokevirtual 153, 3) := by decide +kernel
theorem dX7_obeyGroup_320 : decode cX7_obeyGroup 320 = .ok (.invokestatic 275, 3) := by decide +kernel
theorem dX7_obeyGroup_323 : decode cX7_obeyGroup 323 = .ok (.iload 4, 2) := by decide +kernel
theorem dX7_obeyGroup_325 : decode cX7_obeyGroup 325 = .ok (.if_icmp .gt 7, 3) := by decide +kernel
theorem dX7_obeyGroup_328 : decode cX7_obeyGroup 328 = .ok (.iconst 1, 1) := by decide +kernel
theorem dX7_obeyGroup_329 : decode cX7_obeyGroup 329 = .ok (.goto 4, 3) := by decide +kernel
theorem dX7_obeyGroup_332 : decode cX7_obeyGroup 332 = .ok (.iconst 0, 1) := by decide +kernel
theorem dX7_obeyGroup_333 : decode cX7_obeyGroup 333 = .ok (.ireturn, 1) := by decide +kernel
theorem dX7_obeyGroup_334 : decode cX7_obeyGroup 334 = .ok (.iconst 0, 1) := by decide +kernel
theorem dX7_obeyGroup_335 : decode cX7_obeyGroup 335 = .ok (.ireturn, 1) := by decide +kernel
set_option maxRecDepth 20000 in
theorem ggX7_tryCoins_X4_hasCoin : GoodIn wsX7_tryCoins wsX4_hasCoin := goodIn_r _ [6, 7, 80, 81, 82, 83, 84, 85, 86, 87, 88, 89] (by decide +kernel) (by decide +kernel)
