set_option maxRecDepth 20000 in
theorem gL_isLeft_X7_isLeft : GoodIn wsL_isLeft (wsV RL 29 RX7 yX7_isLeft wsX7_isLeft) := goodIn_app (goodIn_of _ (by decide +kernel)) ggL_isLeft_X7_isLeft
theorem dL_isLeft_0 : decode cL_isLeft 0 = .ok (.aload_n 2, 1) := by decide +kernel
theorem dL_isLeft_1 : decode cL_isLeft 1 = .ok (.iconst 0, 1) := by decide +kernel
theorem dL_isLeft_2 : decode cL_isLeft 2 = .ok (.aload_n 0, 1) := by decide +kernel
theorem dL_isLeft_3 : decode cL_isLeft 3 = .ok (.iload_n 1, 1) := by decide +kernel
theorem dL_isLeft_4 : decode cL_isLeft 4 = .ok (.invokevirtual 29, 3) := by decide +kernel
theorem dL_isLeft_7 : decode cL_isLeft 7 = .ok (.i2l, 1) := by decide +kernel
theorem dL_isLeft_8 : decode cL_isLeft 8 = .ok (.lastore, 1) := by decide +kernel
theorem dL_isLeft_9 : decode cL_isLeft 9 = .ok (.goto 6, 3) := by decide +kernel
theorem dL_isLeft_12 : decode cL_isLeft 12 = .ok (.astore_n 3, 1) := by decide +kernel
theorem dL_isLeft_13 : decode cL_isLeft 13 = .ok (.iconst 1, 1) := by decide +kernel
theorem dL_isLeft_14 : decode cL_isLeft 14 = .ok (.ireturn, 1) := by decide +kernel
theorem dL_isLeft_15 : decode cL_isLeft 15 = .ok (.iconst 0, 1) := by decide +kernel
theorem dL_isLeft_16 : decode cL_isLeft 16 = .ok (.ireturn, 1) := by decide +kernel
set_option maxRecDepth 20000 in
theorem ggL_weighing_X7_weighing : GoodIn wsL_weighing wsX7_weighing := goodIn_ca (goodIn_ca (goodIn_r _ [7, 8, 9, 10, 11, 12, 13, 14, 15, 16, 17, 18, 19, 20, 21, 22, 23, 24, 25, 26, 27, 28, 29, 30, 31, 32, 33, 34, 35, 36, 37, 38] (by decide +kernel) (by decide +kernel)) (goodIn_sub (fun _ h => List.mem_cons_of_mem _ (List.mem_append_left _ (List.mem_append_right _ h))) (by decide +kernel))) (goodIn_sub (fun _ h => List.mem_cons_of_mem _ (List.mem_append_right _ h)) (by decide +kernel))
set_option maxRecDepth 20000 in
theorem gL_weighing_X7_weighing : GoodIn wsL_weighing (wsV RL 32 RX7 yX7_weighing wsX7_weighing) := goodIn_app (goodIn_of _ (by decide +kernel)) ggL_weighing_X7_weighing
theorem dL_weighing_0 : decode cL_weighing 0 = .ok (.aload_n 3, 1) := by decide +kernel
theorem dL_weighing_1 : decode cL_weighing 1 = .ok (.iconst 0, 1) := by decide +kernel
theorem dL_weighing_2 : decode cL_weighing 2 = .ok (.aload_n 0, 1) := by decide +kernel
theorem dL_weighing_3 : decode cL_weighing 3 = .ok (.iload_n 1, 1) := by decide +kernel
theorem dL_weighing_4 : decode cL_weighing 4 = .ok (.iload_n 2, 1) := by decide +kernel
theorem dL_weighing_5 : decode cL_weighing 5 = .ok (.invokevirtual 32, 3) := by decide +kernel
theorem dL_weighing_8 : decode cL_weighing 8 = .ok (.i2l, 1) := by decide +kernel
theorem dL_weighing_9 : decode cL_weighing 9 = .ok (.lastore, 1) := by decide +kernel
theorem dL_weighing_10 : decode cL_weighing 10 = .ok (.goto 11, 3) := by decide +kernel
theorem dL_weighing_13 : decode cL_weighing 13 = .ok (.astore 4, 2) := by decide +kernel
theorem dL_weighing_15 : decode cL_weighing 15 = .ok (.iconst 1, 1) := by decide +kernel
theorem dL_weighing_16 : decode cL_weighing 16 = .ok (.ireturn, 1) := by decide +kernel
theorem dL_weighing_17 : decode cL_weighing 17 = .ok (.astore 4, 2) := by decide +kernel
theorem dL_weighing_19 : decode cL_weighing 19 = .ok (.iconst 2, 1) := by decide +kernel
theorem dL_weighing_20 : decode cL_weighing 20 = .ok (.ireturn, 1) := by decide +kernel
theorem dL_weighing_21 : decode cL_weighing 21 = .ok (.iconst 0, 1) := by decide +kernel
theorem dL_weighing_22 : decode cL_weighing 22 = .ok (.ireturn, 1) := by decide +kernel
set_option maxRecDepth 20000 in
theorem ggL_hide_X7_hide : GoodIn wsL_hide wsX7_hide := goodIn_ca (goodIn_ca (goodIn_r _ [7, 8, 9, 10, 11, 12, 13, 14, 15, 6, 16, 17, 18, 19, 20, 21, 22, 23, 24, 25, 26, 27, 28, 29, 30, 31, 32, 33, 34, 35, 36, 37, 38, 39, 40, 41, 42, 43, 44, 45, 46, 47, 48, 49, 50, 51, 52, 53, 54, 55, 56, 57, 58, 59, 60, 61, 62, 63, 64, 65, 66, 67, 68, 69, 70, 71, 72, 73, 74, 75, 76, 77, 78, 79, 80, 81, 82, 83, 84, 85, 86, 87] (by decide +kernel) (by decide +kernel)) (goodIn_sub (fun _ h => List.mem_cons_of_mem _ (List.mem_append_left _ (List.mem_append_right _ h))) (by decide +kernel))) (goodIn_sub (fun _ h => List.mem_cons_of_mem _ (List.mem_append_right _ h)) (by decide +kernel))
set_option maxRecDepth 20000 in
theorem gL_hide_X7_hide : GoodIn wsL_hide (wsV RL 36 RX7 yX7_hide wsX7_hide) := goodIn_app (goodIn_of _ (by decide +kernel)) ggL_hide_X7_hide
theorem dL_hide_0 : decode cL_hide 0 = .ok (.aload_n 3, 1) := by decide +kernel
theorem dL_hide_1 : decode cL_hide 1 = .ok (.iconst 0, 1) := by decide +kernel
theorem dL_hide_2 : decode cL_hide 2 = .ok (.aload_n 0, 1) := by decide +kernel
theorem dL_hide_3 : decode cL_hide 3 = .ok (.iload_n 1, 1) := by decide +kernel
theorem dL_hide_4 : decode cL_hide 4 = .ok (.iload_n 2, 1) := by decide +kernel
theorem dL_hide_5 : decode cL_hide 5 = .ok (.invokevirtual 36, 3) := by decide +kernel
theorem dL_hide_8 : decode cL_hide 8 = .ok (.i2l, 1) := by decide +kernel
theorem dL_hide_9 : decode cL_hide 9 = .ok (.lastore, 1) := by decide +kernel
theorem dL_hide_10 : decode cL_hide 10 = .ok (.goto 11, 3) := by decide +kernel
theorem dL_hide_13 : decode cL_hide 13 = .ok (.astore 4, 2) := by decide +kernel
theorem dL_hide_15 : decode cL_hide 15 = .ok (.iconst 1, 1) := by decide +kernel
theorem dL_hide_16 : decode cL_hide 16 = .ok (.ireturn, 1) := by decide +kernel
theorem dL_hide_17 : decode cL_hide 17 = .ok (.astore 4, 2) := by decide +kernel
theorem dL_hide_19 : decode cL_hide 19 = .ok (.iconst 2, 1) := by decide +kernel
theorem dL_hide_20 : decode cL_hide 20 = .ok (.ireturn, 1) := by decide +kernel
theorem dL_hide_21 : decode cL_hide 21 = .ok (.iconst 0, 1) := by decide +kernel
theorem dL_hide_22 : decode cL_hide 22 = .ok (.ireturn, 1) := by decide +kernel
set_option maxRecDepth 20000 in
theorem ggL_arms_X7_arms : GoodIn wsL_arms wsX7_arms := goodIn_ca (goodIn_r _ [6, 7, 8, 9, 10, 11, 12, 5, 13, 14, 15, 16, 17, 18, 19, 20, 21, 22, 23, 24, 25, 26, 27, 28, 29, 30, 31, 32, 33, 34, 35, 36, 37, 38, 39, 40, 41, 42, 43, 44, 45, 46, 47, 48, 49, 50, 51, 52, 53, 54, 55, 56, 57, 58, 59, 60, 61, 62, 63, 64, 65, 66, 67, 68, 69, 70, 71, 72, 73, 74, 75, 76] (by decide +kernel) (by decide +kernel)) (goodIn_sub (fun _ h => List.mem_cons_of_mem _ (List.mem_append_right _ h)) (by decide +kernel))
set_option maxRecDepth 20000 in
theorem gL_arms_X7_arms : GoodIn wsL_arms (wsV RL 39 RX7 yX7_arms wsX7_arms) := goodIn_app (goodIn_of _ (by decide +kernel)) ggL_arms_X7_arms
theorem dL_arms_0 : decode cL_arms 0 = .ok (.aload_n 3, 1) := by decide +kernel
theorem dL_arms_1 : decode cL_arms 1 = .ok (.iconst 0, 1) := by decide +kernel
theorem dL_arms_2 : decode cL_arms 2 = .ok (.aload_n 0, 1) := by decide +kernel
theorem dL_arms_3 : decode cL_arms 3 = .ok (.iload_n 1, 1) := by decide +kernel
theorem dL_arms_4 : decode cL_arms 4 = .ok (.iload_n 2, 1) := by decide +kernel
theorem dL_arms_5 : decode cL_arms 5 = .ok (.invokevirtual 39, 3) := by decide +kernel
theorem dL_arms_8 : decode cL_arms 8 = .ok (.i2l, 1) := by decide +kernel
theorem dL_arms_9 : decode cL_arms 9 = .ok (.lastore, 1) := by decide +kernel
theorem dL_arms_10 : decode cL_arms 10 = .ok (.goto 7, 3) := by decide +kernel
theorem dL_arms_13 : decode cL_arms 13 = .ok (.astore 4, 2) := by decide +kernel
theorem dL_arms_15 : decode cL_arms 15 = .ok (.iconst 1, 1) := by decide +kernel
theorem dL_arms_16 : decode cL_arms 16 = .ok (.ireturn, 1) := by decide +kernel
theorem dL_arms_17 : decode cL_arms 17 = .ok (.iconst 0, 1) := by decide +kernel
theorem dL_arms_18 : decode cL_arms 18 = .ok (.ireturn, 1) := by decide +kernel
set_option maxRecDepth 20000 in
theorem ggL_weigh_X7_weigh : GoodIn wsL_weigh wsX7_weigh := goodIn_ca (goodIn_ca (goodIn_r _ [7, 8, 9, 10, 11, 12, 13, 14, 6, 15, 16, 17, 18, 19, 20, 21, 22, 23, 24, 25, 26, 27, 28, 29, 30, 31, 32, 33, 34, 35, 36, 37, 38, 39, 40, 41, 42, 43, 44, 45, 46, 47, 48, 49, 50, 51, 52, 53, 54, 55, 56, 57, 58, 59, 60, 61, 62, 63, 64, 65, 66, 67, 68, 69, 70, 71, 72, 73, 74, 75, 76, 77, 78, 79, 80, 81, 82, 83, 84, 85, 86, 87, 88, 89, 90, 91, 92, 93, 94, 95, 96, 97, 98, 99, 100, 101, 102, 103, 104, 105, 106, 107, 108, 109, 110, 111, 112, 113, 114, 115, 116, 117, 118, 119, 120, 121, 122, 123, 124, 125, 126, 127, 128, 129, 130, 131, 132, 133, 134, 135, 136, 137, 138, 139, 140, 141, 142, 143, 144, 145, 146, 147] (by decide +kernel) (by decide +kernel)) (goodIn_sub (fun _ h => List.mem_cons_of_mem _ (List.mem_append_left _ (List.mem_append_right _ h))) (by decide +kernel))) (goodIn_sub (fun _ h => List.mem_cons_of_mem _ (List.mem_append_right _ h)) (by decide +kernel))
set_option maxRecDepth 20000 in
theorem gL_weigh_X7_weigh : GoodIn wsL_weigh (wsV RL 42 RX7 yX7_weigh wsX7_weigh) := goodIn_app (goodIn_of _ (by decide +kernel)) ggL_weigh_X7_weigh
theorem dL_weigh_0 : decode cL_weigh 0 = .ok (.aload_n 3, 1) := by decide +kernel
theorem dL_weigh_1 : decode cL_weigh 1 = .ok (.iconst 0, 1) := by decide +kernel
theorem dL_weigh_2 : decode cL_weigh 2 = .ok (.aload_n 0, 1) := by decide +kernel
theorem dL_weigh_3 : decode cL_weigh 3 = .ok (.iload_n 1, 1) := by decide +kernel
theorem dL_weigh_4 : decode cL_weigh 4 = .ok (.iload_n 2, 1) := by decide +kernel
theorem dL_weigh_5 : decode cL_weigh 5 = .ok (.invokevirtual 42, 3) := by decide +kernel
theorem dL_weigh_8 : decode cL_weigh 8 = .ok (.i2l, 1) := by decide +kernel
theorem dL_weigh_9 : decode cL_weigh 9 = .ok (.lastore, 1) := by decide +kernel
theorem dL_weigh_10 : decode cL_weigh 10 = .ok (.goto 11, 3) := by decide +kernel
theorem dL_weigh_13 : decode cL_weigh 13 = .ok (.astore 4, 2) := by decide +kernel
theorem dL_weigh_15 : decode cL_weigh 15 = .ok (.iconst 1, 1) := by decide +kernel
theorem dL_weigh_16 : decode cL_weigh 16 = .ok (.ireturn, 1) := by decide +kernel
theorem dL_weigh_17 : decode cL_weigh 17 = .ok (.astore 4, 2) := by decide +kernel
theorem dL_weigh_19 : decode cL_weigh 19 = .ok (.iconst 2, 1) := by decide +kernel
theorem dL_weigh_20 : decode cL_weigh 20 = .ok (.ireturn, 1) := by decide +kernel
theorem dL_weigh_21 : decode cL_weigh 21 = .ok (.iconst 0, 1) := by decide +kernel
theorem dL_weigh_22 : decode cL_weigh 22 = .ok (.ireturn, 1) := by decide +kernel
set_option maxRecDepth 20000 in
theorem ggL_accuse_X7_accuse : GoodIn wsL_accuse wsX7_accuse := goodIn_ca (goodIn_r _ [6, 7, 8, 9, 10, 11, 12, 13, 14, 15, 16, 17, 18, 19, 20, 21, 22, 23, 24, 25, 26, 27, 28, 29, 30, 31, 32, 33, 34, 35, 36, 37, 38, 39, 40, 41, 42, 43, 44, 45, 46, 47, 48, 49, 50, 51, 52, 53, 54, 55, 56, 57, 58, 59, 60, 61, 62, 63, 64, 65, 66, 67, 68, 69, 70, 71, 72, 73, 74, 75, 76, 77, 78, 79, 80, 81] (by decide +kernel) (by decide +kernel)) (goodIn_sub (fun _ h => List.mem_cons_of_mem _ (List.mem_append_right _ h)) (by decide +kernel))
set_option maxRecDepth 20000 in
theorem gL_accuse_X7_accuse : GoodIn wsL_accuse (wsV RL 45 RX7 yX7_accuse wsX7_accuse) := goodIn_app (goodIn_of _ (by decide +kernel)) ggL_accuse_X7_accuse
theorem dL_accuse_0 : decode cL_accuse 0 = .ok (.aload_n 3, 1) := by decide +kernel
theorem dL_accuse_1 : decode cL_accuse 1 = .ok (.iconst 0, 1) := by decide +kernel
theorem dL_accuse_2 : decode cL_accuse 2 = .ok (.aload_n 0, 1) := by decide +kernel
theorem dL_accuse_3 : decode cL_accuse 3 = .ok (.iload_n 1, 1) := by decide +kernel
theorem dL_accuse_4 : decode cL_accuse 4 = .ok (.iload_n 2, 1) := by decide +kernel
theorem dL_accuse_5 : decode cL_accuse 5 = .ok (.invokevirtual 45, 3) := by decide +kernel
theorem dL_accuse_8 : decode cL_accuse 8 = .ok (.i2l, 1) := by decide +kernel
theorem dL_accuse_9 : decode cL_accuse 9 = .ok (.lastore, 1) := by decide +kernel
theorem dL_accuse_10 : decode cL_accuse 10 = .ok (.goto 7, 3) := by decide +kernel
theorem dL_accuse_13 : decode cL_accuse 13 = .ok (.astore 4, 2) := by decide +kernel
theorem dL_accuse_15 : decode cL_accuse 15 = .ok (.iconst 1, 1) := by decide +kernel
theorem dL_accuse_16 : decode cL_accuse 16 = .ok (.ireturn, 1) := by decide +kernel
theorem dL_accuse_17 : decode cL_accuse 17 = .ok (.iconst 0, 1) := by decide +kernel
theorem dL_accuse_18 : decode cL_accuse 18 = .ok (.ireturn, 1) := by decide +kernel
set_option maxRecDepth 20000 in
theorem ggL_accusePan_X7_accusePan : GoodIn wsL_accusePan wsX7_accusePan := goodIn_ca (goodIn_r _ [6, 7, 8, 9, 10, 11, 12, 5, 13, 14, 15, 16, 17, 18, 19, 20, 21, 22, 23, 24, 25, 26, 27, 28, 29, 30, 31, 32, 33, 34, 35, 36, 37, 38, 39, 40, 41, 42, 43, 44, 45, 46, 47, 48, 49, 50, 51, 52, 53, 54, 55, 56, 57, 58, 59, 60, 61, 62, 63, 64, 65, 66, 67, 68, 69, 70, 71, 72, 73, 74, 75, 76, 77, 78, 79, 80] (by decide +kernel) (by decide +kernel)) (goodIn_sub (fun _ h => List.mem_cons_of_mem _ (List.mem_append_right _ h)) (by decide +kernel))
set_option maxRecDepth 20000 in
theorem gL_accusePan_X7_accusePan : GoodIn wsL_accusePan (wsV RL 49 RX7 yX7_accusePan wsX7_accusePan) := goodIn_app (goodIn_of _ (by decide +kernel)) ggL_accusePan_X7_accusePan
theorem dL_accusePan_0 : decode cL_accusePan 0 = .ok (.aload_n 2, 1) := by decide +kernel
theorem dL_accusePan_1 : decode cL_accusePan 1 = .ok (.iconst 0, 1) := by decide +kernel
theorem dL_accusePan_2 : decode cL_accusePan 2 = .ok (.aload_n 0, 1) := by decide +kernel
theorem dL_accusePan_3 : decode cL_accusePan 3 = .ok (.iload_n 1, 1) := by decide +kernel
theorem dL_accusePan_4 : decode cL_accusePan 4 = .ok (.invokevirtual 49, 3) := by decide +kernel
theorem dL_accusePan_7 : decode cL_accusePan 7 = .ok (.i2l, 1) := by decide +kernel
theorem dL_accusePan_8 : decode cL_accusePan 8 = .ok (.lastore, 1) := by decide +kernel
theorem dL_accusePan_9 : decode cL_accusePan 9 = .ok (.goto 6, 3) := by decide +kernel
theorem dL_accusePan_12 : decode cL_accusePan 12 = .ok (.astore_n 3, 1) := by decide +kernel
theorem dL_accusePan_13 : decode cL_accusePan 13 = .ok (.iconst 1, 1) := by decide +kernel
theorem dL_accusePan_14 : decode cL_accusePan 14 = .ok (.ireturn, 1) := by decide +kernel
theorem dL_accusePan_15 : decode cL_accusePan 15 = .ok (.iconst 0, 1) := by decide +kernel
theorem dL_accusePan_16 : decode cL_accusePan 16 = .ok (.ireturn, 1) := by decide +kernel
set_option maxRecDepth 20000 in
theorem ggL_forget_X7_forget : GoodIn wsL_forget wsX7_forget := goodIn_ca (goodIn_r _ [6, 7, 8, 9, 10, 11, 12, 13, 14, 15, 16, 17, 18, 19, 20, 21, 22, 23, 24, 25, 26, 27, 28, 29, 30, 31, 32, 33, 34, 35, 36, 37, 38, 39, 40, 41, 42, 43, 44, 45, 46, 47, 48, 49, 50, 51, 52, 53, 54, 55, 56, 57, 58, 59, 60, 61, 62, 63, 64, 65, 66, 67, 68, 69, 70, 71, 72, 73, 74, 75, 76, 77, 78, 79, 80, 81, 82, 83, 84, 85, 86, 87, 88, 89, 90, 91, 92, 93, 94, 95, 96, 97, 98, 99, 100, 101, 102, 103, 104, 105, 106, 107, 108, 109, 110, 111, 112, 113, 114, 115, 116, 117] (by decide +kernel) (by decide +kernel)) (goodIn_sub (fun _ h => List.mem_cons_of_mem _ (List.mem_append_right _ h)) (by decide +kernel))
set_option maxRecDepth 20000 in
theorem gL_forget_X7_forget : GoodIn wsL_forget (wsV RL 52 RX7 yX7_forget wsX7_forget) := goodIn_app (goodIn_of _ (by decide +kernel)) ggL_forget_X7_forget
theorem dL_forget_0 : decode cL_forget 0 = .ok (.aload_n 1, 1) := by decide +kernel
theorem dL_forget_1 : decode cL_forget 1 = .ok (.iconst 0, 1) := by decide +kernel
theorem dL_forget_2 : decode cL_forget 2 = .ok (.aload_n 0, 1) := by decide +kernel
theorem dL_forget_3 : decode cL_forget 3 = .ok (.invokevirtual 52, 3) := by decide +kernel
theorem dL_forget_6 : decode cL_forget 6 = .ok (.i2l, 1) := by decide +kernel
theorem dL_forget_7 : decode cL_forget 7 = .ok (.lastore, 1) := by decide +kernel
theorem dL_forget_8 : decode cL_forget 8 = .ok (.goto 6, 3) := by decide +kernel
theorem dL_forget_11 : decode cL_forget 11 = .ok (.astore_n 2, 1) := by decide +kernel
theorem dL_forget_12 : decode cL_forget 12 = .ok (.iconst 1, 1) := by decide +kernel
theorem dL_forget_13 : decode cL_forget 13 = .ok (.ireturn, 1) := by decide +kernel
theorem dL_forget_14 : decode cL_forget 14 = .ok (.iconst 0, 1) := by decide +kernel
theorem dL_forget_15 : decode cL_forget 15 = .ok (.ireturn, 1) := by decide +kernel
set_option maxRecDepth 20000 in
theorem ggL_undo_X7_undo : GoodIn wsL_undo wsX7_undo := goodIn_ca (goodIn_r _ [6, 7, 8, 9, 10, 11, 12, 13, 14, 15, 16, 17, 18, 19, 20, 21, 22, 23, 24, 25, 26, 27, 28, 29, 30, 31, 32, 33, 34, 35, 36, 37, 38, 39, 40, 41, 42, 43, 44, 45, 46, 47, 48, 49, 50, 51, 52, 53, 54, 55, 56, 57, 58, 59, 60, 61, 62, 63, 64, 65, 66] (by decide +kernel) (by decide +kernel)) (goodIn_sub (fun _ h => List.mem_cons_of_mem _ (List.mem_append_right _ h)) (by decide +kernel))
set_option maxRecDepth 20000 in
theorem gL_undo_X7_undo : GoodIn wsL_undo (wsV RL 55 RX7 yX7_undo wsX7_undo) := goodIn_app (goodIn_of _ (by decide +kernel)) ggL_undo_X7_undo
theorem dL_undo_0 : decode cL_undo 0 = .ok (.aload_n 1, 1) := by decide +kernel
theorem dL_undo_1 : decode cL_undo 1 = .ok (.iconst 0, 1) := by decide +kernel
theorem dL_undo_2 : decode cL_undo 2 = .ok (.aload_n 0, 1) := by decide +kernel
theorem dL_undo_3 : decode cL_undo 3 = .ok (.invokevirtual 55, 3) := by decide +kernel
theorem dL_undo_6 : decode cL_undo 6 = .ok (.i2l, 1) := by decide +kernel
theorem dL_undo_7 : decode cL_undo 7 = .ok (.lastore, 1) := by decide +kernel
theorem dL_undo_8 : decode cL_undo 8 = .ok (.goto 6, 3) := by decide +kernel
theorem dL_undo_11 : decode cL_undo 11 = .ok (.astore_n 2, 1) := by decide +kernel
theorem dL_undo_12 : decode cL_undo 12 = .ok (.iconst 1, 1) := by decide +kernel
theorem dL_undo_13 : decode cL_undo 13 = .ok (.ireturn, 1) := by decide +kernel
theorem dL_undo_14 : decode cL_undo 14 = .ok (.iconst 0, 1) := by decide +kernel
theorem dL_undo_15 : decode cL_undo 15 = .ok (.ireturn, 1) := by decide +kernel
set_option maxRecDepth 20000 in
theorem ggL_leaves_X7_leaves : GoodIn wsL_leaves wsX7_leaves := goodIn_ca (goodIn_ca (goodIn_r _ [7, 8, 9, 10, 11, 12, 13, 14, 6, 15, 16, 17, 18, 19, 20, 21, 22, 23, 24, 25, 26, 27, 28, 29, 30, 31, 32, 33, 34, 35, 36, 37, 38, 39, 40, 41, 42, 43, 44, 45, 46, 47, 48, 49, 50, 51, 52, 53, 54, 55, 56, 57, 58, 59, 60, 61, 62, 63, 64, 65, 66, 67, 68, 69, 70, 71, 72, 73, 74, 75, 76, 77, 78, 79, 80, 81, 82, 83, 84, 85, 86, 87, 88, 89, 90, 91, 92, 93, 94, 95, 96, 97, 98, 99, 100, 101, 102, 103, 104, 105, 106, 107, 108, 109, 110, 111] (by decide +kernel) (by decide +kernel)) (goodIn_sub (fun _ h => List.mem_cons_of_mem _ (List.mem_append_left _ (List.mem_append_right _ h))) (by decide +kernel))) (goodIn_sub (fun _ h => List.mem_cons_of_mem _ (List.mem_append_right _ h)) (by decide +kernel))
set_option maxRecDepth 20000 in
theorem gL_leaves_X7_leaves : GoodIn wsL_leaves (wsV RL 58 RX7 yX7_leaves wsX7_leaves) := goodIn_app (goodIn_of _ (by decide +kernel)) ggL_leaves_X7_leaves
theorem dL_leaves_0 : decode cL_leaves 0 = .ok (.aload 4, 2) := by decide +kernel
theorem dL_leaves_2 : decode cL_leaves 2 = .ok (.iconst 0, 1) := by decide +kernel
theorem dL_leaves_3 : decode cL_leaves 3 = .ok (.aload_n 0, 1) := by decide +kernel
theorem dL_leaves_4 : decode cL_leaves 4 = .ok (.iload_n 1, 1) := by decide +kernel
theorem dL_leaves_5 : decode cL_leaves 5 = .ok (.iload_n 2, 1) := by decide +kernel
theorem dL_leaves_6 : decode cL_leaves 6 = .ok (.iload_n 3, 1) := by decide +kernel
theorem dL_leaves_7 : decode cL_leaves 7 = .ok (.invokevirtual 58, 3) := by decide +kernel
theorem dL_leaves_10 : decode cL_leaves 10 = .ok (.i2l, 1) := by decide +kernel
theorem dL_leaves_11 : decode cL_leaves 11 = .ok (.lastore, 1) := by decide +kernel
theorem dL_leaves_12 : decode cL_leaves 12 = .ok (.goto 11, 3) := by decide +kernel
theorem dL_leaves_15 : decode cL_leaves 15 = .ok (.astore 5, 2) := by decide +kernel
theorem dL_leaves_17 : decode cL_leaves 17 = .ok (.iconst 1, 1) := by decide +kernel
theorem dL_leaves_18 : decode cL_leaves 18 = .ok (.ireturn, 1) := by decide +kernel
theorem dL_leaves_19 : decode cL_leaves 19 = .ok (.astore 5, 2) := by decide +kernel
theorem dL_leaves_21 : decode cL_leaves 21 = .ok (.iconst 2, 1) := by decide +kernel
theorem dL_leaves_22 : decode cL_leaves 22 = .ok (.ireturn, 1) := by decide +kernel
theorem dL_leaves_23 : decode cL_leaves 23 = .ok (.iconst 0, 1) := by decide +kernel
theorem dL_leaves_24 : decode cL_leaves 24 = .ok (.ireturn, 1) := by decide +kernel
set_option maxRecDepth 20000 in
theorem ggL_best_X7_best : GoodIn wsL_best wsX7_best := goodIn_ca (goodIn_r _ [6, 7, 8, 9, 10, 11, 12, 13, 14, 15, 16, 17, 18, 19, 20, 21, 22, 23, 24, 25, 26, 27, 28, 29, 30, 31, 32, 33, 34, 35, 36, 37, 38, 39, 40, 41, 42, 43, 44, 45, 46, 47, 48, 49, 50, 51, 52, 53, 54, 55, 56, 57, 58, 59, 60, 61, 62, 63, 64, 65, 66, 67, 68, 69, 70, 71, 72, 73, 74, 75, 76, 77, 78, 79, 80, 81, 82, 83, 84, 85, 86, 87, 88, 89, 90, 91, 92, 93, 94, 95, 96, 97, 98, 99, 100, 101, 102, 103, 104, 105, 106] (by decide +kernel) (by decide +kernel)) (goodIn_sub (fun _ h => List.mem_cons_of_mem _ (List.mem_append_right _ h)) (by decide +kernel))
set_option maxRecDepth 20000 in
theorem gL_best_X7_best : GoodIn wsL_best (wsV RL 62 RX7 yX7_best wsX7_best) := goodIn_app (goodIn_of _ (by decide +kernel)) ggL_best_X7_best
theorem dL_best_0 : decode cL_best 0 = .ok (.aload_n 3, 1) := by decide +kernel
theorem dL_best_1 : decode cL_best 1 = .ok (.iconst 0, 1) := by decide +kernel
theorem dL_best_2 : decode cL_best 2 = .ok (.aload_n 0, 1) := by decide +kernel
theorem dL_best_3 : decode cL_best 3 = .ok (.iload_n 1, 1) := by decide +kernel
theorem dL_best_4 : decode cL_best 4 = .ok (.iload_n 2, 1) := by decide +kernel
theorem dL_best_5 : decode cL_best 5 = .ok (.invokevirtual 62, 3) := by decide +kernel
theorem dL_best_8 : decode cL_best 8 = .ok (.i2l, 1) := by decide +kernel
theorem dL_best_9 : decode cL_best 9 = .ok (.lastore, 1) := by decide +kernel
theorem dL_best_10 : decode cL_best 10 = .ok (.goto 7, 3) := by decide +kernel
theorem dL_best_13 : decode cL_best 13 = .ok (.astore 4, 2) := by decide +kernel
theorem dL_best_15 : decode cL_best 15 = .ok (.iconst 1, 1) := by decide +kernel
theorem dL_best_16 : decode cL_best 16 = .ok (.ireturn, 1) := by decide +kernel
theorem dL_best_17 : decode cL_best 17 = .ok (.iconst 0, 1) := by decide +kernel
theorem dL_best_18 : decode cL_best 18 = .ok (.ireturn, 1) := by decide +kernel
set_option maxRecDepth 20000 in
theorem ggL_bestArms_X7_bestArms : GoodIn wsL_bestArms wsX7_bestArms := goodIn_ca (goodIn_r _ [6, 7, 8, 9, 10, 11, 5, 12, 13, 14, 15, 16, 17, 18, 19, 20, 21, 22, 23, 24, 25, 26, 27, 28, 29, 30, 31, 32, 33, 34, 35, 36, 37, 38, 39, 40, 41, 42, 43, 44, 45, 46, 47, 48, 49, 50, 51, 52, 53, 54, 55, 56, 57, 58, 59, 60, 61, 62, 63, 64, 65, 66, 67, 68, 69, 70, 71, 72, 73, 74, 75, 76, 77, 78, 79, 80, 81, 82, 83, 84, 85, 86, 87, 88, 89, 90, 91, 92, 93, 94, 95, 96, 97, 98, 99, 100, 101, 102, 103, 104, 105, 106] (by decide +kernel) (by decide +kernel)) (goodIn_sub (fun _ h => List.mem_cons_of_mem _ (List.mem_append_right _ h)) (by decide +kernel))
set_option maxRecDepth 20000 in
theorem gL_bestArms_X7_bestArms : GoodIn wsL_bestArms (wsV RL 65 RX7 yX7_bestArms wsX7_bestArms) := goodIn_app (goodIn_of _ (by decide +kernel)) ggL_bestArms_X7_bestArms
theorem dL_bestArms_0 : decode cL_bestArms 0 = .ok (.aload_n 3, 1) := by decide +kernel
theorem dL_bestArms_1 : decode cL_bestArms 1 = .ok (.iconst 0, 1) := by decide +kernel
theorem dL_bestArms_2 : decode cL_bestArms 2 = .ok (.aload_n 0, 1) := by decide +kernel
theorem dL_bestArms_3 : decode cL_bestArms 3 = .ok (.iload_n 1, 1) := by decide +kernel
theorem dL_bestArms_4 : decode cL_bestArms 4 = .ok (.iload_n 2, 1) := by decide +kernel
theorem dL_bestArms_5 : decode cL_bestArms 5 = .ok (.invokevirtual 65, 3) := by decide +kernel
theorem dL_bestArms_8 : decode cL_bestArms 8 = .ok (.i2l, 1) := by decide +kernel
theorem dL_bestArms_9 : decode cL_bestArms 9 = .ok (.lastore, 1) := by decide +kernel
theorem dL_bestArms_10 : decode cL_bestArms 10 = .ok (.goto 7, 3) := by decide +kernel
theorem dL_bestArms_13 : decode cL_bestArms 13 = .ok (.astore 4, 2) := by decide +kernel
theorem dL_bestArms_15 : decode cL_bestArms 15 = .ok (.iconst 1, 1) := by decide +kernel
theorem dL_bestArms_16 : decode cL_bestArms 16 = .ok (.ireturn, 1) := by decide +kernel
theorem dL_bestArms_17 : decode cL_bestArms 17 = .ok (.iconst 0, 1) := by decide +kernel
theorem dL_bestArms_18 : decode cL_bestArms 18 = .ok (.ireturn, 1) := by decide +kernel
set_option maxRecDepth 20000 in
theorem ggL_runScript_X7_runScript : GoodIn wsL_runScript wsX7_runScript := goodIn_ca (goodIn_r _ [6, 7, 8, 9, 10, 11, 12, 13, 5, 14, 15, 16, 17, 18, 19, 20, 21, 22, 23, 24, 25, 26, 27, 28, 29, 30, 31, 32, 33, 34, 35, 36, 37, 38, 39, 40, 41, 42, 43, 44, 45, 46, 47, 48, 49, 50, 51, 52, 53, 54, 55, 56, 57, 58, 59, 60, 61, 62, 63, 64, 65, 66, 67, 68, 69, 70, 71, 72, 73, 74, 75, 76, 77, 78, 79, 80, 81, 82, 83, 84, 85, 86, 87, 88, 89, 90, 91, 92, 93, 94, 95, 96, 97, 98, 99, 100, 101, 102, 103, 104, 105, 106, 107, 108, 109, 110, 111, 112, 113, 114, 115, 116, 117, 118, 119, 120, 121, 122, 123, 124, 125, 126, 127, 128, 129, 130, 131, 132, 133, 134, 135, 136, 137, 138, 139, 140, 141, 142, 143, 144, 145, 146, 147, 148, 149, 150, 151, 152, 153, 154, 155, 156, 157, 158, 159, 160, 161, 162, 163, 164, 165, 166, 167, 168, 169, 170, 171, 172, 173] (by decide +kernel) (by decide +kernel)) (goodIn_sub (fun _ h => List.mem_cons_of_mem _ (List.mem_append_right _ h)) (by decide +kernel))
set_option maxRecDepth 20000 in
theorem gL_runScript_X7_runScript : GoodIn wsL_runScript (wsV RL 68 RX7 yX7_runScript wsX7_runScript) := goodIn_app (goodIn_of _ (by decide +kernel)) ggL_runScript_X7_runScript
theorem dL_runScript_0 : decode cL_runScript 0 = .ok (.aload 4, 2) := by decide +kernel
theorem dL_runScript_2 : decode cL_runScript 2 = .ok (.iconst 0, 1) := by decide +kernel
theorem dL_runScript_3 : decode cL_runScript 3 = .ok (.aload_n 0, 1) := by decide +kernel
theorem dL_runScript_4 : decode cL_runScript 4 = .ok (.iload_n 1, 1) := by decide +kernel
theorem dL_runScript_5 : decode cL_runScript 5 = .ok (.lload_n 2, 1) := by decide +kernel
theorem dL_runScript_6 : decode cL_runScript 6 = .ok (.invokevirtual 68, 3) := by decide +kernel
theorem dL_runScript_9 : decode cL_runScript 9 = .ok (.i2l, 1) := by decide +kernel
theorem dL_runScript_10 : decode cL_runScript 10 = .ok (.lastore, 1) := by decide +kernel
theorem dL_runScript_11 : decode cL_runScript 11 = .ok (.goto 7, 3) := by decide +kernel
theorem dL_runScript_14 : decode cL_runScript 14 = .ok (.astore 5, 2) := by decide +kernel
theorem dL_runScript_16 : decode cL_runScript 16 = .ok (.iconst 1, 1) := by decide +kernel
theorem dL_runScript_17 : decode cL_runScript 17 = .ok (.ireturn, 1) := by decide +kernel
theorem dL_runScript_18 : decode cL_runScript 18 = .ok (.iconst 0, 1) := by decide +kernel
theorem dL_runScript_19 : decode cL_runScript 19 = .ok (.ireturn, 1) := by decide +kernel
set_option maxRecDepth 20000 in
theorem ggL_simulate_X7_simulate : GoodIn wsL_simulate wsX7_simulate := goodIn_ca (goodIn_r _ [6, 7, 8, 9, 10, 11, 12, 13, 14, 15, 16, 17, 18, 19, 20, 21, 22, 23, 24, 25, 26, 27, 28, 29, 30, 31, 32, 33, 34, 35, 36, 37, 5, 38, 39, 40, 41, 42, 43, 44, 45, 46, 47, 48, 49, 50, 51, 52, 53, 54, 55, 56, 57, 58, 59, 60, 61, 62, 63, 64, 65, 66, 67, 68, 69, 70, 71, 72, 73, 74, 75, 76, 77, 78, 79, 80, 81, 82, 83, 84, 85, 86, 87, 88, 89, 90, 91, 92, 93, 94, 95, 96, 97, 98, 99, 100, 101, 102, 103, 104, 105, 106, 107, 108, 109, 110, 111, 112, 113, 114, 115, 116, 117, 118, 119, 120, 121, 122, 123, 124, 125, 126, 127, 128, 129, 130, 131, 132, 133, 134, 135, 136, 137, 138, 139, 140, 141, 142, 143, 144, 145, 146, 147, 148, 149, 150, 151] (by decide +kernel) (by decide +kernel)) (goodIn_sub (fun _ h => List.mem_cons_of_mem _ (List.mem_append_right _ h)) (by decide +kernel))
set_option maxRecDepth 20000 in
theorem gL_simulate_X7_simulate : GoodIn wsL_simulate (wsV RL 72 RX7 yX7_simulate wsX7_simulate) := goodIn_app (goodIn_of _ (by decide +kernel)) ggL_simulate_X7_simulate
theorem dL_simulate_0 : decode cL_simulate 0 = .ok (.aload 4, 2) := by decide +kernel
theorem dL_simulate_2 : decode cL_simulate 2 = .ok (.iconst 0, 1) := by decide +kernel
theorem dL_simulate_3 : decode cL_simulate 3 = .ok (.aload_n 0, 1) := by decide +kernel
theorem dL_simulate_4 : decode cL_simulate 4 = .ok (.lload_n 1, 1) := by decide +kernel
theorem dL_simulate_5 : decode cL_simulate 5 = .ok (.iload_n 3, 1) := by decide +kernel
theorem dL_simulate_6 : decode cL_simulate 6 = .ok (.invokevirtual 72, 3) := by decide +kernel
theorem dL_simulate_9 : decode cL_simulate 9 = .ok (.i2l, 1) := by decide +kernel
theorem dL_simulate_10 : decode cL_simulate 10 = .ok (.lastore, 1) := by decide +kernel
theorem dL_simulate_11 : decode cL_simulate 11 = .ok (.goto 7, 3) := by decide +kernel
theorem dL_simulate_14 : decode cL_simulate 14 = .ok (.astore 5, 2) := by decide +kernel
theorem dL_simulate_16 : decode cL_simulate 16 = .ok (.iconst 1, 1) := by decide +kernel
theorem dL_simulate_17 : decode cL_simulate 17 = .ok (.ireturn, 1) := by decide +kernel
theorem dL_simulate_18 : decode cL_simulate 18 = .ok (.iconst 0, 1) := by decide +kernel
theorem dL_simulate_19 : decode cL_simulate 19 = .ok (.ireturn, 1) := by decide +kernel
set_option maxRecDepth 20000 in
theorem ggL_save_X7_save : GoodIn wsL_save wsX7_save := goodIn_ca (goodIn_r _ [6, 7, 8, 9, 10, 11, 12, 13, 14, 15, 16, 17, 18, 19, 20, 21, 22, 23, 24, 25, 26, 27, 28, 29, 30, 31, 32, 33, 34, 35, 36, 37, 38, 39, 40, 41, 42, 43, 44, 45, 46, 47, 48, 49, 50, 51, 52, 53, 54, 55, 56, 57, 58, 59, 60, 61, 62, 63, 64, 65, 66, 67] (by decide +kernel) (by decide +kernel)) (goodIn_sub (fun _ h => List.mem_cons_of_mem _ (List.mem_append_right _ h)) (by decide +kernel))
set_option maxRecDepth 20000 in
theorem gL_save_X7_save : GoodIn wsL_save (wsV RL 76 RX7 yX7_save wsX7_save) := goodIn_app (goodIn_of _ (by decide +kernel)) ggL_save_X7_save
theorem dL_save_0 : decode cL_save 0 = .ok (.aload_n 2, 1) := by decide +kernel
theorem dL_save_1 : decode cL_save 1 = .ok (.iconst 0, 1) := by decide +kernel
theorem dL_save_2 : decode cL_save 2 = .ok (.aload_n 0, 1) := by decide +kernel
theorem dL_save_3 : decode cL_save 3 = .ok (.iload_n 1, 1) := by decide +kernel
theorem dL_save_4 : decode cL_save 4 = .ok (.invokevirtual 76, 3) := by decide +kernel
theorem dL_save_7 : decode cL_save 7 = .ok (.i2l, 1) := by decide +kernel
theorem dL_save_8 : decode cL_save 8 = .ok (.lastore, 1) := by decide +kernel
theorem dL_save_9 : decode cL_save 9 = .ok (.goto 6, 3) := by decide +kernel
theorem dL_save_12 : decode cL_save 12 = .ok (.astore_n 3, 1) := by decide +kernel
theorem dL_save_13 : decode cL_save 13 = .ok (.iconst 1, 1) := by decide +kernel
theorem dL_save_14 : decode cL_save 14 = .ok (.ireturn, 1) := by decide +kernel
theorem dL_save_15 : decode cL_save 15 = .ok (.iconst 0, 1) := by decide +kernel
theorem dL_save_16 : decode cL_save 16 = .ok (.ireturn, 1) := by decide +kernel
set_option maxRecDepth 20000 in
theorem ggL_restore_X7_restore : GoodIn wsL_restore wsX7_restore := goodIn_ca (goodIn_ca (goodIn_r _ [7, 8, 9, 10, 11, 12, 13, 14, 15, 16, 17, 18, 19, 20, 21, 22, 23, 24, 25, 26, 27, 28, 29, 30, 31, 32, 33, 34, 35, 36, 37, 38, 39, 40, 41, 42, 43, 44, 45, 46, 47, 48, 49, 50, 51, 52, 53, 54, 55, 56, 57, 58, 59, 60, 61, 62, 63, 64, 65, 66, 67, 68, 69, 70, 71, 72, 73, 74, 75, 76, 77, 78, 79, 80, 81] (by decide +kernel) (by decide +kernel)) (goodIn_sub (fun _ h => List.mem_cons_of_mem _ (List.mem_append_left _ (List.mem_append_right _ h))) (by decide +kernel))) (goodIn_sub (fun _ h => List.mem_cons_of_mem _ (List.mem_append_right _ h)) (by decide +kernel))
set_option maxRecDepth 20000 in
theorem gL_restore_X7_restore : GoodIn wsL_restore (wsV RL 79 RX7 yX7_restore wsX7_restore) := goodIn_app (goodIn_of _ (by decide +kernel)) ggL_restore_X7_restore
theorem dL_restore_0 : decode cL_restore 0 = .ok (.aload_n 2, 1) := by decide +kernel
theorem dL_restore_1 : decode cL_restore 1 = .ok (.iconst 0, 1) := by decide +kernel
theorem dL_restore_2 : decode cL_restore 2 = .ok (.aload_n 0, 1) := by decide +kernel
theorem dL_restore_3 : decode cL_restore 3 = .ok (.iload_n 1, 1) := by decide +kernel
theorem dL_restore_4 : decode cL_restore 4 = .ok (.invokevirtual 79, 3) := by decide +kernel
theorem dL_restore_7 : decode cL_restore 7 = .ok (.i2l, 1) := by decide +kernel
theorem dL_restore_8 : decode cL_restore 8 = .ok (.lastore, 1) := by decide +kernel
theorem dL_restore_9 : decode cL_restore 9 = .ok (.goto 9, 3) := by decide +kernel
theorem dL_restore_12 : decode cL_restore 12 = .ok (.astore_n 3, 1) := by decide +kernel
theorem dL_restore_13 : decode cL_restore 13 = .ok (.iconst 1, 1) := by decide +kernel
theorem dL_restore_14 : decode cL_restore 14 = .ok (.ireturn, 1) := by decide +kernel
theorem dL_restore_15 : decode cL_restore 15 = .ok (.astore_n 3, 1) := by decide +kernel
theorem dL_restore_16 : decode cL_restore 16 = .ok (.iconst 2, 1) := by decide +kernel
theorem dL_restore_17 : decode cL_restore 17 = .ok (.ireturn, 1) := by decide +kernel
theorem dL_restore_18 : decode cL_restore 18 = .ok (.iconst 0, 1) := by decide +kernel
theorem dL_restore_19 : decode cL_restore 19 = .ok (.ireturn, 1) := by decide +kernel
set_option maxRecDepth 20000 in
theorem ggL_law_X7_init : GoodIn wsL_law wsX7_init := goodIn_r _ [10, 11, 12, 13, 14, 15, 16, 17, 18, 19, 20, 21, 22, 23, 24, 25, 26, 27, 28, 29, 30, 31, 32, 33, 34, 35, 36, 37, 38, 39, 40, 41, 42, 43, 44, 45, 46, 47, 48, 49, 50, 51, 52, 53, 54, 55, 56, 57, 58, 59, 60, 61, 62, 63, 64, 65, 66, 67, 68, 69, 70, 71, 72, 73, 74, 75, 76, 77, 78, 2, 79, 80, 81, 82, 83, 84, 85, 86, 87, 88, 89, 90, 91, 92, 93, 94, 95, 96, 97, 98, 99, 100, 101, 933, 934, 935, 936, 937, 938, 939, 940, 941, 910, 911, 912, 913, 914, 915, 916, 917, 918, 942, 943, 944, 945, 946, 947, 948, 949, 950, 951, 952, 953, 954, 955, 956, 957, 958, 959, 960, 961, 962, 963, 964, 965, 966] (by decide +kernel) (by decide +kernel)
set_option maxRecDepth 20000 in
theorem gL_law_X7_init : GoodIn wsL_law (wsX7_init) := ggL_law_X7_init
set_option maxRecDepth 20000 in
theorem ggL_law_X8_init : GoodIn wsL_law wsX8_init := goodIn_r _ [104, 105, 12, 13, 46, 106, 107, 108, 109, 110, 111, 112, 113, 114, 115, 116, 5, 117, 919, 920, 921, 922, 923, 924, 925, 926, 927, 928, 929, 930, 931, 932] (by decide +kernel) (by decide +kernel)
set_option maxRecDepth 20000 in
theorem gL_law_X8_init : GoodIn wsL_law (wsX8_init) := ggL_law_X8_init
set_option maxRecDepth 20000 in
theorem ggL_law_L_append : GoodIn wsL_law wsL_append := goodIn_ca (goodIn_ca (goodIn_r _ [121, 122, 123, 124, 125, 126, 2, 127, 128, 129, 130, 131, 17, 132, 133, 134, 135, 16, 136, 137, 42, 910, 911, 912, 913, 914, 915, 916, 917, 918, 933, 934, 935, 936, 937, 938, 939, 940, 941] (by decide +kernel) (by decide +kernel)) (goodIn_sub (fun _ h => List.mem_append_left _ (List.mem_append_left _ (List.mem_append_right _ h))) (by decide +kernel))) (goodIn_sub (fun _ h => List.mem_append_left _ (List.mem_append_right _ h)) (by decide +kernel))
set_option maxRecDepth 20000 in
theorem gL_law_L_append : GoodIn wsL_law (va_wsS RL 86 yL_append wsL_append) := goodIn_app (goodIn_of _ (by decide +kernel)) ggL_law_L_append
set_option maxRecDepth 20000 in
theorem ggL_law_X8_append : GoodIn wsL_law wsX8_append := goodIn_r _ [141, 142, 143, 106, 144, 145, 5, 146, 147, 148, 149, 150, 151, 919, 920, 921, 922, 923, 924, 925, 926, 927, 928, 929, 930, 931, 932] (by decide +kernel) (by decide +kernel)
set_option maxRecDepth 20000 in
theorem gL_law_X8_append : GoodIn wsL_law (wsV RL 91 RX8 yX8_append wsX8_append) := goodIn_app (goodIn_of _ (by decide +kernel)) ggL_law_X8_append
set_option maxRecDepth 20000 in
theorem ggL_law_X8_thrown : GoodIn wsL_law wsX8_thrown := goodIn_r _ [155, 151, 919, 920, 921, 922, 923, 924, 925, 926, 927, 928, 929, 930, 931, 932] (by decide +kernel) (by decide +kernel)
set_option maxRecDepth 20000 in
theorem gL_law_X8_thrown : GoodIn wsL_law (wsV RL 92 RX8 yX8_thrown wsX8_thrown) := goodIn_app (goodIn_of _ (by decide +kernel)) ggL_law_X8_thrown
set_option maxRecDepth 20000 in
theorem ggL_law_X7_clearText : GoodIn wsL_law wsX7_clearText := goodIn_r _ [159, 17, 132, 910, 911, 912, 913, 914, 915, 916, 917, 918, 933, 934, 935, 936, 937, 938, 939, 940, 941] (by decide +kernel) (by decide +kernel)
set_option maxRecDepth 20000 in
theorem gL_law_X7_clearText : GoodIn wsL_law (wsV RL 95 RX7 yX7_clearText wsX7_clearText) := goodIn_app (goodIn_of _ (by decide +kernel)) ggL_law_X7_clearText
set_option maxRecDepth 20000 in
theorem ggL_law_X8_clearText : GoodIn wsL_law wsX8_clearText := goodIn_r _ [163, 151, 143, 919, 920, 921, 922, 923, 924, 925, 926, 927, 928, 929, 930, 931, 932] (by decide +kernel) (by decide +kernel)
set_option maxRecDepth 20000 in
theorem gL_law_X8_clearText : GoodIn wsL_law (wsV RL 98 RX8 yX8_clearText wsX8_clearText) := goodIn_app (goodIn_of _ (by decide +kernel)) ggL_law_X8_clearText
set_option maxRecDepth 20000 in
theorem ggL_law_X7_errorPosition : GoodIn wsL_law wsX7_errorPosition := goodIn_r _ [167, 17, 168, 169, 170, 171, 172, 16, 173, 174, 175, 176, 177, 178, 179, 180, 181, 182, 183, 184, 185, 42, 186, 187, 188, 189, 137, 190, 191, 192, 193, 194, 195, 196, 197, 198, 199, 200, 201, 202, 203, 204, 205, 206, 207, 208, 209, 210, 211, 212, 213, 214, 215, 216, 217, 218, 219, 220, 221, 222, 223, 224, 225, 226, 227, 228, 229, 230, 231, 232, 233, 234, 235, 236, 237, 238, 239, 240, 241, 242, 243, 244, 245, 246, 247, 248, 249, 250, 251, 252, 253, 254, 255, 256, 257, 258, 259, 260, 261, 262, 263, 264, 265, 266, 267, 268, 269, 270, 271, 272, 273, 274, 275, 276, 277, 278, 279, 280, 281, 282, 283, 284, 285, 286, 287, 288, 289, 290, 291, 292, 293, 294, 295, 296, 297, 298, 299, 300, 910, 911, 912, 913, 914, 915, 916, 917, 918, 933, 934, 935, 936, 937, 938, 939, 940, 941] (by decide +kernel) (by decide +kernel)
set_option maxRecDepth 20000 in
theorem gL_law_X7_errorPosition : GoodIn wsL_law (wsV RL 99 RX7 yX7_errorPosition wsX7_errorPosition) := goodIn_app (goodIn_of _ (by decide +kernel)) ggL_law_X7_errorPosition
set_option maxRecDepth 20000 in
theorem ggL_law_X8_errorPosition : GoodIn wsL_law wsX8_errorPosition := goodIn_r _ [304, 151, 108, 305, 306, 307, 5, 308, 309, 310, 143, 115, 116, 117, 311, 312, 313, 314, 106, 315, 316, 317, 318, 319, 320, 321, 322, 323, 144, 145, 146, 324, 325, 326, 327, 328, 329, 330, 331, 332, 333, 334, 335, 336, 337, 338, 339, 340, 341, 342, 343, 344, 345, 346, 347, 348, 349, 350, 351, 352, 353, 354, 355, 356, 357, 358, 359, 360, 361, 362, 363, 364, 365, 366, 367, 368, 369, 919, 920, 921, 922, 923, 924, 925, 926, 927, 928, 929, 930, 931, 932] (by decide +kernel) (by decide +kernel)
set_option maxRecDepth 20000 in
theorem gL_law_X8_errorPosition : GoodIn wsL_law (wsV RL 102 RX8 yX8_errorPosition wsX8_errorPosition) := goodIn_app (goodIn_of _ (by decide +kernel)) ggL_law_X8_errorPosition
set_option maxRecDepth 20000 in
theorem ggL_law_L_load : GoodIn wsL_law wsL_load := goodIn_ca (goodIn_r _ [372, 123, 373, 374, 375, 2, 376, 130, 131, 26, 30, 377, 31, 21, 17, 378, 379, 380, 165, 166, 167, 168, 169, 170, 171, 172, 16, 173, 174, 175, 176, 177, 178, 179, 180, 181, 182, 183, 184, 185, 42, 186, 187, 188, 189, 137, 190, 191, 192, 193, 194, 195, 196, 197, 198, 199, 200, 201, 202, 203, 204, 205, 206, 207, 208, 209, 210, 211, 212, 213, 214, 215, 216, 217, 218, 219, 220, 221, 222, 223, 224, 225, 226, 227, 228, 229, 230, 231, 232, 233, 234, 235, 236, 237, 238, 239, 240, 241, 242, 243, 244, 245, 246, 247, 248, 249, 250, 251, 252, 253, 254, 255, 256, 257, 258, 259, 260, 261, 262, 263, 264, 265, 266, 267, 268, 269, 270, 271, 272, 273, 274, 275, 276, 277, 278, 279, 280, 281, 282, 283, 284, 285, 286, 287, 288, 289, 290, 291, 292, 293, 294, 295, 296, 297, 298, 299, 300, 381, 382, 383, 25, 384, 385, 386, 83, 84, 85, 20, 86, 87, 88, 89, 90, 91, 92, 93, 94, 95, 96, 97, 51, 98, 99, 100, 50, 101, 59, 387, 388, 389, 390, 391, 392, 393, 394, 395, 396, 397, 398, 399, 400, 401, 402, 403, 404, 55, 405, 406, 407, 408, 409, 410, 411, 412, 413, 414, 415, 54, 416, 417, 418, 419, 420, 421, 422, 423, 424, 425, 426, 427, 428, 429, 430, 431, 432, 433, 434, 435, 436, 437, 438, 439, 440, 441, 442, 443, 444, 445, 446, 447, 448, 47, 449, 450, 451, 452, 453, 910, 911, 912, 913, 914, 915, 916, 917, 918, 955, 956, 933, 934, 935, 936, 937, 938, 939, 940, 941, 952, 953, 954, 942, 943, 944, 945, 946, 947, 948, 949, 950, 951, 960, 961, 962, 963, 964, 965, 966] (by decide +kernel) (by decide +kernel)) (goodIn_sub (fun _ h => List.mem_append_left _ (List.mem_append_right _ h)) (by decide +kernel))
set_option maxRecDepth 20000 in
theorem gL_law_L_load : GoodIn wsL_law (va_wsS RL 103 yL_load wsL_load) := goodIn_app (goodIn_of _ (by decide +kernel)) ggL_law_L_load
set_option maxRecDepth 20000 in
theorem ggL_law_X8_load : GoodIn wsL_law wsX8_load := goodIn_r _ [457, 108, 107, 458, 112, 309, 305, 306, 307, 5, 308, 310, 143, 115, 116, 117, 311, 312, 313, 314, 106, 315, 316, 317, 318, 319, 320, 321, 322, 323, 144, 145, 146, 324, 325, 326, 327, 328, 329, 330, 331, 332, 333, 334, 335, 336, 337, 338, 339, 340, 341, 342, 343, 344, 345, 346, 347, 348, 349, 350, 351, 352, 353, 354, 355, 356, 357, 358, 359, 360, 361, 362, 363, 364, 365, 366, 367, 368, 369, 147, 148, 149, 150, 151, 459, 460, 461, 919, 920, 921, 922, 923, 924, 925, 926, 927, 928, 929, 930, 931, 932] (by decide +kernel) (by decide +kernel)
set_option maxRecDepth 20000 in
theorem gL_law_X8_load : GoodIn wsL_law (wsV RL 106 RX8 yX8_load wsX8_load) := goodIn_app (goodIn_of _ (by decide +kernel)) ggL_law_X8_load
set_option maxRecDepth 20000 in
theorem ggL_law_L_about : GoodIn wsL_law wsL_about := goodIn_ca (goodIn_r _ [464, 122, 465, 466, 467, 2, 468, 128, 129, 21, 469, 470, 471, 472, 473, 474, 475, 476, 477, 478, 20, 479, 95, 480, 481, 482, 450, 451, 50, 452, 59, 453, 424, 425, 426, 427, 428, 429, 483, 484, 485, 486, 97, 487, 488, 489, 490, 491, 47, 910, 911, 912, 913, 914, 915, 916, 917, 918, 942, 943, 944, 945, 946, 947, 948, 949, 950, 951, 960] (by decide +kernel) (by decide +kernel)) (goodIn_sub (fun _ h => List.mem_append_left _ (List.mem_append_left _ (List.mem_append_right _ h))) (by decide +kernel))
set_option maxRecDepth 20000 in
theorem gL_law_L_about : GoodIn wsL_law (va_wsS RL 107 yL_about wsL_about) := goodIn_app (goodIn_of _ (by decide +kernel)) ggL_law_L_about
set_option maxRecDepth 20000 in
theorem ggL_law_X8_about : GoodIn wsL_law wsX8_about := goodIn_r _ [495, 496, 107, 144, 145, 5, 146, 147, 148, 149, 150, 151, 327, 328, 329, 497, 498, 499, 500, 501, 502, 503, 504, 505, 351, 352, 353, 354, 355, 356, 357, 358, 359, 360, 361, 362, 919, 920, 921, 922, 923, 924, 925, 926, 927, 928, 929, 930, 931, 932] (by decide +kernel) (by decide +kernel)
set_option maxRecDepth 20000 in
theorem gL_law_X8_about : GoodIn wsL_law (wsV RL 109 RX8 yX8_about wsX8_about) := goodIn_app (goodIn_of _ (by decide +kernel)) ggL_law_X8_about
set_option maxRecDepth 20000 in
theorem ggL_law_L_coin : GoodIn wsL_law wsL_coin := goodIn_ca (goodIn_r _ [508, 509, 510, 511, 512, 2, 513, 514, 515, 21, 470, 516, 517, 518, 20, 519, 95, 520, 521, 522, 50, 523, 59, 910, 911, 912, 913, 914, 915, 916, 917, 918, 942, 943, 944, 945, 946, 947, 948, 949, 950, 951, 960] (by decide +kernel) (by decide +kernel)) (goodIn_sub (fun _ h => List.mem_append_right _ h) (by decide +kernel))
set_option maxRecDepth 20000 in
theorem gL_law_L_coin : GoodIn wsL_law (va_wsS RL 110 yL_coin wsL_coin) := goodIn_app (goodIn_of _ (by decide +kernel)) ggL_law_L_coin
set_option maxRecDepth 20000 in
theorem ggL_law_X8_coin : GoodIn wsL_law wsX8_coin := goodIn_r _ [527, 107, 528, 529, 5, 530, 144, 145, 146, 147, 148, 149, 150, 151, 531, 532, 533, 327, 328, 329, 503, 504, 505, 351, 352, 353, 354, 355, 356, 357, 358, 359, 360, 361, 362, 919, 920, 921, 922, 923, 924, 925, 926, 927, 928, 929, 930, 931, 932] (by decide +kernel) (by decide +kernel)
set_option maxRecDepth 20000 in
theorem gL_law_X8_coin : GoodIn wsL_law (wsV RL 112 RX8 yX8_coin wsX8_coin) := goodIn_app (goodIn_of _ (by decide +kernel)) ggL_law_X8_coin
set_option maxRecDepth 20000 in
theorem ggL_law_X7_pans : GoodIn wsL_law wsX7_pans := goodIn_r _ [537, 21, 470, 538, 539, 540, 50, 541, 59, 910, 911, 912, 913, 914, 915, 916, 917, 918, 942, 943, 944, 945, 946, 947, 948, 949, 950, 951, 960] (by decide +kernel) (by decide +kernel)
set_option maxRecDepth 20000 in
theorem gL_law_X7_pans : GoodIn wsL_law (wsV RL 113 RX7 yX7_pans wsX7_pans) := goodIn_app (goodIn_of _ (by decide +kernel)) ggL_law_X7_pans
set_option maxRecDepth 20000 in
theorem ggL_law_X8_pans : GoodIn wsL_law wsX8_pans := goodIn_r _ [545, 151, 107, 546, 547, 5, 548, 327, 328, 329, 503, 504, 505, 351, 352, 353, 354, 355, 356, 357, 358, 359, 360, 361, 362, 919, 920, 921, 922, 923, 924, 925, 926, 927, 928, 929, 930, 931, 932] (by decide +kernel) (by decide +kernel)
set_option maxRecDepth 20000 in
theorem gL_law_X8_pans : GoodIn wsL_law (wsV RL 116 RX8 yX8_pans wsX8_pans) := goodIn_app (goodIn_of _ (by decide +kernel)) ggL_law_X8_pans
set_option maxRecDepth 20000 in
theorem ggL_law_L_isLeft : GoodIn wsL_law wsL_isLeft := goodIn_ca (goodIn_r _ [551, 509, 552, 553, 554, 2, 555, 514, 515, 21, 470, 476, 477, 478, 20, 479, 95, 480, 481, 556, 557, 558, 50, 559, 59, 910, 911, 912, 913, 914, 915, 916, 917, 918, 942, 943, 944, 945, 946, 947, 948, 949, 950, 951, 960] (by decide +kernel) (by decide +kernel)) (goodIn_sub (fun _ h => List.mem_append_right _ h) (by decide +kernel))
set_option maxRecDepth 20000 in
theorem gL_law_L_isLeft : GoodIn wsL_law (va_wsS RL 117 yL_isLeft wsL_isLeft) := goodIn_app (goodIn_of _ (by decide +kernel)) ggL_law_L_isLeft
set_option maxRecDepth 20000 in
theorem ggL_law_X8_isLeft : GoodIn wsL_law wsX8_isLeft := goodIn_r _ [563, 107, 327, 328, 5, 329, 144, 145, 146, 147, 148, 149, 150, 151, 503, 504, 505, 351, 352, 353, 354, 355, 356, 357, 358, 359, 360, 361, 362, 919, 920, 921, 922, 923, 924, 925, 926, 927, 928, 929, 930, 931, 932] (by decide +kernel) (by decide +kernel)
set_option maxRecDepth 20000 in
theorem gL_law_X8_isLeft : GoodIn wsL_law (wsV RL 119 RX8 yX8_isLeft wsX8_isLeft) := goodIn_app (goodIn_of _ (by decide +kernel)) ggL_law_X8_isLeft
set_option maxRecDepth 20000 in
theorem ggL_law_L_weighing : GoodIn wsL_law wsL_weighing := goodIn_ca (goodIn_ca (goodIn_r _ [566, 509, 122, 567, 568, 569, 2, 570, 514, 515, 128, 129, 21, 471, 571, 489, 490, 20, 491, 47, 910, 911, 912, 913, 914, 915, 916, 917, 918, 942, 943, 944, 945, 946, 947, 948, 949, 950, 951] (by decide +kernel) (by decide +kernel)) (goodIn_sub (fun _ h => List.mem_append_right _ h) (by decide +kernel))) (goodIn_sub (fun _ h => List.mem_append_left _ (List.mem_append_left _ (List.mem_append_right _ h))) (by decide +kernel))
set_option maxRecDepth 20000 in
theorem gL_law_L_weighing : GoodIn wsL_law (va_wsS RL 120 yL_weighing wsL_weighing) := goodIn_app (goodIn_of _ (by decide +kernel)) ggL_law_L_weighing
set_option maxRecDepth 20000 in
theorem ggL_law_X8_weighing : GoodIn wsL_law wsX8_weighing := goodIn_r _ [575, 107, 576, 144, 145, 5, 146, 147, 148, 149, 150, 151, 500, 501, 502, 327, 328, 329, 503, 504, 505, 351, 352, 353, 354, 355, 356, 357, 358, 359, 360, 361, 362, 919, 920, 921, 922, 923, 924, 925, 926, 927, 928, 929, 930, 931, 932] (by decide +kernel) (by decide +kernel)
set_option maxRecDepth 20000 in
theorem gL_law_X8_weighing : GoodIn wsL_law (wsV RL 123 RX8 yX8_weighing wsX8_weighing) := goodIn_app (goodIn_of _ (by decide +kernel)) ggL_law_X8_weighing
set_option maxRecDepth 20000 in
theorem ggL_law_L_hide : GoodIn wsL_law wsL_hide := goodIn_ca (goodIn_ca (goodIn_r _ [579, 509, 122, 580, 581, 582, 2, 583, 128, 129, 514, 515, 26, 21, 584, 480, 481, 585, 586, 587, 25, 588, 385, 386, 589, 223, 220, 224, 590, 591, 592, 593, 68, 594, 595, 596, 20, 597, 95, 96, 87, 88, 89, 90, 97, 47, 51, 598, 599, 600, 50, 601, 59, 387, 92, 93, 94, 98, 99, 100, 101, 476, 477, 478, 479, 910, 911, 912, 913, 914, 915, 916, 917, 918, 952, 953, 954, 942, 943, 944, 945, 946, 947, 948, 949, 950, 951, 960] (by decide +kernel) (by decide +kernel)) (goodIn_sub (fun _ h => List.mem_append_left _ (List.mem_append_left _ (List.mem_append_right _ h))) (by decide +kernel))) (goodIn_sub (fun _ h => List.mem_append_right _ h) (by decide +kernel))
set_option maxRecDepth 20000 in
theorem gL_law_L_hide : GoodIn wsL_law (va_wsS RL 124 yL_hide wsL_hide) := goodIn_app (goodIn_of _ (by decide +kernel)) ggL_law_L_hide
set_option maxRecDepth 20000 in
theorem ggL_law_X8_hide : GoodIn wsL_law wsX8_hide := goodIn_r _ [605, 107, 606, 607, 5, 608, 609, 610, 144, 145, 146, 327, 328, 329, 147, 148, 149, 150, 151, 611, 612, 613, 614, 458, 109, 459, 460, 461, 324, 325, 326, 919, 920, 921, 922, 923, 924, 925, 926, 927, 928, 929, 930, 931, 932] (by decide +kernel) (by decide +kernel)
set_option maxRecDepth 20000 in
theorem gL_law_X8_hide : GoodIn wsL_law (wsV RL 126 RX8 yX8_hide wsX8_hide) := goodIn_app (goodIn_of _ (by decide +kernel)) ggL_law_X8_hide
set_option maxRecDepth 20000 in
theorem ggL_law_L_arms : GoodIn wsL_law wsL_arms := goodIn_ca (goodIn_r _ [617, 122, 618, 619, 620, 2, 621, 128, 129, 26, 21, 622, 399, 400, 585, 586, 587, 25, 588, 385, 386, 589, 223, 220, 224, 590, 591, 592, 593, 68, 594, 595, 596, 20, 597, 95, 96, 87, 88, 89, 90, 97, 47, 51, 598, 599, 600, 50, 601, 59, 395, 396, 397, 398, 910, 911, 912, 913, 914, 915, 916, 917, 918, 952, 953, 954, 942, 943, 944, 945, 946, 947, 948, 949, 950, 951, 960] (by decide +kernel) (by decide +kernel)) (goodIn_sub (fun _ h => List.mem_append_left _ (List.mem_append_left _ (List.mem_append_right _ h))) (by decide +kernel))
set_option maxRecDepth 20000 in
theorem gL_law_L_arms : GoodIn wsL_law (va_wsS RL 127 yL_arms wsL_arms) := goodIn_app (goodIn_of _ (by decide +kernel)) ggL_law_L_arms
set_option maxRecDepth 20000 in
theorem ggL_law_X8_arms : GoodIn wsL_law wsX8_arms := goodIn_r _ [626, 107, 627, 628, 5, 629, 630, 144, 145, 146, 147, 148, 149, 150, 151, 611, 612, 613, 614, 458, 109, 459, 460, 461, 367, 368, 369, 919, 920, 921, 922, 923, 924, 925, 926, 927, 928, 929, 930, 931, 932] (by decide +kernel) (by decide +kernel)
set_option maxRecDepth 20000 in
theorem gL_law_X8_arms : GoodIn wsL_law (wsV RL 129 RX8 yX8_arms wsX8_arms) := goodIn_app (goodIn_of _ (by decide +kernel)) ggL_law_X8_arms
set_option maxRecDepth 20000 in
theorem ggL_law_L_weigh : GoodIn wsL_law wsL_weigh := goodIn_ca (goodIn_ca (goodIn_r _ [633, 122, 123, 634, 635, 636, 2, 637, 130, 131, 21, 26, 638, 639, 640, 641, 128, 129, 642, 406, 407, 20, 408, 95, 643, 410, 411, 412, 97, 585, 586, 587, 25, 588, 385, 386, 589, 223, 220, 224, 590, 591, 592, 593, 68, 594, 595, 596, 597, 96, 87, 88, 89, 90, 47, 51, 598, 599, 600, 50, 601, 59, 401, 402, 403, 404, 55, 405, 409, 413, 414, 415, 54, 416, 417, 418, 419, 420, 421, 422, 423, 424, 425, 426, 427, 428, 429, 430, 431, 432, 433, 434, 435, 436, 437, 438, 439, 440, 441, 442, 443, 444, 445, 446, 447, 448, 449, 450, 451, 452, 453, 644, 645, 646, 647, 488, 489, 490, 491, 910, 911, 912, 913, 914, 915, 916, 917, 918, 942, 943, 944, 945, 946, 947, 948, 949, 950, 951, 952, 953, 954, 960, 961, 962, 963, 964, 965, 966] (by decide +kernel) (by decide +kernel)) (goodIn_sub (fun _ h => List.mem_append_left _ (List.mem_append_right _ h)) (by decide +kernel))) (goodIn_sub (fun _ h => List.mem_append_left _ (List.mem_append_left _ (List.mem_append_right _ h))) (by decide +kernel))
set_option maxRecDepth 20000 in
theorem gL_law_L_weigh : GoodIn wsL_law (va_wsS RL 130 yL_weigh wsL_weigh) := goodIn_app (goodIn_of _ (by decide +kernel)) ggL_law_L_weigh
set_option maxRecDepth 20000 in
theorem ggL_law_X8_weigh : GoodIn wsL_law wsX8_weigh := goodIn_r _ [651, 107, 342, 343, 5, 344, 345, 346, 347, 144, 145, 146, 339, 340, 341, 147, 148, 149, 150, 151, 611, 612, 613, 614, 458, 109, 459, 460, 461, 348, 349, 350, 351, 352, 353, 354, 355, 356, 357, 358, 359, 360, 361, 362, 919, 920, 921, 922, 923, 924, 925, 926, 927, 928, 929, 930, 931, 932] (by decide +kernel) (by decide +kernel)
