theorem wsL_law_x0 : ∀ w ∈ (vx_atS RX7 71 "java/lang/IllegalArgumentException" ["java/lang/RuntimeException", "java/lang/Exception"]).filter goodWord, w ∈ lw_tbl := by decide +kernel
theorem wsL_law_x1 : ∀ w ∈ (vx_atS RX7 82 "java/lang/IllegalStateException" ["java/lang/RuntimeException", "java/lang/Exception"]).filter goodWord, w ∈ lw_tbl := by decide +kernel
theorem wsL_law_x2 : ∀ w ∈ (vx_atS RX7 186 "java/lang/IndexOutOfBoundsException" ["java/lang/RuntimeException", "java/lang/Exception"]).filter goodWord, w ∈ lw_tbl := by decide +kernel
theorem wsL_law_in : ∀ w ∈ wsL_law, w ∈ lw_tbl := fun w h => (List.mem_append.mp h).elim (fun h => (List.mem_append.mp h).elim (fun h => (List.mem_append.mp h).elim (fun h => wsL_law_in0 w h) (fun h => wsL_law_x0 w h)) (fun h => wsL_law_x1 w h)) (fun h => wsL_law_x2 w h)
theorem inlX0 : ∀ w ∈ wsX00, w ∈ wsL_law := fun _ h => List.mem_append_left _ (List.mem_append_left _ (List.mem_append_left _ (List.mem_append_left _ (List.mem_append_left _ (List.mem_append_left _ (List.mem_append_left _ (List.mem_append_left _ (List.mem_append_right _ h))))))))
theorem inX0 : ∀ w ∈ wsX00, w ∈ lw_tbl := fun w h => wsL_law_in w (inlX0 w h)
theorem inlX1 : ∀ w ∈ wsX10, w ∈ wsL_law := fun _ h => List.mem_append_left _ (List.mem_append_left _ (List.mem_append_left _ (List.mem_append_left _ (List.mem_append_right _ h))))
theorem inX1 : ∀ w ∈ wsX10, w ∈ lw_tbl := fun w h => wsL_law_in w (inlX1 w h)
theorem inlX2 : ∀ w ∈ wsX20, w ∈ wsL_law := fun _ h => List.mem_append_left _ (List.mem_append_left _ (List.mem_append_left _ (List.mem_append_left _ (List.mem_append_left _ (List.mem_append_left _ (List.mem_append_left _ (List.mem_append_right _ h)))))))
theorem inX2 : ∀ w ∈ wsX20, w ∈ lw_tbl := fun w h => wsL_law_in w (inlX2 w h)
theorem inlX3 : ∀ w ∈ wsX30, w ∈ wsL_law := fun _ h => List.mem_append_left _ (List.mem_append_left _ (List.mem_append_left _ (List.mem_append_left _ (List.mem_append_left _ (List.mem_append_right _ h)))))
theorem inX3 : ∀ w ∈ wsX30, w ∈ lw_tbl := fun w h => wsL_law_in w (inlX3 w h)
theorem inlX4 : ∀ w ∈ wsX40, w ∈ wsL_law := fun _ h => List.mem_append_left _ (List.mem_append_left _ (List.mem_append_left _ (List.mem_append_left _ (List.mem_append_left _ (List.mem_append_left _ (List.mem_append_left _ (List.mem_append_left _ (List.mem_append_left _ (List.mem_append_right _ h)))))))))
theorem inX4 : ∀ w ∈ wsX40, w ∈ lw_tbl := fun w h => wsL_law_in w (inlX4 w h)
theorem inlX5 : ∀ w ∈ wsX50, w ∈ wsL_law := fun _ h => List.mem_append_left _ (List.mem_append_left _ (List.mem_append_left _ (List.mem_append_left _ (List.mem_append_left _ (List.mem_append_left _ (List.mem_append_right _ h))))))
theorem inX5 : ∀ w ∈ wsX50, w ∈ lw_tbl := fun w h => wsL_law_in w (inlX5 w h)
theorem inlX6 : ∀ w ∈ wsX60, w ∈ wsL_law := fun _ h => List.mem_append_left _ (List.mem_append_left _ (List.mem_append_left _ (List.mem_append_left _ (List.mem_append_left _ (List.mem_append_left _ (List.mem_append_left _ (List.mem_append_left _ (List.mem_append_left _ (List.mem_append_left _ (List.mem_append_right _ h))))))))))
theorem inX6 : ∀ w ∈ wsX60, w ∈ lw_tbl := fun w h => wsL_law_in w (inlX6 w h)
theorem inlX7 : ∀ w ∈ wsX70, w ∈ wsL_law := fun _ h => List.mem_append_left _ (List.mem_append_left _ (List.mem_append_left _ (List.mem_append_left _ (List.mem_append_left _ (List.mem_append_left _ (List.mem_append_left _ (List.mem_append_left _ (List.mem_append_left _ (List.mem_append_left _ (List.mem_append_left _ (List.mem_append_left _ (List.mem_append_right _ h))))))))))))
theorem inX7 : ∀ w ∈ wsX70, w ∈ lw_tbl := fun w h => wsL_law_in w (inlX7 w h)
theorem inlX8 : ∀ w ∈ wsX80, w ∈ wsL_law := fun _ h => List.mem_append_left _ (List.mem_append_left _ (List.mem_append_left _ (List.mem_append_left _ (List.mem_append_left _ (List.mem_append_left _ (List.mem_append_left _ (List.mem_append_left _ (List.mem_append_left _ (List.mem_append_left _ (List.mem_append_left _ (List.mem_append_right _ h)))))))))))
theorem inX8 : ∀ w ∈ wsX80, w ∈ lw_tbl := fun w h => wsL_law_in w (inlX8 w h)
theorem inJ11 : ∀ w ∈ wsJ110, w ∈ lw_tbl := by decide +kernel
theorem inJ6 : ∀ w ∈ wsJ60, w ∈ lw_tbl := by decide +kernel
theorem inJ9 : ∀ w ∈ wsJ90, w ∈ lw_tbl := by decide +kernel
theorem inJ0 : ∀ w ∈ wsJ00, w ∈ lw_tbl := by decide +kernel
theorem inJ1 : ∀ w ∈ wsJ10, w ∈ lw_tbl := by decide +kernel
theorem inJ2 : ∀ w ∈ wsJ20, w ∈ lw_tbl := by decide +kernel
theorem inJ3 : ∀ w ∈ wsJ30, w ∈ lw_tbl := by decide +kernel
set_option maxRecDepth 20000 in
theorem ggX0_init_X4_init : GoodIn wsX0_init wsX4_init := goodIn_r _ [9, 10, 2, 3, 11, 12, 13, 14, 15, 16, 17, 18, 19, 20, 21, 22, 23, 24, 25, 26, 27, 31, 32, 33, 34, 35, 36, 37, 38, 39, 40, 41, 42, 43, 44, 45, 46, 47] (by decide +kernel) (by decide +kernel)
set_option maxRecDepth 20000 in
theorem gX0_init_X4_init_n17 : GoodIn wsX0_init (wsX4_init) := ggX0_init_X4_init
theorem dX0_init_0 : decode cX0_init 0 = .ok (.aload_n 0, 1) := by decide +kernel
theorem dX0_init_1 : decode cX0_init 1 = .ok (.invokespecial 3, 3) := by decide +kernel
theorem dX0_init_4 : decode cX0_init 4 = .ok (.aload_n 0, 1) := by decide +kernel
theorem dX0_init_5 : decode cX0_init 5 = .ok (.bipush 14, 2) := by decide +kernel
theorem dX0_init_7 : decode cX0_init 7 = .ok (.anewarray 9, 3) := by decide +kernel
theorem dX0_init_10 : decode cX0_init 10 = .ok (.putfield 11, 3) := by decide +kernel
theorem dX0_init_13 : decode cX0_init 13 = .ok (.iconst 0, 1) := by decide +kernel
theorem dX0_init_14 : decode cX0_init 14 = .ok (.istore_n 1, 1) := by decide +kernel
theorem dX0_init_15 : decode cX0_init 15 = .ok (.iload_n 1, 1) := by decide +kernel
theorem dX0_init_16 : decode cX0_init 16 = .ok (.aload_n 0, 1) := by decide +kernel
theorem dX0_init_17 : decode cX0_init 17 = .ok (.getfield 11, 3) := by decide +kernel
theorem dX0_init_20 : decode cX0_init 20 = .ok (.arraylength, 1) := by decide +kernel
theorem dX0_init_21 : decode cX0_init 21 = .ok (.if_icmp .ge 22, 3) := by decide +kernel
theorem dX0_init_24 : decode cX0_init 24 = .ok (.aload_n 0, 1) := by decide +kernel
theorem dX0_init_25 : decode cX0_init 25 = .ok (.getfield 11, 3) := by decide +kernel
theorem dX0_init_28 : decode cX0_init 28 = .ok (.iload_n 1, 1) := by decide +kernel
theorem dX0_init_29 : decode cX0_init 29 = .ok (.new 9, 3) := by decide +kernel
theorem dX0_init_32 : decode cX0_init 32 = .ok (.dup, 1) := by decide +kernel
theorem dX0_init_33 : decode cX0_init 33 = .ok (.invokespecial 17, 3) := by decide +kernel
theorem dX0_init_36 : decode cX0_init 36 = .ok (.aastore, 1) := by decide +kernel
theorem dX0_init_37 : decode cX0_init 37 = .ok (.iinc 1 1, 3) := by decide +kernel
theorem dX0_init_40 : decode cX0_init 40 = .ok (.goto (-25), 3) := by decide +kernel
theorem dX0_init_43 : decode cX0_init 43 = .ok (.return_, 1) := by decide +kernel
theorem dX0_clear_0 : decode cX0_clear 0 = .ok (.aload_n 0, 1) := by decide +kernel
theorem dX0_clear_1 : decode cX0_clear 1 = .ok (.iconst 0, 1) := by decide +kernel
theorem dX0_clear_2 : decode cX0_clear 2 = .ok (.putfield 18, 3) := by decide +kernel
theorem dX0_clear_5 : decode cX0_clear 5 = .ok (.aload_n 0, 1) := by decide +kernel
theorem dX0_clear_6 : decode cX0_clear 6 = .ok (.iconst 0, 1) := by decide +kernel
theorem dX0_clear_7 : decode cX0_clear 7 = .ok (.putfield 22, 3) := by decide +kernel
theorem dX0_clear_10 : decode cX0_clear 10 = .ok (.return_, 1) := by decide +kernel
set_option maxRecDepth 20000 in
theorem ggX0_remember_X0_placeAt : GoodIn wsX0_remember wsX0_placeAt := goodIn_r _ [11, 12, 33, 34, 35] (by decide +kernel) (by decide +kernel)
set_option maxRecDepth 20000 in
theorem gX0_remember_X0_placeAt : GoodIn wsX0_remember (wsV RX0 25 RX0 yX0_placeAt wsX0_placeAt) := goodIn_app (goodIn_of _ (by decide +kernel)) ggX0_remember_X0_placeAt
set_option maxRecDepth 20000 in
theorem ggX0_remember_X4_copyFrom : GoodIn wsX0_remember wsX4_copyFrom := goodIn_r _ [17, 18, 19, 20, 21, 22, 23, 24, 25, 26, 27, 28, 29, 30, 31, 32, 36, 37, 38, 39, 40, 41, 42, 43, 44, 45, 46] (by decide +kernel) (by decide +kernel)
set_option maxRecDepth 20000 in
theorem gX0_remember_X4_copyFrom : GoodIn wsX0_remember (wsV RX0 29 RX4 yX4_copyFrom wsX4_copyFrom) := goodIn_app (goodIn_of _ (by decide +kernel)) ggX0_remember_X4_copyFrom
theorem dX0_remember_0 : decode cX0_remember 0 = .ok (.aload_n 0, 1) := by decide +kernel
theorem dX0_remember_1 : decode cX0_remember 1 = .ok (.aload_n 0, 1) := by decide +kernel
theorem dX0_remember_2 : decode cX0_remember 2 = .ok (.getfield 18, 3) := by decide +kernel
theorem dX0_remember_5 : decode cX0_remember 5 = .ok (.invokevirtual 25, 3) := by decide +kernel
theorem dX0_remember_8 : decode cX0_remember 8 = .ok (.astore_n 2, 1) := by decide +kernel
theorem dX0_remember_9 : decode cX0_remember 9 = .ok (.aload_n 2, 1) := by decide +kernel
theorem dX0_remember_10 : decode cX0_remember 10 = .ok (.ifnonnull 4, 3) := by decide +kernel
theorem dX0_remember_13 : decode cX0_remember 13 = .ok (.return_, 1) := by decide +kernel
theorem dX0_remember_14 : decode cX0_remember 14 = .ok (.aload_n 2, 1) := by decide +kernel
theorem dX0_remember_15 : decode cX0_remember 15 = .ok (.aload_n 1, 1) := by decide +kernel
theorem dX0_remember_16 : decode cX0_remember 16 = .ok (.invokevirtual 29, 3) := by decide +kernel
theorem dX0_remember_19 : decode cX0_remember 19 = .ok (.aload_n 0, 1) := by decide +kernel
theorem dX0_remember_20 : decode cX0_remember 20 = .ok (.aload_n 0, 1) := by decide +kernel
theorem dX0_remember_21 : decode cX0_remember 21 = .ok (.getfield 18, 3) := by decide +kernel
theorem dX0_remember_24 : decode cX0_remember 24 = .ok (.iconst 1, 1) := by decide +kernel
theorem dX0_remember_25 : decode cX0_remember 25 = .ok (.iadd, 1) := by decide +kernel
theorem dX0_remember_26 : decode cX0_remember 26 = .ok (.bipush 14, 2) := by decide +kernel
theorem dX0_remember_28 : decode cX0_remember 28 = .ok (.irem, 1) := by decide +kernel
theorem dX0_remember_29 : decode cX0_remember 29 = .ok (.putfield 18, 3) := by decide +kernel
theorem dX0_remember_32 : decode cX0_remember 32 = .ok (.aload_n 0, 1) := by decide +kernel
theorem dX0_remember_33 : decode cX0_remember 33 = .ok (.aload_n 0, 1) := by decide +kernel
theorem dX0_remember_34 : decode cX0_remember 34 = .ok (.getfield 22, 3) := by decide +kernel
theorem dX0_remember_37 : decode cX0_remember 37 = .ok (.iconst 1, 1) := by decide +kernel
theorem dX0_remember_38 : decode cX0_remember 38 = .ok (.iadd, 1) := by decide +kernel
theorem dX0_remember_39 : decode cX0_remember 39 = .ok (.bipush 14, 2) := by decide +kernel
theorem dX0_remember_41 : decode cX0_remember 41 = .ok (.invokestatic 33, 3) := by decide +kernel
theorem dX0_remember_44 : decode cX0_remember 44 = .ok (.putfield 22, 3) := by decide +kernel
theorem dX0_remember_47 : decode cX0_remember 47 = .ok (.return_, 1) := by decide +kernel
set_option maxRecDepth 20000 in
theorem ggX0_takeBack_X0_placeAt : GoodIn wsX0_takeBack wsX0_placeAt := goodIn_r _ [7, 8, 29, 30, 31] (by decide +kernel) (by decide +kernel)
set_option maxRecDepth 20000 in
theorem gX0_takeBack_X0_placeAt : GoodIn wsX0_takeBack (wsV RX0 25 RX0 yX0_placeAt wsX0_placeAt) := goodIn_app (goodIn_of _ (by decide +kernel)) ggX0_takeBack_X0_placeAt
set_option maxRecDepth 20000 in
theorem ggX0_takeBack_X4_copyFrom : GoodIn wsX0_takeBack wsX4_copyFrom := goodIn_r _ [13, 14, 15, 16, 17, 18, 19, 20, 21, 22, 23, 24, 25, 26, 27, 28, 32, 33, 34, 35, 36, 37, 38, 39, 40, 41, 42] (by decide +kernel) (by decide +kernel)
set_option maxRecDepth 20000 in
theorem gX0_takeBack_X4_copyFrom : GoodIn wsX0_takeBack (wsV RX0 29 RX4 yX4_copyFrom wsX4_copyFrom) := goodIn_app (goodIn_of _ (by decide +kernel)) ggX0_takeBack_X4_copyFrom
theorem dX0_takeBack_0 : decode cX0_takeBack 0 = .ok (.aload_n 0, 1) := by decide +kernel
theorem dX0_takeBack_1 : decode cX0_takeBack 1 = .ok (.getfield 18, 3) := by decide +kernel
theorem dX0_takeBack_4 : decode cX0_takeBack 4 = .ok (.bipush 14, 2) := by decide +kernel
theorem dX0_takeBack_6 : decode cX0_takeBack 6 = .ok (.iadd, 1) := by decide +kernel
theorem dX0_takeBack_7 : decode cX0_takeBack 7 = .ok (.iconst 1, 1) := by decide +kernel
theorem dX0_takeBack_8 : decode cX0_takeBack 8 = .ok (.isub, 1) := by decide +kernel
theorem dX0_takeBack_9 : decode cX0_takeBack 9 = .ok (.bipush 14, 2) := by decide +kernel
theorem dX0_takeBack_11 : decode cX0_takeBack 11 = .ok (.irem, 1) := by decide +kernel
theorem dX0_takeBack_12 : decode cX0_takeBack 12 = .ok (.istore_n 2, 1) := by decide +kernel
theorem dX0_takeBack_13 : decode cX0_takeBack 13 = .ok (.aload_n 0, 1) := by decide +kernel
theorem dX0_takeBack_14 : decode cX0_takeBack 14 = .ok (.iload_n 2, 1) := by decide +kernel
theorem dX0_takeBack_15 : decode cX0_takeBack 15 = .ok (.invokevirtual 25, 3) := by decide +kernel
theorem dX0_takeBack_18 : decode cX0_takeBack 18 = .ok (.astore_n 3, 1) := by decide +kernel
theorem dX0_takeBack_19 : decode cX0_takeBack 19 = .ok (.aload_n 3, 1) := by decide +kernel
theorem dX0_takeBack_20 : decode cX0_takeBack 20 = .ok (.ifnull 10, 3) := by decide +kernel
theorem dX0_takeBack_23 : decode cX0_takeBack 23 = .ok (.aload_n 0, 1) := by decide +kernel
theorem dX0_takeBack_24 : decode cX0_takeBack 24 = .ok (.getfield 22, 3) := by decide +kernel
theorem dX0_takeBack_27 : decode cX0_takeBack 27 = .ok (.ifCond .gt 4, 3) := by decide +kernel
theorem dX0_takeBack_30 : decode cX0_takeBack 30 = .ok (.return_, 1) := by decide +kernel
theorem dX0_takeBack_31 : decode cX0_takeBack 31 = .ok (.aload_n 1, 1) := by decide +kernel
theorem dX0_takeBack_32 : decode cX0_takeBack 32 = .ok (.aload_n 3, 1) := by decide +kernel
theorem dX0_takeBack_33 : decode cX0_takeBack 33 = .ok (.invokevirtual 29, 3) := by decide +kernel
theorem dX0_takeBack_36 : decode cX0_takeBack 36 = .ok (.aload_n 0, 1) := by decide +kernel
theorem dX0_takeBack_37 : decode cX0_takeBack 37 = .ok (.iload_n 2, 1) := by decide +kernel
theorem dX0_takeBack_38 : decode cX0_takeBack 38 = .ok (.putfield 18, 3) := by decide +kernel
theorem dX0_takeBack_41 : decode cX0_takeBack 41 = .ok (.aload_n 0, 1) := by decide +kernel
theorem dX0_takeBack_42 : decode cX0_takeBack 42 = .ok (.dup, 1) := by decide +kernel
theorem dX0_takeBack_43 : decode cX0_takeBack 43 = .ok (.getfield 22, 3) := by decide +kernel
theorem dX0_takeBack_46 : decode cX0_takeBack 46 = .ok (.iconst 1, 1) := by decide +kernel
theorem dX0_takeBack_47 : decode cX0_takeBack 47 = .ok (.isub, 1) := by decide +kernel
theorem dX0_takeBack_48 : decode cX0_takeBack 48 = .ok (.putfield 22, 3) := by decide +kernel
theorem dX0_takeBack_51 : decode cX0_takeBack 51 = .ok (.return_, 1) := by decide +kernel
theorem dX0_placeAt_0 : decode cX0_placeAt 0 = .ok (.iload_n 1, 1) := by decide +kernel
theorem dX0_placeAt_1 : decode cX0_placeAt 1 = .ok (.ifCond .lt 21, 3) := by decide +kernel
theorem dX0_placeAt_4 : decode cX0_placeAt 4 = .ok (.iload_n 1, 1) := by decide +kernel
theorem dX0_placeAt_5 : decode cX0_placeAt 5 = .ok (.aload_n 0, 1) := by decide +kernel
theorem dX0_placeAt_6 : decode cX0_placeAt 6 = .ok (.getfield 11, 3) := by decide +kernel
theorem dX0_placeAt_9 : decode cX0_placeAt 9 = .ok (.arraylength, 1) := by decide +kernel
theorem dX0_placeAt_10 : decode cX0_placeAt 10 = .ok (.if_icmp .ge 12, 3) := by decide +kernel
theorem dX0_placeAt_13 : decode cX0_placeAt 13 = .ok (.aload_n 0, 1) := by decide +kernel
theorem dX0_placeAt_14 : decode cX0_placeAt 14 = .ok (.getfield 11, 3) := by decide +kernel
theorem dX0_placeAt_17 : decode cX0_placeAt 17 = .ok (.iload_n 1, 1) := by decide +kernel
theorem dX0_placeAt_18 : decode cX0_placeAt 18 = .ok (.aaload, 1) := by decide +kernel
theorem dX0_placeAt_19 : decode cX0_placeAt 19 = .ok (.goto 4, 3) := by decide +kernel
theorem dX0_placeAt_22 : decode cX0_placeAt 22 = .ok (.aconst_null, 1) := by decide +kernel
theorem dX0_placeAt_23 : decode cX0_placeAt 23 = .ok (.areturn, 1) := by decide +kernel
theorem dX1_init_0 : decode cX1_init 0 = .ok (.aload_n 0, 1) := by decide +kernel
theorem dX1_init_1 : decode cX1_init 1 = .ok (.invokespecial 3, 3) := by decide +kernel
theorem dX1_init_4 : decode cX1_init 4 = .ok (.return_, 1) := by decide +kernel
set_option maxRecDepth 20000 in
theorem ggX1_set_J6_bitCount_0f7a4 : GoodIn wsX1_set wsJ6_bitCount_0f7a4 := goodIn_r _ [10, 11, 12, 13] (by decide +kernel) (by decide +kernel)
set_option maxRecDepth 20000 in
theorem gX1_set_J6_bitCount_0f7a4 : GoodIn wsX1_set (va_wsS RX1 24 yJ6_bitCount_0f7a4 wsJ6_bitCount_0f7a4) := goodIn_app (goodIn_of _ (by decide +kernel)) ggX1_set_J6_bitCount_0f7a4
theorem dX1_set_0 : decode cX1_set 0 = .ok (.aload_n 0, 1) := by decide +kernel
theorem dX1_set_1 : decode cX1_set 1 = .ok (.iload_n 1, 1) := by decide +kernel
theorem dX1_set_2 : decode cX1_set 2 = .ok (.putfield 9, 3) := by decide +kernel
theorem dX1_set_5 : decode cX1_set 5 = .ok (.aload_n 0, 1) := by decide +kernel
theorem dX1_set_6 : decode cX1_set 6 = .ok (.iload_n 2, 1) := by decide +kernel
theorem dX1_set_7 : decode cX1_set 7 = .ok (.putfield 15, 3) := by decide +kernel
theorem dX1_set_10 : decode cX1_set 10 = .ok (.aload_n 0, 1) := by decide +kernel
theorem dX1_set_11 : decode cX1_set 11 = .ok (.iload_n 3, 1) := by decide +kernel
theorem dX1_set_12 : decode cX1_set 12 = .ok (.putfield 18, 3) := by decide +kernel
theorem dX1_set_15 : decode cX1_set 15 = .ok (.aload_n 0, 1) := by decide +kernel
theorem dX1_set_16 : decode cX1_set 16 = .ok (.iload 4, 2) := by decide +kernel
theorem dX1_set_18 : decode cX1_set 18 = .ok (.putfield 21, 3) := by decide +kernel
theorem dX1_set_21 : decode cX1_set 21 = .ok (.aload_n 0, 1) := by decide +kernel
theorem dX1_set_22 : decode cX1_set 22 = .ok (.bipush 10, 2) := by decide +kernel
theorem dX1_set_24 : decode cX1_set 24 = .ok (.iload_n 1, 1) := by decide +kernel
theorem dX1_set_25 : decode cX1_set 25 = .ok (.invokestatic 24, 3) := by decide +kernel
theorem dX1_set_28 : decode cX1_set 28 = .ok (.imul, 1) := by decide +kernel
theorem dX1_set_29 : decode cX1_set 29 = .ok (.putfield 30, 3) := by decide +kernel
theorem dX1_set_32 : decode cX1_set 32 = .ok (.aload_n 0, 1) := by decide +kernel
theorem dX1_set_33 : decode cX1_set 33 = .ok (.bipush 10, 2) := by decide +kernel
theorem dX1_set_35 : decode cX1_set 35 = .ok (.iload_n 2, 1) := by decide +kernel
theorem dX1_set_36 : decode cX1_set 36 = .ok (.invokestatic 24, 3) := by decide +kernel
theorem dX1_set_39 : decode cX1_set 39 = .ok (.imul, 1) := by decide +kernel
theorem dX1_set_40 : decode cX1_set 40 = .ok (.putfield 33, 3) := by decide +kernel
theorem dX1_set_43 : decode cX1_set 43 = .ok (.return_, 1) := by decide +kernel
theorem dX1_outcome_0 : decode cX1_outcome 0 = .ok (.aload_n 0, 1) := by decide +kernel
theorem dX1_outcome_1 : decode cX1_outcome 1 = .ok (.getfield 18, 3) := by decide +kernel
theorem dX1_outcome_4 : decode cX1_outcome 4 = .ok (.aload_n 0, 1) := by decide +kernel
theorem dX1_outcome_5 : decode cX1_outcome 5 = .ok (.getfield 30, 3) := by decide +kernel
theorem dX1_outcome_8 : decode cX1_outcome 8 = .ok (.iload_n 2, 1) := by decide +kernel
theorem dX1_outcome_9 : decode cX1_outcome 9 = .ok (.iadd, 1) := by decide +kernel
theorem dX1_outcome_10 : decode cX1_outcome 10 = .ok (.iload_n 1, 1) := by decide +kernel
theorem dX1_outcome_11 : decode cX1_outcome 11 = .ok (.iconst 1, 1) := by decide +kernel
theorem dX1_outcome_12 : decode cX1_outcome 12 = .ok (.if_icmp .ne 7, 3) := by decide +kernel
theorem dX1_outcome_15 : decode cX1_outcome 15 = .ok (.iconst 1, 1) := by decide +kernel
theorem dX1_outcome_16 : decode cX1_outcome 16 = .ok (.goto 4, 3) := by decide +kernel
theorem dX1_outcome_19 : decode cX1_outcome 19 = .ok (.iconst 0, 1) := by decide +kernel
theorem dX1_outcome_20 : decode cX1_outcome 20 = .ok (.iadd, 1) := by decide +kernel
theorem dX1_outcome_21 : decode cX1_outcome 21 = .ok (.imul, 1) := by decide +kernel
theorem dX1_outcome_22 : decode cX1_outcome 22 = .ok (.istore 4, 2) := by decide +kernel
theorem dX1_outcome_24 : decode cX1_outcome 24 = .ok (.aload_n 0, 1) := by decide +kernel
theorem dX1_outcome_25 : decode cX1_outcome 25 = .ok (.getfield 21, 3) := by decide +kernel
theorem dX1_outcome_28 : decode cX1_outcome 28 = .ok (.aload_n 0, 1) := by decide +kernel
theorem dX1_outcome_29 : decode cX1_outcome 29 = .ok (.getfield 33, 3) := by decide +kernel
theorem dX1_outcome_32 : decode cX1_outcome 32 = .ok (.iload_n 3, 1) := by decide +kernel
theorem dX1_outcome_33 : decode cX1_outcome 33 = .ok (.iadd, 1) := by decide +kernel
theorem dX1_outcome_34 : decode cX1_outcome 34 = .ok (.iload_n 1, 1) := by decide +kernel
theorem dX1_outcome_35 : decode cX1_outcome 35 = .ok (.iconst 2, 1) := by decide +kernel
theorem dX1_outcome_36 : decode cX1_outcome 36 = .ok (.if_icmp .ne 7, 3) := by decide +kernel
theorem dX1_outcome_39 : decode cX1_outcome 39 = .ok (.iconst 1, 1) := by decide +kernel
theorem dX1_outcome_40 : decode cX1_outcome 40 = .ok (.goto 4, 3) := by decide +kernel
theorem dX1_outcome_43 : decode cX1_outcome 43 = .ok (.iconst 0, 1) := by decide +kernel
theorem dX1_outcome_44 : decode cX1_outcome 44 = .ok (.iadd, 1) := by decide +kernel
theorem dX1_outcome_45 : decode cX1_outcome 45 = .ok (.imul, 1) := by decide +kernel
theorem dX1_outcome_46 : decode cX1_outcome 46 = .ok (.istore 5, 2) := by decide +kernel
theorem dX1_outcome_48 : decode cX1_outcome 48 = .ok (.iload 4, 2) := by decide +kernel
theorem dX1_outcome_50 : decode cX1_outcome 50 = .ok (.iload 5, 2) := by decide +kernel
theorem dX1_outcome_52 : decode cX1_outcome 52 = .ok (.if_icmp .le 7, 3) := by decide +kernel
theorem dX1_outcome_55 : decode cX1_outcome 55 = .ok (.iconst 1, 1) := by decide +kernel
theorem dX1_outcome_56 : decode cX1_outcome 56 = .ok (.goto 15, 3) := by decide +kernel
theorem dX1_outcome_59 : decode cX1_outcome 59 = .ok (.iload 4, 2) := by decide +kernel
theorem dX1_outcome_61 : decode cX1_outcome 61 = .ok (.iload 5, 2) := by decide +kernel
theorem dX1_outcome_63 : decode cX1_outcome 63 = .ok (.if_icmp .ge 7, 3) := by decide +kernel
theorem dX1_outcome_66 : decode cX1_outcome 66 = .ok (.iconst 2, 1) := by decide +kernel
theorem dX1_outcome_67 : decode cX1_outcome 67 = .ok (.goto 4, 3) := by decide +kernel
theorem dX1_outcome_70 : decode cX1_outcome 70 = .ok (.iconst 0, 1) := by decide +kernel
theorem dX1_outcome_71 : decode cX1_outcome 71 = .ok (.ireturn, 1) := by decide +kernel
set_option maxRecDepth 20000 in
theorem ggX1_outcomeInCase_X1_outcome : GoodIn wsX1_outcomeInCase wsX1_outcome := goodIn_r _ [7, 8, 9, 10, 11, 12, 13, 14, 15, 16, 17] (by decide +kernel) (by decide +kernel)
set_option maxRecDepth 20000 in
theorem gX1_outcomeInCase_X1_outcome : GoodIn wsX1_outcomeInCase (wsV RX1 36 RX1 yX1_outcome wsX1_outcome) := goodIn_app (goodIn_of _ (by decide +kernel)) ggX1_outcomeInCase_X1_outcome
theorem dX1_outcomeInCase_0 : decode cX1_outcomeInCase 0 = .ok (.iload_n 1, 1) := by decide +kernel
theorem dX1_outcomeInCase_1 : decode cX1_outcomeInCase 1 = .ok (.iconst 3, 1) := by decide +kernel
theorem dX1_outcomeInCase_2 : decode cX1_outcomeInCase 2 = .ok (.idiv, 1) := by decide +kernel
theorem dX1_outcomeInCase_3 : decode cX1_outcomeInCase 3 = .ok (.istore_n 2, 1) := by decide +kernel
theorem dX1_outcomeInCase_4 : decode cX1_outcomeInCase 4 = .ok (.iload_n 2, 1) := by decide +kernel
theorem dX1_outcomeInCase_5 : decode cX1_outcomeInCase 5 = .ok (.iconst 2, 1) := by decide +kernel
theorem dX1_outcomeInCase_6 : decode cX1_outcomeInCase 6 = .ok (.irem, 1) := by decide +kernel
theorem dX1_outcomeInCase_7 : decode cX1_outcomeInCase 7 = .ok (.ifCond .ne 7, 3) := by decide +kernel
theorem dX1_outcomeInCase_10 : decode cX1_outcomeInCase 10 = .ok (.iconst (-1), 1) := by decide +kernel
theorem dX1_outcomeInCase_11 : decode cX1_outcomeInCase 11 = .ok (.goto 4, 3) := by decide +kernel
theorem dX1_outcomeInCase_14 : decode cX1_outcomeInCase 14 = .ok (.iconst 1, 1) := by decide +kernel
theorem dX1_outcomeInCase_15 : decode cX1_outcomeInCase 15 = .ok (.istore_n 3, 1) := by decide +kernel
theorem dX1_outcomeInCase_16 : decode cX1_outcomeInCase 16 = .ok (.iconst 1, 1) := by decide +kernel
theorem dX1_outcomeInCase_17 : decode cX1_outcomeInCase 17 = .ok (.iload_n 2, 1) := by decide +kernel
theorem dX1_outcomeInCase_18 : decode cX1_outcomeInCase 18 = .ok (.iconst 2, 1) := by decide +kernel
theorem dX1_outcomeInCase_19 : decode cX1_outcomeInCase 19 = .ok (.idiv, 1) := by decide +kernel
theorem dX1_outcomeInCase_20 : decode cX1_outcomeInCase 20 = .ok (.ishl, 1) := by decide +kernel
theorem dX1_outcomeInCase_21 : decode cX1_outcomeInCase 21 = .ok (.istore 4, 2) := by decide +kernel
theorem dX1_outcomeInCase_23 : decode cX1_outcomeInCase 23 = .ok (.aload_n 0, 1) := by decide +kernel
theorem dX1_outcomeInCase_24 : decode cX1_outcomeInCase 24 = .ok (.iload_n 1, 1) := by decide +kernel
theorem dX1_outcomeInCase_25 : decode cX1_outcomeInCase 25 = .ok (.iconst 3, 1) := by decide +kernel
theorem dX1_outcomeInCase_26 : decode cX1_outcomeInCase 26 = .ok (.irem, 1) := by decide +kernel
theorem dX1_outcomeInCase_27 : decode cX1_outcomeInCase 27 = .ok (.aload_n 0, 1) := by decide +kernel
theorem dX1_outcomeInCase_28 : decode cX1_outcomeInCase 28 = .ok (.getfield 9, 3) := by decide +kernel
theorem dX1_outcomeInCase_31 : decode cX1_outcomeInCase 31 = .ok (.iload 4, 2) := by decide +kernel
theorem dX1_outcomeInCase_33 : decode cX1_outcomeInCase 33 = .ok (.iand, 1) := by decide +kernel
theorem dX1_outcomeInCase_34 : decode cX1_outcomeInCase 34 = .ok (.ifCond .eq 7, 3) := by decide +kernel
theorem dX1_outcomeInCase_37 : decode cX1_outcomeInCase 37 = .ok (.iload_n 3, 1) := by decide +kernel
theorem dX1_outcomeInCase_38 : decode cX1_outcomeInCase 38 = .ok (.goto 4, 3) := by decide +kernel
theorem dX1_outcomeInCase_41 : decode cX1_outcomeInCase 41 = .ok (.iconst 0, 1) := by decide +kernel
theorem dX1_outcomeInCase_42 : decode cX1_outcomeInCase 42 = .ok (.aload_n 0, 1) := by decide +kernel
theorem dX1_outcomeInCase_43 : decode cX1_outcomeInCase 43 = .ok (.getfield 15, 3) := by decide +kernel
theorem dX1_outcomeInCase_46 : decode cX1_outcomeInCase 46 = .ok (.iload 4, 2) := by decide +kernel
theorem dX1_outcomeInCase_48 : decode cX1_outcomeInCase 48 = .ok (.iand, 1) := by decide +kernel
theorem dX1_outcomeInCase_49 : decode cX1_outcomeInCase 49 = .ok (.ifCond .eq 7, 3) := by decide +kernel
theorem dX1_outcomeInCase_52 : decode cX1_outcomeInCase 52 = .ok (.iload_n 3, 1) := by decide +kernel
theorem dX1_outcomeInCase_53 : decode cX1_outcomeInCase 53 = .ok (.goto 4, 3) := by decide +kernel
theorem dX1_outcomeInCase_56 : decode cX1_outcomeInCase 56 = .ok (.iconst 0, 1) := by decide +kernel
theorem dX1_outcomeInCase_57 : decode cX1_outcomeInCase 57 = .ok (.invokevirtual 36, 3) := by decide +kernel
theorem dX1_outcomeInCase_60 : decode cX1_outcomeInCase 60 = .ok (.ireturn, 1) := by decide +kernel
set_option maxRecDepth 20000 in
theorem ggX2_init_X4_init : GoodIn wsX2_init wsX4_init := goodIn_r _ [9, 10, 2, 3, 11, 12, 13, 14, 15, 16, 17, 18, 19, 20, 21, 22, 23, 24, 25, 26, 27, 28, 29, 30, 31, 32, 33, 34, 35, 36, 37, 40, 41, 42, 43, 44, 45, 46] (by decide +kernel) (by decide +kernel)
set_option maxRecDepth 20000 in
theorem gX2_init_X4_init_n9 : GoodIn wsX2_init (wsX4_init) := ggX2_init_X4_init
theorem dX2_init_0 : decode cX2_init 0 = .ok (.aload_n 0, 1) := by decide +kernel
theorem dX2_init_1 : decode cX2_init 1 = .ok (.invokespecial 1, 3) := by decide +kernel
theorem dX2_init_4 : decode cX2_init 4 = .ok (.aload_n 0, 1) := by decide +kernel
theorem dX2_init_5 : decode cX2_init 5 = .ok (.new 7, 3) := by decide +kernel
theorem dX2_init_8 : decode cX2_init 8 = .ok (.dup, 1) := by decide +kernel
theorem dX2_init_9 : decode cX2_init 9 = .ok (.invokespecial 9, 3) := by decide +kernel
theorem dX2_init_12 : decode cX2_init 12 = .ok (.putfield 10, 3) := by decide +kernel
theorem dX2_init_15 : decode cX2_init 15 = .ok (.return_, 1) := by decide +kernel
theorem dX3_init_0 : decode cX3_init 0 = .ok (.aload_n 0, 1) := by decide +kernel
theorem dX3_init_1 : decode cX3_init 1 = .ok (.invokespecial 3, 3) := by decide +kernel
theorem dX3_init_4 : decode cX3_init 4 = .ok (.aload_n 0, 1) := by decide +kernel
theorem dX3_init_5 : decode cX3_init 5 = .ok (.bipush 6, 2) := by decide +kernel
theorem dX3_init_7 : decode cX3_init 7 = .ok (.newarray .int, 2) := by decide +kernel
theorem dX3_init_9 : decode cX3_init 9 = .ok (.putfield 9, 3) := by decide +kernel
theorem dX3_init_12 : decode cX3_init 12 = .ok (.return_, 1) := by decide +kernel
theorem dX3_copyFrom_0 : decode cX3_copyFrom 0 = .ok (.iconst 0, 1) := by decide +kernel
theorem dX3_copyFrom_1 : decode cX3_copyFrom 1 = .ok (.istore_n 2, 1) := by decide +kernel
theorem dX3_copyFrom_2 : decode cX3_copyFrom 2 = .ok (.iload_n 2, 1) := by decide +kernel
theorem dX3_copyFrom_3 : decode cX3_copyFrom 3 = .ok (.aload_n 0, 1) := by decide +kernel
theorem dX3_copyFrom_4 : decode cX3_copyFrom 4 = .ok (.getfield 9, 3) := by decide +kernel
theorem dX3_copyFrom_7 : decode cX3_copyFrom 7 = .ok (.arraylength, 1) := by decide +kernel
theorem dX3_copyFrom_8 : decode cX3_copyFrom 8 = .ok (.if_icmp .ge 30, 3) := by decide +kernel
theorem dX3_copyFrom_11 : decode cX3_copyFrom 11 = .ok (.iload_n 2, 1) := by decide +kernel
theorem dX3_copyFrom_12 : decode cX3_copyFrom 12 = .ok (.aload_n 1, 1) := by decide +kernel
theorem dX3_copyFrom_13 : decode cX3_copyFrom 13 = .ok (.getfield 9, 3) := by decide +kernel
theorem dX3_copyFrom_16 : decode cX3_copyFrom 16 = .ok (.arraylength, 1) := by decide +kernel
theorem dX3_copyFrom_17 : decode cX3_copyFrom 17 = .ok (.if_icmp .ge 21, 3) := by decide +kernel
theorem dX3_copyFrom_20 : decode cX3_copyFrom 20 = .ok (.aload_n 0, 1) := by decide +kernel
theorem dX3_copyFrom_21 : decode cX3_copyFrom 21 = .ok (.getfield 9, 3) := by decide +kernel
theorem dX3_copyFrom_24 : decode cX3_copyFrom 24 = .ok (.iload_n 2, 1) := by decide +kernel
theorem dX3_copyFrom_25 : decode cX3_copyFrom 25 = .ok (.aload_n 1, 1) := by decide +kernel
theorem dX3_copyFrom_26 : decode cX3_copyFrom 26 = .ok (.getfield 9, 3) := by decide +kernel
theorem dX3_copyFrom_29 : decode cX3_copyFrom 29 = .ok (.iload_n 2, 1) := by decide +kernel
theorem dX3_copyFrom_30 : decode cX3_copyFrom 30 = .ok (.iaload, 1) := by decide +kernel
theorem dX3_copyFrom_31 : decode cX3_copyFrom 31 = .ok (.iastore, 1) := by decide +kernel
theorem dX3_copyFrom_32 : decode cX3_copyFrom 32 = .ok (.iinc 2 1, 3) := by decide +kernel
theorem dX3_copyFrom_35 : decode cX3_copyFrom 35 = .ok (.goto (-33), 3) := by decide +kernel
theorem dX3_copyFrom_38 : decode cX3_copyFrom 38 = .ok (.return_, 1) := by decide +kernel
theorem dX3_suspectAll_0 : decode cX3_suspectAll 0 = .ok (.iconst 1, 1) := by decide +kernel
theorem dX3_suspectAll_1 : decode cX3_suspectAll 1 = .ok (.iload_n 1, 1) := by decide +kernel
theorem dX3_suspectAll_2 : decode cX3_suspectAll 2 = .ok (.ishl, 1) := by decide +kernel
theorem dX3_suspectAll_3 : decode cX3_suspectAll 3 = .ok (.iconst 1, 1) := by decide +kernel
theorem dX3_suspectAll_4 : decode cX3_suspectAll 4 = .ok (.isub, 1) := by decide +kernel
theorem dX3_suspectAll_5 : decode cX3_suspectAll 5 = .ok (.istore_n 2, 1) := by decide +kernel
theorem dX3_suspectAll_6 : decode cX3_suspectAll 6 = .ok (.iconst 0, 1) := by decide +kernel
theorem dX3_suspectAll_7 : decode cX3_suspectAll 7 = .ok (.istore_n 3, 1) := by decide +kernel
theorem dX3_suspectAll_8 : decode cX3_suspectAll 8 = .ok (.iload_n 3, 1) := by decide +kernel
theorem dX3_suspectAll_9 : decode cX3_suspectAll 9 = .ok (.aload_n 0, 1) := by decide +kernel
theorem dX3_suspectAll_10 : decode cX3_suspectAll 10 = .ok (.getfield 9, 3) := by decide +kernel
theorem dX3_suspectAll_13 : decode cX3_suspectAll 13 = .ok (.arraylength, 1) := by decide +kernel
theorem dX3_suspectAll_14 : decode cX3_suspectAll 14 = .ok (.if_icmp .ge 30, 3) := by decide +kernel
theorem dX3_suspectAll_17 : decode cX3_suspectAll 17 = .ok (.aload_n 0, 1) := by decide +kernel
theorem dX3_suspectAll_18 : decode cX3_suspectAll 18 = .ok (.getfield 9, 3) := by decide +kernel
theorem dX3_suspectAll_21 : decode cX3_suspectAll 21 = .ok (.iload_n 3, 1) := by decide +kernel
theorem dX3_suspectAll_22 : decode cX3_suspectAll 22 = .ok (.iload_n 3, 1) := by decide +kernel
theorem dX3_suspectAll_23 : decode cX3_suspectAll 23 = .ok (.iconst 2, 1) := by decide +kernel
theorem dX3_suspectAll_24 : decode cX3_suspectAll 24 = .ok (.irem, 1) := by decide +kernel
theorem dX3_suspectAll_25 : decode cX3_suspectAll 25 = .ok (.ifCond .ne 11, 3) := by decide +kernel
theorem dX3_suspectAll_28 : decode cX3_suspectAll 28 = .ok (.iload_n 2, 1) := by decide +kernel
theorem dX3_suspectAll_29 : decode cX3_suspectAll 29 = .ok (.iconst 1, 1) := by decide +kernel
theorem dX3_suspectAll_30 : decode cX3_suspectAll 30 = .ok (.iload_n 1, 1) := by decide +kernel
theorem dX3_suspectAll_31 : decode cX3_suspectAll 31 = .ok (.ishl, 1) := by decide +kernel
theorem dX3_suspectAll_32 : decode cX3_suspectAll 32 = .ok (.ior, 1) := by decide +kernel
theorem dX3_suspectAll_33 : decode cX3_suspectAll 33 = .ok (.goto 4, 3) := by decide +kernel
theorem dX3_suspectAll_36 : decode cX3_suspectAll 36 = .ok (.iload_n 2, 1) := by decide +kernel
theorem dX3_suspectAll_37 : decode cX3_suspectAll 37 = .ok (.iastore, 1) := by decide +kernel
theorem dX3_suspectAll_38 : decode cX3_suspectAll 38 = .ok (.iinc 3 1, 3) := by decide +kernel
theorem dX3_suspectAll_41 : decode cX3_suspectAll 41 = .ok (.goto (-33), 3) := by decide +kernel
theorem dX3_suspectAll_44 : decode cX3_suspectAll 44 = .ok (.return_, 1) := by decide +kernel
theorem dX3_has_0 : decode cX3_has 0 = .ok (.iload_n 1, 1) := by decide +kernel
theorem dX3_has_1 : decode cX3_has 1 = .ok (.iconst 3, 1) := by decide +kernel
theorem dX3_has_2 : decode cX3_has 2 = .ok (.idiv, 1) := by decide +kernel
theorem dX3_has_3 : decode cX3_has 3 = .ok (.istore_n 2, 1) := by decide +kernel
theorem dX3_has_4 : decode cX3_has 4 = .ok (.iconst 2, 1) := by decide +kernel
theorem dX3_has_5 : decode cX3_has 5 = .ok (.iload_n 1, 1) := by decide +kernel
theorem dX3_has_6 : decode cX3_has 6 = .ok (.iconst 3, 1) := by decide +kernel
theorem dX3_has_7 : decode cX3_has 7 = .ok (.irem, 1) := by decide +kernel
theorem dX3_has_8 : decode cX3_has 8 = .ok (.imul, 1) := by decide +kernel
theorem dX3_has_9 : decode cX3_has 9 = .ok (.iload_n 2, 1) := by decide +kernel
theorem dX3_has_10 : decode cX3_has 10 = .ok (.iconst 2, 1) := by decide +kernel
theorem dX3_has_11 : decode cX3_has 11 = .ok (.irem, 1) := by decide +kernel
theorem dX3_has_12 : decode cX3_has 12 = .ok (.iadd, 1) := by decide +kernel
theorem dX3_has_13 : decode cX3_has 13 = .ok (.istore_n 3, 1) := by decide +kernel
theorem dX3_has_14 : decode cX3_has 14 = .ok (.iload_n 3, 1) := by decide +kernel
theorem dX3_has_15 : decode cX3_has 15 = .ok (.ifCond .lt 32, 3) := by decide +kernel
theorem dX3_has_18 : decode cX3_has 18 = .ok (.iload_n 3, 1) := by decide +kernel
theorem dX3_has_19 : decode cX3_has 19 = .ok (.aload_n 0, 1) := by decide +kernel
theorem dX3_has_20 : decode cX3_has 20 = .ok (.getfield 9, 3) := by decide +kernel
theorem dX3_has_23 : decode cX3_has 23 = .ok (.arraylength, 1) := by decide +kernel
theorem dX3_has_24 : decode cX3_has 24 = .ok (.if_icmp .ge 23, 3) := by decide +kernel
theorem dX3_has_27 : decode cX3_has 27 = .ok (.aload_n 0, 1) := by decide +kernel
theorem dX3_has_28 : decode cX3_has 28 = .ok (.getfield 9, 3) := by decide +kernel
theorem dX3_has_31 : decode cX3_has 31 = .ok (.iload_n 3, 1) := by decide +kernel
theorem dX3_has_32 : decode cX3_has 32 = .ok (.iaload, 1) := by decide +kernel
theorem dX3_has_33 : decode cX3_has 33 = .ok (.iload_n 2, 1) := by decide +kernel
theorem dX3_has_34 : decode cX3_has 34 = .ok (.iconst 2, 1) := by decide +kernel
theorem dX3_has_35 : decode cX3_has 35 = .ok (.idiv, 1) := by decide +kernel
theorem dX3_has_36 : decode cX3_has 36 = .ok (.ishr, 1) := by decide +kernel
theorem dX3_has_37 : decode cX3_has 37 = .ok (.iconst 1, 1) := by decide +kernel
theorem dX3_has_38 : decode cX3_has 38 = .ok (.iand, 1) := by decide +kernel
theorem dX3_has_39 : decode cX3_has 39 = .ok (.iconst 1, 1) := by decide +kernel
theorem dX3_has_40 : decode cX3_has 40 = .ok (.if_icmp .ne 7, 3) := by decide +kernel
theorem dX3_has_43 : decode cX3_has 43 = .ok (.iconst 1, 1) := by decide +kernel
theorem dX3_has_44 : decode cX3_has 44 = .ok (.goto 4, 3) := by decide +kernel
theorem dX3_has_47 : decode cX3_has 47 = .ok (.iconst 0, 1) := by decide +kernel
theorem dX3_has_48 : decode cX3_has 48 = .ok (.ireturn, 1) := by decide +kernel
set_option maxRecDepth 20000 in
theorem ggX3_count_J6_bitCount_0f7a4 : GoodIn wsX3_count wsJ6_bitCount_0f7a4 := goodIn_r _ [5, 6, 7, 8] (by decide +kernel) (by decide +kernel)
set_option maxRecDepth 20000 in
theorem gX3_count_J6_bitCount_0f7a4 : GoodIn wsX3_count (va_wsS RX3 15 yJ6_bitCount_0f7a4 wsJ6_bitCount_0f7a4) := goodIn_app (goodIn_of _ (by decide +kernel)) ggX3_count_J6_bitCount_0f7a4
theorem dX3_count_0 : decode cX3_count 0 = .ok (.iconst 0, 1) := by decide +kernel
theorem dX3_count_1 : decode cX3_count 1 = .ok (.istore_n 1, 1) := by decide +kernel
theorem dX3_count_2 : decode cX3_count 2 = .ok (.iconst 0, 1) := by decide +kernel
theorem dX3_count_3 : decode cX3_count 3 = .ok (.istore_n 2, 1) := by decide +kernel
theorem dX3_count_4 : decode cX3_count 4 = .ok (.iload_n 2, 1) := by decide +kernel
theorem dX3_count_5 : decode cX3_count 5 = .ok (.aload_n 0, 1) := by decide +kernel
theorem dX3_count_6 : decode cX3_count 6 = .ok (.getfield 9, 3) := by decide +kernel
theorem dX3_count_9 : decode cX3_count 9 = .ok (.arraylength, 1) := by decide +kernel
theorem dX3_count_10 : decode cX3_count 10 = .ok (.if_icmp .ge 21, 3) := by decide +kernel
theorem dX3_count_13 : decode cX3_count 13 = .ok (.iload_n 1, 1) := by decide +kernel
theorem dX3_count_14 : decode cX3_count 14 = .ok (.aload_n 0, 1) := by decide +kernel
theorem dX3_count_15 : decode cX3_count 15 = .ok (.getfield 9, 3) := by decide +kernel
theorem dX3_count_18 : decode cX3_count 18 = .ok (.iload_n 2, 1) := by decide +kernel
theorem dX3_count_19 : decode cX3_count 19 = .ok (.iaload, 1) := by decide +kernel
theorem dX3_count_20 : decode cX3_count 20 = .ok (.invokestatic 15, 3) := by decide +kernel
theorem dX3_count_23 : decode cX3_count 23 = .ok (.iadd, 1) := by decide +kernel
theorem dX3_count_24 : decode cX3_count 24 = .ok (.istore_n 1, 1) := by decide +kernel
theorem dX3_count_25 : decode cX3_count 25 = .ok (.iinc 2 1, 3) := by decide +kernel
theorem dX3_count_28 : decode cX3_count 28 = .ok (.goto (-24), 3) := by decide +kernel
theorem dX3_count_31 : decode cX3_count 31 = .ok (.iload_n 1, 1) := by decide +kernel
theorem dX3_count_32 : decode cX3_count 32 = .ok (.ireturn, 1) := by decide +kernel
theorem dX3_coinMayBe_0 : decode cX3_coinMayBe 0 = .ok (.iconst 0, 1) := by decide +kernel
theorem dX3_coinMayBe_1 : decode cX3_coinMayBe 1 = .ok (.istore_n 2, 1) := by decide +kernel
theorem dX3_coinMayBe_2 : decode cX3_coinMayBe 2 = .ok (.iconst 0, 1) := by decide +kernel
theorem dX3_coinMayBe_3 : decode cX3_coinMayBe 3 = .ok (.istore_n 3, 1) := by decide +kernel
theorem dX3_coinMayBe_4 : decode cX3_coinMayBe 4 = .ok (.iload_n 3, 1) := by decide +kernel
theorem dX3_coinMayBe_5 : decode cX3_coinMayBe 5 = .ok (.aload_n 0, 1) := by decide +kernel
theorem dX3_coinMayBe_6 : decode cX3_coinMayBe 6 = .ok (.getfield 9, 3) := by decide +kernel
theorem dX3_coinMayBe_9 : decode cX3_coinMayBe 9 = .ok (.arraylength, 1) := by decide +kernel
theorem dX3_coinMayBe_10 : decode cX3_coinMayBe 10 = .ok (.if_icmp .ge 55, 3) := by decide +kernel
theorem dX3_coinMayBe_13 : decode cX3_coinMayBe 13 = .ok (.aload_n 0, 1) := by decide +kernel
theorem dX3_coinMayBe_14 : decode cX3_coinMayBe 14 = .ok (.getfield 9, 3) := by decide +kernel
theorem dX3_coinMayBe_17 : decode cX3_coinMayBe 17 = .ok (.iload_n 3, 1) := by decide +kernel
theorem dX3_coinMayBe_18 : decode cX3_coinMayBe 18 = .ok (.iaload, 1) := by decide +kernel
theorem dX3_coinMayBe_19 : decode cX3_coinMayBe 19 = .ok (.iconst 1, 1) := by decide +kernel
theorem dX3_coinMayBe_20 : decode cX3_coinMayBe 20 = .ok (.iload_n 1, 1) := by decide +kernel
theorem dX3_coinMayBe_21 : decode cX3_coinMayBe 21 = .ok (.ishl, 1) := by decide +kernel
theorem dX3_coinMayBe_22 : decode cX3_coinMayBe 22 = .ok (.iand, 1) := by decide +kernel
theorem dX3_coinMayBe_23 : decode cX3_coinMayBe 23 = .ok (.ifCond .eq 17, 3) := by decide +kernel
theorem dX3_coinMayBe_26 : decode cX3_coinMayBe 26 = .ok (.iload_n 2, 1) := by decide +kernel
theorem dX3_coinMayBe_27 : decode cX3_coinMayBe 27 = .ok (.iload_n 3, 1) := by decide +kernel
theorem dX3_coinMayBe_28 : decode cX3_coinMayBe 28 = .ok (.iconst 2, 1) := by decide +kernel
theorem dX3_coinMayBe_29 : decode cX3_coinMayBe 29 = .ok (.irem, 1) := by decide +kernel
theorem dX3_coinMayBe_30 : decode cX3_coinMayBe 30 = .ok (.ifCond .ne 7, 3) := by decide +kernel
theorem dX3_coinMayBe_33 : decode cX3_coinMayBe 33 = .ok (.iconst 1, 1) := by decide +kernel
theorem dX3_coinMayBe_34 : decode cX3_coinMayBe 34 = .ok (.goto 4, 3) := by decide +kernel
theorem dX3_coinMayBe_37 : decode cX3_coinMayBe 37 = .ok (.iconst 2, 1) := by decide +kernel
theorem dX3_coinMayBe_38 : decode cX3_coinMayBe 38 = .ok (.ior, 1) := by decide +kernel
theorem dX3_coinMayBe_39 : decode cX3_coinMayBe 39 = .ok (.istore_n 2, 1) := by decide +kernel
theorem dX3_coinMayBe_40 : decode cX3_coinMayBe 40 = .ok (.aload_n 0, 1) := by decide +kernel
theorem dX3_coinMayBe_41 : decode cX3_coinMayBe 41 = .ok (.getfield 9, 3) := by decide +kernel
theorem dX3_coinMayBe_44 : decode cX3_coinMayBe 44 = .ok (.iload_n 3, 1) := by decide +kernel
theorem dX3_coinMayBe_45 : decode cX3_coinMayBe 45 = .ok (.iaload, 1) := by decide +kernel
theorem dX3_coinMayBe_46 : decode cX3_coinMayBe 46 = .ok (.iconst 1, 1) := by decide +kernel
theorem dX3_coinMayBe_47 : decode cX3_coinMayBe 47 = .ok (.iload_n 1, 1) := by decide +kernel
theorem dX3_coinMayBe_48 : decode cX3_coinMayBe 48 = .ok (.ishl, 1) := by decide +kernel
theorem dX3_coinMayBe_49 : decode cX3_coinMayBe 49 = .ok (.iconst (-1), 1) := by decide +kernel
theorem dX3_coinMayBe_50 : decode cX3_coinMayBe 50 = .ok (.ixor, 1) := by decide +kernel
theorem dX3_coinMayBe_51 : decode cX3_coinMayBe 51 = .ok (.iand, 1) := by decide +kernel
theorem dX3_coinMayBe_52 : decode cX3_coinMayBe 52 = .ok (.ifCond .eq 7, 3) := by decide +kernel
theorem dX3_coinMayBe_55 : decode cX3_coinMayBe 55 = .ok (.iload_n 2, 1) := by decide +kernel
theorem dX3_coinMayBe_56 : decode cX3_coinMayBe 56 = .ok (.iconst 4, 1) := by decide +kernel
theorem dX3_coinMayBe_57 : decode cX3_coinMayBe 57 = .ok (.ior, 1) := by decide +kernel
theorem dX3_coinMayBe_58 : decode cX3_coinMayBe 58 = .ok (.istore_n 2, 1) := by decide +kernel
theorem dX3_coinMayBe_59 : decode cX3_coinMayBe 59 = .ok (.iinc 3 1, 3) := by decide +kernel
theorem dX3_coinMayBe_62 : decode cX3_coinMayBe 62 = .ok (.goto (-58), 3) := by decide +kernel
theorem dX3_coinMayBe_65 : decode cX3_coinMayBe 65 = .ok (.iload_n 2, 1) := by decide +kernel
theorem dX3_coinMayBe_66 : decode cX3_coinMayBe 66 = .ok (.ireturn, 1) := by decide +kernel
theorem dX3_pansMayBe_0 : decode cX3_pansMayBe 0 = .ok (.iconst 0, 1) := by decide +kernel
theorem dX3_pansMayBe_1 : decode cX3_pansMayBe 1 = .ok (.istore_n 1, 1) := by decide +kernel
theorem dX3_pansMayBe_2 : decode cX3_pansMayBe 2 = .ok (.iconst 0, 1) := by decide +kernel
theorem dX3_pansMayBe_3 : decode cX3_pansMayBe 3 = .ok (.istore_n 2, 1) := by decide +kernel
theorem dX3_pansMayBe_4 : decode cX3_pansMayBe 4 = .ok (.iload_n 2, 1) := by decide +kernel
theorem dX3_pansMayBe_5 : decode cX3_pansMayBe 5 = .ok (.aload_n 0, 1) := by decide +kernel
theorem dX3_pansMayBe_6 : decode cX3_pansMayBe 6 = .ok (.getfield 9, 3) := by decide +kernel
theorem dX3_pansMayBe_9 : decode cX3_pansMayBe 9 = .ok (.arraylength, 1) := by decide +kernel
theorem dX3_pansMayBe_10 : decode cX3_pansMayBe 10 = .ok (.if_icmp .ge 26, 3) := by decide +kernel
theorem dX3_pansMayBe_13 : decode cX3_pansMayBe 13 = .ok (.aload_n 0, 1) := by decide +kernel
theorem dX3_pansMayBe_14 : decode cX3_pansMayBe 14 = .ok (.getfield 9, 3) := by decide +kernel
theorem dX3_pansMayBe_17 : decode cX3_pansMayBe 17 = .ok (.iload_n 2, 1) := by decide +kernel
theorem dX3_pansMayBe_18 : decode cX3_pansMayBe 18 = .ok (.iaload, 1) := by decide +kernel
theorem dX3_pansMayBe_19 : decode cX3_pansMayBe 19 = .ok (.ifCond .eq 11, 3) := by decide +kernel
theorem dX3_pansMayBe_22 : decode cX3_pansMayBe 22 = .ok (.iload_n 1, 1) := by decide +kernel
theorem dX3_pansMayBe_23 : decode cX3_pansMayBe 23 = .ok (.iconst 1, 1) := by decide +kernel
theorem dX3_pansMayBe_24 : decode cX3_pansMayBe 24 = .ok (.iload_n 2, 1) := by decide +kernel
theorem dX3_pansMayBe_25 : decode cX3_pansMayBe 25 = .ok (.iconst 2, 1) := by decide +kernel
theorem dX3_pansMayBe_26 : decode cX3_pansMayBe 26 = .ok (.idiv, 1) := by decide +kernel
theorem dX3_pansMayBe_27 : decode cX3_pansMayBe 27 = .ok (.ishl, 1) := by decide +kernel
theorem dX3_pansMayBe_28 : decode cX3_pansMayBe 28 = .ok (.ior, 1) := by decide +kernel
theorem dX3_pansMayBe_29 : decode cX3_pansMayBe 29 = .ok (.istore_n 1, 1) := by decide +kernel
theorem dX3_pansMayBe_30 : decode cX3_pansMayBe 30 = .ok (.iinc 2 1, 3) := by decide +kernel
theorem dX3_pansMayBe_33 : decode cX3_pansMayBe 33 = .ok (.goto (-29), 3) := by decide +kernel
theorem dX3_pansMayBe_36 : decode cX3_pansMayBe 36 = .ok (.iload_n 1, 1) := by decide +kernel
theorem dX3_pansMayBe_37 : decode cX3_pansMayBe 37 = .ok (.ireturn, 1) := by decide +kernel
set_option maxRecDepth 20000 in
theorem ggX3_keep_X1_outcome : GoodIn wsX3_keep wsX1_outcome := goodIn_r _ [8, 9, 10, 11, 12, 14, 15, 16, 17, 18, 19] (by decide +kernel) (by decide +kernel)
