set_option maxRecDepth 20000 in
theorem gX8_coin_X8_isCoin : GoodIn wsX8_coin (va_wsS RX8 163 yX8_isCoin wsX8_isCoin) := goodIn_app (goodIn_of _ (by decide +kernel)) ggX8_coin_X8_isCoin
set_option maxRecDepth 20000 in
theorem ggX8_coin_X8_refused : GoodIn wsX8_coin wsX8_refused := goodIn_r _ [12, 13, 35, 36, 37, 38, 39, 40, 41, 42, 43, 44, 45, 46, 47, 48] (by decide +kernel) (by decide +kernel)
set_option maxRecDepth 20000 in
theorem gX8_coin_X8_refused : GoodIn wsX8_coin (wsV RX8 102 RX8 yX8_refused wsX8_refused) := goodIn_app (goodIn_of _ (by decide +kernel)) ggX8_coin_X8_refused
set_option maxRecDepth 20000 in
theorem ggX8_coin_X8_coinOf : GoodIn wsX8_coin wsX8_coinOf := goodIn_r _ [16, 17, 18, 4, 19, 20, 21, 22, 23, 24, 25, 26, 27, 28, 29, 30, 31, 32, 33, 34] (by decide +kernel) (by decide +kernel)
set_option maxRecDepth 20000 in
theorem gX8_coin_X8_coinOf : GoodIn wsX8_coin (va_wsS RX8 166 yX8_coinOf wsX8_coinOf) := goodIn_app (goodIn_of _ (by decide +kernel)) ggX8_coin_X8_coinOf
theorem dX8_coin_0 : decode cX8_coin 0 = .ok (.aload_n 0, 1) := by decide +kernel
theorem dX8_coin_1 : decode cX8_coin 1 = .ok (.aload_n 0, 1) := by decide +kernel
theorem dX8_coin_2 : decode cX8_coin 2 = .ok (.getfield 13, 3) := by decide +kernel
theorem dX8_coin_5 : decode cX8_coin 5 = .ok (.iload_n 1, 1) := by decide +kernel
theorem dX8_coin_6 : decode cX8_coin 6 = .ok (.invokestatic 163, 3) := by decide +kernel
theorem dX8_coin_9 : decode cX8_coin 9 = .ok (.ifCond .eq 7, 3) := by decide +kernel
theorem dX8_coin_12 : decode cX8_coin 12 = .ok (.iconst 0, 1) := by decide +kernel
theorem dX8_coin_13 : decode cX8_coin 13 = .ok (.goto 4, 3) := by decide +kernel
theorem dX8_coin_16 : decode cX8_coin 16 = .ok (.iconst 1, 1) := by decide +kernel
theorem dX8_coin_17 : decode cX8_coin 17 = .ok (.invokevirtual 102, 3) := by decide +kernel
theorem dX8_coin_20 : decode cX8_coin 20 = .ok (.ifCond .eq 5, 3) := by decide +kernel
theorem dX8_coin_23 : decode cX8_coin 23 = .ok (.iconst 0, 1) := by decide +kernel
theorem dX8_coin_24 : decode cX8_coin 24 = .ok (.ireturn, 1) := by decide +kernel
theorem dX8_coin_25 : decode cX8_coin 25 = .ok (.aload_n 0, 1) := by decide +kernel
theorem dX8_coin_26 : decode cX8_coin 26 = .ok (.getfield 13, 3) := by decide +kernel
theorem dX8_coin_29 : decode cX8_coin 29 = .ok (.iload_n 1, 1) := by decide +kernel
theorem dX8_coin_30 : decode cX8_coin 30 = .ok (.invokestatic 166, 3) := by decide +kernel
theorem dX8_coin_33 : decode cX8_coin 33 = .ok (.ireturn, 1) := by decide +kernel
set_option maxRecDepth 20000 in
theorem ggX8_pans_X8_pansOf : GoodIn wsX8_pans wsX8_pansOf := goodIn_r _ [6, 7, 8, 5, 9, 10, 11, 12, 13, 14, 15, 16, 17, 18, 19, 20, 21, 22, 23, 24] (by decide +kernel) (by decide +kernel)
set_option maxRecDepth 20000 in
theorem gX8_pans_X8_pansOf : GoodIn wsX8_pans (va_wsS RX8 169 yX8_pansOf wsX8_pansOf) := goodIn_app (goodIn_of _ (by decide +kernel)) ggX8_pans_X8_pansOf
theorem dX8_pans_0 : decode cX8_pans 0 = .ok (.aload_n 0, 1) := by decide +kernel
theorem dX8_pans_1 : decode cX8_pans 1 = .ok (.iconst 0, 1) := by decide +kernel
theorem dX8_pans_2 : decode cX8_pans 2 = .ok (.putfield 39, 3) := by decide +kernel
theorem dX8_pans_5 : decode cX8_pans 5 = .ok (.aload_n 0, 1) := by decide +kernel
theorem dX8_pans_6 : decode cX8_pans 6 = .ok (.getfield 13, 3) := by decide +kernel
theorem dX8_pans_9 : decode cX8_pans 9 = .ok (.invokestatic 169, 3) := by decide +kernel
theorem dX8_pans_12 : decode cX8_pans 12 = .ok (.ireturn, 1) := by decide +kernel
set_option maxRecDepth 20000 in
theorem ggX8_isLeft_X8_allOf : GoodIn wsX8_isLeft wsX8_allOf := goodIn_r _ [5] (by decide +kernel) (by decide +kernel)
set_option maxRecDepth 20000 in
theorem gX8_isLeft_X8_allOf : GoodIn wsX8_isLeft (va_wsS RX8 72 yX8_allOf wsX8_allOf) := goodIn_app (goodIn_of _ (by decide +kernel)) ggX8_isLeft_X8_allOf
set_option maxRecDepth 20000 in
theorem ggX8_isLeft_X8_in : GoodIn wsX8_isLeft wsX8_in := goodIn_r _ [8] (by decide +kernel) (by decide +kernel)
set_option maxRecDepth 20000 in
theorem gX8_isLeft_X8_in : GoodIn wsX8_isLeft (va_wsS RX8 43 yX8_in wsX8_in) := goodIn_app (goodIn_of _ (by decide +kernel)) ggX8_isLeft_X8_in
set_option maxRecDepth 20000 in
theorem ggX8_isLeft_X8_refused : GoodIn wsX8_isLeft wsX8_refused := goodIn_r _ [12, 13, 29, 30, 31, 32, 33, 34, 35, 36, 37, 38, 39, 40, 41, 42] (by decide +kernel) (by decide +kernel)
set_option maxRecDepth 20000 in
theorem gX8_isLeft_X8_refused : GoodIn wsX8_isLeft (wsV RX8 102 RX8 yX8_refused wsX8_refused) := goodIn_app (goodIn_of _ (by decide +kernel)) ggX8_isLeft_X8_refused
set_option maxRecDepth 20000 in
theorem ggX8_isLeft_X8_fits : GoodIn wsX8_isLeft wsX8_fits := goodIn_r _ [16, 17, 18, 4, 19, 20, 21, 22, 23, 24, 25, 26, 27, 28] (by decide +kernel) (by decide +kernel)
set_option maxRecDepth 20000 in
theorem gX8_isLeft_X8_fits : GoodIn wsX8_isLeft (va_wsS RX8 75 yX8_fits wsX8_fits) := goodIn_app (goodIn_of _ (by decide +kernel)) ggX8_isLeft_X8_fits
theorem dX8_isLeft_0 : decode cX8_isLeft 0 = .ok (.aload_n 0, 1) := by decide +kernel
theorem dX8_isLeft_1 : decode cX8_isLeft 1 = .ok (.iload_n 1, 1) := by decide +kernel
theorem dX8_isLeft_2 : decode cX8_isLeft 2 = .ok (.i2l, 1) := by decide +kernel
theorem dX8_isLeft_3 : decode cX8_isLeft 3 = .ok (.lconst 0, 1) := by decide +kernel
theorem dX8_isLeft_4 : decode cX8_isLeft 4 = .ok (.aload_n 0, 1) := by decide +kernel
theorem dX8_isLeft_5 : decode cX8_isLeft 5 = .ok (.getfield 13, 3) := by decide +kernel
theorem dX8_isLeft_8 : decode cX8_isLeft 8 = .ok (.iconst 0, 1) := by decide +kernel
theorem dX8_isLeft_9 : decode cX8_isLeft 9 = .ok (.iaload, 1) := by decide +kernel
theorem dX8_isLeft_10 : decode cX8_isLeft 10 = .ok (.invokestatic 72, 3) := by decide +kernel
theorem dX8_isLeft_13 : decode cX8_isLeft 13 = .ok (.iconst 1, 1) := by decide +kernel
theorem dX8_isLeft_14 : decode cX8_isLeft 14 = .ok (.isub, 1) := by decide +kernel
theorem dX8_isLeft_15 : decode cX8_isLeft 15 = .ok (.i2l, 1) := by decide +kernel
theorem dX8_isLeft_16 : decode cX8_isLeft 16 = .ok (.invokestatic 43, 3) := by decide +kernel
theorem dX8_isLeft_19 : decode cX8_isLeft 19 = .ok (.ifCond .eq 7, 3) := by decide +kernel
theorem dX8_isLeft_22 : decode cX8_isLeft 22 = .ok (.iconst 0, 1) := by decide +kernel
theorem dX8_isLeft_23 : decode cX8_isLeft 23 = .ok (.goto 4, 3) := by decide +kernel
theorem dX8_isLeft_26 : decode cX8_isLeft 26 = .ok (.iconst 1, 1) := by decide +kernel
theorem dX8_isLeft_27 : decode cX8_isLeft 27 = .ok (.invokevirtual 102, 3) := by decide +kernel
theorem dX8_isLeft_30 : decode cX8_isLeft 30 = .ok (.ifCond .eq 5, 3) := by decide +kernel
theorem dX8_isLeft_33 : decode cX8_isLeft 33 = .ok (.iconst 0, 1) := by decide +kernel
theorem dX8_isLeft_34 : decode cX8_isLeft 34 = .ok (.ireturn, 1) := by decide +kernel
theorem dX8_isLeft_35 : decode cX8_isLeft 35 = .ok (.aload_n 0, 1) := by decide +kernel
theorem dX8_isLeft_36 : decode cX8_isLeft 36 = .ok (.getfield 13, 3) := by decide +kernel
theorem dX8_isLeft_39 : decode cX8_isLeft 39 = .ok (.iload_n 1, 1) := by decide +kernel
theorem dX8_isLeft_40 : decode cX8_isLeft 40 = .ok (.aload_n 0, 1) := by decide +kernel
theorem dX8_isLeft_41 : decode cX8_isLeft 41 = .ok (.getfield 13, 3) := by decide +kernel
theorem dX8_isLeft_44 : decode cX8_isLeft 44 = .ok (.iconst 4, 1) := by decide +kernel
theorem dX8_isLeft_45 : decode cX8_isLeft 45 = .ok (.iaload, 1) := by decide +kernel
theorem dX8_isLeft_46 : decode cX8_isLeft 46 = .ok (.invokestatic 75, 3) := by decide +kernel
theorem dX8_isLeft_49 : decode cX8_isLeft 49 = .ok (.ifCond .eq 7, 3) := by decide +kernel
theorem dX8_isLeft_52 : decode cX8_isLeft 52 = .ok (.iconst 1, 1) := by decide +kernel
theorem dX8_isLeft_53 : decode cX8_isLeft 53 = .ok (.goto 4, 3) := by decide +kernel
theorem dX8_isLeft_56 : decode cX8_isLeft 56 = .ok (.iconst 0, 1) := by decide +kernel
theorem dX8_isLeft_57 : decode cX8_isLeft 57 = .ok (.ireturn, 1) := by decide +kernel
set_option maxRecDepth 20000 in
theorem ggX8_weighing_X8_in : GoodIn wsX8_weighing wsX8_in := goodIn_r _ [6] (by decide +kernel) (by decide +kernel)
set_option maxRecDepth 20000 in
theorem gX8_weighing_X8_in : GoodIn wsX8_weighing (va_wsS RX8 43 yX8_in wsX8_in) := goodIn_app (goodIn_of _ (by decide +kernel)) ggX8_weighing_X8_in
set_option maxRecDepth 20000 in
theorem ggX8_weighing_X8_refused : GoodIn wsX8_weighing wsX8_refused := goodIn_r _ [10, 11, 33, 34, 35, 36, 37, 38, 39, 40, 41, 42, 43, 44, 45, 46] (by decide +kernel) (by decide +kernel)
set_option maxRecDepth 20000 in
theorem gX8_weighing_X8_refused : GoodIn wsX8_weighing (wsV RX8 102 RX8 yX8_refused wsX8_refused) := goodIn_app (goodIn_of _ (by decide +kernel)) ggX8_weighing_X8_refused
set_option maxRecDepth 20000 in
theorem ggX8_weighing_X8_many : GoodIn wsX8_weighing wsX8_many := goodIn_r _ [14, 15, 16, 5, 17, 18, 19, 20, 21, 22, 23, 24, 25, 26, 27, 28, 29, 30, 31, 32] (by decide +kernel) (by decide +kernel)
set_option maxRecDepth 20000 in
theorem gX8_weighing_X8_many : GoodIn wsX8_weighing (va_wsS RX8 79 yX8_many wsX8_many) := goodIn_app (goodIn_of _ (by decide +kernel)) ggX8_weighing_X8_many
set_option maxRecDepth 20000 in
theorem ggX8_weighing_X8_at : GoodIn wsX8_weighing wsX8_at := goodIn_r _ [23] (by decide +kernel) (by decide +kernel)
set_option maxRecDepth 20000 in
theorem gX8_weighing_X8_at : GoodIn wsX8_weighing (va_wsS RX8 65 yX8_at wsX8_at) := goodIn_app (goodIn_of _ (by decide +kernel)) ggX8_weighing_X8_at
theorem dX8_weighing_0 : decode cX8_weighing 0 = .ok (.aload_n 0, 1) := by decide +kernel
theorem dX8_weighing_1 : decode cX8_weighing 1 = .ok (.iload_n 1, 1) := by decide +kernel
theorem dX8_weighing_2 : decode cX8_weighing 2 = .ok (.i2l, 1) := by decide +kernel
theorem dX8_weighing_3 : decode cX8_weighing 3 = .ok (.lconst 0, 1) := by decide +kernel
theorem dX8_weighing_4 : decode cX8_weighing 4 = .ok (.aload_n 0, 1) := by decide +kernel
theorem dX8_weighing_5 : decode cX8_weighing 5 = .ok (.getfield 13, 3) := by decide +kernel
theorem dX8_weighing_8 : decode cX8_weighing 8 = .ok (.iconst 4, 1) := by decide +kernel
theorem dX8_weighing_9 : decode cX8_weighing 9 = .ok (.iaload, 1) := by decide +kernel
theorem dX8_weighing_10 : decode cX8_weighing 10 = .ok (.iconst 1, 1) := by decide +kernel
theorem dX8_weighing_11 : decode cX8_weighing 11 = .ok (.isub, 1) := by decide +kernel
theorem dX8_weighing_12 : decode cX8_weighing 12 = .ok (.i2l, 1) := by decide +kernel
theorem dX8_weighing_13 : decode cX8_weighing 13 = .ok (.invokestatic 43, 3) := by decide +kernel
theorem dX8_weighing_16 : decode cX8_weighing 16 = .ok (.ifCond .ne 7, 3) := by decide +kernel
theorem dX8_weighing_19 : decode cX8_weighing 19 = .ok (.iconst 1, 1) := by decide +kernel
theorem dX8_weighing_20 : decode cX8_weighing 20 = .ok (.goto 20, 3) := by decide +kernel
theorem dX8_weighing_23 : decode cX8_weighing 23 = .ok (.iload_n 2, 1) := by decide +kernel
theorem dX8_weighing_24 : decode cX8_weighing 24 = .ok (.i2l, 1) := by decide +kernel
theorem dX8_weighing_25 : decode cX8_weighing 25 = .ok (.lconst 0, 1) := by decide +kernel
theorem dX8_weighing_26 : decode cX8_weighing 26 = .ok (.ldc2_w 172, 3) := by decide +kernel
theorem dX8_weighing_29 : decode cX8_weighing 29 = .ok (.invokestatic 43, 3) := by decide +kernel
theorem dX8_weighing_32 : decode cX8_weighing 32 = .ok (.ifCond .eq 7, 3) := by decide +kernel
theorem dX8_weighing_35 : decode cX8_weighing 35 = .ok (.iconst 0, 1) := by decide +kernel
theorem dX8_weighing_36 : decode cX8_weighing 36 = .ok (.goto 4, 3) := by decide +kernel
theorem dX8_weighing_39 : decode cX8_weighing 39 = .ok (.iconst 2, 1) := by decide +kernel
theorem dX8_weighing_40 : decode cX8_weighing 40 = .ok (.invokevirtual 102, 3) := by decide +kernel
theorem dX8_weighing_43 : decode cX8_weighing 43 = .ok (.ifCond .eq 5, 3) := by decide +kernel
theorem dX8_weighing_46 : decode cX8_weighing 46 = .ok (.iconst 0, 1) := by decide +kernel
theorem dX8_weighing_47 : decode cX8_weighing 47 = .ok (.ireturn, 1) := by decide +kernel
theorem dX8_weighing_48 : decode cX8_weighing 48 = .ok (.iload_n 2, 1) := by decide +kernel
theorem dX8_weighing_49 : decode cX8_weighing 49 = .ok (.iconst 5, 1) := by decide +kernel
theorem dX8_weighing_50 : decode cX8_weighing 50 = .ok (.if_icmp .ne 16, 3) := by decide +kernel
theorem dX8_weighing_53 : decode cX8_weighing 53 = .ok (.aload_n 0, 1) := by decide +kernel
theorem dX8_weighing_54 : decode cX8_weighing 54 = .ok (.getfield 13, 3) := by decide +kernel
theorem dX8_weighing_57 : decode cX8_weighing 57 = .ok (.iload_n 1, 1) := by decide +kernel
theorem dX8_weighing_58 : decode cX8_weighing 58 = .ok (.iconst 1, 1) := by decide +kernel
theorem dX8_weighing_59 : decode cX8_weighing 59 = .ok (.iadd, 1) := by decide +kernel
theorem dX8_weighing_60 : decode cX8_weighing 60 = .ok (.invokestatic 79, 3) := by decide +kernel
theorem dX8_weighing_63 : decode cX8_weighing 63 = .ok (.goto 14, 3) := by decide +kernel
theorem dX8_weighing_66 : decode cX8_weighing 66 = .ok (.aload_n 0, 1) := by decide +kernel
theorem dX8_weighing_67 : decode cX8_weighing 67 = .ok (.getfield 13, 3) := by decide +kernel
theorem dX8_weighing_70 : decode cX8_weighing 70 = .ok (.iload_n 1, 1) := by decide +kernel
theorem dX8_weighing_71 : decode cX8_weighing 71 = .ok (.invokestatic 65, 3) := by decide +kernel
theorem dX8_weighing_74 : decode cX8_weighing 74 = .ok (.iload_n 2, 1) := by decide +kernel
theorem dX8_weighing_75 : decode cX8_weighing 75 = .ok (.iadd, 1) := by decide +kernel
theorem dX8_weighing_76 : decode cX8_weighing 76 = .ok (.iaload, 1) := by decide +kernel
theorem dX8_weighing_77 : decode cX8_weighing 77 = .ok (.ireturn, 1) := by decide +kernel
set_option maxRecDepth 20000 in
theorem ggX8_remember_X8_copyState : GoodIn wsX8_remember wsX8_copyState := goodIn_r _ [7] (by decide +kernel) (by decide +kernel)
set_option maxRecDepth 20000 in
theorem gX8_remember_X8_copyState : GoodIn wsX8_remember (va_wsS RX8 154 yX8_copyState wsX8_copyState) := goodIn_app (goodIn_of _ (by decide +kernel)) ggX8_remember_X8_copyState
theorem dX8_remember_0 : decode cX8_remember 0 = .ok (.aload_n 0, 1) := by decide +kernel
theorem dX8_remember_1 : decode cX8_remember 1 = .ok (.getfield 158, 3) := by decide +kernel
theorem dX8_remember_4 : decode cX8_remember 4 = .ok (.bipush 14, 2) := by decide +kernel
theorem dX8_remember_6 : decode cX8_remember 6 = .ok (.if_icmp .ne 43, 3) := by decide +kernel
theorem dX8_remember_9 : decode cX8_remember 9 = .ok (.iconst 0, 1) := by decide +kernel
theorem dX8_remember_10 : decode cX8_remember 10 = .ok (.istore_n 1, 1) := by decide +kernel
theorem dX8_remember_11 : decode cX8_remember 11 = .ok (.iload_n 1, 1) := by decide +kernel
theorem dX8_remember_12 : decode cX8_remember 12 = .ok (.sipush 1391, 3) := by decide +kernel
theorem dX8_remember_15 : decode cX8_remember 15 = .ok (.if_icmp .ge 24, 3) := by decide +kernel
theorem dX8_remember_18 : decode cX8_remember 18 = .ok (.aload_n 0, 1) := by decide +kernel
theorem dX8_remember_19 : decode cX8_remember 19 = .ok (.getfield 19, 3) := by decide +kernel
theorem dX8_remember_22 : decode cX8_remember 22 = .ok (.iload_n 1, 1) := by decide +kernel
theorem dX8_remember_23 : decode cX8_remember 23 = .ok (.aload_n 0, 1) := by decide +kernel
theorem dX8_remember_24 : decode cX8_remember 24 = .ok (.getfield 19, 3) := by decide +kernel
theorem dX8_remember_27 : decode cX8_remember 27 = .ok (.iload_n 1, 1) := by decide +kernel
theorem dX8_remember_28 : decode cX8_remember 28 = .ok (.bipush 107, 2) := by decide +kernel
theorem dX8_remember_30 : decode cX8_remember 30 = .ok (.iadd, 1) := by decide +kernel
theorem dX8_remember_31 : decode cX8_remember 31 = .ok (.iaload, 1) := by decide +kernel
theorem dX8_remember_32 : decode cX8_remember 32 = .ok (.iastore, 1) := by decide +kernel
theorem dX8_remember_33 : decode cX8_remember 33 = .ok (.iinc 1 1, 3) := by decide +kernel
theorem dX8_remember_36 : decode cX8_remember 36 = .ok (.goto (-25), 3) := by decide +kernel
theorem dX8_remember_39 : decode cX8_remember 39 = .ok (.aload_n 0, 1) := by decide +kernel
theorem dX8_remember_40 : decode cX8_remember 40 = .ok (.dup, 1) := by decide +kernel
theorem dX8_remember_41 : decode cX8_remember 41 = .ok (.getfield 158, 3) := by decide +kernel
theorem dX8_remember_44 : decode cX8_remember 44 = .ok (.iconst 1, 1) := by decide +kernel
theorem dX8_remember_45 : decode cX8_remember 45 = .ok (.isub, 1) := by decide +kernel
theorem dX8_remember_46 : decode cX8_remember 46 = .ok (.putfield 158, 3) := by decide +kernel
theorem dX8_remember_49 : decode cX8_remember 49 = .ok (.aload_n 0, 1) := by decide +kernel
theorem dX8_remember_50 : decode cX8_remember 50 = .ok (.getfield 13, 3) := by decide +kernel
theorem dX8_remember_53 : decode cX8_remember 53 = .ok (.iconst 0, 1) := by decide +kernel
theorem dX8_remember_54 : decode cX8_remember 54 = .ok (.aload_n 0, 1) := by decide +kernel
theorem dX8_remember_55 : decode cX8_remember 55 = .ok (.getfield 19, 3) := by decide +kernel
theorem dX8_remember_58 : decode cX8_remember 58 = .ok (.bipush 107, 2) := by decide +kernel
theorem dX8_remember_60 : decode cX8_remember 60 = .ok (.aload_n 0, 1) := by decide +kernel
theorem dX8_remember_61 : decode cX8_remember 61 = .ok (.getfield 158, 3) := by decide +kernel
theorem dX8_remember_64 : decode cX8_remember 64 = .ok (.imul, 1) := by decide +kernel
theorem dX8_remember_65 : decode cX8_remember 65 = .ok (.invokestatic 154, 3) := by decide +kernel
theorem dX8_remember_68 : decode cX8_remember 68 = .ok (.aload_n 0, 1) := by decide +kernel
theorem dX8_remember_69 : decode cX8_remember 69 = .ok (.dup, 1) := by decide +kernel
theorem dX8_remember_70 : decode cX8_remember 70 = .ok (.getfield 158, 3) := by decide +kernel
theorem dX8_remember_73 : decode cX8_remember 73 = .ok (.iconst 1, 1) := by decide +kernel
theorem dX8_remember_74 : decode cX8_remember 74 = .ok (.iadd, 1) := by decide +kernel
theorem dX8_remember_75 : decode cX8_remember 75 = .ok (.putfield 158, 3) := by decide +kernel
theorem dX8_remember_78 : decode cX8_remember 78 = .ok (.return_, 1) := by decide +kernel
set_option maxRecDepth 20000 in
theorem ggX8_hide_X8_isCoins : GoodIn wsX8_hide wsX8_isCoins := goodIn_r _ [5, 6, 7, 8, 9, 4, 10] (by decide +kernel) (by decide +kernel)
set_option maxRecDepth 20000 in
theorem gX8_hide_X8_isCoins : GoodIn wsX8_hide (va_wsS RX8 174 yX8_isCoins wsX8_isCoins) := goodIn_app (goodIn_of _ (by decide +kernel)) ggX8_hide_X8_isCoins
set_option maxRecDepth 20000 in
theorem ggX8_hide_X8_allOf : GoodIn wsX8_hide wsX8_allOf := goodIn_r _ [13] (by decide +kernel) (by decide +kernel)
set_option maxRecDepth 20000 in
theorem gX8_hide_X8_allOf : GoodIn wsX8_hide (va_wsS RX8 72 yX8_allOf wsX8_allOf) := goodIn_app (goodIn_of _ (by decide +kernel)) ggX8_hide_X8_allOf
set_option maxRecDepth 20000 in
theorem ggX8_hide_X8_in : GoodIn wsX8_hide wsX8_in := goodIn_r _ [10] (by decide +kernel) (by decide +kernel)
set_option maxRecDepth 20000 in
theorem gX8_hide_X8_in : GoodIn wsX8_hide (va_wsS RX8 43 yX8_in wsX8_in) := goodIn_app (goodIn_of _ (by decide +kernel)) ggX8_hide_X8_in
set_option maxRecDepth 20000 in
theorem ggX8_hide_X8_refused : GoodIn wsX8_hide wsX8_refused := goodIn_r _ [17, 18, 31, 32, 33, 34, 35, 36, 37, 38, 39, 40, 41, 42, 43, 44] (by decide +kernel) (by decide +kernel)
set_option maxRecDepth 20000 in
theorem gX8_hide_X8_refused : GoodIn wsX8_hide (wsV RX8 102 RX8 yX8_refused wsX8_refused) := goodIn_app (goodIn_of _ (by decide +kernel)) ggX8_hide_X8_refused
set_option maxRecDepth 20000 in
theorem ggX8_hide_X8_remember : GoodIn wsX8_hide wsX8_remember := goodIn_r _ [22, 23, 24, 1, 25, 26, 4, 27, 31, 32, 33, 34, 35, 36, 37, 38, 39, 40, 41, 42, 43, 44] (by decide +kernel) (by decide +kernel)
set_option maxRecDepth 20000 in
theorem gX8_hide_X8_remember : GoodIn wsX8_hide (wsV RX8 177 RX8 yX8_remember wsX8_remember) := goodIn_app (goodIn_of _ (by decide +kernel)) ggX8_hide_X8_remember
set_option maxRecDepth 20000 in
theorem ggX8_hide_X8_hideOn : GoodIn wsX8_hide wsX8_hideOn := goodIn_r _ [30, 11, 12, 4, 13] (by decide +kernel) (by decide +kernel)
set_option maxRecDepth 20000 in
theorem gX8_hide_X8_hideOn : GoodIn wsX8_hide (va_wsS RX8 141 yX8_hideOn wsX8_hideOn) := goodIn_app (goodIn_of _ (by decide +kernel)) ggX8_hide_X8_hideOn
theorem dX8_hide_0 : decode cX8_hide 0 = .ok (.aload_n 0, 1) := by decide +kernel
theorem dX8_hide_1 : decode cX8_hide 1 = .ok (.iload_n 1, 1) := by decide +kernel
theorem dX8_hide_2 : decode cX8_hide 2 = .ok (.invokestatic 174, 3) := by decide +kernel
theorem dX8_hide_5 : decode cX8_hide 5 = .ok (.ifCond .ne 7, 3) := by decide +kernel
theorem dX8_hide_8 : decode cX8_hide 8 = .ok (.iconst 2, 1) := by decide +kernel
theorem dX8_hide_9 : decode cX8_hide 9 = .ok (.goto 24, 3) := by decide +kernel
theorem dX8_hide_12 : decode cX8_hide 12 = .ok (.iload_n 2, 1) := by decide +kernel
theorem dX8_hide_13 : decode cX8_hide 13 = .ok (.i2l, 1) := by decide +kernel
theorem dX8_hide_14 : decode cX8_hide 14 = .ok (.lconst 0, 1) := by decide +kernel
theorem dX8_hide_15 : decode cX8_hide 15 = .ok (.iload_n 1, 1) := by decide +kernel
theorem dX8_hide_16 : decode cX8_hide 16 = .ok (.invokestatic 72, 3) := by decide +kernel
theorem dX8_hide_19 : decode cX8_hide 19 = .ok (.iconst 1, 1) := by decide +kernel
theorem dX8_hide_20 : decode cX8_hide 20 = .ok (.isub, 1) := by decide +kernel
theorem dX8_hide_21 : decode cX8_hide 21 = .ok (.i2l, 1) := by decide +kernel
theorem dX8_hide_22 : decode cX8_hide 22 = .ok (.invokestatic 43, 3) := by decide +kernel
theorem dX8_hide_25 : decode cX8_hide 25 = .ok (.ifCond .eq 7, 3) := by decide +kernel
theorem dX8_hide_28 : decode cX8_hide 28 = .ok (.iconst 0, 1) := by decide +kernel
theorem dX8_hide_29 : decode cX8_hide 29 = .ok (.goto 4, 3) := by decide +kernel
theorem dX8_hide_32 : decode cX8_hide 32 = .ok (.iconst 1, 1) := by decide +kernel
theorem dX8_hide_33 : decode cX8_hide 33 = .ok (.invokevirtual 102, 3) := by decide +kernel
theorem dX8_hide_36 : decode cX8_hide 36 = .ok (.ifCond .eq 5, 3) := by decide +kernel
theorem dX8_hide_39 : decode cX8_hide 39 = .ok (.iconst 0, 1) := by decide +kernel
theorem dX8_hide_40 : decode cX8_hide 40 = .ok (.ireturn, 1) := by decide +kernel
theorem dX8_hide_41 : decode cX8_hide 41 = .ok (.aload_n 0, 1) := by decide +kernel
theorem dX8_hide_42 : decode cX8_hide 42 = .ok (.invokevirtual 177, 3) := by decide +kernel
theorem dX8_hide_45 : decode cX8_hide 45 = .ok (.aload_n 0, 1) := by decide +kernel
theorem dX8_hide_46 : decode cX8_hide 46 = .ok (.getfield 13, 3) := by decide +kernel
theorem dX8_hide_49 : decode cX8_hide 49 = .ok (.iload_n 1, 1) := by decide +kernel
theorem dX8_hide_50 : decode cX8_hide 50 = .ok (.iload_n 2, 1) := by decide +kernel
theorem dX8_hide_51 : decode cX8_hide 51 = .ok (.invokestatic 141, 3) := by decide +kernel
theorem dX8_hide_54 : decode cX8_hide 54 = .ok (.ireturn, 1) := by decide +kernel
set_option maxRecDepth 20000 in
theorem ggX8_arms_X8_isArms : GoodIn wsX8_arms wsX8_isArms := goodIn_r _ [5, 6, 7, 8, 4, 9] (by decide +kernel) (by decide +kernel)
set_option maxRecDepth 20000 in
theorem gX8_arms_X8_isArms : GoodIn wsX8_arms (va_wsS RX8 180 yX8_isArms wsX8_isArms) := goodIn_app (goodIn_of _ (by decide +kernel)) ggX8_arms_X8_isArms
set_option maxRecDepth 20000 in
theorem ggX8_arms_X8_refused : GoodIn wsX8_arms wsX8_refused := goodIn_r _ [13, 14, 27, 28, 29, 30, 31, 32, 33, 34, 35, 36, 37, 38, 39, 40] (by decide +kernel) (by decide +kernel)
set_option maxRecDepth 20000 in
theorem gX8_arms_X8_refused : GoodIn wsX8_arms (wsV RX8 102 RX8 yX8_refused wsX8_refused) := goodIn_app (goodIn_of _ (by decide +kernel)) ggX8_arms_X8_refused
set_option maxRecDepth 20000 in
theorem ggX8_arms_X8_remember : GoodIn wsX8_arms wsX8_remember := goodIn_r _ [18, 19, 20, 1, 21, 22, 4, 23, 27, 28, 29, 30, 31, 32, 33, 34, 35, 36, 37, 38, 39, 40] (by decide +kernel) (by decide +kernel)
set_option maxRecDepth 20000 in
theorem gX8_arms_X8_remember : GoodIn wsX8_arms (wsV RX8 177 RX8 yX8_remember wsX8_remember) := goodIn_app (goodIn_of _ (by decide +kernel)) ggX8_arms_X8_remember
set_option maxRecDepth 20000 in
theorem ggX8_arms_X8_armsOn : GoodIn wsX8_arms wsX8_armsOn := goodIn_r _ [26] (by decide +kernel) (by decide +kernel)
set_option maxRecDepth 20000 in
theorem gX8_arms_X8_armsOn : GoodIn wsX8_arms (va_wsS RX8 138 yX8_armsOn wsX8_armsOn) := goodIn_app (goodIn_of _ (by decide +kernel)) ggX8_arms_X8_armsOn
theorem dX8_arms_0 : decode cX8_arms 0 = .ok (.aload_n 0, 1) := by decide +kernel
theorem dX8_arms_1 : decode cX8_arms 1 = .ok (.iload_n 1, 1) := by decide +kernel
theorem dX8_arms_2 : decode cX8_arms 2 = .ok (.iload_n 2, 1) := by decide +kernel
theorem dX8_arms_3 : decode cX8_arms 3 = .ok (.invokestatic 180, 3) := by decide +kernel
theorem dX8_arms_6 : decode cX8_arms 6 = .ok (.ifCond .eq 7, 3) := by decide +kernel
theorem dX8_arms_9 : decode cX8_arms 9 = .ok (.iconst 0, 1) := by decide +kernel
theorem dX8_arms_10 : decode cX8_arms 10 = .ok (.goto 4, 3) := by decide +kernel
theorem dX8_arms_13 : decode cX8_arms 13 = .ok (.iconst 1, 1) := by decide +kernel
theorem dX8_arms_14 : decode cX8_arms 14 = .ok (.invokevirtual 102, 3) := by decide +kernel
theorem dX8_arms_17 : decode cX8_arms 17 = .ok (.ifCond .eq 5, 3) := by decide +kernel
theorem dX8_arms_20 : decode cX8_arms 20 = .ok (.iconst 0, 1) := by decide +kernel
theorem dX8_arms_21 : decode cX8_arms 21 = .ok (.ireturn, 1) := by decide +kernel
theorem dX8_arms_22 : decode cX8_arms 22 = .ok (.aload_n 0, 1) := by decide +kernel
theorem dX8_arms_23 : decode cX8_arms 23 = .ok (.invokevirtual 177, 3) := by decide +kernel
theorem dX8_arms_26 : decode cX8_arms 26 = .ok (.aload_n 0, 1) := by decide +kernel
theorem dX8_arms_27 : decode cX8_arms 27 = .ok (.getfield 13, 3) := by decide +kernel
theorem dX8_arms_30 : decode cX8_arms 30 = .ok (.iload_n 1, 1) := by decide +kernel
theorem dX8_arms_31 : decode cX8_arms 31 = .ok (.iload_n 2, 1) := by decide +kernel
theorem dX8_arms_32 : decode cX8_arms 32 = .ok (.invokestatic 138, 3) := by decide +kernel
theorem dX8_arms_35 : decode cX8_arms 35 = .ok (.ireturn, 1) := by decide +kernel
set_option maxRecDepth 20000 in
theorem ggX8_weigh_X8_isWeighing : GoodIn wsX8_weigh wsX8_isWeighing := goodIn_r _ [5, 6, 7, 4, 8, 9, 10, 11] (by decide +kernel) (by decide +kernel)
set_option maxRecDepth 20000 in
theorem gX8_weigh_X8_isWeighing : GoodIn wsX8_weigh (va_wsS RX8 90 yX8_isWeighing wsX8_isWeighing) := goodIn_app (goodIn_of _ (by decide +kernel)) ggX8_weigh_X8_isWeighing
set_option maxRecDepth 20000 in
theorem ggX8_weigh_X8_canWeigh : GoodIn wsX8_weigh wsX8_canWeigh := goodIn_r _ [14, 2, 3, 4, 5, 6, 7, 8, 9, 10, 11] (by decide +kernel) (by decide +kernel)
set_option maxRecDepth 20000 in
theorem gX8_weigh_X8_canWeigh : GoodIn wsX8_weigh (va_wsS RX8 123 yX8_canWeigh wsX8_canWeigh) := goodIn_app (goodIn_of _ (by decide +kernel)) ggX8_weigh_X8_canWeigh
set_option maxRecDepth 20000 in
theorem ggX8_weigh_X8_refused : GoodIn wsX8_weigh wsX8_refused := goodIn_r _ [18, 19, 44, 45, 46, 47, 48, 49, 50, 51, 52, 53, 54, 55, 56, 57] (by decide +kernel) (by decide +kernel)
set_option maxRecDepth 20000 in
theorem gX8_weigh_X8_refused : GoodIn wsX8_weigh (wsV RX8 102 RX8 yX8_refused wsX8_refused) := goodIn_app (goodIn_of _ (by decide +kernel)) ggX8_weigh_X8_refused
set_option maxRecDepth 20000 in
theorem ggX8_weigh_X8_remember : GoodIn wsX8_weigh wsX8_remember := goodIn_r _ [23, 24, 25, 1, 26, 27, 4, 28, 44, 45, 46, 47, 48, 49, 50, 51, 52, 53, 54, 55, 56, 57] (by decide +kernel) (by decide +kernel)
set_option maxRecDepth 20000 in
theorem gX8_weigh_X8_remember : GoodIn wsX8_weigh (wsV RX8 177 RX8 yX8_remember wsX8_remember) := goodIn_app (goodIn_of _ (by decide +kernel)) ggX8_weigh_X8_remember
set_option maxRecDepth 20000 in
theorem ggX8_weigh_X8_weighOn : GoodIn wsX8_weigh wsX8_weighOn := goodIn_r _ [31, 32, 33, 4, 34, 35, 36, 37, 38, 39, 40, 41, 42, 43] (by decide +kernel) (by decide +kernel)
set_option maxRecDepth 20000 in
theorem gX8_weigh_X8_weighOn : GoodIn wsX8_weigh (va_wsS RX8 126 yX8_weighOn wsX8_weighOn) := goodIn_app (goodIn_of _ (by decide +kernel)) ggX8_weigh_X8_weighOn
theorem dX8_weigh_0 : decode cX8_weigh 0 = .ok (.aload_n 0, 1) := by decide +kernel
theorem dX8_weigh_1 : decode cX8_weigh 1 = .ok (.aload_n 0, 1) := by decide +kernel
theorem dX8_weigh_2 : decode cX8_weigh 2 = .ok (.getfield 13, 3) := by decide +kernel
theorem dX8_weigh_5 : decode cX8_weigh 5 = .ok (.iload_n 1, 1) := by decide +kernel
theorem dX8_weigh_6 : decode cX8_weigh 6 = .ok (.iload_n 2, 1) := by decide +kernel
theorem dX8_weigh_7 : decode cX8_weigh 7 = .ok (.invokestatic 90, 3) := by decide +kernel
theorem dX8_weigh_10 : decode cX8_weigh 10 = .ok (.ifCond .ne 7, 3) := by decide +kernel
theorem dX8_weigh_13 : decode cX8_weigh 13 = .ok (.iconst 1, 1) := by decide +kernel
theorem dX8_weigh_14 : decode cX8_weigh 14 = .ok (.goto 20, 3) := by decide +kernel
theorem dX8_weigh_17 : decode cX8_weigh 17 = .ok (.aload_n 0, 1) := by decide +kernel
theorem dX8_weigh_18 : decode cX8_weigh 18 = .ok (.getfield 13, 3) := by decide +kernel
theorem dX8_weigh_21 : decode cX8_weigh 21 = .ok (.iload_n 1, 1) := by decide +kernel
theorem dX8_weigh_22 : decode cX8_weigh 22 = .ok (.iload_n 2, 1) := by decide +kernel
theorem dX8_weigh_23 : decode cX8_weigh 23 = .ok (.invokestatic 123, 3) := by decide +kernel
theorem dX8_weigh_26 : decode cX8_weigh 26 = .ok (.ifCond .eq 7, 3) := by decide +kernel
theorem dX8_weigh_29 : decode cX8_weigh 29 = .ok (.iconst 0, 1) := by decide +kernel
theorem dX8_weigh_30 : decode cX8_weigh 30 = .ok (.goto 4, 3) := by decide +kernel
theorem dX8_weigh_33 : decode cX8_weigh 33 = .ok (.iconst 2, 1) := by decide +kernel
theorem dX8_weigh_34 : decode cX8_weigh 34 = .ok (.invokevirtual 102, 3) := by decide +kernel
theorem dX8_weigh_37 : decode cX8_weigh 37 = .ok (.ifCond .eq 5, 3) := by decide +kernel
theorem dX8_weigh_40 : decode cX8_weigh 40 = .ok (.iconst 0, 1) := by decide +kernel
theorem dX8_weigh_41 : decode cX8_weigh 41 = .ok (.ireturn, 1) := by decide +kernel
theorem dX8_weigh_42 : decode cX8_weigh 42 = .ok (.aload_n 0, 1) := by decide +kernel
theorem dX8_weigh_43 : decode cX8_weigh 43 = .ok (.invokevirtual 177, 3) := by decide +kernel
theorem dX8_weigh_46 : decode cX8_weigh 46 = .ok (.aload_n 0, 1) := by decide +kernel
theorem dX8_weigh_47 : decode cX8_weigh 47 = .ok (.getfield 13, 3) := by decide +kernel
theorem dX8_weigh_50 : decode cX8_weigh 50 = .ok (.iload_n 1, 1) := by decide +kernel
theorem dX8_weigh_51 : decode cX8_weigh 51 = .ok (.iload_n 2, 1) := by decide +kernel
theorem dX8_weigh_52 : decode cX8_weigh 52 = .ok (.invokestatic 126, 3) := by decide +kernel
theorem dX8_weigh_55 : decode cX8_weigh 55 = .ok (.ireturn, 1) := by decide +kernel
set_option maxRecDepth 20000 in
theorem ggX8_accuse_X8_isCoin : GoodIn wsX8_accuse wsX8_isCoin := goodIn_r _ [5, 6, 7, 4, 8] (by decide +kernel) (by decide +kernel)
set_option maxRecDepth 20000 in
theorem gX8_accuse_X8_isCoin : GoodIn wsX8_accuse (va_wsS RX8 163 yX8_isCoin wsX8_isCoin) := goodIn_app (goodIn_of _ (by decide +kernel)) ggX8_accuse_X8_isCoin
set_option maxRecDepth 20000 in
theorem ggX8_accuse_X8_refused : GoodIn wsX8_accuse wsX8_refused := goodIn_r _ [12, 13, 29, 30, 31, 32, 33, 34, 35, 36, 37, 38, 39, 40, 41, 42] (by decide +kernel) (by decide +kernel)
set_option maxRecDepth 20000 in
theorem gX8_accuse_X8_refused : GoodIn wsX8_accuse (wsV RX8 102 RX8 yX8_refused wsX8_refused) := goodIn_app (goodIn_of _ (by decide +kernel)) ggX8_accuse_X8_refused
set_option maxRecDepth 20000 in
theorem ggX8_accuse_X8_remember : GoodIn wsX8_accuse wsX8_remember := goodIn_r _ [17, 18, 19, 1, 20, 21, 4, 22, 29, 30, 31, 32, 33, 34, 35, 36, 37, 38, 39, 40, 41, 42] (by decide +kernel) (by decide +kernel)
set_option maxRecDepth 20000 in
theorem gX8_accuse_X8_remember : GoodIn wsX8_accuse (wsV RX8 177 RX8 yX8_remember wsX8_remember) := goodIn_app (goodIn_of _ (by decide +kernel)) ggX8_accuse_X8_remember
set_option maxRecDepth 20000 in
theorem ggX8_accuse_X8_accuseOn : GoodIn wsX8_accuse wsX8_accuseOn := goodIn_r _ [25, 26, 27, 4, 28] (by decide +kernel) (by decide +kernel)
set_option maxRecDepth 20000 in
theorem gX8_accuse_X8_accuseOn : GoodIn wsX8_accuse (va_wsS RX8 184 yX8_accuseOn wsX8_accuseOn) := goodIn_app (goodIn_of _ (by decide +kernel)) ggX8_accuse_X8_accuseOn
theorem dX8_accuse_0 : decode cX8_accuse 0 = .ok (.aload_n 0, 1) := by decide +kernel
theorem dX8_accuse_1 : decode cX8_accuse 1 = .ok (.aload_n 0, 1) := by decide +kernel
theorem dX8_accuse_2 : decode cX8_accuse 2 = .ok (.getfield 13, 3) := by decide +kernel
theorem dX8_accuse_5 : decode cX8_accuse 5 = .ok (.iload_n 1, 1) := by decide +kernel
theorem dX8_accuse_6 : decode cX8_accuse 6 = .ok (.invokestatic 163, 3) := by decide +kernel
theorem dX8_accuse_9 : decode cX8_accuse 9 = .ok (.ifCond .eq 7, 3) := by decide +kernel
theorem dX8_accuse_12 : decode cX8_accuse 12 = .ok (.iconst 0, 1) := by decide +kernel
theorem dX8_accuse_13 : decode cX8_accuse 13 = .ok (.goto 4, 3) := by decide +kernel
theorem dX8_accuse_16 : decode cX8_accuse 16 = .ok (.iconst 1, 1) := by decide +kernel
theorem dX8_accuse_17 : decode cX8_accuse 17 = .ok (.invokevirtual 102, 3) := by decide +kernel
theorem dX8_accuse_20 : decode cX8_accuse 20 = .ok (.ifCond .eq 5, 3) := by decide +kernel
theorem dX8_accuse_23 : decode cX8_accuse 23 = .ok (.iconst 0, 1) := by decide +kernel
theorem dX8_accuse_24 : decode cX8_accuse 24 = .ok (.ireturn, 1) := by decide +kernel
theorem dX8_accuse_25 : decode cX8_accuse 25 = .ok (.aload_n 0, 1) := by decide +kernel
theorem dX8_accuse_26 : decode cX8_accuse 26 = .ok (.invokevirtual 177, 3) := by decide +kernel
theorem dX8_accuse_29 : decode cX8_accuse 29 = .ok (.aload_n 0, 1) := by decide +kernel
theorem dX8_accuse_30 : decode cX8_accuse 30 = .ok (.getfield 13, 3) := by decide +kernel
theorem dX8_accuse_33 : decode cX8_accuse 33 = .ok (.iload_n 1, 1) := by decide +kernel
theorem dX8_accuse_34 : decode cX8_accuse 34 = .ok (.iload_n 2, 1) := by decide +kernel
theorem dX8_accuse_35 : decode cX8_accuse 35 = .ok (.invokestatic 184, 3) := by decide +kernel
theorem dX8_accuse_38 : decode cX8_accuse 38 = .ok (.ireturn, 1) := by decide +kernel
set_option maxRecDepth 20000 in
theorem ggX8_accusePan_X8_in : GoodIn wsX8_accusePan wsX8_in := goodIn_r _ [6] (by decide +kernel) (by decide +kernel)
set_option maxRecDepth 20000 in
theorem gX8_accusePan_X8_in : GoodIn wsX8_accusePan (va_wsS RX8 43 yX8_in wsX8_in) := goodIn_app (goodIn_of _ (by decide +kernel)) ggX8_accusePan_X8_in
set_option maxRecDepth 20000 in
theorem ggX8_accusePan_X8_refused : GoodIn wsX8_accusePan wsX8_refused := goodIn_r _ [10, 11, 24, 25, 26, 27, 28, 29, 30, 31, 32, 33, 34, 35, 36, 37] (by decide +kernel) (by decide +kernel)
set_option maxRecDepth 20000 in
theorem gX8_accusePan_X8_refused : GoodIn wsX8_accusePan (wsV RX8 102 RX8 yX8_refused wsX8_refused) := goodIn_app (goodIn_of _ (by decide +kernel)) ggX8_accusePan_X8_refused
set_option maxRecDepth 20000 in
theorem ggX8_accusePan_X8_remember : GoodIn wsX8_accusePan wsX8_remember := goodIn_r _ [15, 16, 17, 2, 18, 19, 5, 20, 24, 25, 26, 27, 28, 29, 30, 31, 32, 33, 34, 35, 36, 37] (by decide +kernel) (by decide +kernel)
set_option maxRecDepth 20000 in
theorem gX8_accusePan_X8_remember : GoodIn wsX8_accusePan (wsV RX8 177 RX8 yX8_remember wsX8_remember) := goodIn_app (goodIn_of _ (by decide +kernel)) ggX8_accusePan_X8_remember
set_option maxRecDepth 20000 in
theorem ggX8_accusePan_X8_told : GoodIn wsX8_accusePan wsX8_told := goodIn_r _ [23] (by decide +kernel) (by decide +kernel)
set_option maxRecDepth 20000 in
theorem gX8_accusePan_X8_told : GoodIn wsX8_accusePan (va_wsS RX8 93 yX8_told wsX8_told) := goodIn_app (goodIn_of _ (by decide +kernel)) ggX8_accusePan_X8_told
theorem dX8_accusePan_0 : decode cX8_accusePan 0 = .ok (.aload_n 0, 1) := by decide +kernel
theorem dX8_accusePan_1 : decode cX8_accusePan 1 = .ok (.iload_n 1, 1) := by decide +kernel
theorem dX8_accusePan_2 : decode cX8_accusePan 2 = .ok (.i2l, 1) := by decide +kernel
theorem dX8_accusePan_3 : decode cX8_accusePan 3 = .ok (.lconst 0, 1) := by decide +kernel
theorem dX8_accusePan_4 : decode cX8_accusePan 4 = .ok (.ldc2_w 188, 3) := by decide +kernel
theorem dX8_accusePan_7 : decode cX8_accusePan 7 = .ok (.invokestatic 43, 3) := by decide +kernel
theorem dX8_accusePan_10 : decode cX8_accusePan 10 = .ok (.ifCond .eq 7, 3) := by decide +kernel
theorem dX8_accusePan_13 : decode cX8_accusePan 13 = .ok (.iconst 0, 1) := by decide +kernel
theorem dX8_accusePan_14 : decode cX8_accusePan 14 = .ok (.goto 4, 3) := by decide +kernel
theorem dX8_accusePan_17 : decode cX8_accusePan 17 = .ok (.iconst 1, 1) := by decide +kernel
theorem dX8_accusePan_18 : decode cX8_accusePan 18 = .ok (.invokevirtual 102, 3) := by decide +kernel
theorem dX8_accusePan_21 : decode cX8_accusePan 21 = .ok (.ifCond .eq 5, 3) := by decide +kernel
theorem dX8_accusePan_24 : decode cX8_accusePan 24 = .ok (.iconst 0, 1) := by decide +kernel
theorem dX8_accusePan_25 : decode cX8_accusePan 25 = .ok (.ireturn, 1) := by decide +kernel
theorem dX8_accusePan_26 : decode cX8_accusePan 26 = .ok (.aload_n 0, 1) := by decide +kernel
theorem dX8_accusePan_27 : decode cX8_accusePan 27 = .ok (.invokevirtual 177, 3) := by decide +kernel
theorem dX8_accusePan_30 : decode cX8_accusePan 30 = .ok (.aload_n 0, 1) := by decide +kernel
theorem dX8_accusePan_31 : decode cX8_accusePan 31 = .ok (.getfield 13, 3) := by decide +kernel
theorem dX8_accusePan_34 : decode cX8_accusePan 34 = .ok (.aload_n 0, 1) := by decide +kernel
theorem dX8_accusePan_35 : decode cX8_accusePan 35 = .ok (.getfield 13, 3) := by decide +kernel
theorem dX8_accusePan_38 : decode cX8_accusePan 38 = .ok (.iconst 1, 1) := by decide +kernel
theorem dX8_accusePan_39 : decode cX8_accusePan 39 = .ok (.iaload, 1) := by decide +kernel
theorem dX8_accusePan_40 : decode cX8_accusePan 40 = .ok (.iconst 3, 1) := by decide +kernel
theorem dX8_accusePan_41 : decode cX8_accusePan 41 = .ok (.irem, 1) := by decide +kernel
theorem dX8_accusePan_42 : decode cX8_accusePan 42 = .ok (.iload_n 1, 1) := by decide +kernel
theorem dX8_accusePan_43 : decode cX8_accusePan 43 = .ok (.if_icmp .ne 7, 3) := by decide +kernel
theorem dX8_accusePan_46 : decode cX8_accusePan 46 = .ok (.iconst 1, 1) := by decide +kernel
theorem dX8_accusePan_47 : decode cX8_accusePan 47 = .ok (.goto 4, 3) := by decide +kernel
theorem dX8_accusePan_50 : decode cX8_accusePan 50 = .ok (.iconst 0, 1) := by decide +kernel
theorem dX8_accusePan_51 : decode cX8_accusePan 51 = .ok (.invokestatic 93, 3) := by decide +kernel
theorem dX8_accusePan_54 : decode cX8_accusePan 54 = .ok (.ireturn, 1) := by decide +kernel
set_option maxRecDepth 20000 in
theorem ggX8_forget_X8_refused : GoodIn wsX8_forget wsX8_refused := goodIn_r _ [6, 7, 20, 21, 22, 23, 24, 25, 26, 27, 28, 29, 30, 31, 32, 33] (by decide +kernel) (by decide +kernel)
