set_option maxRecDepth 20000 in
theorem gX8_pansOf_X8_allOf : GoodIn wsX8_pansOf (va_wsS RX8 72 yX8_allOf wsX8_allOf) := goodIn_app (goodIn_of _ (by decide +kernel)) ggX8_pansOf_X8_allOf
set_option maxRecDepth 20000 in
theorem ggX8_pansOf_X8_fits : GoodIn wsX8_pansOf wsX8_fits := goodIn_r _ [7, 8, 9, 3, 10, 11, 12, 13, 14, 15, 16, 17, 18, 19] (by decide +kernel) (by decide +kernel)
set_option maxRecDepth 20000 in
theorem gX8_pansOf_X8_fits : GoodIn wsX8_pansOf (va_wsS RX8 75 yX8_fits wsX8_fits) := goodIn_app (goodIn_of _ (by decide +kernel)) ggX8_pansOf_X8_fits
theorem dX8_pansOf_0 : decode cX8_pansOf 0 = .ok (.iconst 0, 1) := by decide +kernel
theorem dX8_pansOf_1 : decode cX8_pansOf 1 = .ok (.istore_n 1, 1) := by decide +kernel
theorem dX8_pansOf_2 : decode cX8_pansOf 2 = .ok (.iconst 0, 1) := by decide +kernel
theorem dX8_pansOf_3 : decode cX8_pansOf 3 = .ok (.istore_n 2, 1) := by decide +kernel
theorem dX8_pansOf_4 : decode cX8_pansOf 4 = .ok (.iload_n 2, 1) := by decide +kernel
theorem dX8_pansOf_5 : decode cX8_pansOf 5 = .ok (.aload_n 0, 1) := by decide +kernel
theorem dX8_pansOf_6 : decode cX8_pansOf 6 = .ok (.iconst 0, 1) := by decide +kernel
theorem dX8_pansOf_7 : decode cX8_pansOf 7 = .ok (.iaload, 1) := by decide +kernel
theorem dX8_pansOf_8 : decode cX8_pansOf 8 = .ok (.invokestatic 72, 3) := by decide +kernel
theorem dX8_pansOf_11 : decode cX8_pansOf 11 = .ok (.if_icmp .ge 32, 3) := by decide +kernel
theorem dX8_pansOf_14 : decode cX8_pansOf 14 = .ok (.iload_n 1, 1) := by decide +kernel
theorem dX8_pansOf_15 : decode cX8_pansOf 15 = .ok (.aload_n 0, 1) := by decide +kernel
theorem dX8_pansOf_16 : decode cX8_pansOf 16 = .ok (.iload_n 2, 1) := by decide +kernel
theorem dX8_pansOf_17 : decode cX8_pansOf 17 = .ok (.aload_n 0, 1) := by decide +kernel
theorem dX8_pansOf_18 : decode cX8_pansOf 18 = .ok (.iconst 4, 1) := by decide +kernel
theorem dX8_pansOf_19 : decode cX8_pansOf 19 = .ok (.iaload, 1) := by decide +kernel
theorem dX8_pansOf_20 : decode cX8_pansOf 20 = .ok (.invokestatic 75, 3) := by decide +kernel
theorem dX8_pansOf_23 : decode cX8_pansOf 23 = .ok (.ifCond .eq 11, 3) := by decide +kernel
theorem dX8_pansOf_26 : decode cX8_pansOf 26 = .ok (.iconst 1, 1) := by decide +kernel
theorem dX8_pansOf_27 : decode cX8_pansOf 27 = .ok (.iload_n 2, 1) := by decide +kernel
theorem dX8_pansOf_28 : decode cX8_pansOf 28 = .ok (.iconst 3, 1) := by decide +kernel
theorem dX8_pansOf_29 : decode cX8_pansOf 29 = .ok (.irem, 1) := by decide +kernel
theorem dX8_pansOf_30 : decode cX8_pansOf 30 = .ok (.ishl, 1) := by decide +kernel
theorem dX8_pansOf_31 : decode cX8_pansOf 31 = .ok (.goto 4, 3) := by decide +kernel
theorem dX8_pansOf_34 : decode cX8_pansOf 34 = .ok (.iconst 0, 1) := by decide +kernel
theorem dX8_pansOf_35 : decode cX8_pansOf 35 = .ok (.ior, 1) := by decide +kernel
theorem dX8_pansOf_36 : decode cX8_pansOf 36 = .ok (.istore_n 1, 1) := by decide +kernel
theorem dX8_pansOf_37 : decode cX8_pansOf 37 = .ok (.iinc 2 1, 3) := by decide +kernel
theorem dX8_pansOf_40 : decode cX8_pansOf 40 = .ok (.goto (-36), 3) := by decide +kernel
theorem dX8_pansOf_43 : decode cX8_pansOf 43 = .ok (.iload_n 1, 1) := by decide +kernel
theorem dX8_pansOf_44 : decode cX8_pansOf 44 = .ok (.ireturn, 1) := by decide +kernel
set_option maxRecDepth 20000 in
theorem ggX8_needsOf_X8_leftOf : GoodIn wsX8_needsOf wsX8_leftOf := goodIn_r _ [4, 5, 6, 3, 7, 8, 9, 10, 11, 12, 13, 14, 15, 16, 17, 18, 19, 20, 21, 22, 23, 24, 25] (by decide +kernel) (by decide +kernel)
set_option maxRecDepth 20000 in
theorem gX8_needsOf_X8_leftOf : GoodIn wsX8_needsOf (va_wsS RX8 86 yX8_leftOf wsX8_leftOf) := goodIn_app (goodIn_of _ (by decide +kernel)) ggX8_needsOf_X8_leftOf
theorem dX8_needsOf_0 : decode cX8_needsOf 0 = .ok (.iconst 0, 1) := by decide +kernel
theorem dX8_needsOf_1 : decode cX8_needsOf 1 = .ok (.istore_n 1, 1) := by decide +kernel
theorem dX8_needsOf_2 : decode cX8_needsOf 2 = .ok (.iconst 1, 1) := by decide +kernel
theorem dX8_needsOf_3 : decode cX8_needsOf 3 = .ok (.istore_n 2, 1) := by decide +kernel
theorem dX8_needsOf_4 : decode cX8_needsOf 4 = .ok (.aload_n 0, 1) := by decide +kernel
theorem dX8_needsOf_5 : decode cX8_needsOf 5 = .ok (.invokestatic 86, 3) := by decide +kernel
theorem dX8_needsOf_8 : decode cX8_needsOf 8 = .ok (.istore_n 3, 1) := by decide +kernel
theorem dX8_needsOf_9 : decode cX8_needsOf 9 = .ok (.iload_n 2, 1) := by decide +kernel
theorem dX8_needsOf_10 : decode cX8_needsOf 10 = .ok (.iload_n 3, 1) := by decide +kernel
theorem dX8_needsOf_11 : decode cX8_needsOf 11 = .ok (.if_icmp .ge 13, 3) := by decide +kernel
theorem dX8_needsOf_14 : decode cX8_needsOf 14 = .ok (.iload_n 2, 1) := by decide +kernel
theorem dX8_needsOf_15 : decode cX8_needsOf 15 = .ok (.iconst 3, 1) := by decide +kernel
theorem dX8_needsOf_16 : decode cX8_needsOf 16 = .ok (.imul, 1) := by decide +kernel
theorem dX8_needsOf_17 : decode cX8_needsOf 17 = .ok (.istore_n 2, 1) := by decide +kernel
theorem dX8_needsOf_18 : decode cX8_needsOf 18 = .ok (.iinc 1 1, 3) := by decide +kernel
theorem dX8_needsOf_21 : decode cX8_needsOf 21 = .ok (.goto (-12), 3) := by decide +kernel
theorem dX8_needsOf_24 : decode cX8_needsOf 24 = .ok (.iload_n 1, 1) := by decide +kernel
theorem dX8_needsOf_25 : decode cX8_needsOf 25 = .ok (.ireturn, 1) := by decide +kernel
set_option maxRecDepth 20000 in
theorem ggX8_hideOn_X8_allOf : GoodIn wsX8_hideOn wsX8_allOf := goodIn_r _ [4] (by decide +kernel) (by decide +kernel)
set_option maxRecDepth 20000 in
theorem gX8_hideOn_X8_allOf : GoodIn wsX8_hideOn (va_wsS RX8 72 yX8_allOf wsX8_allOf) := goodIn_app (goodIn_of _ (by decide +kernel)) ggX8_hideOn_X8_allOf
theorem dX8_hideOn_0 : decode cX8_hideOn 0 = .ok (.aload_n 0, 1) := by decide +kernel
theorem dX8_hideOn_1 : decode cX8_hideOn 1 = .ok (.iconst 0, 1) := by decide +kernel
theorem dX8_hideOn_2 : decode cX8_hideOn 2 = .ok (.iload_n 1, 1) := by decide +kernel
theorem dX8_hideOn_3 : decode cX8_hideOn 3 = .ok (.iastore, 1) := by decide +kernel
theorem dX8_hideOn_4 : decode cX8_hideOn 4 = .ok (.aload_n 0, 1) := by decide +kernel
theorem dX8_hideOn_5 : decode cX8_hideOn 5 = .ok (.iconst 1, 1) := by decide +kernel
theorem dX8_hideOn_6 : decode cX8_hideOn 6 = .ok (.iload_n 2, 1) := by decide +kernel
theorem dX8_hideOn_7 : decode cX8_hideOn 7 = .ok (.iastore, 1) := by decide +kernel
theorem dX8_hideOn_8 : decode cX8_hideOn 8 = .ok (.aload_n 0, 1) := by decide +kernel
theorem dX8_hideOn_9 : decode cX8_hideOn 9 = .ok (.iconst 4, 1) := by decide +kernel
theorem dX8_hideOn_10 : decode cX8_hideOn 10 = .ok (.iconst 0, 1) := by decide +kernel
theorem dX8_hideOn_11 : decode cX8_hideOn 11 = .ok (.iastore, 1) := by decide +kernel
theorem dX8_hideOn_12 : decode cX8_hideOn 12 = .ok (.iload_n 1, 1) := by decide +kernel
theorem dX8_hideOn_13 : decode cX8_hideOn 13 = .ok (.invokestatic 72, 3) := by decide +kernel
theorem dX8_hideOn_16 : decode cX8_hideOn 16 = .ok (.ireturn, 1) := by decide +kernel
theorem dX8_armsOn_0 : decode cX8_armsOn 0 = .ok (.aload_n 0, 1) := by decide +kernel
theorem dX8_armsOn_1 : decode cX8_armsOn 1 = .ok (.iconst 2, 1) := by decide +kernel
theorem dX8_armsOn_2 : decode cX8_armsOn 2 = .ok (.iload_n 1, 1) := by decide +kernel
theorem dX8_armsOn_3 : decode cX8_armsOn 3 = .ok (.iastore, 1) := by decide +kernel
theorem dX8_armsOn_4 : decode cX8_armsOn 4 = .ok (.aload_n 0, 1) := by decide +kernel
theorem dX8_armsOn_5 : decode cX8_armsOn 5 = .ok (.iconst 3, 1) := by decide +kernel
theorem dX8_armsOn_6 : decode cX8_armsOn 6 = .ok (.iload_n 2, 1) := by decide +kernel
theorem dX8_armsOn_7 : decode cX8_armsOn 7 = .ok (.iastore, 1) := by decide +kernel
theorem dX8_armsOn_8 : decode cX8_armsOn 8 = .ok (.iload_n 1, 1) := by decide +kernel
theorem dX8_armsOn_9 : decode cX8_armsOn 9 = .ok (.iload_n 2, 1) := by decide +kernel
theorem dX8_armsOn_10 : decode cX8_armsOn 10 = .ok (.if_icmp .ne 7, 3) := by decide +kernel
theorem dX8_armsOn_13 : decode cX8_armsOn 13 = .ok (.iconst 1, 1) := by decide +kernel
theorem dX8_armsOn_14 : decode cX8_armsOn 14 = .ok (.goto 4, 3) := by decide +kernel
theorem dX8_armsOn_17 : decode cX8_armsOn 17 = .ok (.iconst 0, 1) := by decide +kernel
theorem dX8_armsOn_18 : decode cX8_armsOn 18 = .ok (.ireturn, 1) := by decide +kernel
set_option maxRecDepth 20000 in
theorem ggX8_canWeigh_X8_isWeighing : GoodIn wsX8_canWeigh wsX8_isWeighing := goodIn_r _ [4, 5, 6, 3, 7, 8, 9, 10] (by decide +kernel) (by decide +kernel)
set_option maxRecDepth 20000 in
theorem gX8_canWeigh_X8_isWeighing : GoodIn wsX8_canWeigh (va_wsS RX8 90 yX8_isWeighing wsX8_isWeighing) := goodIn_app (goodIn_of _ (by decide +kernel)) ggX8_canWeigh_X8_isWeighing
theorem dX8_canWeigh_0 : decode cX8_canWeigh 0 = .ok (.aload_n 0, 1) := by decide +kernel
theorem dX8_canWeigh_1 : decode cX8_canWeigh 1 = .ok (.iload_n 1, 1) := by decide +kernel
theorem dX8_canWeigh_2 : decode cX8_canWeigh 2 = .ok (.iload_n 2, 1) := by decide +kernel
theorem dX8_canWeigh_3 : decode cX8_canWeigh 3 = .ok (.invokestatic 90, 3) := by decide +kernel
theorem dX8_canWeigh_6 : decode cX8_canWeigh 6 = .ok (.ifCond .eq 15, 3) := by decide +kernel
theorem dX8_canWeigh_9 : decode cX8_canWeigh 9 = .ok (.aload_n 0, 1) := by decide +kernel
theorem dX8_canWeigh_10 : decode cX8_canWeigh 10 = .ok (.iconst 4, 1) := by decide +kernel
theorem dX8_canWeigh_11 : decode cX8_canWeigh 11 = .ok (.iaload, 1) := by decide +kernel
theorem dX8_canWeigh_12 : decode cX8_canWeigh 12 = .ok (.bipush 20, 2) := by decide +kernel
theorem dX8_canWeigh_14 : decode cX8_canWeigh 14 = .ok (.if_icmp .ge 7, 3) := by decide +kernel
theorem dX8_canWeigh_17 : decode cX8_canWeigh 17 = .ok (.iconst 1, 1) := by decide +kernel
theorem dX8_canWeigh_18 : decode cX8_canWeigh 18 = .ok (.goto 4, 3) := by decide +kernel
theorem dX8_canWeigh_21 : decode cX8_canWeigh 21 = .ok (.iconst 0, 1) := by decide +kernel
theorem dX8_canWeigh_22 : decode cX8_canWeigh 22 = .ok (.ireturn, 1) := by decide +kernel
set_option maxRecDepth 20000 in
theorem ggX8_weighOn_X8_at : GoodIn wsX8_weighOn wsX8_at := goodIn_r _ [4] (by decide +kernel) (by decide +kernel)
set_option maxRecDepth 20000 in
theorem gX8_weighOn_X8_at : GoodIn wsX8_weighOn (va_wsS RX8 65 yX8_at wsX8_at) := goodIn_app (goodIn_of _ (by decide +kernel)) ggX8_weighOn_X8_at
set_option maxRecDepth 20000 in
theorem ggX8_weighOn_X8_outcome : GoodIn wsX8_weighOn wsX8_outcome := goodIn_r _ [7, 8, 9, 3, 10, 11, 12, 13] (by decide +kernel) (by decide +kernel)
set_option maxRecDepth 20000 in
theorem gX8_weighOn_X8_outcome : GoodIn wsX8_weighOn (va_wsS RX8 68 yX8_outcome wsX8_outcome) := goodIn_app (goodIn_of _ (by decide +kernel)) ggX8_weighOn_X8_outcome
theorem dX8_weighOn_0 : decode cX8_weighOn 0 = .ok (.aload_n 0, 1) := by decide +kernel
theorem dX8_weighOn_1 : decode cX8_weighOn 1 = .ok (.iconst 4, 1) := by decide +kernel
theorem dX8_weighOn_2 : decode cX8_weighOn 2 = .ok (.iaload, 1) := by decide +kernel
theorem dX8_weighOn_3 : decode cX8_weighOn 3 = .ok (.invokestatic 65, 3) := by decide +kernel
theorem dX8_weighOn_6 : decode cX8_weighOn 6 = .ok (.istore_n 3, 1) := by decide +kernel
theorem dX8_weighOn_7 : decode cX8_weighOn 7 = .ok (.aload_n 0, 1) := by decide +kernel
theorem dX8_weighOn_8 : decode cX8_weighOn 8 = .ok (.iload_n 3, 1) := by decide +kernel
theorem dX8_weighOn_9 : decode cX8_weighOn 9 = .ok (.iload_n 1, 1) := by decide +kernel
theorem dX8_weighOn_10 : decode cX8_weighOn 10 = .ok (.iastore, 1) := by decide +kernel
theorem dX8_weighOn_11 : decode cX8_weighOn 11 = .ok (.aload_n 0, 1) := by decide +kernel
theorem dX8_weighOn_12 : decode cX8_weighOn 12 = .ok (.iload_n 3, 1) := by decide +kernel
theorem dX8_weighOn_13 : decode cX8_weighOn 13 = .ok (.iconst 1, 1) := by decide +kernel
theorem dX8_weighOn_14 : decode cX8_weighOn 14 = .ok (.iadd, 1) := by decide +kernel
theorem dX8_weighOn_15 : decode cX8_weighOn 15 = .ok (.iload_n 2, 1) := by decide +kernel
theorem dX8_weighOn_16 : decode cX8_weighOn 16 = .ok (.iastore, 1) := by decide +kernel
theorem dX8_weighOn_17 : decode cX8_weighOn 17 = .ok (.aload_n 0, 1) := by decide +kernel
theorem dX8_weighOn_18 : decode cX8_weighOn 18 = .ok (.iload_n 3, 1) := by decide +kernel
theorem dX8_weighOn_19 : decode cX8_weighOn 19 = .ok (.iconst 2, 1) := by decide +kernel
theorem dX8_weighOn_20 : decode cX8_weighOn 20 = .ok (.iadd, 1) := by decide +kernel
theorem dX8_weighOn_21 : decode cX8_weighOn 21 = .ok (.iload_n 1, 1) := by decide +kernel
theorem dX8_weighOn_22 : decode cX8_weighOn 22 = .ok (.iload_n 2, 1) := by decide +kernel
theorem dX8_weighOn_23 : decode cX8_weighOn 23 = .ok (.aload_n 0, 1) := by decide +kernel
theorem dX8_weighOn_24 : decode cX8_weighOn 24 = .ok (.iconst 2, 1) := by decide +kernel
theorem dX8_weighOn_25 : decode cX8_weighOn 25 = .ok (.iaload, 1) := by decide +kernel
theorem dX8_weighOn_26 : decode cX8_weighOn 26 = .ok (.aload_n 0, 1) := by decide +kernel
theorem dX8_weighOn_27 : decode cX8_weighOn 27 = .ok (.iconst 3, 1) := by decide +kernel
theorem dX8_weighOn_28 : decode cX8_weighOn 28 = .ok (.iaload, 1) := by decide +kernel
theorem dX8_weighOn_29 : decode cX8_weighOn 29 = .ok (.aload_n 0, 1) := by decide +kernel
theorem dX8_weighOn_30 : decode cX8_weighOn 30 = .ok (.iconst 1, 1) := by decide +kernel
theorem dX8_weighOn_31 : decode cX8_weighOn 31 = .ok (.iaload, 1) := by decide +kernel
theorem dX8_weighOn_32 : decode cX8_weighOn 32 = .ok (.invokestatic 68, 3) := by decide +kernel
theorem dX8_weighOn_35 : decode cX8_weighOn 35 = .ok (.iastore, 1) := by decide +kernel
theorem dX8_weighOn_36 : decode cX8_weighOn 36 = .ok (.aload_n 0, 1) := by decide +kernel
theorem dX8_weighOn_37 : decode cX8_weighOn 37 = .ok (.iload_n 3, 1) := by decide +kernel
theorem dX8_weighOn_38 : decode cX8_weighOn 38 = .ok (.iconst 3, 1) := by decide +kernel
theorem dX8_weighOn_39 : decode cX8_weighOn 39 = .ok (.iadd, 1) := by decide +kernel
theorem dX8_weighOn_40 : decode cX8_weighOn 40 = .ok (.aload_n 0, 1) := by decide +kernel
theorem dX8_weighOn_41 : decode cX8_weighOn 41 = .ok (.iconst 2, 1) := by decide +kernel
theorem dX8_weighOn_42 : decode cX8_weighOn 42 = .ok (.iaload, 1) := by decide +kernel
theorem dX8_weighOn_43 : decode cX8_weighOn 43 = .ok (.iastore, 1) := by decide +kernel
theorem dX8_weighOn_44 : decode cX8_weighOn 44 = .ok (.aload_n 0, 1) := by decide +kernel
theorem dX8_weighOn_45 : decode cX8_weighOn 45 = .ok (.iload_n 3, 1) := by decide +kernel
theorem dX8_weighOn_46 : decode cX8_weighOn 46 = .ok (.iconst 4, 1) := by decide +kernel
theorem dX8_weighOn_47 : decode cX8_weighOn 47 = .ok (.iadd, 1) := by decide +kernel
theorem dX8_weighOn_48 : decode cX8_weighOn 48 = .ok (.aload_n 0, 1) := by decide +kernel
theorem dX8_weighOn_49 : decode cX8_weighOn 49 = .ok (.iconst 3, 1) := by decide +kernel
theorem dX8_weighOn_50 : decode cX8_weighOn 50 = .ok (.iaload, 1) := by decide +kernel
theorem dX8_weighOn_51 : decode cX8_weighOn 51 = .ok (.iastore, 1) := by decide +kernel
theorem dX8_weighOn_52 : decode cX8_weighOn 52 = .ok (.aload_n 0, 1) := by decide +kernel
theorem dX8_weighOn_53 : decode cX8_weighOn 53 = .ok (.iconst 4, 1) := by decide +kernel
theorem dX8_weighOn_54 : decode cX8_weighOn 54 = .ok (.dup2, 1) := by decide +kernel
theorem dX8_weighOn_55 : decode cX8_weighOn 55 = .ok (.iaload, 1) := by decide +kernel
theorem dX8_weighOn_56 : decode cX8_weighOn 56 = .ok (.iconst 1, 1) := by decide +kernel
theorem dX8_weighOn_57 : decode cX8_weighOn 57 = .ok (.iadd, 1) := by decide +kernel
theorem dX8_weighOn_58 : decode cX8_weighOn 58 = .ok (.iastore, 1) := by decide +kernel
theorem dX8_weighOn_59 : decode cX8_weighOn 59 = .ok (.aload_n 0, 1) := by decide +kernel
theorem dX8_weighOn_60 : decode cX8_weighOn 60 = .ok (.iload_n 3, 1) := by decide +kernel
theorem dX8_weighOn_61 : decode cX8_weighOn 61 = .ok (.iconst 2, 1) := by decide +kernel
theorem dX8_weighOn_62 : decode cX8_weighOn 62 = .ok (.iadd, 1) := by decide +kernel
theorem dX8_weighOn_63 : decode cX8_weighOn 63 = .ok (.iaload, 1) := by decide +kernel
theorem dX8_weighOn_64 : decode cX8_weighOn 64 = .ok (.ireturn, 1) := by decide +kernel
theorem dX8_told_0 : decode cX8_told 0 = .ok (.aload_n 0, 1) := by decide +kernel
theorem dX8_told_1 : decode cX8_told 1 = .ok (.iload_n 1, 1) := by decide +kernel
theorem dX8_told_2 : decode cX8_told 2 = .ok (.ifCond .eq 7, 3) := by decide +kernel
theorem dX8_told_5 : decode cX8_told 5 = .ok (.iconst 5, 1) := by decide +kernel
theorem dX8_told_6 : decode cX8_told 6 = .ok (.goto 5, 3) := by decide +kernel
theorem dX8_told_9 : decode cX8_told 9 = .ok (.bipush 6, 2) := by decide +kernel
theorem dX8_told_11 : decode cX8_told 11 = .ok (.dup2, 1) := by decide +kernel
theorem dX8_told_12 : decode cX8_told 12 = .ok (.iaload, 1) := by decide +kernel
theorem dX8_told_13 : decode cX8_told 13 = .ok (.iconst 1, 1) := by decide +kernel
theorem dX8_told_14 : decode cX8_told 14 = .ok (.iadd, 1) := by decide +kernel
theorem dX8_told_15 : decode cX8_told 15 = .ok (.iastore, 1) := by decide +kernel
theorem dX8_told_16 : decode cX8_told 16 = .ok (.iload_n 1, 1) := by decide +kernel
theorem dX8_told_17 : decode cX8_told 17 = .ok (.ifCond .eq 7, 3) := by decide +kernel
theorem dX8_told_20 : decode cX8_told 20 = .ok (.iconst 1, 1) := by decide +kernel
theorem dX8_told_21 : decode cX8_told 21 = .ok (.goto 4, 3) := by decide +kernel
theorem dX8_told_24 : decode cX8_told 24 = .ok (.iconst 0, 1) := by decide +kernel
theorem dX8_told_25 : decode cX8_told 25 = .ok (.ireturn, 1) := by decide +kernel
set_option maxRecDepth 20000 in
theorem ggX8_accuseOn_X8_told : GoodIn wsX8_accuseOn wsX8_told := goodIn_r _ [4] (by decide +kernel) (by decide +kernel)
set_option maxRecDepth 20000 in
theorem gX8_accuseOn_X8_told : GoodIn wsX8_accuseOn (va_wsS RX8 93 yX8_told wsX8_told) := goodIn_app (goodIn_of _ (by decide +kernel)) ggX8_accuseOn_X8_told
theorem dX8_accuseOn_0 : decode cX8_accuseOn 0 = .ok (.aload_n 0, 1) := by decide +kernel
theorem dX8_accuseOn_1 : decode cX8_accuseOn 1 = .ok (.aload_n 0, 1) := by decide +kernel
theorem dX8_accuseOn_2 : decode cX8_accuseOn 2 = .ok (.iconst 1, 1) := by decide +kernel
theorem dX8_accuseOn_3 : decode cX8_accuseOn 3 = .ok (.iaload, 1) := by decide +kernel
theorem dX8_accuseOn_4 : decode cX8_accuseOn 4 = .ok (.iconst 3, 1) := by decide +kernel
theorem dX8_accuseOn_5 : decode cX8_accuseOn 5 = .ok (.idiv, 1) := by decide +kernel
theorem dX8_accuseOn_6 : decode cX8_accuseOn 6 = .ok (.iconst 2, 1) := by decide +kernel
theorem dX8_accuseOn_7 : decode cX8_accuseOn 7 = .ok (.iload_n 1, 1) := by decide +kernel
theorem dX8_accuseOn_8 : decode cX8_accuseOn 8 = .ok (.imul, 1) := by decide +kernel
theorem dX8_accuseOn_9 : decode cX8_accuseOn 9 = .ok (.iload_n 2, 1) := by decide +kernel
theorem dX8_accuseOn_10 : decode cX8_accuseOn 10 = .ok (.ifCond .eq 7, 3) := by decide +kernel
theorem dX8_accuseOn_13 : decode cX8_accuseOn 13 = .ok (.iconst 1, 1) := by decide +kernel
theorem dX8_accuseOn_14 : decode cX8_accuseOn 14 = .ok (.goto 4, 3) := by decide +kernel
theorem dX8_accuseOn_17 : decode cX8_accuseOn 17 = .ok (.iconst 0, 1) := by decide +kernel
theorem dX8_accuseOn_18 : decode cX8_accuseOn 18 = .ok (.iadd, 1) := by decide +kernel
theorem dX8_accuseOn_19 : decode cX8_accuseOn 19 = .ok (.if_icmp .ne 7, 3) := by decide +kernel
theorem dX8_accuseOn_22 : decode cX8_accuseOn 22 = .ok (.iconst 1, 1) := by decide +kernel
theorem dX8_accuseOn_23 : decode cX8_accuseOn 23 = .ok (.goto 4, 3) := by decide +kernel
theorem dX8_accuseOn_26 : decode cX8_accuseOn 26 = .ok (.iconst 0, 1) := by decide +kernel
theorem dX8_accuseOn_27 : decode cX8_accuseOn 27 = .ok (.invokestatic 93, 3) := by decide +kernel
theorem dX8_accuseOn_30 : decode cX8_accuseOn 30 = .ok (.ireturn, 1) := by decide +kernel
theorem dX8_forgetOn_0 : decode cX8_forgetOn 0 = .ok (.aload_n 0, 1) := by decide +kernel
theorem dX8_forgetOn_1 : decode cX8_forgetOn 1 = .ok (.iconst 4, 1) := by decide +kernel
theorem dX8_forgetOn_2 : decode cX8_forgetOn 2 = .ok (.dup2, 1) := by decide +kernel
theorem dX8_forgetOn_3 : decode cX8_forgetOn 3 = .ok (.iaload, 1) := by decide +kernel
theorem dX8_forgetOn_4 : decode cX8_forgetOn 4 = .ok (.iconst 1, 1) := by decide +kernel
theorem dX8_forgetOn_5 : decode cX8_forgetOn 5 = .ok (.isub, 1) := by decide +kernel
theorem dX8_forgetOn_6 : decode cX8_forgetOn 6 = .ok (.iastore, 1) := by decide +kernel
theorem dX8_forgetOn_7 : decode cX8_forgetOn 7 = .ok (.aload_n 0, 1) := by decide +kernel
theorem dX8_forgetOn_8 : decode cX8_forgetOn 8 = .ok (.iconst 4, 1) := by decide +kernel
theorem dX8_forgetOn_9 : decode cX8_forgetOn 9 = .ok (.iaload, 1) := by decide +kernel
theorem dX8_forgetOn_10 : decode cX8_forgetOn 10 = .ok (.ireturn, 1) := by decide +kernel
set_option maxRecDepth 20000 in
theorem ggX8_append_X8_in : GoodIn wsX8_append wsX8_in := goodIn_r _ [7] (by decide +kernel) (by decide +kernel)
set_option maxRecDepth 20000 in
theorem gX8_append_X8_in : GoodIn wsX8_append (va_wsS RX8 43 yX8_in wsX8_in) := goodIn_app (goodIn_of _ (by decide +kernel)) ggX8_append_X8_in
set_option maxRecDepth 20000 in
theorem ggX8_append_X8_refused : GoodIn wsX8_append wsX8_refused := goodIn_r _ [11, 12, 13, 14, 15, 16, 17, 18, 19, 20, 21, 22, 23, 24, 25, 26] (by decide +kernel) (by decide +kernel)
set_option maxRecDepth 20000 in
theorem gX8_append_X8_refused : GoodIn wsX8_append (wsV RX8 102 RX8 yX8_refused wsX8_refused) := goodIn_app (goodIn_of _ (by decide +kernel)) ggX8_append_X8_refused
theorem dX8_append_0 : decode cX8_append 0 = .ok (.aload_n 0, 1) := by decide +kernel
theorem dX8_append_1 : decode cX8_append 1 = .ok (.iload_n 1, 1) := by decide +kernel
theorem dX8_append_2 : decode cX8_append 2 = .ok (.i2l, 1) := by decide +kernel
theorem dX8_append_3 : decode cX8_append 3 = .ok (.lconst 0, 1) := by decide +kernel
theorem dX8_append_4 : decode cX8_append 4 = .ok (.ldc2_w 97, 3) := by decide +kernel
theorem dX8_append_7 : decode cX8_append 7 = .ok (.invokestatic 43, 3) := by decide +kernel
theorem dX8_append_10 : decode cX8_append 10 = .ok (.ifCond .ne 7, 3) := by decide +kernel
theorem dX8_append_13 : decode cX8_append 13 = .ok (.iconst 1, 1) := by decide +kernel
theorem dX8_append_14 : decode cX8_append 14 = .ok (.goto 17, 3) := by decide +kernel
theorem dX8_append_17 : decode cX8_append 17 = .ok (.aload_n 0, 1) := by decide +kernel
theorem dX8_append_18 : decode cX8_append 18 = .ok (.getfield 99, 3) := by decide +kernel
theorem dX8_append_21 : decode cX8_append 21 = .ok (.bipush 120, 2) := by decide +kernel
theorem dX8_append_23 : decode cX8_append 23 = .ok (.if_icmp .ne 7, 3) := by decide +kernel
theorem dX8_append_26 : decode cX8_append 26 = .ok (.iconst 2, 1) := by decide +kernel
theorem dX8_append_27 : decode cX8_append 27 = .ok (.goto 4, 3) := by decide +kernel
theorem dX8_append_30 : decode cX8_append 30 = .ok (.iconst 0, 1) := by decide +kernel
theorem dX8_append_31 : decode cX8_append 31 = .ok (.invokevirtual 102, 3) := by decide +kernel
theorem dX8_append_34 : decode cX8_append 34 = .ok (.ifCond .eq 5, 3) := by decide +kernel
theorem dX8_append_37 : decode cX8_append 37 = .ok (.iconst 0, 1) := by decide +kernel
theorem dX8_append_38 : decode cX8_append 38 = .ok (.ireturn, 1) := by decide +kernel
theorem dX8_append_39 : decode cX8_append 39 = .ok (.aload_n 0, 1) := by decide +kernel
theorem dX8_append_40 : decode cX8_append 40 = .ok (.getfield 7, 3) := by decide +kernel
theorem dX8_append_43 : decode cX8_append 43 = .ok (.aload_n 0, 1) := by decide +kernel
theorem dX8_append_44 : decode cX8_append 44 = .ok (.getfield 99, 3) := by decide +kernel
theorem dX8_append_47 : decode cX8_append 47 = .ok (.iload_n 1, 1) := by decide +kernel
theorem dX8_append_48 : decode cX8_append 48 = .ok (.iastore, 1) := by decide +kernel
theorem dX8_append_49 : decode cX8_append 49 = .ok (.aload_n 0, 1) := by decide +kernel
theorem dX8_append_50 : decode cX8_append 50 = .ok (.dup, 1) := by decide +kernel
theorem dX8_append_51 : decode cX8_append 51 = .ok (.getfield 99, 3) := by decide +kernel
theorem dX8_append_54 : decode cX8_append 54 = .ok (.iconst 1, 1) := by decide +kernel
theorem dX8_append_55 : decode cX8_append 55 = .ok (.iadd, 1) := by decide +kernel
theorem dX8_append_56 : decode cX8_append 56 = .ok (.putfield 99, 3) := by decide +kernel
theorem dX8_append_59 : decode cX8_append 59 = .ok (.aload_n 0, 1) := by decide +kernel
theorem dX8_append_60 : decode cX8_append 60 = .ok (.getfield 99, 3) := by decide +kernel
theorem dX8_append_63 : decode cX8_append 63 = .ok (.ireturn, 1) := by decide +kernel
theorem dX8_clearText_0 : decode cX8_clearText 0 = .ok (.aload_n 0, 1) := by decide +kernel
theorem dX8_clearText_1 : decode cX8_clearText 1 = .ok (.iconst 0, 1) := by decide +kernel
theorem dX8_clearText_2 : decode cX8_clearText 2 = .ok (.putfield 39, 3) := by decide +kernel
theorem dX8_clearText_5 : decode cX8_clearText 5 = .ok (.aload_n 0, 1) := by decide +kernel
theorem dX8_clearText_6 : decode cX8_clearText 6 = .ok (.getfield 99, 3) := by decide +kernel
theorem dX8_clearText_9 : decode cX8_clearText 9 = .ok (.istore_n 1, 1) := by decide +kernel
theorem dX8_clearText_10 : decode cX8_clearText 10 = .ok (.aload_n 0, 1) := by decide +kernel
theorem dX8_clearText_11 : decode cX8_clearText 11 = .ok (.iconst 0, 1) := by decide +kernel
theorem dX8_clearText_12 : decode cX8_clearText 12 = .ok (.putfield 99, 3) := by decide +kernel
theorem dX8_clearText_15 : decode cX8_clearText 15 = .ok (.iload_n 1, 1) := by decide +kernel
theorem dX8_clearText_16 : decode cX8_clearText 16 = .ok (.ireturn, 1) := by decide +kernel
theorem dX8_sign_0 : decode cX8_sign 0 = .ok (.aload_n 0, 1) := by decide +kernel
theorem dX8_sign_1 : decode cX8_sign 1 = .ok (.getfield 106, 3) := by decide +kernel
theorem dX8_sign_4 : decode cX8_sign 4 = .ok (.aload_n 0, 1) := by decide +kernel
theorem dX8_sign_5 : decode cX8_sign 5 = .ok (.getfield 99, 3) := by decide +kernel
theorem dX8_sign_8 : decode cX8_sign 8 = .ok (.if_icmp .ge 15, 3) := by decide +kernel
theorem dX8_sign_11 : decode cX8_sign 11 = .ok (.aload_n 0, 1) := by decide +kernel
theorem dX8_sign_12 : decode cX8_sign 12 = .ok (.getfield 7, 3) := by decide +kernel
theorem dX8_sign_15 : decode cX8_sign 15 = .ok (.aload_n 0, 1) := by decide +kernel
theorem dX8_sign_16 : decode cX8_sign 16 = .ok (.getfield 106, 3) := by decide +kernel
theorem dX8_sign_19 : decode cX8_sign 19 = .ok (.iaload, 1) := by decide +kernel
theorem dX8_sign_20 : decode cX8_sign 20 = .ok (.goto 4, 3) := by decide +kernel
theorem dX8_sign_23 : decode cX8_sign 23 = .ok (.iconst (-1), 1) := by decide +kernel
theorem dX8_sign_24 : decode cX8_sign 24 = .ok (.ireturn, 1) := by decide +kernel
set_option maxRecDepth 20000 in
theorem ggX8_figures_X8_sign : GoodIn wsX8_figures wsX8_sign := goodIn_r _ [7, 2, 8, 9, 13, 14, 15, 16, 17, 18, 19, 20, 21, 22, 23, 24, 25, 26] (by decide +kernel) (by decide +kernel)
set_option maxRecDepth 20000 in
theorem gX8_figures_X8_sign : GoodIn wsX8_figures (wsV RX8 109 RX8 yX8_sign wsX8_sign) := goodIn_app (goodIn_of _ (by decide +kernel)) ggX8_figures_X8_sign
set_option maxRecDepth 20000 in
theorem ggX8_figures_X8_in : GoodIn wsX8_figures wsX8_in := goodIn_r _ [12] (by decide +kernel) (by decide +kernel)
set_option maxRecDepth 20000 in
theorem gX8_figures_X8_in : GoodIn wsX8_figures (va_wsS RX8 43 yX8_in wsX8_in) := goodIn_app (goodIn_of _ (by decide +kernel)) ggX8_figures_X8_in
theorem dX8_figures_0 : decode cX8_figures 0 = .ok (.iconst 0, 1) := by decide +kernel
theorem dX8_figures_1 : decode cX8_figures 1 = .ok (.istore 5, 2) := by decide +kernel
theorem dX8_figures_3 : decode cX8_figures 3 = .ok (.iload_n 2, 1) := by decide +kernel
theorem dX8_figures_4 : decode cX8_figures 4 = .ok (.iconst 2, 1) := by decide +kernel
theorem dX8_figures_5 : decode cX8_figures 5 = .ok (.if_icmp .ne 8, 3) := by decide +kernel
theorem dX8_figures_8 : decode cX8_figures 8 = .ok (.bipush 10, 2) := by decide +kernel
theorem dX8_figures_10 : decode cX8_figures 10 = .ok (.goto 4, 3) := by decide +kernel
theorem dX8_figures_13 : decode cX8_figures 13 = .ok (.iconst 1, 1) := by decide +kernel
theorem dX8_figures_14 : decode cX8_figures 14 = .ok (.istore 6, 2) := by decide +kernel
theorem dX8_figures_16 : decode cX8_figures 16 = .ok (.iload 6, 2) := by decide +kernel
theorem dX8_figures_18 : decode cX8_figures 18 = .ok (.ifCond .le 84, 3) := by decide +kernel
theorem dX8_figures_21 : decode cX8_figures 21 = .ok (.iload_n 1, 1) := by decide +kernel
theorem dX8_figures_22 : decode cX8_figures 22 = .ok (.iconst (-1), 1) := by decide +kernel
theorem dX8_figures_23 : decode cX8_figures 23 = .ok (.if_icmp .eq 79, 3) := by decide +kernel
theorem dX8_figures_26 : decode cX8_figures 26 = .ok (.aload_n 0, 1) := by decide +kernel
theorem dX8_figures_27 : decode cX8_figures 27 = .ok (.invokevirtual 109, 3) := by decide +kernel
theorem dX8_figures_30 : decode cX8_figures 30 = .ok (.bipush 48, 2) := by decide +kernel
theorem dX8_figures_32 : decode cX8_figures 32 = .ok (.isub, 1) := by decide +kernel
theorem dX8_figures_33 : decode cX8_figures 33 = .ok (.istore 7, 2) := by decide +kernel
theorem dX8_figures_35 : decode cX8_figures 35 = .ok (.iload 5, 2) := by decide +kernel
theorem dX8_figures_37 : decode cX8_figures 37 = .ok (.iload 7, 2) := by decide +kernel
theorem dX8_figures_39 : decode cX8_figures 39 = .ok (.iload 6, 2) := by decide +kernel
theorem dX8_figures_41 : decode cX8_figures 41 = .ok (.imul, 1) := by decide +kernel
theorem dX8_figures_42 : decode cX8_figures 42 = .ok (.iadd, 1) := by decide +kernel
theorem dX8_figures_43 : decode cX8_figures 43 = .ok (.istore 8, 2) := by decide +kernel
theorem dX8_figures_45 : decode cX8_figures 45 = .ok (.iload 7, 2) := by decide +kernel
theorem dX8_figures_47 : decode cX8_figures 47 = .ok (.i2l, 1) := by decide +kernel
theorem dX8_figures_48 : decode cX8_figures 48 = .ok (.lconst 0, 1) := by decide +kernel
theorem dX8_figures_49 : decode cX8_figures 49 = .ok (.ldc2_w 113, 3) := by decide +kernel
theorem dX8_figures_52 : decode cX8_figures 52 = .ok (.invokestatic 43, 3) := by decide +kernel
theorem dX8_figures_55 : decode cX8_figures 55 = .ok (.ifCond .eq 21, 3) := by decide +kernel
theorem dX8_figures_58 : decode cX8_figures 58 = .ok (.iload 8, 2) := by decide +kernel
theorem dX8_figures_60 : decode cX8_figures 60 = .ok (.iload 4, 2) := by decide +kernel
theorem dX8_figures_62 : decode cX8_figures 62 = .ok (.if_icmp .gt 14, 3) := by decide +kernel
theorem dX8_figures_65 : decode cX8_figures 65 = .ok (.iload 8, 2) := by decide +kernel
theorem dX8_figures_67 : decode cX8_figures 67 = .ok (.iload 6, 2) := by decide +kernel
theorem dX8_figures_69 : decode cX8_figures 69 = .ok (.iadd, 1) := by decide +kernel
theorem dX8_figures_70 : decode cX8_figures 70 = .ok (.iconst 1, 1) := by decide +kernel
theorem dX8_figures_71 : decode cX8_figures 71 = .ok (.isub, 1) := by decide +kernel
theorem dX8_figures_72 : decode cX8_figures 72 = .ok (.iload_n 3, 1) := by decide +kernel
theorem dX8_figures_73 : decode cX8_figures 73 = .ok (.if_icmp .ge 5, 3) := by decide +kernel
theorem dX8_figures_76 : decode cX8_figures 76 = .ok (.iconst (-1), 1) := by decide +kernel
theorem dX8_figures_77 : decode cX8_figures 77 = .ok (.ireturn, 1) := by decide +kernel
theorem dX8_figures_78 : decode cX8_figures 78 = .ok (.iload 8, 2) := by decide +kernel
theorem dX8_figures_80 : decode cX8_figures 80 = .ok (.istore 5, 2) := by decide +kernel
theorem dX8_figures_82 : decode cX8_figures 82 = .ok (.aload_n 0, 1) := by decide +kernel
theorem dX8_figures_83 : decode cX8_figures 83 = .ok (.dup, 1) := by decide +kernel
theorem dX8_figures_84 : decode cX8_figures 84 = .ok (.getfield 106, 3) := by decide +kernel
theorem dX8_figures_87 : decode cX8_figures 87 = .ok (.iconst 1, 1) := by decide +kernel
theorem dX8_figures_88 : decode cX8_figures 88 = .ok (.iadd, 1) := by decide +kernel
theorem dX8_figures_89 : decode cX8_figures 89 = .ok (.putfield 106, 3) := by decide +kernel
theorem dX8_figures_92 : decode cX8_figures 92 = .ok (.iload 6, 2) := by decide +kernel
theorem dX8_figures_94 : decode cX8_figures 94 = .ok (.bipush 10, 2) := by decide +kernel
theorem dX8_figures_96 : decode cX8_figures 96 = .ok (.idiv, 1) := by decide +kernel
theorem dX8_figures_97 : decode cX8_figures 97 = .ok (.istore 6, 2) := by decide +kernel
theorem dX8_figures_99 : decode cX8_figures 99 = .ok (.goto (-83), 3) := by decide +kernel
theorem dX8_figures_102 : decode cX8_figures 102 = .ok (.iload_n 1, 1) := by decide +kernel
theorem dX8_figures_103 : decode cX8_figures 103 = .ok (.iconst (-1), 1) := by decide +kernel
theorem dX8_figures_104 : decode cX8_figures 104 = .ok (.if_icmp .ne 7, 3) := by decide +kernel
theorem dX8_figures_107 : decode cX8_figures 107 = .ok (.iconst (-1), 1) := by decide +kernel
theorem dX8_figures_108 : decode cX8_figures 108 = .ok (.goto 5, 3) := by decide +kernel
theorem dX8_figures_111 : decode cX8_figures 111 = .ok (.iload 5, 2) := by decide +kernel
theorem dX8_figures_113 : decode cX8_figures 113 = .ok (.ireturn, 1) := by decide +kernel
set_option maxRecDepth 20000 in
theorem ggX8_letters_X8_sign : GoodIn wsX8_letters wsX8_sign := goodIn_r _ [7, 2, 8, 9, 13, 14, 15, 16, 17, 18, 19, 20, 21, 22, 23, 24, 25, 26] (by decide +kernel) (by decide +kernel)
set_option maxRecDepth 20000 in
theorem gX8_letters_X8_sign : GoodIn wsX8_letters (wsV RX8 109 RX8 yX8_sign wsX8_sign) := goodIn_app (goodIn_of _ (by decide +kernel)) ggX8_letters_X8_sign
set_option maxRecDepth 20000 in
theorem ggX8_letters_X8_in : GoodIn wsX8_letters wsX8_in := goodIn_r _ [12] (by decide +kernel) (by decide +kernel)
set_option maxRecDepth 20000 in
theorem gX8_letters_X8_in : GoodIn wsX8_letters (va_wsS RX8 43 yX8_in wsX8_in) := goodIn_app (goodIn_of _ (by decide +kernel)) ggX8_letters_X8_in
theorem dX8_letters_0 : decode cX8_letters 0 = .ok (.iconst 0, 1) := by decide +kernel
theorem dX8_letters_1 : decode cX8_letters 1 = .ok (.istore_n 2, 1) := by decide +kernel
theorem dX8_letters_2 : decode cX8_letters 2 = .ok (.bipush 97, 2) := by decide +kernel
theorem dX8_letters_4 : decode cX8_letters 4 = .ok (.istore_n 3, 1) := by decide +kernel
theorem dX8_letters_5 : decode cX8_letters 5 = .ok (.aload_n 0, 1) := by decide +kernel
theorem dX8_letters_6 : decode cX8_letters 6 = .ok (.invokevirtual 109, 3) := by decide +kernel
theorem dX8_letters_9 : decode cX8_letters 9 = .ok (.i2l, 1) := by decide +kernel
theorem dX8_letters_10 : decode cX8_letters 10 = .ok (.iload_n 3, 1) := by decide +kernel
theorem dX8_letters_11 : decode cX8_letters 11 = .ok (.i2l, 1) := by decide +kernel
theorem dX8_letters_12 : decode cX8_letters 12 = .ok (.ldc2_w 115, 3) := by decide +kernel
theorem dX8_letters_15 : decode cX8_letters 15 = .ok (.invokestatic 43, 3) := by decide +kernel
theorem dX8_letters_18 : decode cX8_letters 18 = .ok (.ifCond .eq 35, 3) := by decide +kernel
theorem dX8_letters_21 : decode cX8_letters 21 = .ok (.iload_n 2, 1) := by decide +kernel
theorem dX8_letters_22 : decode cX8_letters 22 = .ok (.iconst 1, 1) := by decide +kernel
theorem dX8_letters_23 : decode cX8_letters 23 = .ok (.aload_n 0, 1) := by decide +kernel
theorem dX8_letters_24 : decode cX8_letters 24 = .ok (.invokevirtual 109, 3) := by decide +kernel
theorem dX8_letters_27 : decode cX8_letters 27 = .ok (.bipush 97, 2) := by decide +kernel
theorem dX8_letters_29 : decode cX8_letters 29 = .ok (.isub, 1) := by decide +kernel
theorem dX8_letters_30 : decode cX8_letters 30 = .ok (.ishl, 1) := by decide +kernel
theorem dX8_letters_31 : decode cX8_letters 31 = .ok (.ior, 1) := by decide +kernel
theorem dX8_letters_32 : decode cX8_letters 32 = .ok (.istore_n 2, 1) := by decide +kernel
theorem dX8_letters_33 : decode cX8_letters 33 = .ok (.aload_n 0, 1) := by decide +kernel
theorem dX8_letters_34 : decode cX8_letters 34 = .ok (.invokevirtual 109, 3) := by decide +kernel
theorem dX8_letters_37 : decode cX8_letters 37 = .ok (.iconst 1, 1) := by decide +kernel
theorem dX8_letters_38 : decode cX8_letters 38 = .ok (.iadd, 1) := by decide +kernel
theorem dX8_letters_39 : decode cX8_letters 39 = .ok (.istore_n 3, 1) := by decide +kernel
theorem dX8_letters_40 : decode cX8_letters 40 = .ok (.aload_n 0, 1) := by decide +kernel
theorem dX8_letters_41 : decode cX8_letters 41 = .ok (.dup, 1) := by decide +kernel
theorem dX8_letters_42 : decode cX8_letters 42 = .ok (.getfield 106, 3) := by decide +kernel
theorem dX8_letters_45 : decode cX8_letters 45 = .ok (.iconst 1, 1) := by decide +kernel
theorem dX8_letters_46 : decode cX8_letters 46 = .ok (.iadd, 1) := by decide +kernel
theorem dX8_letters_47 : decode cX8_letters 47 = .ok (.putfield 106, 3) := by decide +kernel
theorem dX8_letters_50 : decode cX8_letters 50 = .ok (.goto (-45), 3) := by decide +kernel
theorem dX8_letters_53 : decode cX8_letters 53 = .ok (.aload_n 0, 1) := by decide +kernel
theorem dX8_letters_54 : decode cX8_letters 54 = .ok (.invokevirtual 109, 3) := by decide +kernel
theorem dX8_letters_57 : decode cX8_letters 57 = .ok (.iload_n 1, 1) := by decide +kernel
theorem dX8_letters_58 : decode cX8_letters 58 = .ok (.if_icmp .eq 5, 3) := by decide +kernel
theorem dX8_letters_61 : decode cX8_letters 61 = .ok (.iconst (-1), 1) := by decide +kernel
theorem dX8_letters_62 : decode cX8_letters 62 = .ok (.ireturn, 1) := by decide +kernel
theorem dX8_letters_63 : decode cX8_letters 63 = .ok (.aload_n 0, 1) := by decide +kernel
theorem dX8_letters_64 : decode cX8_letters 64 = .ok (.dup, 1) := by decide +kernel
theorem dX8_letters_65 : decode cX8_letters 65 = .ok (.getfield 106, 3) := by decide +kernel
theorem dX8_letters_68 : decode cX8_letters 68 = .ok (.iconst 1, 1) := by decide +kernel
theorem dX8_letters_69 : decode cX8_letters 69 = .ok (.iadd, 1) := by decide +kernel
theorem dX8_letters_70 : decode cX8_letters 70 = .ok (.putfield 106, 3) := by decide +kernel
theorem dX8_letters_73 : decode cX8_letters 73 = .ok (.iload_n 2, 1) := by decide +kernel
theorem dX8_letters_74 : decode cX8_letters 74 = .ok (.ireturn, 1) := by decide +kernel
theorem dX8_done_0 : decode cX8_done 0 = .ok (.aload_n 0, 1) := by decide +kernel
theorem dX8_done_1 : decode cX8_done 1 = .ok (.dup, 1) := by decide +kernel
theorem dX8_done_2 : decode cX8_done 2 = .ok (.getfield 117, 3) := by decide +kernel
theorem dX8_done_5 : decode cX8_done 5 = .ok (.iload_n 1, 1) := by decide +kernel
theorem dX8_done_6 : decode cX8_done 6 = .ok (.ifCond .eq 7, 3) := by decide +kernel
theorem dX8_done_9 : decode cX8_done 9 = .ok (.iconst 0, 1) := by decide +kernel
theorem dX8_done_10 : decode cX8_done 10 = .ok (.goto 4, 3) := by decide +kernel
theorem dX8_done_13 : decode cX8_done 13 = .ok (.iconst 1, 1) := by decide +kernel
theorem dX8_done_14 : decode cX8_done 14 = .ok (.iadd, 1) := by decide +kernel
theorem dX8_done_15 : decode cX8_done 15 = .ok (.putfield 117, 3) := by decide +kernel
theorem dX8_done_18 : decode cX8_done 18 = .ok (.iconst 1, 1) := by decide +kernel
theorem dX8_done_19 : decode cX8_done 19 = .ok (.ireturn, 1) := by decide +kernel
set_option maxRecDepth 20000 in
theorem ggX8_readCommand_X8_sign : GoodIn wsX8_readCommand wsX8_sign := goodIn_r _ [6, 1, 7, 8, 54, 55, 56, 57, 58, 59, 60, 61, 62, 63, 64, 65, 66, 67] (by decide +kernel) (by decide +kernel)
