set_option maxRecDepth 20000 in
theorem gX8_isCoins_X8_in : GoodIn wsX8_isCoins (va_wsS RX8 43 yX8_in wsX8_in) := goodIn_app (goodIn_of _ (by decide +kernel)) ggX8_isCoins_X8_in
theorem dX8_isCoins_0 : decode cX8_isCoins 0 = .ok (.iload_n 0, 1) := by decide +kernel
theorem dX8_isCoins_1 : decode cX8_isCoins 1 = .ok (.i2l, 1) := by decide +kernel
theorem dX8_isCoins_2 : decode cX8_isCoins 2 = .ok (.ldc2_w 47, 3) := by decide +kernel
theorem dX8_isCoins_5 : decode cX8_isCoins 5 = .ok (.ldc2_w 49, 3) := by decide +kernel
theorem dX8_isCoins_8 : decode cX8_isCoins 8 = .ok (.invokestatic 43, 3) := by decide +kernel
theorem dX8_isCoins_11 : decode cX8_isCoins 11 = .ok (.ireturn, 1) := by decide +kernel
set_option maxRecDepth 20000 in
theorem ggX8_isArms_X8_in : GoodIn wsX8_isArms wsX8_in := goodIn_r _ [5] (by decide +kernel) (by decide +kernel)
set_option maxRecDepth 20000 in
theorem gX8_isArms_X8_in : GoodIn wsX8_isArms (va_wsS RX8 43 yX8_in wsX8_in) := goodIn_app (goodIn_of _ (by decide +kernel)) ggX8_isArms_X8_in
theorem dX8_isArms_0 : decode cX8_isArms 0 = .ok (.iload_n 0, 1) := by decide +kernel
theorem dX8_isArms_1 : decode cX8_isArms 1 = .ok (.i2l, 1) := by decide +kernel
theorem dX8_isArms_2 : decode cX8_isArms 2 = .ok (.lconst 1, 1) := by decide +kernel
theorem dX8_isArms_3 : decode cX8_isArms 3 = .ok (.ldc2_w 51, 3) := by decide +kernel
theorem dX8_isArms_6 : decode cX8_isArms 6 = .ok (.invokestatic 43, 3) := by decide +kernel
theorem dX8_isArms_9 : decode cX8_isArms 9 = .ok (.ifCond .eq 19, 3) := by decide +kernel
theorem dX8_isArms_12 : decode cX8_isArms 12 = .ok (.iload_n 1, 1) := by decide +kernel
theorem dX8_isArms_13 : decode cX8_isArms 13 = .ok (.i2l, 1) := by decide +kernel
theorem dX8_isArms_14 : decode cX8_isArms 14 = .ok (.lconst 1, 1) := by decide +kernel
theorem dX8_isArms_15 : decode cX8_isArms 15 = .ok (.ldc2_w 51, 3) := by decide +kernel
theorem dX8_isArms_18 : decode cX8_isArms 18 = .ok (.invokestatic 43, 3) := by decide +kernel
theorem dX8_isArms_21 : decode cX8_isArms 21 = .ok (.ifCond .eq 7, 3) := by decide +kernel
theorem dX8_isArms_24 : decode cX8_isArms 24 = .ok (.iconst 1, 1) := by decide +kernel
theorem dX8_isArms_25 : decode cX8_isArms 25 = .ok (.goto 4, 3) := by decide +kernel
theorem dX8_isArms_28 : decode cX8_isArms 28 = .ok (.iconst 0, 1) := by decide +kernel
theorem dX8_isArms_29 : decode cX8_isArms 29 = .ok (.ireturn, 1) := by decide +kernel
set_option maxRecDepth 20000 in
theorem ggX8_isSet_X8_in : GoodIn wsX8_isSet wsX8_in := goodIn_r _ [4] (by decide +kernel) (by decide +kernel)
set_option maxRecDepth 20000 in
theorem gX8_isSet_X8_in : GoodIn wsX8_isSet (va_wsS RX8 43 yX8_in wsX8_in) := goodIn_app (goodIn_of _ (by decide +kernel)) ggX8_isSet_X8_in
theorem dX8_isSet_0 : decode cX8_isSet 0 = .ok (.iload_n 1, 1) := by decide +kernel
theorem dX8_isSet_1 : decode cX8_isSet 1 = .ok (.i2l, 1) := by decide +kernel
theorem dX8_isSet_2 : decode cX8_isSet 2 = .ok (.lconst 0, 1) := by decide +kernel
theorem dX8_isSet_3 : decode cX8_isSet 3 = .ok (.iconst 1, 1) := by decide +kernel
theorem dX8_isSet_4 : decode cX8_isSet 4 = .ok (.aload_n 0, 1) := by decide +kernel
theorem dX8_isSet_5 : decode cX8_isSet 5 = .ok (.iconst 0, 1) := by decide +kernel
theorem dX8_isSet_6 : decode cX8_isSet 6 = .ok (.iaload, 1) := by decide +kernel
theorem dX8_isSet_7 : decode cX8_isSet 7 = .ok (.ishl, 1) := by decide +kernel
theorem dX8_isSet_8 : decode cX8_isSet 8 = .ok (.iconst 1, 1) := by decide +kernel
theorem dX8_isSet_9 : decode cX8_isSet 9 = .ok (.isub, 1) := by decide +kernel
theorem dX8_isSet_10 : decode cX8_isSet 10 = .ok (.i2l, 1) := by decide +kernel
theorem dX8_isSet_11 : decode cX8_isSet 11 = .ok (.invokestatic 43, 3) := by decide +kernel
theorem dX8_isSet_14 : decode cX8_isSet 14 = .ok (.ireturn, 1) := by decide +kernel
set_option maxRecDepth 20000 in
theorem ggX8_isWeighing_X8_isSet : GoodIn wsX8_isWeighing wsX8_isSet := goodIn_r _ [4, 5, 6, 3, 7] (by decide +kernel) (by decide +kernel)
set_option maxRecDepth 20000 in
theorem gX8_isWeighing_X8_isSet : GoodIn wsX8_isWeighing (va_wsS RX8 53 yX8_isSet wsX8_isSet) := goodIn_app (goodIn_of _ (by decide +kernel)) ggX8_isWeighing_X8_isSet
theorem dX8_isWeighing_0 : decode cX8_isWeighing 0 = .ok (.aload_n 0, 1) := by decide +kernel
theorem dX8_isWeighing_1 : decode cX8_isWeighing 1 = .ok (.iload_n 1, 1) := by decide +kernel
theorem dX8_isWeighing_2 : decode cX8_isWeighing 2 = .ok (.invokestatic 53, 3) := by decide +kernel
theorem dX8_isWeighing_5 : decode cX8_isWeighing 5 = .ok (.ifCond .eq 27, 3) := by decide +kernel
theorem dX8_isWeighing_8 : decode cX8_isWeighing 8 = .ok (.aload_n 0, 1) := by decide +kernel
theorem dX8_isWeighing_9 : decode cX8_isWeighing 9 = .ok (.iload_n 2, 1) := by decide +kernel
theorem dX8_isWeighing_10 : decode cX8_isWeighing 10 = .ok (.invokestatic 53, 3) := by decide +kernel
theorem dX8_isWeighing_13 : decode cX8_isWeighing 13 = .ok (.ifCond .eq 19, 3) := by decide +kernel
theorem dX8_isWeighing_16 : decode cX8_isWeighing 16 = .ok (.iload_n 1, 1) := by decide +kernel
theorem dX8_isWeighing_17 : decode cX8_isWeighing 17 = .ok (.iload_n 2, 1) := by decide +kernel
theorem dX8_isWeighing_18 : decode cX8_isWeighing 18 = .ok (.iand, 1) := by decide +kernel
theorem dX8_isWeighing_19 : decode cX8_isWeighing 19 = .ok (.ifCond .ne 13, 3) := by decide +kernel
theorem dX8_isWeighing_22 : decode cX8_isWeighing 22 = .ok (.iload_n 1, 1) := by decide +kernel
theorem dX8_isWeighing_23 : decode cX8_isWeighing 23 = .ok (.iload_n 2, 1) := by decide +kernel
theorem dX8_isWeighing_24 : decode cX8_isWeighing 24 = .ok (.ior, 1) := by decide +kernel
theorem dX8_isWeighing_25 : decode cX8_isWeighing 25 = .ok (.ifCond .le 7, 3) := by decide +kernel
theorem dX8_isWeighing_28 : decode cX8_isWeighing 28 = .ok (.iconst 1, 1) := by decide +kernel
theorem dX8_isWeighing_29 : decode cX8_isWeighing 29 = .ok (.goto 4, 3) := by decide +kernel
theorem dX8_isWeighing_32 : decode cX8_isWeighing 32 = .ok (.iconst 0, 1) := by decide +kernel
theorem dX8_isWeighing_33 : decode cX8_isWeighing 33 = .ok (.ireturn, 1) := by decide +kernel
theorem dX8_bits_0 : decode cX8_bits 0 = .ok (.iconst 0, 1) := by decide +kernel
theorem dX8_bits_1 : decode cX8_bits 1 = .ok (.istore_n 1, 1) := by decide +kernel
theorem dX8_bits_2 : decode cX8_bits 2 = .ok (.iconst 0, 1) := by decide +kernel
theorem dX8_bits_3 : decode cX8_bits 3 = .ok (.istore_n 2, 1) := by decide +kernel
theorem dX8_bits_4 : decode cX8_bits 4 = .ok (.iload_n 2, 1) := by decide +kernel
theorem dX8_bits_5 : decode cX8_bits 5 = .ok (.bipush 12, 2) := by decide +kernel
theorem dX8_bits_7 : decode cX8_bits 7 = .ok (.if_icmp .ge 17, 3) := by decide +kernel
theorem dX8_bits_10 : decode cX8_bits 10 = .ok (.iload_n 1, 1) := by decide +kernel
theorem dX8_bits_11 : decode cX8_bits 11 = .ok (.iload_n 0, 1) := by decide +kernel
theorem dX8_bits_12 : decode cX8_bits 12 = .ok (.iload_n 2, 1) := by decide +kernel
theorem dX8_bits_13 : decode cX8_bits 13 = .ok (.ishr, 1) := by decide +kernel
theorem dX8_bits_14 : decode cX8_bits 14 = .ok (.iconst 1, 1) := by decide +kernel
theorem dX8_bits_15 : decode cX8_bits 15 = .ok (.iand, 1) := by decide +kernel
theorem dX8_bits_16 : decode cX8_bits 16 = .ok (.iadd, 1) := by decide +kernel
theorem dX8_bits_17 : decode cX8_bits 17 = .ok (.istore_n 1, 1) := by decide +kernel
theorem dX8_bits_18 : decode cX8_bits 18 = .ok (.iinc 2 1, 3) := by decide +kernel
theorem dX8_bits_21 : decode cX8_bits 21 = .ok (.goto (-17), 3) := by decide +kernel
theorem dX8_bits_24 : decode cX8_bits 24 = .ok (.iload_n 1, 1) := by decide +kernel
theorem dX8_bits_25 : decode cX8_bits 25 = .ok (.ireturn, 1) := by decide +kernel
set_option maxRecDepth 20000 in
theorem ggX8_weight_X8_bits : GoodIn wsX8_weight wsX8_bits := goodIn_r _ [4] (by decide +kernel) (by decide +kernel)
set_option maxRecDepth 20000 in
theorem gX8_weight_X8_bits : GoodIn wsX8_weight (va_wsS RX8 57 yX8_bits wsX8_bits) := goodIn_app (goodIn_of _ (by decide +kernel)) ggX8_weight_X8_bits
theorem dX8_weight_0 : decode cX8_weight 0 = .ok (.iload_n 1, 1) := by decide +kernel
theorem dX8_weight_1 : decode cX8_weight 1 = .ok (.iconst 2, 1) := by decide +kernel
theorem dX8_weight_2 : decode cX8_weight 2 = .ok (.idiv, 1) := by decide +kernel
theorem dX8_weight_3 : decode cX8_weight 3 = .ok (.bipush 12, 2) := by decide +kernel
theorem dX8_weight_5 : decode cX8_weight 5 = .ok (.if_icmp .ge 18, 3) := by decide +kernel
theorem dX8_weight_8 : decode cX8_weight 8 = .ok (.iload_n 0, 1) := by decide +kernel
theorem dX8_weight_9 : decode cX8_weight 9 = .ok (.iload_n 1, 1) := by decide +kernel
theorem dX8_weight_10 : decode cX8_weight 10 = .ok (.iconst 2, 1) := by decide +kernel
theorem dX8_weight_11 : decode cX8_weight 11 = .ok (.idiv, 1) := by decide +kernel
theorem dX8_weight_12 : decode cX8_weight 12 = .ok (.ishr, 1) := by decide +kernel
theorem dX8_weight_13 : decode cX8_weight 13 = .ok (.iconst 1, 1) := by decide +kernel
theorem dX8_weight_14 : decode cX8_weight 14 = .ok (.iand, 1) := by decide +kernel
theorem dX8_weight_15 : decode cX8_weight 15 = .ok (.iconst 1, 1) := by decide +kernel
theorem dX8_weight_16 : decode cX8_weight 16 = .ok (.if_icmp .ne 7, 3) := by decide +kernel
theorem dX8_weight_19 : decode cX8_weight 19 = .ok (.iconst 1, 1) := by decide +kernel
theorem dX8_weight_20 : decode cX8_weight 20 = .ok (.goto 4, 3) := by decide +kernel
theorem dX8_weight_23 : decode cX8_weight 23 = .ok (.iconst 0, 1) := by decide +kernel
theorem dX8_weight_24 : decode cX8_weight 24 = .ok (.istore_n 2, 1) := by decide +kernel
theorem dX8_weight_25 : decode cX8_weight 25 = .ok (.bipush 10, 2) := by decide +kernel
theorem dX8_weight_27 : decode cX8_weight 27 = .ok (.iload_n 0, 1) := by decide +kernel
theorem dX8_weight_28 : decode cX8_weight 28 = .ok (.invokestatic 57, 3) := by decide +kernel
theorem dX8_weight_31 : decode cX8_weight 31 = .ok (.imul, 1) := by decide +kernel
theorem dX8_weight_32 : decode cX8_weight 32 = .ok (.iload_n 2, 1) := by decide +kernel
theorem dX8_weight_33 : decode cX8_weight 33 = .ok (.ifCond .eq 13, 3) := by decide +kernel
theorem dX8_weight_36 : decode cX8_weight 36 = .ok (.iconst 2, 1) := by decide +kernel
theorem dX8_weight_37 : decode cX8_weight 37 = .ok (.iload_n 1, 1) := by decide +kernel
theorem dX8_weight_38 : decode cX8_weight 38 = .ok (.iconst 2, 1) := by decide +kernel
theorem dX8_weight_39 : decode cX8_weight 39 = .ok (.irem, 1) := by decide +kernel
theorem dX8_weight_40 : decode cX8_weight 40 = .ok (.imul, 1) := by decide +kernel
theorem dX8_weight_41 : decode cX8_weight 41 = .ok (.iconst 1, 1) := by decide +kernel
theorem dX8_weight_42 : decode cX8_weight 42 = .ok (.isub, 1) := by decide +kernel
theorem dX8_weight_43 : decode cX8_weight 43 = .ok (.goto 4, 3) := by decide +kernel
theorem dX8_weight_46 : decode cX8_weight 46 = .ok (.iconst 0, 1) := by decide +kernel
theorem dX8_weight_47 : decode cX8_weight 47 = .ok (.iadd, 1) := by decide +kernel
theorem dX8_weight_48 : decode cX8_weight 48 = .ok (.ireturn, 1) := by decide +kernel
set_option maxRecDepth 20000 in
theorem ggX8_outcome_X8_weight : GoodIn wsX8_outcome wsX8_weight := goodIn_r _ [4, 5, 6, 3, 7] (by decide +kernel) (by decide +kernel)
set_option maxRecDepth 20000 in
theorem gX8_outcome_X8_weight : GoodIn wsX8_outcome (va_wsS RX8 61 yX8_weight wsX8_weight) := goodIn_app (goodIn_of _ (by decide +kernel)) ggX8_outcome_X8_weight
theorem dX8_outcome_0 : decode cX8_outcome 0 = .ok (.iload_n 2, 1) := by decide +kernel
theorem dX8_outcome_1 : decode cX8_outcome 1 = .ok (.iload_n 0, 1) := by decide +kernel
theorem dX8_outcome_2 : decode cX8_outcome 2 = .ok (.iload 4, 2) := by decide +kernel
theorem dX8_outcome_4 : decode cX8_outcome 4 = .ok (.iconst 3, 1) := by decide +kernel
theorem dX8_outcome_5 : decode cX8_outcome 5 = .ok (.idiv, 1) := by decide +kernel
theorem dX8_outcome_6 : decode cX8_outcome 6 = .ok (.invokestatic 61, 3) := by decide +kernel
theorem dX8_outcome_9 : decode cX8_outcome 9 = .ok (.iload 4, 2) := by decide +kernel
theorem dX8_outcome_11 : decode cX8_outcome 11 = .ok (.iconst 3, 1) := by decide +kernel
theorem dX8_outcome_12 : decode cX8_outcome 12 = .ok (.irem, 1) := by decide +kernel
theorem dX8_outcome_13 : decode cX8_outcome 13 = .ok (.iconst 1, 1) := by decide +kernel
theorem dX8_outcome_14 : decode cX8_outcome 14 = .ok (.if_icmp .ne 7, 3) := by decide +kernel
theorem dX8_outcome_17 : decode cX8_outcome 17 = .ok (.iconst 1, 1) := by decide +kernel
theorem dX8_outcome_18 : decode cX8_outcome 18 = .ok (.goto 4, 3) := by decide +kernel
theorem dX8_outcome_21 : decode cX8_outcome 21 = .ok (.iconst 0, 1) := by decide +kernel
theorem dX8_outcome_22 : decode cX8_outcome 22 = .ok (.iadd, 1) := by decide +kernel
theorem dX8_outcome_23 : decode cX8_outcome 23 = .ok (.imul, 1) := by decide +kernel
theorem dX8_outcome_24 : decode cX8_outcome 24 = .ok (.istore 5, 2) := by decide +kernel
theorem dX8_outcome_26 : decode cX8_outcome 26 = .ok (.iload_n 3, 1) := by decide +kernel
theorem dX8_outcome_27 : decode cX8_outcome 27 = .ok (.iload_n 1, 1) := by decide +kernel
theorem dX8_outcome_28 : decode cX8_outcome 28 = .ok (.iload 4, 2) := by decide +kernel
theorem dX8_outcome_30 : decode cX8_outcome 30 = .ok (.iconst 3, 1) := by decide +kernel
theorem dX8_outcome_31 : decode cX8_outcome 31 = .ok (.idiv, 1) := by decide +kernel
theorem dX8_outcome_32 : decode cX8_outcome 32 = .ok (.invokestatic 61, 3) := by decide +kernel
theorem dX8_outcome_35 : decode cX8_outcome 35 = .ok (.iload 4, 2) := by decide +kernel
theorem dX8_outcome_37 : decode cX8_outcome 37 = .ok (.iconst 3, 1) := by decide +kernel
theorem dX8_outcome_38 : decode cX8_outcome 38 = .ok (.irem, 1) := by decide +kernel
theorem dX8_outcome_39 : decode cX8_outcome 39 = .ok (.iconst 2, 1) := by decide +kernel
theorem dX8_outcome_40 : decode cX8_outcome 40 = .ok (.if_icmp .ne 7, 3) := by decide +kernel
theorem dX8_outcome_43 : decode cX8_outcome 43 = .ok (.iconst 1, 1) := by decide +kernel
theorem dX8_outcome_44 : decode cX8_outcome 44 = .ok (.goto 4, 3) := by decide +kernel
theorem dX8_outcome_47 : decode cX8_outcome 47 = .ok (.iconst 0, 1) := by decide +kernel
theorem dX8_outcome_48 : decode cX8_outcome 48 = .ok (.iadd, 1) := by decide +kernel
theorem dX8_outcome_49 : decode cX8_outcome 49 = .ok (.imul, 1) := by decide +kernel
theorem dX8_outcome_50 : decode cX8_outcome 50 = .ok (.istore 6, 2) := by decide +kernel
theorem dX8_outcome_52 : decode cX8_outcome 52 = .ok (.iload 5, 2) := by decide +kernel
theorem dX8_outcome_54 : decode cX8_outcome 54 = .ok (.iload 6, 2) := by decide +kernel
theorem dX8_outcome_56 : decode cX8_outcome 56 = .ok (.if_icmp .le 7, 3) := by decide +kernel
theorem dX8_outcome_59 : decode cX8_outcome 59 = .ok (.iconst 1, 1) := by decide +kernel
theorem dX8_outcome_60 : decode cX8_outcome 60 = .ok (.goto 15, 3) := by decide +kernel
theorem dX8_outcome_63 : decode cX8_outcome 63 = .ok (.iload 5, 2) := by decide +kernel
theorem dX8_outcome_65 : decode cX8_outcome 65 = .ok (.iload 6, 2) := by decide +kernel
theorem dX8_outcome_67 : decode cX8_outcome 67 = .ok (.if_icmp .ge 7, 3) := by decide +kernel
theorem dX8_outcome_70 : decode cX8_outcome 70 = .ok (.iconst 2, 1) := by decide +kernel
theorem dX8_outcome_71 : decode cX8_outcome 71 = .ok (.goto 4, 3) := by decide +kernel
theorem dX8_outcome_74 : decode cX8_outcome 74 = .ok (.iconst 0, 1) := by decide +kernel
theorem dX8_outcome_75 : decode cX8_outcome 75 = .ok (.ireturn, 1) := by decide +kernel
theorem dX8_at_0 : decode cX8_at 0 = .ok (.bipush 7, 2) := by decide +kernel
theorem dX8_at_2 : decode cX8_at 2 = .ok (.iconst 5, 1) := by decide +kernel
theorem dX8_at_3 : decode cX8_at 3 = .ok (.iload_n 0, 1) := by decide +kernel
theorem dX8_at_4 : decode cX8_at 4 = .ok (.imul, 1) := by decide +kernel
theorem dX8_at_5 : decode cX8_at 5 = .ok (.iadd, 1) := by decide +kernel
theorem dX8_at_6 : decode cX8_at 6 = .ok (.ireturn, 1) := by decide +kernel
set_option maxRecDepth 20000 in
theorem ggX8_fits_X8_at : GoodIn wsX8_fits wsX8_at := goodIn_r _ [4] (by decide +kernel) (by decide +kernel)
set_option maxRecDepth 20000 in
theorem gX8_fits_X8_at : GoodIn wsX8_fits (va_wsS RX8 65 yX8_at wsX8_at) := goodIn_app (goodIn_of _ (by decide +kernel)) ggX8_fits_X8_at
set_option maxRecDepth 20000 in
theorem ggX8_fits_X8_outcome : GoodIn wsX8_fits wsX8_outcome := goodIn_r _ [7, 8, 9, 3, 10, 11, 12, 13] (by decide +kernel) (by decide +kernel)
set_option maxRecDepth 20000 in
theorem gX8_fits_X8_outcome : GoodIn wsX8_fits (va_wsS RX8 68 yX8_outcome wsX8_outcome) := goodIn_app (goodIn_of _ (by decide +kernel)) ggX8_fits_X8_outcome
theorem dX8_fits_0 : decode cX8_fits 0 = .ok (.iconst 0, 1) := by decide +kernel
theorem dX8_fits_1 : decode cX8_fits 1 = .ok (.istore_n 3, 1) := by decide +kernel
theorem dX8_fits_2 : decode cX8_fits 2 = .ok (.iload_n 3, 1) := by decide +kernel
theorem dX8_fits_3 : decode cX8_fits 3 = .ok (.iload_n 2, 1) := by decide +kernel
theorem dX8_fits_4 : decode cX8_fits 4 = .ok (.if_icmp .ge 52, 3) := by decide +kernel
theorem dX8_fits_7 : decode cX8_fits 7 = .ok (.iload_n 3, 1) := by decide +kernel
theorem dX8_fits_8 : decode cX8_fits 8 = .ok (.invokestatic 65, 3) := by decide +kernel
theorem dX8_fits_11 : decode cX8_fits 11 = .ok (.istore 4, 2) := by decide +kernel
theorem dX8_fits_13 : decode cX8_fits 13 = .ok (.aload_n 0, 1) := by decide +kernel
theorem dX8_fits_14 : decode cX8_fits 14 = .ok (.iload 4, 2) := by decide +kernel
theorem dX8_fits_16 : decode cX8_fits 16 = .ok (.iaload, 1) := by decide +kernel
theorem dX8_fits_17 : decode cX8_fits 17 = .ok (.aload_n 0, 1) := by decide +kernel
theorem dX8_fits_18 : decode cX8_fits 18 = .ok (.iload 4, 2) := by decide +kernel
theorem dX8_fits_20 : decode cX8_fits 20 = .ok (.iconst 1, 1) := by decide +kernel
theorem dX8_fits_21 : decode cX8_fits 21 = .ok (.iadd, 1) := by decide +kernel
theorem dX8_fits_22 : decode cX8_fits 22 = .ok (.iaload, 1) := by decide +kernel
theorem dX8_fits_23 : decode cX8_fits 23 = .ok (.aload_n 0, 1) := by decide +kernel
theorem dX8_fits_24 : decode cX8_fits 24 = .ok (.iload 4, 2) := by decide +kernel
theorem dX8_fits_26 : decode cX8_fits 26 = .ok (.iconst 3, 1) := by decide +kernel
theorem dX8_fits_27 : decode cX8_fits 27 = .ok (.iadd, 1) := by decide +kernel
theorem dX8_fits_28 : decode cX8_fits 28 = .ok (.iaload, 1) := by decide +kernel
theorem dX8_fits_29 : decode cX8_fits 29 = .ok (.aload_n 0, 1) := by decide +kernel
theorem dX8_fits_30 : decode cX8_fits 30 = .ok (.iload 4, 2) := by decide +kernel
theorem dX8_fits_32 : decode cX8_fits 32 = .ok (.iconst 4, 1) := by decide +kernel
theorem dX8_fits_33 : decode cX8_fits 33 = .ok (.iadd, 1) := by decide +kernel
theorem dX8_fits_34 : decode cX8_fits 34 = .ok (.iaload, 1) := by decide +kernel
theorem dX8_fits_35 : decode cX8_fits 35 = .ok (.iload_n 1, 1) := by decide +kernel
theorem dX8_fits_36 : decode cX8_fits 36 = .ok (.invokestatic 68, 3) := by decide +kernel
theorem dX8_fits_39 : decode cX8_fits 39 = .ok (.aload_n 0, 1) := by decide +kernel
theorem dX8_fits_40 : decode cX8_fits 40 = .ok (.iload 4, 2) := by decide +kernel
theorem dX8_fits_42 : decode cX8_fits 42 = .ok (.iconst 2, 1) := by decide +kernel
theorem dX8_fits_43 : decode cX8_fits 43 = .ok (.iadd, 1) := by decide +kernel
theorem dX8_fits_44 : decode cX8_fits 44 = .ok (.iaload, 1) := by decide +kernel
theorem dX8_fits_45 : decode cX8_fits 45 = .ok (.if_icmp .eq 5, 3) := by decide +kernel
theorem dX8_fits_48 : decode cX8_fits 48 = .ok (.iconst 0, 1) := by decide +kernel
theorem dX8_fits_49 : decode cX8_fits 49 = .ok (.ireturn, 1) := by decide +kernel
theorem dX8_fits_50 : decode cX8_fits 50 = .ok (.iinc 3 1, 3) := by decide +kernel
theorem dX8_fits_53 : decode cX8_fits 53 = .ok (.goto (-51), 3) := by decide +kernel
theorem dX8_fits_56 : decode cX8_fits 56 = .ok (.iconst 1, 1) := by decide +kernel
theorem dX8_fits_57 : decode cX8_fits 57 = .ok (.ireturn, 1) := by decide +kernel
set_option maxRecDepth 20000 in
theorem ggX8_many_X8_allOf : GoodIn wsX8_many wsX8_allOf := goodIn_r _ [4] (by decide +kernel) (by decide +kernel)
set_option maxRecDepth 20000 in
theorem gX8_many_X8_allOf : GoodIn wsX8_many (va_wsS RX8 72 yX8_allOf wsX8_allOf) := goodIn_app (goodIn_of _ (by decide +kernel)) ggX8_many_X8_allOf
set_option maxRecDepth 20000 in
theorem ggX8_many_X8_fits : GoodIn wsX8_many wsX8_fits := goodIn_r _ [7, 8, 9, 3, 10, 11, 12, 13, 14, 15, 16, 17, 18, 19] (by decide +kernel) (by decide +kernel)
set_option maxRecDepth 20000 in
theorem gX8_many_X8_fits : GoodIn wsX8_many (va_wsS RX8 75 yX8_fits wsX8_fits) := goodIn_app (goodIn_of _ (by decide +kernel)) ggX8_many_X8_fits
theorem dX8_many_0 : decode cX8_many 0 = .ok (.iconst 0, 1) := by decide +kernel
theorem dX8_many_1 : decode cX8_many 1 = .ok (.istore_n 2, 1) := by decide +kernel
theorem dX8_many_2 : decode cX8_many 2 = .ok (.iconst 0, 1) := by decide +kernel
theorem dX8_many_3 : decode cX8_many 3 = .ok (.istore_n 3, 1) := by decide +kernel
theorem dX8_many_4 : decode cX8_many 4 = .ok (.iload_n 3, 1) := by decide +kernel
theorem dX8_many_5 : decode cX8_many 5 = .ok (.aload_n 0, 1) := by decide +kernel
theorem dX8_many_6 : decode cX8_many 6 = .ok (.iconst 0, 1) := by decide +kernel
theorem dX8_many_7 : decode cX8_many 7 = .ok (.iaload, 1) := by decide +kernel
theorem dX8_many_8 : decode cX8_many 8 = .ok (.invokestatic 72, 3) := by decide +kernel
theorem dX8_many_11 : decode cX8_many 11 = .ok (.if_icmp .ge 26, 3) := by decide +kernel
theorem dX8_many_14 : decode cX8_many 14 = .ok (.iload_n 2, 1) := by decide +kernel
theorem dX8_many_15 : decode cX8_many 15 = .ok (.aload_n 0, 1) := by decide +kernel
theorem dX8_many_16 : decode cX8_many 16 = .ok (.iload_n 3, 1) := by decide +kernel
theorem dX8_many_17 : decode cX8_many 17 = .ok (.iload_n 1, 1) := by decide +kernel
theorem dX8_many_18 : decode cX8_many 18 = .ok (.invokestatic 75, 3) := by decide +kernel
theorem dX8_many_21 : decode cX8_many 21 = .ok (.ifCond .eq 7, 3) := by decide +kernel
theorem dX8_many_24 : decode cX8_many 24 = .ok (.iconst 1, 1) := by decide +kernel
theorem dX8_many_25 : decode cX8_many 25 = .ok (.goto 4, 3) := by decide +kernel
theorem dX8_many_28 : decode cX8_many 28 = .ok (.iconst 0, 1) := by decide +kernel
theorem dX8_many_29 : decode cX8_many 29 = .ok (.iadd, 1) := by decide +kernel
theorem dX8_many_30 : decode cX8_many 30 = .ok (.istore_n 2, 1) := by decide +kernel
theorem dX8_many_31 : decode cX8_many 31 = .ok (.iinc 3 1, 3) := by decide +kernel
theorem dX8_many_34 : decode cX8_many 34 = .ok (.goto (-30), 3) := by decide +kernel
theorem dX8_many_37 : decode cX8_many 37 = .ok (.iload_n 2, 1) := by decide +kernel
theorem dX8_many_38 : decode cX8_many 38 = .ok (.ireturn, 1) := by decide +kernel
set_option maxRecDepth 20000 in
theorem ggX8_leftOf_X8_many : GoodIn wsX8_leftOf wsX8_many := goodIn_r _ [4, 5, 6, 3, 7, 8, 9, 10, 11, 12, 13, 14, 15, 16, 17, 18, 19, 20, 21, 22] (by decide +kernel) (by decide +kernel)
set_option maxRecDepth 20000 in
theorem gX8_leftOf_X8_many : GoodIn wsX8_leftOf (va_wsS RX8 79 yX8_many wsX8_many) := goodIn_app (goodIn_of _ (by decide +kernel)) ggX8_leftOf_X8_many
theorem dX8_leftOf_0 : decode cX8_leftOf 0 = .ok (.aload_n 0, 1) := by decide +kernel
theorem dX8_leftOf_1 : decode cX8_leftOf 1 = .ok (.aload_n 0, 1) := by decide +kernel
theorem dX8_leftOf_2 : decode cX8_leftOf 2 = .ok (.iconst 4, 1) := by decide +kernel
theorem dX8_leftOf_3 : decode cX8_leftOf 3 = .ok (.iaload, 1) := by decide +kernel
theorem dX8_leftOf_4 : decode cX8_leftOf 4 = .ok (.invokestatic 79, 3) := by decide +kernel
theorem dX8_leftOf_7 : decode cX8_leftOf 7 = .ok (.ireturn, 1) := by decide +kernel
set_option maxRecDepth 20000 in
theorem ggX8_gather_X8_allOf : GoodIn wsX8_gather wsX8_allOf := goodIn_r _ [6] (by decide +kernel) (by decide +kernel)
set_option maxRecDepth 20000 in
theorem gX8_gather_X8_allOf : GoodIn wsX8_gather (va_wsS RX8 72 yX8_allOf wsX8_allOf) := goodIn_app (goodIn_of _ (by decide +kernel)) ggX8_gather_X8_allOf
set_option maxRecDepth 20000 in
theorem ggX8_gather_X8_fits : GoodIn wsX8_gather wsX8_fits := goodIn_r _ [9, 10, 11, 5, 12, 13, 14, 15, 16, 17, 18, 19, 20, 21] (by decide +kernel) (by decide +kernel)
set_option maxRecDepth 20000 in
theorem gX8_gather_X8_fits : GoodIn wsX8_gather (va_wsS RX8 75 yX8_fits wsX8_fits) := goodIn_app (goodIn_of _ (by decide +kernel)) ggX8_gather_X8_fits
theorem dX8_gather_0 : decode cX8_gather 0 = .ok (.aload_n 0, 1) := by decide +kernel
theorem dX8_gather_1 : decode cX8_gather 1 = .ok (.iconst 0, 1) := by decide +kernel
theorem dX8_gather_2 : decode cX8_gather 2 = .ok (.putfield 83, 3) := by decide +kernel
theorem dX8_gather_5 : decode cX8_gather 5 = .ok (.iconst 0, 1) := by decide +kernel
theorem dX8_gather_6 : decode cX8_gather 6 = .ok (.istore_n 2, 1) := by decide +kernel
theorem dX8_gather_7 : decode cX8_gather 7 = .ok (.iload_n 2, 1) := by decide +kernel
theorem dX8_gather_8 : decode cX8_gather 8 = .ok (.aload_n 1, 1) := by decide +kernel
theorem dX8_gather_9 : decode cX8_gather 9 = .ok (.iconst 0, 1) := by decide +kernel
theorem dX8_gather_10 : decode cX8_gather 10 = .ok (.iaload, 1) := by decide +kernel
theorem dX8_gather_11 : decode cX8_gather 11 = .ok (.invokestatic 72, 3) := by decide +kernel
theorem dX8_gather_14 : decode cX8_gather 14 = .ok (.if_icmp .ge 40, 3) := by decide +kernel
theorem dX8_gather_17 : decode cX8_gather 17 = .ok (.aload_n 1, 1) := by decide +kernel
theorem dX8_gather_18 : decode cX8_gather 18 = .ok (.iload_n 2, 1) := by decide +kernel
theorem dX8_gather_19 : decode cX8_gather 19 = .ok (.aload_n 1, 1) := by decide +kernel
theorem dX8_gather_20 : decode cX8_gather 20 = .ok (.iconst 4, 1) := by decide +kernel
theorem dX8_gather_21 : decode cX8_gather 21 = .ok (.iaload, 1) := by decide +kernel
theorem dX8_gather_22 : decode cX8_gather 22 = .ok (.invokestatic 75, 3) := by decide +kernel
theorem dX8_gather_25 : decode cX8_gather 25 = .ok (.ifCond .eq 23, 3) := by decide +kernel
theorem dX8_gather_28 : decode cX8_gather 28 = .ok (.aload_n 0, 1) := by decide +kernel
theorem dX8_gather_29 : decode cX8_gather 29 = .ok (.getfield 29, 3) := by decide +kernel
theorem dX8_gather_32 : decode cX8_gather 32 = .ok (.aload_n 0, 1) := by decide +kernel
theorem dX8_gather_33 : decode cX8_gather 33 = .ok (.getfield 83, 3) := by decide +kernel
theorem dX8_gather_36 : decode cX8_gather 36 = .ok (.iload_n 2, 1) := by decide +kernel
theorem dX8_gather_37 : decode cX8_gather 37 = .ok (.iastore, 1) := by decide +kernel
theorem dX8_gather_38 : decode cX8_gather 38 = .ok (.aload_n 0, 1) := by decide +kernel
theorem dX8_gather_39 : decode cX8_gather 39 = .ok (.dup, 1) := by decide +kernel
theorem dX8_gather_40 : decode cX8_gather 40 = .ok (.getfield 83, 3) := by decide +kernel
theorem dX8_gather_43 : decode cX8_gather 43 = .ok (.iconst 1, 1) := by decide +kernel
theorem dX8_gather_44 : decode cX8_gather 44 = .ok (.iadd, 1) := by decide +kernel
theorem dX8_gather_45 : decode cX8_gather 45 = .ok (.putfield 83, 3) := by decide +kernel
theorem dX8_gather_48 : decode cX8_gather 48 = .ok (.iinc 2 1, 3) := by decide +kernel
theorem dX8_gather_51 : decode cX8_gather 51 = .ok (.goto (-44), 3) := by decide +kernel
theorem dX8_gather_54 : decode cX8_gather 54 = .ok (.return_, 1) := by decide +kernel
set_option maxRecDepth 20000 in
theorem ggX8_worst_X8_outcome : GoodIn wsX8_worst wsX8_outcome := goodIn_r _ [7, 8, 9, 6, 10, 11, 12, 13] (by decide +kernel) (by decide +kernel)
set_option maxRecDepth 20000 in
theorem gX8_worst_X8_outcome : GoodIn wsX8_worst (va_wsS RX8 68 yX8_outcome wsX8_outcome) := goodIn_app (goodIn_of _ (by decide +kernel)) ggX8_worst_X8_outcome
theorem dX8_worst_0 : decode cX8_worst 0 = .ok (.aload_n 0, 1) := by decide +kernel
theorem dX8_worst_1 : decode cX8_worst 1 = .ok (.getfield 32, 3) := by decide +kernel
theorem dX8_worst_4 : decode cX8_worst 4 = .ok (.iconst 0, 1) := by decide +kernel
theorem dX8_worst_5 : decode cX8_worst 5 = .ok (.iconst 0, 1) := by decide +kernel
theorem dX8_worst_6 : decode cX8_worst 6 = .ok (.iastore, 1) := by decide +kernel
theorem dX8_worst_7 : decode cX8_worst 7 = .ok (.aload_n 0, 1) := by decide +kernel
theorem dX8_worst_8 : decode cX8_worst 8 = .ok (.getfield 32, 3) := by decide +kernel
theorem dX8_worst_11 : decode cX8_worst 11 = .ok (.iconst 1, 1) := by decide +kernel
theorem dX8_worst_12 : decode cX8_worst 12 = .ok (.iconst 0, 1) := by decide +kernel
theorem dX8_worst_13 : decode cX8_worst 13 = .ok (.iastore, 1) := by decide +kernel
theorem dX8_worst_14 : decode cX8_worst 14 = .ok (.aload_n 0, 1) := by decide +kernel
theorem dX8_worst_15 : decode cX8_worst 15 = .ok (.getfield 32, 3) := by decide +kernel
theorem dX8_worst_18 : decode cX8_worst 18 = .ok (.iconst 2, 1) := by decide +kernel
theorem dX8_worst_19 : decode cX8_worst 19 = .ok (.iconst 0, 1) := by decide +kernel
theorem dX8_worst_20 : decode cX8_worst 20 = .ok (.iastore, 1) := by decide +kernel
theorem dX8_worst_21 : decode cX8_worst 21 = .ok (.iconst 0, 1) := by decide +kernel
theorem dX8_worst_22 : decode cX8_worst 22 = .ok (.istore 5, 2) := by decide +kernel
theorem dX8_worst_24 : decode cX8_worst 24 = .ok (.iload 5, 2) := by decide +kernel
theorem dX8_worst_26 : decode cX8_worst 26 = .ok (.aload_n 0, 1) := by decide +kernel
theorem dX8_worst_27 : decode cX8_worst 27 = .ok (.getfield 83, 3) := by decide +kernel
theorem dX8_worst_30 : decode cX8_worst 30 = .ok (.if_icmp .ge 33, 3) := by decide +kernel
theorem dX8_worst_33 : decode cX8_worst 33 = .ok (.aload_n 0, 1) := by decide +kernel
theorem dX8_worst_34 : decode cX8_worst 34 = .ok (.getfield 32, 3) := by decide +kernel
theorem dX8_worst_37 : decode cX8_worst 37 = .ok (.iload_n 1, 1) := by decide +kernel
theorem dX8_worst_38 : decode cX8_worst 38 = .ok (.iload_n 2, 1) := by decide +kernel
theorem dX8_worst_39 : decode cX8_worst 39 = .ok (.iload_n 3, 1) := by decide +kernel
theorem dX8_worst_40 : decode cX8_worst 40 = .ok (.iload 4, 2) := by decide +kernel
theorem dX8_worst_42 : decode cX8_worst 42 = .ok (.aload_n 0, 1) := by decide +kernel
theorem dX8_worst_43 : decode cX8_worst 43 = .ok (.getfield 29, 3) := by decide +kernel
theorem dX8_worst_46 : decode cX8_worst 46 = .ok (.iload 5, 2) := by decide +kernel
theorem dX8_worst_48 : decode cX8_worst 48 = .ok (.iaload, 1) := by decide +kernel
theorem dX8_worst_49 : decode cX8_worst 49 = .ok (.invokestatic 68, 3) := by decide +kernel
theorem dX8_worst_52 : decode cX8_worst 52 = .ok (.dup2, 1) := by decide +kernel
theorem dX8_worst_53 : decode cX8_worst 53 = .ok (.iaload, 1) := by decide +kernel
theorem dX8_worst_54 : decode cX8_worst 54 = .ok (.iconst 1, 1) := by decide +kernel
theorem dX8_worst_55 : decode cX8_worst 55 = .ok (.iadd, 1) := by decide +kernel
theorem dX8_worst_56 : decode cX8_worst 56 = .ok (.iastore, 1) := by decide +kernel
theorem dX8_worst_57 : decode cX8_worst 57 = .ok (.iinc 5 1, 3) := by decide +kernel
theorem dX8_worst_60 : decode cX8_worst 60 = .ok (.goto (-36), 3) := by decide +kernel
theorem dX8_worst_63 : decode cX8_worst 63 = .ok (.aload_n 0, 1) := by decide +kernel
theorem dX8_worst_64 : decode cX8_worst 64 = .ok (.getfield 32, 3) := by decide +kernel
theorem dX8_worst_67 : decode cX8_worst 67 = .ok (.iconst 0, 1) := by decide +kernel
theorem dX8_worst_68 : decode cX8_worst 68 = .ok (.iaload, 1) := by decide +kernel
theorem dX8_worst_69 : decode cX8_worst 69 = .ok (.aload_n 0, 1) := by decide +kernel
theorem dX8_worst_70 : decode cX8_worst 70 = .ok (.getfield 32, 3) := by decide +kernel
theorem dX8_worst_73 : decode cX8_worst 73 = .ok (.iconst 1, 1) := by decide +kernel
theorem dX8_worst_74 : decode cX8_worst 74 = .ok (.iaload, 1) := by decide +kernel
theorem dX8_worst_75 : decode cX8_worst 75 = .ok (.if_icmp .le 12, 3) := by decide +kernel
theorem dX8_worst_78 : decode cX8_worst 78 = .ok (.aload_n 0, 1) := by decide +kernel
theorem dX8_worst_79 : decode cX8_worst 79 = .ok (.getfield 32, 3) := by decide +kernel
theorem dX8_worst_82 : decode cX8_worst 82 = .ok (.iconst 0, 1) := by decide +kernel
theorem dX8_worst_83 : decode cX8_worst 83 = .ok (.iaload, 1) := by decide +kernel
theorem dX8_worst_84 : decode cX8_worst 84 = .ok (.goto 9, 3) := by decide +kernel
theorem dX8_worst_87 : decode cX8_worst 87 = .ok (.aload_n 0, 1) := by decide +kernel
theorem dX8_worst_88 : decode cX8_worst 88 = .ok (.getfield 32, 3) := by decide +kernel
theorem dX8_worst_91 : decode cX8_worst 91 = .ok (.iconst 1, 1) := by decide +kernel
theorem dX8_worst_92 : decode cX8_worst 92 = .ok (.iaload, 1) := by decide +kernel
theorem dX8_worst_93 : decode cX8_worst 93 = .ok (.istore 5, 2) := by decide +kernel
theorem dX8_worst_95 : decode cX8_worst 95 = .ok (.iload 5, 2) := by decide +kernel
theorem dX8_worst_97 : decode cX8_worst 97 = .ok (.aload_n 0, 1) := by decide +kernel
theorem dX8_worst_98 : decode cX8_worst 98 = .ok (.getfield 32, 3) := by decide +kernel
theorem dX8_worst_101 : decode cX8_worst 101 = .ok (.iconst 2, 1) := by decide +kernel
theorem dX8_worst_102 : decode cX8_worst 102 = .ok (.iaload, 1) := by decide +kernel
theorem dX8_worst_103 : decode cX8_worst 103 = .ok (.if_icmp .le 8, 3) := by decide +kernel
theorem dX8_worst_106 : decode cX8_worst 106 = .ok (.iload 5, 2) := by decide +kernel
theorem dX8_worst_108 : decode cX8_worst 108 = .ok (.goto 9, 3) := by decide +kernel
theorem dX8_worst_111 : decode cX8_worst 111 = .ok (.aload_n 0, 1) := by decide +kernel
theorem dX8_worst_112 : decode cX8_worst 112 = .ok (.getfield 32, 3) := by decide +kernel
theorem dX8_worst_115 : decode cX8_worst 115 = .ok (.iconst 2, 1) := by decide +kernel
theorem dX8_worst_116 : decode cX8_worst 116 = .ok (.iaload, 1) := by decide +kernel
theorem dX8_worst_117 : decode cX8_worst 117 = .ok (.ireturn, 1) := by decide +kernel
set_option maxRecDepth 20000 in
theorem ggX8_coinOf_X8_allOf : GoodIn wsX8_coinOf wsX8_allOf := goodIn_r _ [4] (by decide +kernel) (by decide +kernel)
set_option maxRecDepth 20000 in
theorem gX8_coinOf_X8_allOf : GoodIn wsX8_coinOf (va_wsS RX8 72 yX8_allOf wsX8_allOf) := goodIn_app (goodIn_of _ (by decide +kernel)) ggX8_coinOf_X8_allOf
set_option maxRecDepth 20000 in
theorem ggX8_coinOf_X8_fits : GoodIn wsX8_coinOf wsX8_fits := goodIn_r _ [7, 8, 9, 3, 10, 11, 12, 13, 14, 15, 16, 17, 18, 19] (by decide +kernel) (by decide +kernel)
set_option maxRecDepth 20000 in
theorem gX8_coinOf_X8_fits : GoodIn wsX8_coinOf (va_wsS RX8 75 yX8_fits wsX8_fits) := goodIn_app (goodIn_of _ (by decide +kernel)) ggX8_coinOf_X8_fits
theorem dX8_coinOf_0 : decode cX8_coinOf 0 = .ok (.iconst 0, 1) := by decide +kernel
theorem dX8_coinOf_1 : decode cX8_coinOf 1 = .ok (.istore_n 2, 1) := by decide +kernel
theorem dX8_coinOf_2 : decode cX8_coinOf 2 = .ok (.iconst 0, 1) := by decide +kernel
theorem dX8_coinOf_3 : decode cX8_coinOf 3 = .ok (.istore_n 3, 1) := by decide +kernel
theorem dX8_coinOf_4 : decode cX8_coinOf 4 = .ok (.iload_n 3, 1) := by decide +kernel
theorem dX8_coinOf_5 : decode cX8_coinOf 5 = .ok (.aload_n 0, 1) := by decide +kernel
theorem dX8_coinOf_6 : decode cX8_coinOf 6 = .ok (.iconst 0, 1) := by decide +kernel
theorem dX8_coinOf_7 : decode cX8_coinOf 7 = .ok (.iaload, 1) := by decide +kernel
theorem dX8_coinOf_8 : decode cX8_coinOf 8 = .ok (.invokestatic 72, 3) := by decide +kernel
theorem dX8_coinOf_11 : decode cX8_coinOf 11 = .ok (.if_icmp .ge 48, 3) := by decide +kernel
theorem dX8_coinOf_14 : decode cX8_coinOf 14 = .ok (.aload_n 0, 1) := by decide +kernel
theorem dX8_coinOf_15 : decode cX8_coinOf 15 = .ok (.iload_n 3, 1) := by decide +kernel
theorem dX8_coinOf_16 : decode cX8_coinOf 16 = .ok (.aload_n 0, 1) := by decide +kernel
theorem dX8_coinOf_17 : decode cX8_coinOf 17 = .ok (.iconst 4, 1) := by decide +kernel
theorem dX8_coinOf_18 : decode cX8_coinOf 18 = .ok (.iaload, 1) := by decide +kernel
theorem dX8_coinOf_19 : decode cX8_coinOf 19 = .ok (.invokestatic 75, 3) := by decide +kernel
theorem dX8_coinOf_22 : decode cX8_coinOf 22 = .ok (.ifCond .eq 31, 3) := by decide +kernel
theorem dX8_coinOf_25 : decode cX8_coinOf 25 = .ok (.iload_n 2, 1) := by decide +kernel
theorem dX8_coinOf_26 : decode cX8_coinOf 26 = .ok (.iload_n 3, 1) := by decide +kernel
theorem dX8_coinOf_27 : decode cX8_coinOf 27 = .ok (.bipush 6, 2) := by decide +kernel
theorem dX8_coinOf_29 : decode cX8_coinOf 29 = .ok (.idiv, 1) := by decide +kernel
theorem dX8_coinOf_30 : decode cX8_coinOf 30 = .ok (.iload_n 1, 1) := by decide +kernel
theorem dX8_coinOf_31 : decode cX8_coinOf 31 = .ok (.if_icmp .ne 19, 3) := by decide +kernel
theorem dX8_coinOf_34 : decode cX8_coinOf 34 = .ok (.iload_n 3, 1) := by decide +kernel
theorem dX8_coinOf_35 : decode cX8_coinOf 35 = .ok (.iconst 3, 1) := by decide +kernel
theorem dX8_coinOf_36 : decode cX8_coinOf 36 = .ok (.idiv, 1) := by decide +kernel
theorem dX8_coinOf_37 : decode cX8_coinOf 37 = .ok (.iconst 2, 1) := by decide +kernel
theorem dX8_coinOf_38 : decode cX8_coinOf 38 = .ok (.irem, 1) := by decide +kernel
theorem dX8_coinOf_39 : decode cX8_coinOf 39 = .ok (.ifCond .ne 7, 3) := by decide +kernel
theorem dX8_coinOf_42 : decode cX8_coinOf 42 = .ok (.iconst 1, 1) := by decide +kernel
theorem dX8_coinOf_43 : decode cX8_coinOf 43 = .ok (.goto 8, 3) := by decide +kernel
theorem dX8_coinOf_46 : decode cX8_coinOf 46 = .ok (.iconst 2, 1) := by decide +kernel
theorem dX8_coinOf_47 : decode cX8_coinOf 47 = .ok (.goto 4, 3) := by decide +kernel
theorem dX8_coinOf_50 : decode cX8_coinOf 50 = .ok (.iconst 4, 1) := by decide +kernel
theorem dX8_coinOf_51 : decode cX8_coinOf 51 = .ok (.ior, 1) := by decide +kernel
theorem dX8_coinOf_52 : decode cX8_coinOf 52 = .ok (.istore_n 2, 1) := by decide +kernel
theorem dX8_coinOf_53 : decode cX8_coinOf 53 = .ok (.iinc 3 1, 3) := by decide +kernel
theorem dX8_coinOf_56 : decode cX8_coinOf 56 = .ok (.goto (-52), 3) := by decide +kernel
theorem dX8_coinOf_59 : decode cX8_coinOf 59 = .ok (.iload_n 2, 1) := by decide +kernel
theorem dX8_coinOf_60 : decode cX8_coinOf 60 = .ok (.ireturn, 1) := by decide +kernel
set_option maxRecDepth 20000 in
theorem ggX8_pansOf_X8_allOf : GoodIn wsX8_pansOf wsX8_allOf := goodIn_r _ [4] (by decide +kernel) (by decide +kernel)
