set_option maxRecDepth 20000 in
theorem gX6_readHead_X6_readOneOf : GoodIn wsX6_readHead (wsV RX6 28 RX6 yX6_readOneOf wsX6_readOneOf) := goodIn_app (goodIn_of _ (by decide +kernel)) ggX6_readHead_X6_readOneOf
set_option maxRecDepth 20000 in
theorem ggX6_readHead_X6_readNumber : GoodIn wsX6_readHead wsX6_readNumber := goodIn_r _ [112, 113, 49, 50, 51, 114, 53, 54, 115, 116, 117, 8, 118, 2, 1, 10, 11, 12, 13, 14, 15, 16, 17, 18, 19, 119, 120, 121, 122, 123, 124, 125, 126, 127] (by decide +kernel) (by decide +kernel)
set_option maxRecDepth 20000 in
theorem gX6_readHead_X6_readNumber : GoodIn wsX6_readHead (wsV RX6 32 RX6 yX6_readNumber wsX6_readNumber) := goodIn_app (goodIn_of _ (by decide +kernel)) ggX6_readHead_X6_readNumber
set_option maxRecDepth 20000 in
theorem ggX6_readHead_X6_readDigit : GoodIn wsX6_readHead wsX6_readDigit := goodIn_r _ [118, 2, 1, 10, 11, 12, 8, 13, 14, 15, 16, 17, 18, 19, 119, 120, 121, 122, 123, 124, 125, 126, 127] (by decide +kernel) (by decide +kernel)
set_option maxRecDepth 20000 in
theorem gX6_readHead_X6_readDigit : GoodIn wsX6_readHead (wsV RX6 41 RX6 yX6_readDigit wsX6_readDigit) := goodIn_app (goodIn_of _ (by decide +kernel)) ggX6_readHead_X6_readDigit
theorem dX6_readHead_0 : decode cX6_readHead 0 = .ok (.aload_n 0, 1) := by decide +kernel
theorem dX6_readHead_1 : decode cX6_readHead 1 = .ok (.iconst 0, 1) := by decide +kernel
theorem dX6_readHead_2 : decode cX6_readHead 2 = .ok (.putfield 23, 3) := by decide +kernel
theorem dX6_readHead_5 : decode cX6_readHead 5 = .ok (.aload_n 0, 1) := by decide +kernel
theorem dX6_readHead_6 : decode cX6_readHead 6 = .ok (.iconst 0, 1) := by decide +kernel
theorem dX6_readHead_7 : decode cX6_readHead 7 = .ok (.putfield 19, 3) := by decide +kernel
theorem dX6_readHead_10 : decode cX6_readHead 10 = .ok (.aload_n 0, 1) := by decide +kernel
theorem dX6_readHead_11 : decode cX6_readHead 11 = .ok (.ldc 26, 2) := by decide +kernel
theorem dX6_readHead_13 : decode cX6_readHead 13 = .ok (.invokevirtual 28, 3) := by decide +kernel
theorem dX6_readHead_16 : decode cX6_readHead 16 = .ok (.pop, 1) := by decide +kernel
theorem dX6_readHead_17 : decode cX6_readHead 17 = .ok (.aload_n 0, 1) := by decide +kernel
theorem dX6_readHead_18 : decode cX6_readHead 18 = .ok (.aload_n 0, 1) := by decide +kernel
theorem dX6_readHead_19 : decode cX6_readHead 19 = .ok (.iconst 3, 1) := by decide +kernel
theorem dX6_readHead_20 : decode cX6_readHead 20 = .ok (.bipush 12, 2) := by decide +kernel
theorem dX6_readHead_22 : decode cX6_readHead 22 = .ok (.invokevirtual 32, 3) := by decide +kernel
theorem dX6_readHead_25 : decode cX6_readHead 25 = .ok (.putfield 36, 3) := by decide +kernel
theorem dX6_readHead_28 : decode cX6_readHead 28 = .ok (.aload_n 0, 1) := by decide +kernel
theorem dX6_readHead_29 : decode cX6_readHead 29 = .ok (.iconst 0, 1) := by decide +kernel
theorem dX6_readHead_30 : decode cX6_readHead 30 = .ok (.bipush 11, 2) := by decide +kernel
theorem dX6_readHead_32 : decode cX6_readHead 32 = .ok (.invokevirtual 32, 3) := by decide +kernel
theorem dX6_readHead_35 : decode cX6_readHead 35 = .ok (.istore_n 1, 1) := by decide +kernel
theorem dX6_readHead_36 : decode cX6_readHead 36 = .ok (.aload_n 0, 1) := by decide +kernel
theorem dX6_readHead_37 : decode cX6_readHead 37 = .ok (.ldc 39, 2) := by decide +kernel
theorem dX6_readHead_39 : decode cX6_readHead 39 = .ok (.invokevirtual 28, 3) := by decide +kernel
theorem dX6_readHead_42 : decode cX6_readHead 42 = .ok (.istore_n 2, 1) := by decide +kernel
theorem dX6_readHead_43 : decode cX6_readHead 43 = .ok (.aload_n 0, 1) := by decide +kernel
theorem dX6_readHead_44 : decode cX6_readHead 44 = .ok (.iconst 0, 1) := by decide +kernel
theorem dX6_readHead_45 : decode cX6_readHead 45 = .ok (.iconst 2, 1) := by decide +kernel
theorem dX6_readHead_46 : decode cX6_readHead 46 = .ok (.invokevirtual 41, 3) := by decide +kernel
theorem dX6_readHead_49 : decode cX6_readHead 49 = .ok (.istore_n 3, 1) := by decide +kernel
theorem dX6_readHead_50 : decode cX6_readHead 50 = .ok (.iload_n 2, 1) := by decide +kernel
theorem dX6_readHead_51 : decode cX6_readHead 51 = .ok (.iconst 2, 1) := by decide +kernel
theorem dX6_readHead_52 : decode cX6_readHead 52 = .ok (.if_icmp .eq 11, 3) := by decide +kernel
theorem dX6_readHead_55 : decode cX6_readHead 55 = .ok (.iload_n 1, 1) := by decide +kernel
theorem dX6_readHead_56 : decode cX6_readHead 56 = .ok (.aload_n 0, 1) := by decide +kernel
theorem dX6_readHead_57 : decode cX6_readHead 57 = .ok (.getfield 36, 3) := by decide +kernel
theorem dX6_readHead_60 : decode cX6_readHead 60 = .ok (.if_icmp .lt 7, 3) := by decide +kernel
theorem dX6_readHead_63 : decode cX6_readHead 63 = .ok (.iconst 1, 1) := by decide +kernel
theorem dX6_readHead_64 : decode cX6_readHead 64 = .ok (.goto 4, 3) := by decide +kernel
theorem dX6_readHead_67 : decode cX6_readHead 67 = .ok (.iconst 0, 1) := by decide +kernel
theorem dX6_readHead_68 : decode cX6_readHead 68 = .ok (.istore 4, 2) := by decide +kernel
theorem dX6_readHead_70 : decode cX6_readHead 70 = .ok (.aload_n 0, 1) := by decide +kernel
theorem dX6_readHead_71 : decode cX6_readHead 71 = .ok (.iconst 3, 1) := by decide +kernel
theorem dX6_readHead_72 : decode cX6_readHead 72 = .ok (.iload 4, 2) := by decide +kernel
theorem dX6_readHead_74 : decode cX6_readHead 74 = .ok (.ifCond .eq 12, 3) := by decide +kernel
theorem dX6_readHead_77 : decode cX6_readHead 77 = .ok (.iconst 2, 1) := by decide +kernel
theorem dX6_readHead_78 : decode cX6_readHead 78 = .ok (.aload_n 0, 1) := by decide +kernel
theorem dX6_readHead_79 : decode cX6_readHead 79 = .ok (.getfield 36, 3) := by decide +kernel
theorem dX6_readHead_82 : decode cX6_readHead 82 = .ok (.imul, 1) := by decide +kernel
theorem dX6_readHead_83 : decode cX6_readHead 83 = .ok (.goto 8, 3) := by decide +kernel
theorem dX6_readHead_86 : decode cX6_readHead 86 = .ok (.iconst 2, 1) := by decide +kernel
theorem dX6_readHead_87 : decode cX6_readHead 87 = .ok (.iload_n 1, 1) := by decide +kernel
theorem dX6_readHead_88 : decode cX6_readHead 88 = .ok (.imul, 1) := by decide +kernel
theorem dX6_readHead_89 : decode cX6_readHead 89 = .ok (.iload_n 2, 1) := by decide +kernel
theorem dX6_readHead_90 : decode cX6_readHead 90 = .ok (.iadd, 1) := by decide +kernel
theorem dX6_readHead_91 : decode cX6_readHead 91 = .ok (.imul, 1) := by decide +kernel
theorem dX6_readHead_92 : decode cX6_readHead 92 = .ok (.iload_n 3, 1) := by decide +kernel
theorem dX6_readHead_93 : decode cX6_readHead 93 = .ok (.iadd, 1) := by decide +kernel
theorem dX6_readHead_94 : decode cX6_readHead 94 = .ok (.putfield 44, 3) := by decide +kernel
theorem dX6_readHead_97 : decode cX6_readHead 97 = .ok (.return_, 1) := by decide +kernel
set_option maxRecDepth 20000 in
theorem ggX6_readCommand_X6_readOneOf : GoodIn wsX6_readCommand wsX6_readOneOf := goodIn_r _ [8, 9, 10, 11, 12, 13, 7, 14, 15, 16, 17, 18, 19, 20, 21, 22, 23, 24, 25, 26, 27, 28, 29, 30, 31, 32, 33, 34, 35, 36, 37, 38, 39, 40, 41, 42, 43, 44, 45, 46, 47, 48, 49, 50, 51, 52, 53, 54, 55, 56, 57, 58, 59, 60, 61, 62, 63, 64, 65, 66, 67, 68, 69, 70, 71, 72, 73, 74, 75, 76, 77, 78, 79, 80, 81, 82, 83, 84, 85, 86, 87, 88, 89, 90, 91, 92, 93, 94, 95, 96, 97, 98, 99, 100, 101, 102, 103, 104, 105, 106, 107, 108, 109, 124, 125, 126, 127, 128, 129, 130, 131, 132] (by decide +kernel) (by decide +kernel)
set_option maxRecDepth 20000 in
theorem gX6_readCommand_X6_readOneOf : GoodIn wsX6_readCommand (wsV RX6 28 RX6 yX6_readOneOf wsX6_readOneOf) := goodIn_app (goodIn_of _ (by decide +kernel)) ggX6_readCommand_X6_readOneOf
set_option maxRecDepth 20000 in
theorem ggX6_readCommand_X6_readCoins : GoodIn wsX6_readCommand wsX6_readCoins := goodIn_r _ [113, 10, 11, 12, 13, 7, 14, 15, 16, 17, 18, 19, 9, 20, 124, 125, 126, 127, 128, 129, 130, 131, 132] (by decide +kernel) (by decide +kernel)
set_option maxRecDepth 20000 in
theorem gX6_readCommand_X6_readCoins : GoodIn wsX6_readCommand (wsV RX6 52 RX6 yX6_readCoins wsX6_readCoins) := goodIn_app (goodIn_of _ (by decide +kernel)) ggX6_readCommand_X6_readCoins
set_option maxRecDepth 20000 in
theorem ggX6_readCommand_X6_readNumber : GoodIn wsX6_readCommand wsX6_readNumber := goodIn_r _ [117, 118, 50, 51, 52, 119, 54, 55, 120, 121, 122, 7, 123, 9, 10, 11, 12, 13, 14, 15, 16, 17, 18, 19, 20, 124, 125, 126, 127, 128, 129, 130, 131, 132] (by decide +kernel) (by decide +kernel)
set_option maxRecDepth 20000 in
theorem gX6_readCommand_X6_readNumber : GoodIn wsX6_readCommand (wsV RX6 32 RX6 yX6_readNumber wsX6_readNumber) := goodIn_app (goodIn_of _ (by decide +kernel)) ggX6_readCommand_X6_readNumber
theorem dX6_readCommand_0 : decode cX6_readCommand 0 = .ok (.aload_n 0, 1) := by decide +kernel
theorem dX6_readCommand_1 : decode cX6_readCommand 1 = .ok (.aload_n 0, 1) := by decide +kernel
theorem dX6_readCommand_2 : decode cX6_readCommand 2 = .ok (.ldc 47, 2) := by decide +kernel
theorem dX6_readCommand_4 : decode cX6_readCommand 4 = .ok (.invokevirtual 28, 3) := by decide +kernel
theorem dX6_readCommand_7 : decode cX6_readCommand 7 = .ok (.putfield 49, 3) := by decide +kernel
theorem dX6_readCommand_10 : decode cX6_readCommand 10 = .ok (.aload_n 0, 1) := by decide +kernel
theorem dX6_readCommand_11 : decode cX6_readCommand 11 = .ok (.getfield 49, 3) := by decide +kernel
theorem dX6_readCommand_14 : decode cX6_readCommand 14 = .ok (.ifCond .ne 36, 3) := by decide +kernel
theorem dX6_readCommand_17 : decode cX6_readCommand 17 = .ok (.aload_n 0, 1) := by decide +kernel
theorem dX6_readCommand_18 : decode cX6_readCommand 18 = .ok (.aload_n 0, 1) := by decide +kernel
theorem dX6_readCommand_19 : decode cX6_readCommand 19 = .ok (.invokevirtual 52, 3) := by decide +kernel
theorem dX6_readCommand_22 : decode cX6_readCommand 22 = .ok (.putfield 56, 3) := by decide +kernel
theorem dX6_readCommand_25 : decode cX6_readCommand 25 = .ok (.aload_n 0, 1) := by decide +kernel
theorem dX6_readCommand_26 : decode cX6_readCommand 26 = .ok (.ldc 59, 2) := by decide +kernel
theorem dX6_readCommand_28 : decode cX6_readCommand 28 = .ok (.invokevirtual 28, 3) := by decide +kernel
theorem dX6_readCommand_31 : decode cX6_readCommand 31 = .ok (.pop, 1) := by decide +kernel
theorem dX6_readCommand_32 : decode cX6_readCommand 32 = .ok (.aload_n 0, 1) := by decide +kernel
theorem dX6_readCommand_33 : decode cX6_readCommand 33 = .ok (.aload_n 0, 1) := by decide +kernel
theorem dX6_readCommand_34 : decode cX6_readCommand 34 = .ok (.invokevirtual 52, 3) := by decide +kernel
theorem dX6_readCommand_37 : decode cX6_readCommand 37 = .ok (.putfield 61, 3) := by decide +kernel
theorem dX6_readCommand_40 : decode cX6_readCommand 40 = .ok (.aload_n 0, 1) := by decide +kernel
theorem dX6_readCommand_41 : decode cX6_readCommand 41 = .ok (.ldc 64, 2) := by decide +kernel
theorem dX6_readCommand_43 : decode cX6_readCommand 43 = .ok (.invokevirtual 28, 3) := by decide +kernel
theorem dX6_readCommand_46 : decode cX6_readCommand 46 = .ok (.pop, 1) := by decide +kernel
theorem dX6_readCommand_47 : decode cX6_readCommand 47 = .ok (.goto 25, 3) := by decide +kernel
theorem dX6_readCommand_50 : decode cX6_readCommand 50 = .ok (.aload_n 0, 1) := by decide +kernel
theorem dX6_readCommand_51 : decode cX6_readCommand 51 = .ok (.aload_n 0, 1) := by decide +kernel
theorem dX6_readCommand_52 : decode cX6_readCommand 52 = .ok (.iconst 1, 1) := by decide +kernel
theorem dX6_readCommand_53 : decode cX6_readCommand 53 = .ok (.bipush 20, 2) := by decide +kernel
theorem dX6_readCommand_55 : decode cX6_readCommand 55 = .ok (.invokevirtual 32, 3) := by decide +kernel
theorem dX6_readCommand_58 : decode cX6_readCommand 58 = .ok (.putfield 56, 3) := by decide +kernel
theorem dX6_readCommand_61 : decode cX6_readCommand 61 = .ok (.aload_n 0, 1) := by decide +kernel
theorem dX6_readCommand_62 : decode cX6_readCommand 62 = .ok (.aload_n 0, 1) := by decide +kernel
theorem dX6_readCommand_63 : decode cX6_readCommand 63 = .ok (.iconst 1, 1) := by decide +kernel
theorem dX6_readCommand_64 : decode cX6_readCommand 64 = .ok (.bipush 20, 2) := by decide +kernel
theorem dX6_readCommand_66 : decode cX6_readCommand 66 = .ok (.invokevirtual 32, 3) := by decide +kernel
theorem dX6_readCommand_69 : decode cX6_readCommand 69 = .ok (.putfield 61, 3) := by decide +kernel
theorem dX6_readCommand_72 : decode cX6_readCommand 72 = .ok (.return_, 1) := by decide +kernel
set_option maxRecDepth 20000 in
theorem ggX6_nextSign_X6_hasMore : GoodIn wsX6_nextSign wsX6_hasMore := goodIn_r _ [7, 8, 1, 9, 10, 11, 12, 13, 14, 15, 16, 17, 18] (by decide +kernel) (by decide +kernel)
set_option maxRecDepth 20000 in
theorem gX6_nextSign_X6_hasMore : GoodIn wsX6_nextSign (wsV RX6 66 RX6 yX6_hasMore wsX6_hasMore) := goodIn_app (goodIn_of _ (by decide +kernel)) ggX6_nextSign_X6_hasMore
theorem dX6_nextSign_0 : decode cX6_nextSign 0 = .ok (.aload_n 0, 1) := by decide +kernel
theorem dX6_nextSign_1 : decode cX6_nextSign 1 = .ok (.invokevirtual 66, 3) := by decide +kernel
theorem dX6_nextSign_4 : decode cX6_nextSign 4 = .ok (.ifCond .eq 34, 3) := by decide +kernel
theorem dX6_nextSign_7 : decode cX6_nextSign 7 = .ok (.aload_n 0, 1) := by decide +kernel
theorem dX6_nextSign_8 : decode cX6_nextSign 8 = .ok (.getfield 23, 3) := by decide +kernel
theorem dX6_nextSign_11 : decode cX6_nextSign 11 = .ok (.ifCond .lt 27, 3) := by decide +kernel
theorem dX6_nextSign_14 : decode cX6_nextSign 14 = .ok (.aload_n 0, 1) := by decide +kernel
theorem dX6_nextSign_15 : decode cX6_nextSign 15 = .ok (.getfield 23, 3) := by decide +kernel
theorem dX6_nextSign_18 : decode cX6_nextSign 18 = .ok (.aload_n 0, 1) := by decide +kernel
theorem dX6_nextSign_19 : decode cX6_nextSign 19 = .ok (.getfield 9, 3) := by decide +kernel
theorem dX6_nextSign_22 : decode cX6_nextSign 22 = .ok (.arraylength, 1) := by decide +kernel
theorem dX6_nextSign_23 : decode cX6_nextSign 23 = .ok (.if_icmp .ge 15, 3) := by decide +kernel
theorem dX6_nextSign_26 : decode cX6_nextSign 26 = .ok (.aload_n 0, 1) := by decide +kernel
theorem dX6_nextSign_27 : decode cX6_nextSign 27 = .ok (.getfield 9, 3) := by decide +kernel
theorem dX6_nextSign_30 : decode cX6_nextSign 30 = .ok (.aload_n 0, 1) := by decide +kernel
theorem dX6_nextSign_31 : decode cX6_nextSign 31 = .ok (.getfield 23, 3) := by decide +kernel
theorem dX6_nextSign_34 : decode cX6_nextSign 34 = .ok (.caload, 1) := by decide +kernel
theorem dX6_nextSign_35 : decode cX6_nextSign 35 = .ok (.goto 4, 3) := by decide +kernel
theorem dX6_nextSign_38 : decode cX6_nextSign 38 = .ok (.iconst (-1), 1) := by decide +kernel
theorem dX6_nextSign_39 : decode cX6_nextSign 39 = .ok (.ireturn, 1) := by decide +kernel
set_option maxRecDepth 20000 in
theorem ggX6_readOneOf_X6_nextSign : GoodIn wsX6_readOneOf wsX6_nextSign := goodIn_r _ [7, 2, 8, 9, 10, 11, 6, 12, 1, 13, 103, 104, 105, 106, 107, 108, 109, 110, 111] (by decide +kernel) (by decide +kernel)
set_option maxRecDepth 20000 in
theorem gX6_readOneOf_X6_nextSign : GoodIn wsX6_readOneOf (wsV RX6 70 RX6 yX6_nextSign wsX6_nextSign) := goodIn_app (goodIn_of _ (by decide +kernel)) ggX6_readOneOf_X6_nextSign
set_option maxRecDepth 20000 in
theorem ggX6_readOneOf_J0_indexOf_0f7a4 : GoodIn wsX6_readOneOf wsJ0_indexOf_0f7a4 := goodIn_r _ [18, 19, 20, 21, 17, 22, 23, 24, 25, 26, 27, 28, 29, 30, 31, 32, 33, 34, 35, 36, 37, 38, 39, 40, 41, 42, 43, 44, 45, 46, 47, 48, 49, 50, 51, 52, 53, 54, 55, 56, 57, 58, 59, 60, 61, 62, 63, 64, 65, 66, 67, 68, 69, 70, 71, 72, 73, 74, 75, 76, 77, 78, 79, 80, 81, 82, 83, 84, 85, 86, 87, 88, 89, 90, 91, 92, 93, 94, 95, 96, 97, 98, 99, 100, 101, 102] (by decide +kernel) (by decide +kernel)
set_option maxRecDepth 20000 in
theorem gX6_readOneOf_J0_indexOf_0f7a4 : GoodIn wsX6_readOneOf (wsV RX6 73 RJ0 yJ0_indexOf_0f7a4 wsJ0_indexOf_0f7a4) := goodIn_app (goodIn_of _ (by decide +kernel)) ggX6_readOneOf_J0_indexOf_0f7a4
theorem dX6_readOneOf_0 : decode cX6_readOneOf 0 = .ok (.aload_n 0, 1) := by decide +kernel
theorem dX6_readOneOf_1 : decode cX6_readOneOf 1 = .ok (.invokevirtual 70, 3) := by decide +kernel
theorem dX6_readOneOf_4 : decode cX6_readOneOf 4 = .ok (.istore_n 2, 1) := by decide +kernel
theorem dX6_readOneOf_5 : decode cX6_readOneOf 5 = .ok (.iload_n 2, 1) := by decide +kernel
theorem dX6_readOneOf_6 : decode cX6_readOneOf 6 = .ok (.iconst (-1), 1) := by decide +kernel
theorem dX6_readOneOf_7 : decode cX6_readOneOf 7 = .ok (.if_icmp .ne 7, 3) := by decide +kernel
theorem dX6_readOneOf_10 : decode cX6_readOneOf 10 = .ok (.iconst (-1), 1) := by decide +kernel
theorem dX6_readOneOf_11 : decode cX6_readOneOf 11 = .ok (.goto 9, 3) := by decide +kernel
theorem dX6_readOneOf_14 : decode cX6_readOneOf 14 = .ok (.aload_n 1, 1) := by decide +kernel
theorem dX6_readOneOf_15 : decode cX6_readOneOf 15 = .ok (.iload_n 2, 1) := by decide +kernel
theorem dX6_readOneOf_16 : decode cX6_readOneOf 16 = .ok (.i2c, 1) := by decide +kernel
theorem dX6_readOneOf_17 : decode cX6_readOneOf 17 = .ok (.invokevirtual 73, 3) := by decide +kernel
theorem dX6_readOneOf_20 : decode cX6_readOneOf 20 = .ok (.istore_n 3, 1) := by decide +kernel
theorem dX6_readOneOf_21 : decode cX6_readOneOf 21 = .ok (.iload_n 3, 1) := by decide +kernel
theorem dX6_readOneOf_22 : decode cX6_readOneOf 22 = .ok (.ifCond .ge 10, 3) := by decide +kernel
theorem dX6_readOneOf_25 : decode cX6_readOneOf 25 = .ok (.aload_n 0, 1) := by decide +kernel
theorem dX6_readOneOf_26 : decode cX6_readOneOf 26 = .ok (.iconst 1, 1) := by decide +kernel
theorem dX6_readOneOf_27 : decode cX6_readOneOf 27 = .ok (.putfield 19, 3) := by decide +kernel
theorem dX6_readOneOf_30 : decode cX6_readOneOf 30 = .ok (.iconst 0, 1) := by decide +kernel
theorem dX6_readOneOf_31 : decode cX6_readOneOf 31 = .ok (.ireturn, 1) := by decide +kernel
theorem dX6_readOneOf_32 : decode cX6_readOneOf 32 = .ok (.aload_n 0, 1) := by decide +kernel
theorem dX6_readOneOf_33 : decode cX6_readOneOf 33 = .ok (.dup, 1) := by decide +kernel
theorem dX6_readOneOf_34 : decode cX6_readOneOf 34 = .ok (.getfield 23, 3) := by decide +kernel
theorem dX6_readOneOf_37 : decode cX6_readOneOf 37 = .ok (.iconst 1, 1) := by decide +kernel
theorem dX6_readOneOf_38 : decode cX6_readOneOf 38 = .ok (.iadd, 1) := by decide +kernel
theorem dX6_readOneOf_39 : decode cX6_readOneOf 39 = .ok (.putfield 23, 3) := by decide +kernel
theorem dX6_readOneOf_42 : decode cX6_readOneOf 42 = .ok (.iload_n 3, 1) := by decide +kernel
theorem dX6_readOneOf_43 : decode cX6_readOneOf 43 = .ok (.ireturn, 1) := by decide +kernel
set_option maxRecDepth 20000 in
theorem ggX6_readDigit_X6_nextSign : GoodIn wsX6_readDigit wsX6_nextSign := goodIn_r _ [7, 2, 8, 9, 10, 11, 6, 12, 1, 13, 14, 15, 16, 17, 18, 19, 20, 21, 22] (by decide +kernel) (by decide +kernel)
set_option maxRecDepth 20000 in
theorem gX6_readDigit_X6_nextSign : GoodIn wsX6_readDigit (wsV RX6 70 RX6 yX6_nextSign wsX6_nextSign) := goodIn_app (goodIn_of _ (by decide +kernel)) ggX6_readDigit_X6_nextSign
theorem dX6_readDigit_0 : decode cX6_readDigit 0 = .ok (.aload_n 0, 1) := by decide +kernel
theorem dX6_readDigit_1 : decode cX6_readDigit 1 = .ok (.invokevirtual 70, 3) := by decide +kernel
theorem dX6_readDigit_4 : decode cX6_readDigit 4 = .ok (.bipush 48, 2) := by decide +kernel
theorem dX6_readDigit_6 : decode cX6_readDigit 6 = .ok (.isub, 1) := by decide +kernel
theorem dX6_readDigit_7 : decode cX6_readDigit 7 = .ok (.istore_n 3, 1) := by decide +kernel
theorem dX6_readDigit_8 : decode cX6_readDigit 8 = .ok (.iload_n 3, 1) := by decide +kernel
theorem dX6_readDigit_9 : decode cX6_readDigit 9 = .ok (.iload_n 1, 1) := by decide +kernel
theorem dX6_readDigit_10 : decode cX6_readDigit 10 = .ok (.if_icmp .lt 8, 3) := by decide +kernel
theorem dX6_readDigit_13 : decode cX6_readDigit 13 = .ok (.iload_n 3, 1) := by decide +kernel
theorem dX6_readDigit_14 : decode cX6_readDigit 14 = .ok (.iload_n 2, 1) := by decide +kernel
theorem dX6_readDigit_15 : decode cX6_readDigit 15 = .ok (.if_icmp .le 10, 3) := by decide +kernel
theorem dX6_readDigit_18 : decode cX6_readDigit 18 = .ok (.aload_n 0, 1) := by decide +kernel
theorem dX6_readDigit_19 : decode cX6_readDigit 19 = .ok (.iconst 1, 1) := by decide +kernel
theorem dX6_readDigit_20 : decode cX6_readDigit 20 = .ok (.putfield 19, 3) := by decide +kernel
theorem dX6_readDigit_23 : decode cX6_readDigit 23 = .ok (.iload_n 1, 1) := by decide +kernel
theorem dX6_readDigit_24 : decode cX6_readDigit 24 = .ok (.ireturn, 1) := by decide +kernel
theorem dX6_readDigit_25 : decode cX6_readDigit 25 = .ok (.aload_n 0, 1) := by decide +kernel
theorem dX6_readDigit_26 : decode cX6_readDigit 26 = .ok (.dup, 1) := by decide +kernel
theorem dX6_readDigit_27 : decode cX6_readDigit 27 = .ok (.getfield 23, 3) := by decide +kernel
theorem dX6_readDigit_30 : decode cX6_readDigit 30 = .ok (.iconst 1, 1) := by decide +kernel
theorem dX6_readDigit_31 : decode cX6_readDigit 31 = .ok (.iadd, 1) := by decide +kernel
theorem dX6_readDigit_32 : decode cX6_readDigit 32 = .ok (.putfield 23, 3) := by decide +kernel
theorem dX6_readDigit_35 : decode cX6_readDigit 35 = .ok (.iload_n 3, 1) := by decide +kernel
theorem dX6_readDigit_36 : decode cX6_readDigit 36 = .ok (.ireturn, 1) := by decide +kernel
set_option maxRecDepth 20000 in
theorem ggX6_readNumber_X6_readDigit : GoodIn wsX6_readNumber wsX6_readDigit := goodIn_r _ [12, 13, 14, 15, 16, 17, 11, 18, 19, 20, 21, 22, 23, 24, 25, 26, 27, 28, 29, 30, 31, 32, 33] (by decide +kernel) (by decide +kernel)
set_option maxRecDepth 20000 in
theorem gX6_readNumber_X6_readDigit : GoodIn wsX6_readNumber (wsV RX6 41 RX6 yX6_readDigit wsX6_readDigit) := goodIn_app (goodIn_of _ (by decide +kernel)) ggX6_readNumber_X6_readDigit
theorem dX6_readNumber_0 : decode cX6_readNumber 0 = .ok (.aload_n 0, 1) := by decide +kernel
theorem dX6_readNumber_1 : decode cX6_readNumber 1 = .ok (.iload_n 1, 1) := by decide +kernel
theorem dX6_readNumber_2 : decode cX6_readNumber 2 = .ok (.bipush 10, 2) := by decide +kernel
theorem dX6_readNumber_4 : decode cX6_readNumber 4 = .ok (.idiv, 1) := by decide +kernel
theorem dX6_readNumber_5 : decode cX6_readNumber 5 = .ok (.iload_n 2, 1) := by decide +kernel
theorem dX6_readNumber_6 : decode cX6_readNumber 6 = .ok (.bipush 10, 2) := by decide +kernel
theorem dX6_readNumber_8 : decode cX6_readNumber 8 = .ok (.idiv, 1) := by decide +kernel
theorem dX6_readNumber_9 : decode cX6_readNumber 9 = .ok (.invokevirtual 41, 3) := by decide +kernel
theorem dX6_readNumber_12 : decode cX6_readNumber 12 = .ok (.istore_n 3, 1) := by decide +kernel
theorem dX6_readNumber_13 : decode cX6_readNumber 13 = .ok (.aload_n 0, 1) := by decide +kernel
theorem dX6_readNumber_14 : decode cX6_readNumber 14 = .ok (.iconst 0, 1) := by decide +kernel
theorem dX6_readNumber_15 : decode cX6_readNumber 15 = .ok (.iload_n 1, 1) := by decide +kernel
theorem dX6_readNumber_16 : decode cX6_readNumber 16 = .ok (.bipush 10, 2) := by decide +kernel
theorem dX6_readNumber_18 : decode cX6_readNumber 18 = .ok (.iload_n 3, 1) := by decide +kernel
theorem dX6_readNumber_19 : decode cX6_readNumber 19 = .ok (.imul, 1) := by decide +kernel
theorem dX6_readNumber_20 : decode cX6_readNumber 20 = .ok (.isub, 1) := by decide +kernel
theorem dX6_readNumber_21 : decode cX6_readNumber 21 = .ok (.invokestatic 79, 3) := by decide +kernel
theorem dX6_readNumber_24 : decode cX6_readNumber 24 = .ok (.bipush 9, 2) := by decide +kernel
theorem dX6_readNumber_26 : decode cX6_readNumber 26 = .ok (.iload_n 2, 1) := by decide +kernel
theorem dX6_readNumber_27 : decode cX6_readNumber 27 = .ok (.bipush 10, 2) := by decide +kernel
theorem dX6_readNumber_29 : decode cX6_readNumber 29 = .ok (.iload_n 3, 1) := by decide +kernel
theorem dX6_readNumber_30 : decode cX6_readNumber 30 = .ok (.imul, 1) := by decide +kernel
theorem dX6_readNumber_31 : decode cX6_readNumber 31 = .ok (.isub, 1) := by decide +kernel
theorem dX6_readNumber_32 : decode cX6_readNumber 32 = .ok (.invokestatic 84, 3) := by decide +kernel
theorem dX6_readNumber_35 : decode cX6_readNumber 35 = .ok (.invokevirtual 41, 3) := by decide +kernel
theorem dX6_readNumber_38 : decode cX6_readNumber 38 = .ok (.istore 4, 2) := by decide +kernel
theorem dX6_readNumber_40 : decode cX6_readNumber 40 = .ok (.bipush 10, 2) := by decide +kernel
theorem dX6_readNumber_42 : decode cX6_readNumber 42 = .ok (.iload_n 3, 1) := by decide +kernel
theorem dX6_readNumber_43 : decode cX6_readNumber 43 = .ok (.imul, 1) := by decide +kernel
theorem dX6_readNumber_44 : decode cX6_readNumber 44 = .ok (.iload 4, 2) := by decide +kernel
theorem dX6_readNumber_46 : decode cX6_readNumber 46 = .ok (.iadd, 1) := by decide +kernel
theorem dX6_readNumber_47 : decode cX6_readNumber 47 = .ok (.ireturn, 1) := by decide +kernel
set_option maxRecDepth 20000 in
theorem ggX6_readCoins_X6_nextSign : GoodIn wsX6_readCoins wsX6_nextSign := goodIn_r _ [6, 1, 7, 8, 9, 10, 5, 11, 12, 13, 14, 15, 16, 17, 18, 19, 20, 21, 22] (by decide +kernel) (by decide +kernel)
set_option maxRecDepth 20000 in
theorem gX6_readCoins_X6_nextSign : GoodIn wsX6_readCoins (wsV RX6 70 RX6 yX6_nextSign wsX6_nextSign) := goodIn_app (goodIn_of _ (by decide +kernel)) ggX6_readCoins_X6_nextSign
theorem dX6_readCoins_0 : decode cX6_readCoins 0 = .ok (.iconst 0, 1) := by decide +kernel
theorem dX6_readCoins_1 : decode cX6_readCoins 1 = .ok (.istore_n 1, 1) := by decide +kernel
theorem dX6_readCoins_2 : decode cX6_readCoins 2 = .ok (.iconst 0, 1) := by decide +kernel
theorem dX6_readCoins_3 : decode cX6_readCoins 3 = .ok (.istore_n 2, 1) := by decide +kernel
theorem dX6_readCoins_4 : decode cX6_readCoins 4 = .ok (.iload_n 2, 1) := by decide +kernel
theorem dX6_readCoins_5 : decode cX6_readCoins 5 = .ok (.bipush 12, 2) := by decide +kernel
theorem dX6_readCoins_7 : decode cX6_readCoins 7 = .ok (.if_icmp .ge 36, 3) := by decide +kernel
theorem dX6_readCoins_10 : decode cX6_readCoins 10 = .ok (.aload_n 0, 1) := by decide +kernel
theorem dX6_readCoins_11 : decode cX6_readCoins 11 = .ok (.invokevirtual 70, 3) := by decide +kernel
theorem dX6_readCoins_14 : decode cX6_readCoins 14 = .ok (.bipush 97, 2) := by decide +kernel
theorem dX6_readCoins_16 : decode cX6_readCoins 16 = .ok (.iload_n 2, 1) := by decide +kernel
theorem dX6_readCoins_17 : decode cX6_readCoins 17 = .ok (.iadd, 1) := by decide +kernel
theorem dX6_readCoins_18 : decode cX6_readCoins 18 = .ok (.if_icmp .ne 19, 3) := by decide +kernel
theorem dX6_readCoins_21 : decode cX6_readCoins 21 = .ok (.iload_n 1, 1) := by decide +kernel
theorem dX6_readCoins_22 : decode cX6_readCoins 22 = .ok (.iconst 1, 1) := by decide +kernel
theorem dX6_readCoins_23 : decode cX6_readCoins 23 = .ok (.iload_n 2, 1) := by decide +kernel
theorem dX6_readCoins_24 : decode cX6_readCoins 24 = .ok (.ishl, 1) := by decide +kernel
theorem dX6_readCoins_25 : decode cX6_readCoins 25 = .ok (.ior, 1) := by decide +kernel
theorem dX6_readCoins_26 : decode cX6_readCoins 26 = .ok (.istore_n 1, 1) := by decide +kernel
theorem dX6_readCoins_27 : decode cX6_readCoins 27 = .ok (.aload_n 0, 1) := by decide +kernel
theorem dX6_readCoins_28 : decode cX6_readCoins 28 = .ok (.dup, 1) := by decide +kernel
theorem dX6_readCoins_29 : decode cX6_readCoins 29 = .ok (.getfield 23, 3) := by decide +kernel
theorem dX6_readCoins_32 : decode cX6_readCoins 32 = .ok (.iconst 1, 1) := by decide +kernel
theorem dX6_readCoins_33 : decode cX6_readCoins 33 = .ok (.iadd, 1) := by decide +kernel
theorem dX6_readCoins_34 : decode cX6_readCoins 34 = .ok (.putfield 23, 3) := by decide +kernel
theorem dX6_readCoins_37 : decode cX6_readCoins 37 = .ok (.iinc 2 1, 3) := by decide +kernel
theorem dX6_readCoins_40 : decode cX6_readCoins 40 = .ok (.goto (-36), 3) := by decide +kernel
theorem dX6_readCoins_43 : decode cX6_readCoins 43 = .ok (.iload_n 1, 1) := by decide +kernel
theorem dX6_readCoins_44 : decode cX6_readCoins 44 = .ok (.ireturn, 1) := by decide +kernel
set_option maxRecDepth 20000 in
theorem ggX7_init_X6_init : GoodIn wsX7_init wsX6_init := goodIn_r _ [29, 30, 2, 3, 31, 32, 93, 94, 95, 96, 97, 98, 99, 100, 101] (by decide +kernel) (by decide +kernel)
set_option maxRecDepth 20000 in
theorem gX7_init_X6_init_n9 : GoodIn wsX7_init (wsX6_init) := ggX7_init_X6_init
set_option maxRecDepth 20000 in
theorem ggX7_init_X4_init : GoodIn wsX7_init wsX4_init := goodIn_r _ [34, 35, 2, 3, 36, 37, 38, 39, 40, 41, 42, 43, 44, 45, 46, 47, 48, 49, 50, 51, 52, 111, 112, 113, 114, 115, 116, 117, 118, 119, 120, 129, 130, 131, 132, 133, 134, 135] (by decide +kernel) (by decide +kernel)
set_option maxRecDepth 20000 in
theorem gX7_init_X4_init_n18 : GoodIn wsX7_init (wsX4_init) := ggX7_init_X4_init
set_option maxRecDepth 20000 in
theorem ggX7_init_X0_init : GoodIn wsX7_init wsX0_init := goodIn_r _ [55, 56, 2, 3, 57, 58, 9, 10, 33, 34, 35, 36, 37, 38, 39, 40, 41, 42, 43, 44, 45, 46, 47, 48, 49, 50, 51, 52, 121, 122, 123, 111, 112, 113, 114, 115, 116, 117, 118, 119, 120, 129, 130, 131, 132, 133, 134, 135] (by decide +kernel) (by decide +kernel)
set_option maxRecDepth 20000 in
theorem gX7_init_X0_init : GoodIn wsX7_init (wsX0_init) := ggX7_init_X0_init
set_option maxRecDepth 20000 in
theorem ggX7_init_X2_init : GoodIn wsX7_init wsX2_init := goodIn_r _ [60, 61, 2, 3, 62, 9, 10, 63, 33, 34, 35, 36, 37, 38, 39, 40, 41, 42, 43, 44, 45, 46, 47, 48, 49, 50, 51, 52, 111, 112, 113, 114, 115, 116, 117, 118, 119, 120, 124, 125, 129, 130, 131, 132, 133, 134, 135] (by decide +kernel) (by decide +kernel)
set_option maxRecDepth 20000 in
theorem gX7_init_X2_init_n35 : GoodIn wsX7_init (wsX2_init) := ggX7_init_X2_init
set_option maxRecDepth 20000 in
theorem ggX7_init_X5_init : GoodIn wsX7_init wsX5_init := goodIn_r _ [65, 66, 2, 3] (by decide +kernel) (by decide +kernel)
set_option maxRecDepth 20000 in
theorem gX7_init_X5_init_n45 : GoodIn wsX7_init (wsX5_init) := ggX7_init_X5_init
set_option maxRecDepth 20000 in
theorem ggX7_init_X7_setsOfOne : GoodIn wsX7_init wsX7_setsOfOne := goodIn_r _ [70, 36] (by decide +kernel) (by decide +kernel)
set_option maxRecDepth 20000 in
theorem gX7_init_X7_setsOfOne : GoodIn wsX7_init (va_wsS RX7 50 yX7_setsOfOne wsX7_setsOfOne) := goodIn_app (goodIn_of _ (by decide +kernel)) ggX7_init_X7_setsOfOne
set_option maxRecDepth 20000 in
theorem ggX7_init_X7_setsOfTwo : GoodIn wsX7_init wsX7_setsOfTwo := goodIn_r _ [73, 36] (by decide +kernel) (by decide +kernel)
set_option maxRecDepth 20000 in
theorem gX7_init_X7_setsOfTwo : GoodIn wsX7_init (va_wsS RX7 58 yX7_setsOfTwo wsX7_setsOfTwo) := goodIn_app (goodIn_of _ (by decide +kernel)) ggX7_init_X7_setsOfTwo
set_option maxRecDepth 20000 in
theorem ggX7_init_X4_reset : GoodIn wsX7_init wsX4_reset := goodIn_r _ [77, 78, 79, 80, 81, 82, 83, 84, 10, 85, 86, 87, 88, 41, 89, 90, 91, 40, 92, 49, 111, 112, 113, 114, 115, 116, 117, 118, 119, 120, 129] (by decide +kernel) (by decide +kernel)
set_option maxRecDepth 20000 in
theorem gX7_init_X4_reset : GoodIn wsX7_init (wsV RX7 64 RX4 yX4_reset wsX4_reset) := goodIn_app (goodIn_of _ (by decide +kernel)) ggX7_init_X4_reset
theorem dX7_init_0 : decode cX7_init 0 = .ok (.aload_n 0, 1) := by decide +kernel
theorem dX7_init_1 : decode cX7_init 1 = .ok (.invokespecial 1, 3) := by decide +kernel
theorem dX7_init_4 : decode cX7_init 4 = .ok (.aload_n 0, 1) := by decide +kernel
theorem dX7_init_5 : decode cX7_init 5 = .ok (.new 7, 3) := by decide +kernel
theorem dX7_init_8 : decode cX7_init 8 = .ok (.dup, 1) := by decide +kernel
theorem dX7_init_9 : decode cX7_init 9 = .ok (.invokespecial 9, 3) := by decide +kernel
theorem dX7_init_12 : decode cX7_init 12 = .ok (.putfield 10, 3) := by decide +kernel
theorem dX7_init_15 : decode cX7_init 15 = .ok (.aload_n 0, 1) := by decide +kernel
theorem dX7_init_16 : decode cX7_init 16 = .ok (.new 16, 3) := by decide +kernel
theorem dX7_init_19 : decode cX7_init 19 = .ok (.dup, 1) := by decide +kernel
theorem dX7_init_20 : decode cX7_init 20 = .ok (.invokespecial 18, 3) := by decide +kernel
theorem dX7_init_23 : decode cX7_init 23 = .ok (.putfield 19, 3) := by decide +kernel
theorem dX7_init_26 : decode cX7_init 26 = .ok (.aload_n 0, 1) := by decide +kernel
theorem dX7_init_27 : decode cX7_init 27 = .ok (.new 16, 3) := by decide +kernel
theorem dX7_init_30 : decode cX7_init 30 = .ok (.dup, 1) := by decide +kernel
theorem dX7_init_31 : decode cX7_init 31 = .ok (.invokespecial 18, 3) := by decide +kernel
theorem dX7_init_34 : decode cX7_init 34 = .ok (.putfield 23, 3) := by decide +kernel
theorem dX7_init_37 : decode cX7_init 37 = .ok (.aload_n 0, 1) := by decide +kernel
theorem dX7_init_38 : decode cX7_init 38 = .ok (.new 26, 3) := by decide +kernel
theorem dX7_init_41 : decode cX7_init 41 = .ok (.dup, 1) := by decide +kernel
theorem dX7_init_42 : decode cX7_init 42 = .ok (.invokespecial 28, 3) := by decide +kernel
theorem dX7_init_45 : decode cX7_init 45 = .ok (.putfield 29, 3) := by decide +kernel
theorem dX7_init_48 : decode cX7_init 48 = .ok (.aload_n 0, 1) := by decide +kernel
theorem dX7_init_49 : decode cX7_init 49 = .ok (.new 33, 3) := by decide +kernel
theorem dX7_init_52 : decode cX7_init 52 = .ok (.dup, 1) := by decide +kernel
theorem dX7_init_53 : decode cX7_init 53 = .ok (.invokespecial 35, 3) := by decide +kernel
theorem dX7_init_56 : decode cX7_init 56 = .ok (.putfield 36, 3) := by decide +kernel
theorem dX7_init_59 : decode cX7_init 59 = .ok (.aload_n 0, 1) := by decide +kernel
theorem dX7_init_60 : decode cX7_init 60 = .ok (.new 33, 3) := by decide +kernel
theorem dX7_init_63 : decode cX7_init 63 = .ok (.dup, 1) := by decide +kernel
theorem dX7_init_64 : decode cX7_init 64 = .ok (.invokespecial 35, 3) := by decide +kernel
theorem dX7_init_67 : decode cX7_init 67 = .ok (.putfield 40, 3) := by decide +kernel
theorem dX7_init_70 : decode cX7_init 70 = .ok (.aload_n 0, 1) := by decide +kernel
theorem dX7_init_71 : decode cX7_init 71 = .ok (.new 43, 3) := by decide +kernel
theorem dX7_init_74 : decode cX7_init 74 = .ok (.dup, 1) := by decide +kernel
theorem dX7_init_75 : decode cX7_init 75 = .ok (.invokespecial 45, 3) := by decide +kernel
theorem dX7_init_78 : decode cX7_init 78 = .ok (.putfield 46, 3) := by decide +kernel
theorem dX7_init_81 : decode cX7_init 81 = .ok (.aload_n 0, 1) := by decide +kernel
theorem dX7_init_82 : decode cX7_init 82 = .ok (.invokestatic 50, 3) := by decide +kernel
theorem dX7_init_85 : decode cX7_init 85 = .ok (.putfield 54, 3) := by decide +kernel
theorem dX7_init_88 : decode cX7_init 88 = .ok (.aload_n 0, 1) := by decide +kernel
theorem dX7_init_89 : decode cX7_init 89 = .ok (.invokestatic 58, 3) := by decide +kernel
theorem dX7_init_92 : decode cX7_init 92 = .ok (.putfield 61, 3) := by decide +kernel
theorem dX7_init_95 : decode cX7_init 95 = .ok (.aload_n 0, 1) := by decide +kernel
theorem dX7_init_96 : decode cX7_init 96 = .ok (.getfield 19, 3) := by decide +kernel
theorem dX7_init_99 : decode cX7_init 99 = .ok (.invokevirtual 64, 3) := by decide +kernel
theorem dX7_init_102 : decode cX7_init 102 = .ok (.return_, 1) := by decide +kernel
set_option maxRecDepth 20000 in
theorem ggX7_append_X6_add : GoodIn wsX7_append wsX6_add := goodIn_r _ [11, 12, 13, 23, 24, 25, 26, 27, 28, 29, 30, 31] (by decide +kernel) (by decide +kernel)
set_option maxRecDepth 20000 in
theorem gX7_append_X6_add : GoodIn wsX7_append (wsV RX7 83 RX6 yX6_add wsX6_add) := goodIn_app (goodIn_of _ (by decide +kernel)) ggX7_append_X6_add
theorem dX7_append_0 : decode cX7_append 0 = .ok (.iload_n 1, 1) := by decide +kernel
theorem dX7_append_1 : decode cX7_append 1 = .ok (.ifCond .lt 10, 3) := by decide +kernel
theorem dX7_append_4 : decode cX7_append 4 = .ok (.iload_n 1, 1) := by decide +kernel
theorem dX7_append_5 : decode cX7_append 5 = .ok (.sipush 255, 3) := by decide +kernel
theorem dX7_append_8 : decode cX7_append 8 = .ok (.if_icmp .le 13, 3) := by decide +kernel
theorem dX7_append_11 : decode cX7_append 11 = .ok (.new 67, 3) := by decide +kernel
theorem dX7_append_14 : decode cX7_append 14 = .ok (.dup, 1) := by decide +kernel
theorem dX7_append_15 : decode cX7_append 15 = .ok (.ldc 69, 2) := by decide +kernel
theorem dX7_append_17 : decode cX7_append 17 = .ok (.invokespecial 71, 3) := by decide +kernel
theorem dX7_append_20 : decode cX7_append 20 = .ok (.athrow, 1) := by decide +kernel
theorem dX7_append_21 : decode cX7_append 21 = .ok (.aload_n 0, 1) := by decide +kernel
theorem dX7_append_22 : decode cX7_append 22 = .ok (.getfield 10, 3) := by decide +kernel
theorem dX7_append_25 : decode cX7_append 25 = .ok (.getfield 74, 3) := by decide +kernel
theorem dX7_append_28 : decode cX7_append 28 = .ok (.bipush 120, 2) := by decide +kernel
theorem dX7_append_30 : decode cX7_append 30 = .ok (.if_icmp .lt 13, 3) := by decide +kernel
theorem dX7_append_33 : decode cX7_append 33 = .ok (.new 78, 3) := by decide +kernel
theorem dX7_append_36 : decode cX7_append 36 = .ok (.dup, 1) := by decide +kernel
theorem dX7_append_37 : decode cX7_append 37 = .ok (.ldc 80, 2) := by decide +kernel
theorem dX7_append_39 : decode cX7_append 39 = .ok (.invokespecial 82, 3) := by decide +kernel
theorem dX7_append_42 : decode cX7_append 42 = .ok (.athrow, 1) := by decide +kernel
theorem dX7_append_43 : decode cX7_append 43 = .ok (.aload_n 0, 1) := by decide +kernel
theorem dX7_append_44 : decode cX7_append 44 = .ok (.getfield 10, 3) := by decide +kernel
theorem dX7_append_47 : decode cX7_append 47 = .ok (.iload_n 1, 1) := by decide +kernel
theorem dX7_append_48 : decode cX7_append 48 = .ok (.i2c, 1) := by decide +kernel
theorem dX7_append_49 : decode cX7_append 49 = .ok (.invokevirtual 83, 3) := by decide +kernel
theorem dX7_append_52 : decode cX7_append 52 = .ok (.aload_n 0, 1) := by decide +kernel
theorem dX7_append_53 : decode cX7_append 53 = .ok (.getfield 10, 3) := by decide +kernel
theorem dX7_append_56 : decode cX7_append 56 = .ok (.getfield 74, 3) := by decide +kernel
theorem dX7_append_59 : decode cX7_append 59 = .ok (.ireturn, 1) := by decide +kernel
theorem dX7_clearText_0 : decode cX7_clearText 0 = .ok (.aload_n 0, 1) := by decide +kernel
theorem dX7_clearText_1 : decode cX7_clearText 1 = .ok (.getfield 10, 3) := by decide +kernel
theorem dX7_clearText_4 : decode cX7_clearText 4 = .ok (.getfield 74, 3) := by decide +kernel
theorem dX7_clearText_7 : decode cX7_clearText 7 = .ok (.istore_n 1, 1) := by decide +kernel
theorem dX7_clearText_8 : decode cX7_clearText 8 = .ok (.aload_n 0, 1) := by decide +kernel
theorem dX7_clearText_9 : decode cX7_clearText 9 = .ok (.getfield 10, 3) := by decide +kernel
theorem dX7_clearText_12 : decode cX7_clearText 12 = .ok (.iconst 0, 1) := by decide +kernel
theorem dX7_clearText_13 : decode cX7_clearText 13 = .ok (.putfield 74, 3) := by decide +kernel
theorem dX7_clearText_16 : decode cX7_clearText 16 = .ok (.iload_n 1, 1) := by decide +kernel
theorem dX7_clearText_17 : decode cX7_clearText 17 = .ok (.ireturn, 1) := by decide +kernel
set_option maxRecDepth 20000 in
theorem ggX7_errorPosition_X6_readHead : GoodIn wsX7_errorPosition wsX6_readHead := goodIn_r _ [8, 9, 10, 11, 12, 13, 14, 15, 7, 16, 17, 18, 19, 20, 21, 22, 23, 24, 25, 26, 27, 28, 29, 30, 31, 32, 33, 34, 35, 36, 37, 38, 39, 40, 41, 42, 43, 44, 45, 46, 47, 48, 49, 50, 51, 52, 53, 54, 55, 56, 57, 58, 59, 60, 61, 62, 63, 64, 65, 66, 67, 68, 69, 70, 71, 72, 73, 74, 75, 76, 77, 78, 79, 80, 81, 82, 83, 84, 85, 86, 87, 88, 89, 90, 91, 92, 93, 94, 95, 96, 97, 98, 99, 100, 101, 102, 103, 104, 105, 106, 107, 108, 109, 110, 111, 112, 113, 114, 115, 116, 117, 118, 119, 120, 121, 122, 123, 124, 125, 147, 148, 149, 150, 151, 152, 153, 154, 155] (by decide +kernel) (by decide +kernel)
