set_option maxRecDepth 20000 in
theorem gX7_errorPosition_X6_readHead : GoodIn wsX7_errorPosition (wsV RX7 87 RX6 yX6_readHead wsX6_readHead) := goodIn_app (goodIn_of _ (by decide +kernel)) ggX7_errorPosition_X6_readHead
set_option maxRecDepth 20000 in
theorem ggX7_errorPosition_X6_hasMore : GoodIn wsX7_errorPosition wsX6_hasMore := goodIn_r _ [25, 10, 9, 26, 147, 148, 149, 150, 151, 152, 153, 154, 155] (by decide +kernel) (by decide +kernel)
set_option maxRecDepth 20000 in
theorem gX7_errorPosition_X6_hasMore : GoodIn wsX7_errorPosition (wsV RX7 90 RX6 yX6_hasMore wsX6_hasMore) := goodIn_app (goodIn_of _ (by decide +kernel)) ggX7_errorPosition_X6_hasMore
set_option maxRecDepth 20000 in
theorem ggX7_errorPosition_X6_readCommand : GoodIn wsX7_errorPosition wsX6_readCommand := goodIn_r _ [130, 131, 132, 133, 13, 14, 15, 7, 16, 10, 9, 17, 18, 19, 20, 21, 22, 23, 24, 25, 26, 27, 28, 29, 30, 31, 32, 33, 34, 35, 36, 37, 38, 39, 40, 41, 42, 43, 44, 45, 46, 47, 48, 49, 50, 51, 52, 53, 54, 55, 56, 57, 58, 59, 60, 61, 62, 63, 64, 65, 66, 67, 68, 69, 70, 71, 72, 73, 74, 75, 76, 77, 78, 79, 80, 81, 82, 83, 84, 85, 86, 87, 88, 89, 90, 91, 92, 93, 94, 95, 96, 97, 98, 99, 100, 101, 102, 103, 104, 105, 106, 107, 108, 109, 110, 111, 112, 113, 114, 115, 134, 135, 136, 137, 116, 117, 118, 119, 120, 121, 122, 123, 124, 125, 147, 148, 149, 150, 151, 152, 153, 154, 155] (by decide +kernel) (by decide +kernel)
set_option maxRecDepth 20000 in
theorem gX7_errorPosition_X6_readCommand : GoodIn wsX7_errorPosition (wsV RX7 94 RX6 yX6_readCommand wsX6_readCommand) := goodIn_app (goodIn_of _ (by decide +kernel)) ggX7_errorPosition_X6_readCommand
theorem dX7_errorPosition_0 : decode cX7_errorPosition 0 = .ok (.aload_n 0, 1) := by decide +kernel
theorem dX7_errorPosition_1 : decode cX7_errorPosition 1 = .ok (.getfield 10, 3) := by decide +kernel
theorem dX7_errorPosition_4 : decode cX7_errorPosition 4 = .ok (.invokevirtual 87, 3) := by decide +kernel
theorem dX7_errorPosition_7 : decode cX7_errorPosition 7 = .ok (.iconst 0, 1) := by decide +kernel
theorem dX7_errorPosition_8 : decode cX7_errorPosition 8 = .ok (.istore_n 1, 1) := by decide +kernel
theorem dX7_errorPosition_9 : decode cX7_errorPosition 9 = .ok (.iload_n 1, 1) := by decide +kernel
theorem dX7_errorPosition_10 : decode cX7_errorPosition 10 = .ok (.bipush 120, 2) := by decide +kernel
theorem dX7_errorPosition_12 : decode cX7_errorPosition 12 = .ok (.if_icmp .ge 26, 3) := by decide +kernel
theorem dX7_errorPosition_15 : decode cX7_errorPosition 15 = .ok (.aload_n 0, 1) := by decide +kernel
theorem dX7_errorPosition_16 : decode cX7_errorPosition 16 = .ok (.getfield 10, 3) := by decide +kernel
theorem dX7_errorPosition_19 : decode cX7_errorPosition 19 = .ok (.invokevirtual 90, 3) := by decide +kernel
theorem dX7_errorPosition_22 : decode cX7_errorPosition 22 = .ok (.ifCond .eq 16, 3) := by decide +kernel
theorem dX7_errorPosition_25 : decode cX7_errorPosition 25 = .ok (.aload_n 0, 1) := by decide +kernel
theorem dX7_errorPosition_26 : decode cX7_errorPosition 26 = .ok (.getfield 10, 3) := by decide +kernel
theorem dX7_errorPosition_29 : decode cX7_errorPosition 29 = .ok (.invokevirtual 94, 3) := by decide +kernel
theorem dX7_errorPosition_32 : decode cX7_errorPosition 32 = .ok (.iinc 1 1, 3) := by decide +kernel
theorem dX7_errorPosition_35 : decode cX7_errorPosition 35 = .ok (.goto (-26), 3) := by decide +kernel
theorem dX7_errorPosition_38 : decode cX7_errorPosition 38 = .ok (.aload_n 0, 1) := by decide +kernel
theorem dX7_errorPosition_39 : decode cX7_errorPosition 39 = .ok (.getfield 10, 3) := by decide +kernel
theorem dX7_errorPosition_42 : decode cX7_errorPosition 42 = .ok (.getfield 97, 3) := by decide +kernel
theorem dX7_errorPosition_45 : decode cX7_errorPosition 45 = .ok (.ifCond .eq 13, 3) := by decide +kernel
theorem dX7_errorPosition_48 : decode cX7_errorPosition 48 = .ok (.aload_n 0, 1) := by decide +kernel
theorem dX7_errorPosition_49 : decode cX7_errorPosition 49 = .ok (.getfield 10, 3) := by decide +kernel
theorem dX7_errorPosition_52 : decode cX7_errorPosition 52 = .ok (.getfield 101, 3) := by decide +kernel
theorem dX7_errorPosition_55 : decode cX7_errorPosition 55 = .ok (.goto 4, 3) := by decide +kernel
theorem dX7_errorPosition_58 : decode cX7_errorPosition 58 = .ok (.iconst (-1), 1) := by decide +kernel
theorem dX7_errorPosition_59 : decode cX7_errorPosition 59 = .ok (.ireturn, 1) := by decide +kernel
set_option maxRecDepth 20000 in
theorem ggX7_load_X7_errorPosition : GoodIn wsX7_load wsX7_errorPosition := goodIn_r _ [15, 8, 16, 17, 18, 19, 20, 21, 22, 23, 24, 25, 26, 27, 28, 29, 30, 31, 32, 33, 34, 35, 36, 37, 38, 39, 40, 41, 42, 43, 44, 45, 46, 47, 48, 49, 50, 51, 52, 53, 54, 55, 56, 57, 58, 59, 60, 61, 62, 63, 64, 65, 66, 67, 68, 69, 70, 71, 72, 73, 74, 75, 76, 77, 78, 79, 80, 81, 82, 83, 84, 85, 86, 87, 88, 89, 90, 91, 92, 93, 94, 95, 96, 97, 98, 99, 100, 101, 102, 103, 104, 105, 106, 107, 108, 109, 110, 111, 112, 113, 114, 115, 116, 117, 118, 119, 120, 121, 122, 123, 124, 125, 126, 127, 128, 129, 130, 131, 132, 133, 134, 135, 136, 137, 138, 139, 140, 141, 142, 143, 144, 145, 146, 147, 148, 149, 150, 151, 252, 253, 254, 255, 256, 257, 258, 259, 260, 263, 264, 265, 266, 267, 268, 269, 270, 271] (by decide +kernel) (by decide +kernel)
set_option maxRecDepth 20000 in
theorem gX7_load_X7_errorPosition : GoodIn wsX7_load (wsV RX7 104 RX7 yX7_errorPosition wsX7_errorPosition) := goodIn_app (goodIn_of _ (by decide +kernel)) ggX7_load_X7_errorPosition
set_option maxRecDepth 20000 in
theorem ggX7_load_X0_clear : GoodIn wsX7_load wsX0_clear := goodIn_r _ [156, 157, 158, 272, 273, 274] (by decide +kernel) (by decide +kernel)
set_option maxRecDepth 20000 in
theorem gX7_load_X0_clear : GoodIn wsX7_load (wsV RX7 110 RX0 yX0_clear wsX0_clear) := goodIn_app (goodIn_of _ (by decide +kernel)) ggX7_load_X0_clear
set_option maxRecDepth 20000 in
theorem ggX7_load_X4_reset : GoodIn wsX7_load wsX4_reset := goodIn_r _ [163, 164, 165, 166, 167, 168, 169, 170, 162, 171, 172, 173, 174, 175, 176, 177, 178, 179, 180, 181, 275, 276, 277, 278, 279, 280, 281, 282, 283, 284, 285] (by decide +kernel) (by decide +kernel)
set_option maxRecDepth 20000 in
theorem gX7_load_X4_reset : GoodIn wsX7_load (wsV RX7 64 RX4 yX4_reset wsX4_reset) := goodIn_app (goodIn_of _ (by decide +kernel)) ggX7_load_X4_reset
set_option maxRecDepth 20000 in
theorem ggX7_load_X6_readHead : GoodIn wsX7_load wsX6_readHead := goodIn_r _ [22, 23, 24, 25, 26, 27, 28, 29, 21, 30, 31, 32, 33, 34, 35, 36, 37, 38, 39, 40, 41, 42, 43, 44, 45, 46, 47, 48, 49, 50, 51, 52, 53, 54, 55, 56, 57, 58, 59, 60, 61, 62, 63, 64, 65, 66, 67, 68, 69, 70, 71, 72, 73, 74, 75, 76, 77, 78, 79, 80, 81, 82, 83, 84, 85, 86, 87, 88, 89, 90, 91, 92, 93, 94, 95, 96, 97, 98, 99, 100, 101, 102, 103, 104, 105, 106, 107, 108, 109, 110, 111, 112, 113, 114, 115, 116, 117, 118, 119, 120, 121, 122, 123, 124, 125, 126, 127, 128, 129, 130, 131, 132, 133, 134, 135, 136, 137, 138, 139, 263, 264, 265, 266, 267, 268, 269, 270, 271] (by decide +kernel) (by decide +kernel)
set_option maxRecDepth 20000 in
theorem gX7_load_X6_readHead : GoodIn wsX7_load (wsV RX7 87 RX6 yX6_readHead wsX6_readHead) := goodIn_app (goodIn_of _ (by decide +kernel)) ggX7_load_X6_readHead
set_option maxRecDepth 20000 in
theorem ggX7_load_X4_layOut : GoodIn wsX7_load wsX4_layOut := goodIn_r _ [171, 172, 173, 174, 175, 176, 177, 178, 179, 180, 181, 275, 276, 277, 278, 279, 280, 281, 282, 283, 284, 285] (by decide +kernel) (by decide +kernel)
set_option maxRecDepth 20000 in
theorem gX7_load_X4_layOut : GoodIn wsX7_load (wsV RX7 122 RX4 yX4_layOut wsX4_layOut) := goodIn_app (goodIn_of _ (by decide +kernel)) ggX7_load_X4_layOut
set_option maxRecDepth 20000 in
theorem ggX7_load_X6_hasMore : GoodIn wsX7_load wsX6_hasMore := goodIn_r _ [39, 24, 23, 40, 263, 264, 265, 266, 267, 268, 269, 270, 271] (by decide +kernel) (by decide +kernel)
set_option maxRecDepth 20000 in
theorem gX7_load_X6_hasMore : GoodIn wsX7_load (wsV RX7 90 RX6 yX6_hasMore wsX6_hasMore) := goodIn_app (goodIn_of _ (by decide +kernel)) ggX7_load_X6_hasMore
set_option maxRecDepth 20000 in
theorem ggX7_load_X6_readCommand : GoodIn wsX7_load wsX6_readCommand := goodIn_r _ [144, 145, 146, 147, 27, 28, 29, 21, 30, 24, 23, 31, 32, 33, 34, 35, 36, 37, 38, 39, 40, 41, 42, 43, 44, 45, 46, 47, 48, 49, 50, 51, 52, 53, 54, 55, 56, 57, 58, 59, 60, 61, 62, 63, 64, 65, 66, 67, 68, 69, 70, 71, 72, 73, 74, 75, 76, 77, 78, 79, 80, 81, 82, 83, 84, 85, 86, 87, 88, 89, 90, 91, 92, 93, 94, 95, 96, 97, 98, 99, 100, 101, 102, 103, 104, 105, 106, 107, 108, 109, 110, 111, 112, 113, 114, 115, 116, 117, 118, 119, 120, 121, 122, 123, 124, 125, 126, 127, 128, 129, 148, 149, 150, 151, 130, 131, 132, 133, 134, 135, 136, 137, 138, 139, 263, 264, 265, 266, 267, 268, 269, 270, 271] (by decide +kernel) (by decide +kernel)
set_option maxRecDepth 20000 in
theorem gX7_load_X6_readCommand : GoodIn wsX7_load (wsV RX7 94 RX6 yX6_readCommand wsX6_readCommand) := goodIn_app (goodIn_of _ (by decide +kernel)) ggX7_load_X6_readCommand
set_option maxRecDepth 20000 in
theorem ggX7_load_X7_obeyText : GoodIn wsX7_load wsX7_obeyText := goodIn_r _ [186, 8, 187, 7, 188, 189, 190, 191, 192, 162, 193, 164, 165, 194, 14, 195, 196, 197, 198, 199, 200, 173, 175, 174, 201, 202, 203, 204, 172, 205, 206, 207, 208, 209, 210, 211, 212, 213, 214, 215, 216, 217, 218, 219, 220, 221, 222, 223, 224, 225, 226, 227, 228, 229, 230, 231, 232, 233, 234, 235, 236, 237, 179, 238, 181, 239, 240, 241, 242, 243, 244, 245, 246, 247, 248, 249, 250, 251, 252, 253, 254, 255, 256, 257, 258, 259, 260, 263, 264, 265, 266, 267, 268, 269, 270, 271, 275, 276, 277, 278, 279, 280, 281, 282, 283, 284, 286, 287, 288, 289, 290, 291, 285] (by decide +kernel) (by decide +kernel)
set_option maxRecDepth 20000 in
theorem gX7_load_X7_obeyText : GoodIn wsX7_load (wsV RX7 126 RX7 yX7_obeyText wsX7_obeyText) := goodIn_app (goodIn_of _ (by decide +kernel)) ggX7_load_X7_obeyText
theorem dX7_load_0 : decode cX7_load 0 = .ok (.aload_n 0, 1) := by decide +kernel
theorem dX7_load_1 : decode cX7_load 1 = .ok (.invokevirtual 104, 3) := by decide +kernel
theorem dX7_load_4 : decode cX7_load 4 = .ok (.iconst (-1), 1) := by decide +kernel
theorem dX7_load_5 : decode cX7_load 5 = .ok (.if_icmp .eq 13, 3) := by decide +kernel
theorem dX7_load_8 : decode cX7_load 8 = .ok (.new 78, 3) := by decide +kernel
theorem dX7_load_11 : decode cX7_load 11 = .ok (.dup, 1) := by decide +kernel
theorem dX7_load_12 : decode cX7_load 12 = .ok (.ldc 108, 2) := by decide +kernel
theorem dX7_load_14 : decode cX7_load 14 = .ok (.invokespecial 82, 3) := by decide +kernel
theorem dX7_load_17 : decode cX7_load 17 = .ok (.athrow, 1) := by decide +kernel
theorem dX7_load_18 : decode cX7_load 18 = .ok (.aload_n 0, 1) := by decide +kernel
theorem dX7_load_19 : decode cX7_load 19 = .ok (.getfield 29, 3) := by decide +kernel
theorem dX7_load_22 : decode cX7_load 22 = .ok (.invokevirtual 110, 3) := by decide +kernel
theorem dX7_load_25 : decode cX7_load 25 = .ok (.aload_n 0, 1) := by decide +kernel
theorem dX7_load_26 : decode cX7_load 26 = .ok (.getfield 36, 3) := by decide +kernel
theorem dX7_load_29 : decode cX7_load 29 = .ok (.iconst 0, 1) := by decide +kernel
theorem dX7_load_30 : decode cX7_load 30 = .ok (.putfield 113, 3) := by decide +kernel
theorem dX7_load_33 : decode cX7_load 33 = .ok (.aload_n 0, 1) := by decide +kernel
theorem dX7_load_34 : decode cX7_load 34 = .ok (.getfield 40, 3) := by decide +kernel
theorem dX7_load_37 : decode cX7_load 37 = .ok (.iconst 0, 1) := by decide +kernel
theorem dX7_load_38 : decode cX7_load 38 = .ok (.putfield 113, 3) := by decide +kernel
theorem dX7_load_41 : decode cX7_load 41 = .ok (.aload_n 0, 1) := by decide +kernel
theorem dX7_load_42 : decode cX7_load 42 = .ok (.getfield 19, 3) := by decide +kernel
theorem dX7_load_45 : decode cX7_load 45 = .ok (.invokevirtual 64, 3) := by decide +kernel
theorem dX7_load_48 : decode cX7_load 48 = .ok (.aload_n 0, 1) := by decide +kernel
theorem dX7_load_49 : decode cX7_load 49 = .ok (.getfield 10, 3) := by decide +kernel
theorem dX7_load_52 : decode cX7_load 52 = .ok (.invokevirtual 87, 3) := by decide +kernel
theorem dX7_load_55 : decode cX7_load 55 = .ok (.aload_n 0, 1) := by decide +kernel
theorem dX7_load_56 : decode cX7_load 56 = .ok (.getfield 19, 3) := by decide +kernel
theorem dX7_load_59 : decode cX7_load 59 = .ok (.aload_n 0, 1) := by decide +kernel
theorem dX7_load_60 : decode cX7_load 60 = .ok (.getfield 10, 3) := by decide +kernel
theorem dX7_load_63 : decode cX7_load 63 = .ok (.getfield 116, 3) := by decide +kernel
theorem dX7_load_66 : decode cX7_load 66 = .ok (.aload_n 0, 1) := by decide +kernel
theorem dX7_load_67 : decode cX7_load 67 = .ok (.getfield 10, 3) := by decide +kernel
theorem dX7_load_70 : decode cX7_load 70 = .ok (.getfield 119, 3) := by decide +kernel
theorem dX7_load_73 : decode cX7_load 73 = .ok (.invokevirtual 122, 3) := by decide +kernel
theorem dX7_load_76 : decode cX7_load 76 = .ok (.iconst 0, 1) := by decide +kernel
theorem dX7_load_77 : decode cX7_load 77 = .ok (.istore_n 1, 1) := by decide +kernel
theorem dX7_load_78 : decode cX7_load 78 = .ok (.iconst 0, 1) := by decide +kernel
theorem dX7_load_79 : decode cX7_load 79 = .ok (.istore_n 2, 1) := by decide +kernel
theorem dX7_load_80 : decode cX7_load 80 = .ok (.iload_n 2, 1) := by decide +kernel
theorem dX7_load_81 : decode cX7_load 81 = .ok (.bipush 120, 2) := by decide +kernel
theorem dX7_load_83 : decode cX7_load 83 = .ok (.if_icmp .ge 36, 3) := by decide +kernel
theorem dX7_load_86 : decode cX7_load 86 = .ok (.aload_n 0, 1) := by decide +kernel
theorem dX7_load_87 : decode cX7_load 87 = .ok (.getfield 10, 3) := by decide +kernel
theorem dX7_load_90 : decode cX7_load 90 = .ok (.invokevirtual 90, 3) := by decide +kernel
theorem dX7_load_93 : decode cX7_load 93 = .ok (.ifCond .eq 26, 3) := by decide +kernel
theorem dX7_load_96 : decode cX7_load 96 = .ok (.aload_n 0, 1) := by decide +kernel
theorem dX7_load_97 : decode cX7_load 97 = .ok (.getfield 10, 3) := by decide +kernel
theorem dX7_load_100 : decode cX7_load 100 = .ok (.invokevirtual 94, 3) := by decide +kernel
theorem dX7_load_103 : decode cX7_load 103 = .ok (.aload_n 0, 1) := by decide +kernel
theorem dX7_load_104 : decode cX7_load 104 = .ok (.invokevirtual 126, 3) := by decide +kernel
theorem dX7_load_107 : decode cX7_load 107 = .ok (.ifCond .ne 6, 3) := by decide +kernel
theorem dX7_load_110 : decode cX7_load 110 = .ok (.iinc 1 1, 3) := by decide +kernel
theorem dX7_load_113 : decode cX7_load 113 = .ok (.iinc 2 1, 3) := by decide +kernel
theorem dX7_load_116 : decode cX7_load 116 = .ok (.goto (-36), 3) := by decide +kernel
theorem dX7_load_119 : decode cX7_load 119 = .ok (.iload_n 1, 1) := by decide +kernel
theorem dX7_load_120 : decode cX7_load 120 = .ok (.ireturn, 1) := by decide +kernel
set_option maxRecDepth 20000 in
theorem ggX7_obeyText_X4_tryArms : GoodIn wsX7_obeyText wsX4_tryArms := goodIn_r _ [10, 11, 12, 13, 14, 15, 96, 97, 98, 99, 100, 101, 102, 103, 104, 105] (by decide +kernel) (by decide +kernel)
set_option maxRecDepth 20000 in
theorem gX7_obeyText_X4_tryArms : GoodIn wsX7_obeyText (wsV RX7 138 RX4 yX4_tryArms wsX4_tryArms) := goodIn_app (goodIn_of _ (by decide +kernel)) ggX7_obeyText_X4_tryArms
set_option maxRecDepth 20000 in
theorem ggX7_obeyText_X4_tryWeighing : GoodIn wsX7_obeyText wsX4_tryWeighing := goodIn_r _ [19, 20, 11, 12, 21, 22, 23, 24, 25, 26, 9, 27, 28, 29, 30, 31, 32, 33, 34, 35, 36, 37, 38, 39, 40, 41, 42, 43, 44, 45, 46, 47, 48, 49, 50, 51, 52, 53, 54, 55, 56, 57, 58, 59, 60, 61, 62, 63, 64, 65, 66, 67, 68, 69, 70, 71, 72, 73, 74, 75, 76, 77, 96, 97, 98, 99, 100, 101, 102, 103, 104, 105, 106, 107, 108, 109, 110, 111, 112] (by decide +kernel) (by decide +kernel)
set_option maxRecDepth 20000 in
theorem gX7_obeyText_X4_tryWeighing : GoodIn wsX7_obeyText (wsV RX7 142 RX4 yX4_tryWeighing wsX4_tryWeighing) := goodIn_app (goodIn_of _ (by decide +kernel)) ggX7_obeyText_X4_tryWeighing
theorem dX7_obeyText_0 : decode cX7_obeyText 0 = .ok (.aload_n 0, 1) := by decide +kernel
theorem dX7_obeyText_1 : decode cX7_obeyText 1 = .ok (.getfield 10, 3) := by decide +kernel
theorem dX7_obeyText_4 : decode cX7_obeyText 4 = .ok (.getfield 129, 3) := by decide +kernel
theorem dX7_obeyText_7 : decode cX7_obeyText 7 = .ok (.iconst 1, 1) := by decide +kernel
theorem dX7_obeyText_8 : decode cX7_obeyText 8 = .ok (.if_icmp .ne 25, 3) := by decide +kernel
theorem dX7_obeyText_11 : decode cX7_obeyText 11 = .ok (.aload_n 0, 1) := by decide +kernel
theorem dX7_obeyText_12 : decode cX7_obeyText 12 = .ok (.getfield 19, 3) := by decide +kernel
theorem dX7_obeyText_15 : decode cX7_obeyText 15 = .ok (.aload_n 0, 1) := by decide +kernel
theorem dX7_obeyText_16 : decode cX7_obeyText 16 = .ok (.getfield 10, 3) := by decide +kernel
theorem dX7_obeyText_19 : decode cX7_obeyText 19 = .ok (.getfield 132, 3) := by decide +kernel
theorem dX7_obeyText_22 : decode cX7_obeyText 22 = .ok (.aload_n 0, 1) := by decide +kernel
theorem dX7_obeyText_23 : decode cX7_obeyText 23 = .ok (.getfield 10, 3) := by decide +kernel
theorem dX7_obeyText_26 : decode cX7_obeyText 26 = .ok (.getfield 135, 3) := by decide +kernel
theorem dX7_obeyText_29 : decode cX7_obeyText 29 = .ok (.invokevirtual 138, 3) := by decide +kernel
theorem dX7_obeyText_32 : decode cX7_obeyText 32 = .ok (.ireturn, 1) := by decide +kernel
theorem dX7_obeyText_33 : decode cX7_obeyText 33 = .ok (.aload_n 0, 1) := by decide +kernel
theorem dX7_obeyText_34 : decode cX7_obeyText 34 = .ok (.getfield 19, 3) := by decide +kernel
theorem dX7_obeyText_37 : decode cX7_obeyText 37 = .ok (.aload_n 0, 1) := by decide +kernel
theorem dX7_obeyText_38 : decode cX7_obeyText 38 = .ok (.getfield 10, 3) := by decide +kernel
theorem dX7_obeyText_41 : decode cX7_obeyText 41 = .ok (.getfield 132, 3) := by decide +kernel
theorem dX7_obeyText_44 : decode cX7_obeyText 44 = .ok (.aload_n 0, 1) := by decide +kernel
theorem dX7_obeyText_45 : decode cX7_obeyText 45 = .ok (.getfield 10, 3) := by decide +kernel
theorem dX7_obeyText_48 : decode cX7_obeyText 48 = .ok (.getfield 135, 3) := by decide +kernel
theorem dX7_obeyText_51 : decode cX7_obeyText 51 = .ok (.invokevirtual 142, 3) := by decide +kernel
theorem dX7_obeyText_54 : decode cX7_obeyText 54 = .ok (.ireturn, 1) := by decide +kernel
set_option maxRecDepth 20000 in
theorem ggX7_about_X4_allCases : GoodIn wsX7_about wsX4_allCases := goodIn_r _ [15, 16, 17, 18, 19, 53, 54, 55, 56, 57, 58, 59, 60, 61, 62] (by decide +kernel) (by decide +kernel)
set_option maxRecDepth 20000 in
theorem gX7_about_X4_allCases : GoodIn wsX7_about (wsV RX7 146 RX4 yX4_allCases wsX4_allCases) := goodIn_app (goodIn_of _ (by decide +kernel)) ggX7_about_X4_allCases
set_option maxRecDepth 20000 in
theorem ggX7_about_X3_count : GoodIn wsX7_about wsX3_count := goodIn_r _ [24, 25, 26, 27, 28, 29, 30, 31, 32, 63] (by decide +kernel) (by decide +kernel)
set_option maxRecDepth 20000 in
theorem gX7_about_X3_count : GoodIn wsX7_about (wsV RX7 153 RX3 yX3_count wsX3_count) := goodIn_app (goodIn_of _ (by decide +kernel)) ggX7_about_X3_count
set_option maxRecDepth 20000 in
theorem ggX7_about_X4_idleWeighings : GoodIn wsX7_about wsX4_idleWeighings := goodIn_r _ [36, 37, 38, 12, 13, 14, 15, 16, 17, 18, 19, 39, 40, 41, 42, 43, 53, 54, 55, 56, 57, 58, 59, 60, 61, 62] (by decide +kernel) (by decide +kernel)
set_option maxRecDepth 20000 in
theorem gX7_about_X4_idleWeighings : GoodIn wsX7_about (wsV RX7 167 RX4 yX4_idleWeighings wsX4_idleWeighings) := goodIn_app (goodIn_of _ (by decide +kernel)) ggX7_about_X4_idleWeighings
theorem dX7_about_0 : decode cX7_about 0 = .ok (.iload_n 1, 1) := by decide +kernel
theorem dX7_about_1 : decode cX7_about 1 = .ok (.tableswitch 126 0 8 #[51, 59, 67, 78, 86, 94, 102, 110, 118], 51) := by decide +kernel
theorem dX7_about_52 : decode cX7_about 52 = .ok (.aload_n 0, 1) := by decide +kernel
theorem dX7_about_53 : decode cX7_about 53 = .ok (.getfield 19, 3) := by decide +kernel
theorem dX7_about_56 : decode cX7_about 56 = .ok (.getfield 145, 3) := by decide +kernel
theorem dX7_about_59 : decode cX7_about 59 = .ok (.ireturn, 1) := by decide +kernel
theorem dX7_about_60 : decode cX7_about 60 = .ok (.aload_n 0, 1) := by decide +kernel
theorem dX7_about_61 : decode cX7_about 61 = .ok (.getfield 19, 3) := by decide +kernel
theorem dX7_about_64 : decode cX7_about 64 = .ok (.invokevirtual 146, 3) := by decide +kernel
theorem dX7_about_67 : decode cX7_about 67 = .ok (.ireturn, 1) := by decide +kernel
theorem dX7_about_68 : decode cX7_about 68 = .ok (.aload_n 0, 1) := by decide +kernel
theorem dX7_about_69 : decode cX7_about 69 = .ok (.getfield 19, 3) := by decide +kernel
theorem dX7_about_72 : decode cX7_about 72 = .ok (.getfield 149, 3) := by decide +kernel
theorem dX7_about_75 : decode cX7_about 75 = .ok (.invokevirtual 153, 3) := by decide +kernel
theorem dX7_about_78 : decode cX7_about 78 = .ok (.ireturn, 1) := by decide +kernel
theorem dX7_about_79 : decode cX7_about 79 = .ok (.aload_n 0, 1) := by decide +kernel
theorem dX7_about_80 : decode cX7_about 80 = .ok (.getfield 19, 3) := by decide +kernel
theorem dX7_about_83 : decode cX7_about 83 = .ok (.getfield 158, 3) := by decide +kernel
theorem dX7_about_86 : decode cX7_about 86 = .ok (.ireturn, 1) := by decide +kernel
theorem dX7_about_87 : decode cX7_about 87 = .ok (.aload_n 0, 1) := by decide +kernel
theorem dX7_about_88 : decode cX7_about 88 = .ok (.getfield 19, 3) := by decide +kernel
theorem dX7_about_91 : decode cX7_about 91 = .ok (.getfield 161, 3) := by decide +kernel
theorem dX7_about_94 : decode cX7_about 94 = .ok (.ireturn, 1) := by decide +kernel
theorem dX7_about_95 : decode cX7_about 95 = .ok (.aload_n 0, 1) := by decide +kernel
theorem dX7_about_96 : decode cX7_about 96 = .ok (.getfield 19, 3) := by decide +kernel
theorem dX7_about_99 : decode cX7_about 99 = .ok (.getfield 164, 3) := by decide +kernel
theorem dX7_about_102 : decode cX7_about 102 = .ok (.ireturn, 1) := by decide +kernel
theorem dX7_about_103 : decode cX7_about 103 = .ok (.aload_n 0, 1) := by decide +kernel
theorem dX7_about_104 : decode cX7_about 104 = .ok (.getfield 19, 3) := by decide +kernel
theorem dX7_about_107 : decode cX7_about 107 = .ok (.invokevirtual 167, 3) := by decide +kernel
theorem dX7_about_110 : decode cX7_about 110 = .ok (.ireturn, 1) := by decide +kernel
theorem dX7_about_111 : decode cX7_about 111 = .ok (.aload_n 0, 1) := by decide +kernel
theorem dX7_about_112 : decode cX7_about 112 = .ok (.getfield 19, 3) := by decide +kernel
theorem dX7_about_115 : decode cX7_about 115 = .ok (.getfield 170, 3) := by decide +kernel
theorem dX7_about_118 : decode cX7_about 118 = .ok (.ireturn, 1) := by decide +kernel
theorem dX7_about_119 : decode cX7_about 119 = .ok (.aload_n 0, 1) := by decide +kernel
theorem dX7_about_120 : decode cX7_about 120 = .ok (.getfield 19, 3) := by decide +kernel
theorem dX7_about_123 : decode cX7_about 123 = .ok (.getfield 173, 3) := by decide +kernel
theorem dX7_about_126 : decode cX7_about 126 = .ok (.ireturn, 1) := by decide +kernel
theorem dX7_about_127 : decode cX7_about 127 = .ok (.new 67, 3) := by decide +kernel
theorem dX7_about_130 : decode cX7_about 130 = .ok (.dup, 1) := by decide +kernel
theorem dX7_about_131 : decode cX7_about 131 = .ok (.ldc 176, 2) := by decide +kernel
theorem dX7_about_133 : decode cX7_about 133 = .ok (.invokespecial 71, 3) := by decide +kernel
theorem dX7_about_136 : decode cX7_about 136 = .ok (.athrow, 1) := by decide +kernel
set_option maxRecDepth 20000 in
theorem ggX7_coin_X4_hasCoin : GoodIn wsX7_coin wsX4_hasCoin := goodIn_r _ [9, 10, 26, 27, 28, 29, 30, 31, 32, 33, 34, 35] (by decide +kernel) (by decide +kernel)
set_option maxRecDepth 20000 in
theorem gX7_coin_X4_hasCoin : GoodIn wsX7_coin (wsV RX7 178 RX4 yX4_hasCoin wsX4_hasCoin) := goodIn_app (goodIn_of _ (by decide +kernel)) ggX7_coin_X4_hasCoin
set_option maxRecDepth 20000 in
theorem ggX7_coin_X3_coinMayBe : GoodIn wsX7_coin wsX3_coinMayBe := goodIn_r _ [15, 16, 36] (by decide +kernel) (by decide +kernel)
set_option maxRecDepth 20000 in
theorem gX7_coin_X3_coinMayBe : GoodIn wsX7_coin (wsV RX7 187 RX3 yX3_coinMayBe wsX3_coinMayBe) := goodIn_app (goodIn_of _ (by decide +kernel)) ggX7_coin_X3_coinMayBe
theorem dX7_coin_0 : decode cX7_coin 0 = .ok (.aload_n 0, 1) := by decide +kernel
theorem dX7_coin_1 : decode cX7_coin 1 = .ok (.getfield 19, 3) := by decide +kernel
theorem dX7_coin_4 : decode cX7_coin 4 = .ok (.iload_n 1, 1) := by decide +kernel
theorem dX7_coin_5 : decode cX7_coin 5 = .ok (.invokevirtual 178, 3) := by decide +kernel
theorem dX7_coin_8 : decode cX7_coin 8 = .ok (.ifCond .ne 13, 3) := by decide +kernel
theorem dX7_coin_11 : decode cX7_coin 11 = .ok (.new 182, 3) := by decide +kernel
theorem dX7_coin_14 : decode cX7_coin 14 = .ok (.dup, 1) := by decide +kernel
theorem dX7_coin_15 : decode cX7_coin 15 = .ok (.ldc 184, 2) := by decide +kernel
theorem dX7_coin_17 : decode cX7_coin 17 = .ok (.invokespecial 186, 3) := by decide +kernel
theorem dX7_coin_20 : decode cX7_coin 20 = .ok (.athrow, 1) := by decide +kernel
theorem dX7_coin_21 : decode cX7_coin 21 = .ok (.aload_n 0, 1) := by decide +kernel
theorem dX7_coin_22 : decode cX7_coin 22 = .ok (.getfield 19, 3) := by decide +kernel
theorem dX7_coin_25 : decode cX7_coin 25 = .ok (.getfield 149, 3) := by decide +kernel
theorem dX7_coin_28 : decode cX7_coin 28 = .ok (.iload_n 1, 1) := by decide +kernel
theorem dX7_coin_29 : decode cX7_coin 29 = .ok (.invokevirtual 187, 3) := by decide +kernel
theorem dX7_coin_32 : decode cX7_coin 32 = .ok (.ireturn, 1) := by decide +kernel
set_option maxRecDepth 20000 in
theorem ggX7_pans_X3_pansMayBe : GoodIn wsX7_pans wsX3_pansMayBe := goodIn_r _ [7, 8, 28] (by decide +kernel) (by decide +kernel)
set_option maxRecDepth 20000 in
theorem gX7_pans_X3_pansMayBe : GoodIn wsX7_pans (wsV RX7 191 RX3 yX3_pansMayBe wsX3_pansMayBe) := goodIn_app (goodIn_of _ (by decide +kernel)) ggX7_pans_X3_pansMayBe
theorem dX7_pans_0 : decode cX7_pans 0 = .ok (.aload_n 0, 1) := by decide +kernel
theorem dX7_pans_1 : decode cX7_pans 1 = .ok (.getfield 19, 3) := by decide +kernel
theorem dX7_pans_4 : decode cX7_pans 4 = .ok (.getfield 149, 3) := by decide +kernel
theorem dX7_pans_7 : decode cX7_pans 7 = .ok (.invokevirtual 191, 3) := by decide +kernel
theorem dX7_pans_10 : decode cX7_pans 10 = .ok (.ireturn, 1) := by decide +kernel
set_option maxRecDepth 20000 in
theorem ggX7_isLeft_X4_allCases : GoodIn wsX7_isLeft wsX4_allCases := goodIn_r _ [9, 10, 11, 12, 13, 29, 30, 31, 32, 33, 34, 35, 36, 37, 38] (by decide +kernel) (by decide +kernel)
set_option maxRecDepth 20000 in
theorem gX7_isLeft_X4_allCases : GoodIn wsX7_isLeft (wsV RX7 146 RX4 yX4_allCases wsX4_allCases) := goodIn_app (goodIn_of _ (by decide +kernel)) ggX7_isLeft_X4_allCases
set_option maxRecDepth 20000 in
theorem ggX7_isLeft_X3_has : GoodIn wsX7_isLeft wsX3_has := goodIn_r _ [18, 19, 39] (by decide +kernel) (by decide +kernel)
set_option maxRecDepth 20000 in
theorem gX7_isLeft_X3_has : GoodIn wsX7_isLeft (wsV RX7 196 RX3 yX3_has wsX3_has) := goodIn_app (goodIn_of _ (by decide +kernel)) ggX7_isLeft_X3_has
theorem dX7_isLeft_0 : decode cX7_isLeft 0 = .ok (.iload_n 1, 1) := by decide +kernel
theorem dX7_isLeft_1 : decode cX7_isLeft 1 = .ok (.ifCond .lt 14, 3) := by decide +kernel
theorem dX7_isLeft_4 : decode cX7_isLeft 4 = .ok (.iload_n 1, 1) := by decide +kernel
theorem dX7_isLeft_5 : decode cX7_isLeft 5 = .ok (.aload_n 0, 1) := by decide +kernel
theorem dX7_isLeft_6 : decode cX7_isLeft 6 = .ok (.getfield 19, 3) := by decide +kernel
theorem dX7_isLeft_9 : decode cX7_isLeft 9 = .ok (.invokevirtual 146, 3) := by decide +kernel
theorem dX7_isLeft_12 : decode cX7_isLeft 12 = .ok (.if_icmp .lt 13, 3) := by decide +kernel
theorem dX7_isLeft_15 : decode cX7_isLeft 15 = .ok (.new 182, 3) := by decide +kernel
theorem dX7_isLeft_18 : decode cX7_isLeft 18 = .ok (.dup, 1) := by decide +kernel
theorem dX7_isLeft_19 : decode cX7_isLeft 19 = .ok (.ldc 194, 2) := by decide +kernel
theorem dX7_isLeft_21 : decode cX7_isLeft 21 = .ok (.invokespecial 186, 3) := by decide +kernel
theorem dX7_isLeft_24 : decode cX7_isLeft 24 = .ok (.athrow, 1) := by decide +kernel
theorem dX7_isLeft_25 : decode cX7_isLeft 25 = .ok (.aload_n 0, 1) := by decide +kernel
theorem dX7_isLeft_26 : decode cX7_isLeft 26 = .ok (.getfield 19, 3) := by decide +kernel
theorem dX7_isLeft_29 : decode cX7_isLeft 29 = .ok (.getfield 149, 3) := by decide +kernel
theorem dX7_isLeft_32 : decode cX7_isLeft 32 = .ok (.iload_n 1, 1) := by decide +kernel
theorem dX7_isLeft_33 : decode cX7_isLeft 33 = .ok (.invokevirtual 196, 3) := by decide +kernel
theorem dX7_isLeft_36 : decode cX7_isLeft 36 = .ok (.ifCond .eq 7, 3) := by decide +kernel
theorem dX7_isLeft_39 : decode cX7_isLeft 39 = .ok (.iconst 1, 1) := by decide +kernel
theorem dX7_isLeft_40 : decode cX7_isLeft 40 = .ok (.goto 4, 3) := by decide +kernel
theorem dX7_isLeft_43 : decode cX7_isLeft 43 = .ok (.iconst 0, 1) := by decide +kernel
theorem dX7_isLeft_44 : decode cX7_isLeft 44 = .ok (.ireturn, 1) := by decide +kernel
set_option maxRecDepth 20000 in
theorem ggX7_weighing_X4_kept : GoodIn wsX7_weighing wsX4_kept := goodIn_r _ [11, 12, 22, 23, 24, 25, 26, 27, 28, 29, 30, 31] (by decide +kernel) (by decide +kernel)
set_option maxRecDepth 20000 in
theorem gX7_weighing_X4_kept : GoodIn wsX7_weighing (wsV RX7 203 RX4 yX4_kept wsX4_kept) := goodIn_app (goodIn_of _ (by decide +kernel)) ggX7_weighing_X4_kept
theorem dX7_weighing_0 : decode cX7_weighing 0 = .ok (.iload_n 1, 1) := by decide +kernel
theorem dX7_weighing_1 : decode cX7_weighing 1 = .ok (.ifCond .lt 14, 3) := by decide +kernel
theorem dX7_weighing_4 : decode cX7_weighing 4 = .ok (.iload_n 1, 1) := by decide +kernel
theorem dX7_weighing_5 : decode cX7_weighing 5 = .ok (.aload_n 0, 1) := by decide +kernel
theorem dX7_weighing_6 : decode cX7_weighing 6 = .ok (.getfield 19, 3) := by decide +kernel
theorem dX7_weighing_9 : decode cX7_weighing 9 = .ok (.getfield 158, 3) := by decide +kernel
theorem dX7_weighing_12 : decode cX7_weighing 12 = .ok (.if_icmp .lt 13, 3) := by decide +kernel
theorem dX7_weighing_15 : decode cX7_weighing 15 = .ok (.new 182, 3) := by decide +kernel
theorem dX7_weighing_18 : decode cX7_weighing 18 = .ok (.dup, 1) := by decide +kernel
theorem dX7_weighing_19 : decode cX7_weighing 19 = .ok (.ldc 199, 2) := by decide +kernel
theorem dX7_weighing_21 : decode cX7_weighing 21 = .ok (.invokespecial 186, 3) := by decide +kernel
theorem dX7_weighing_24 : decode cX7_weighing 24 = .ok (.athrow, 1) := by decide +kernel
theorem dX7_weighing_25 : decode cX7_weighing 25 = .ok (.iload_n 2, 1) := by decide +kernel
theorem dX7_weighing_26 : decode cX7_weighing 26 = .ok (.ifCond .lt 9, 3) := by decide +kernel
theorem dX7_weighing_29 : decode cX7_weighing 29 = .ok (.iload_n 2, 1) := by decide +kernel
theorem dX7_weighing_30 : decode cX7_weighing 30 = .ok (.bipush 6, 2) := by decide +kernel
theorem dX7_weighing_32 : decode cX7_weighing 32 = .ok (.if_icmp .lt 13, 3) := by decide +kernel
theorem dX7_weighing_35 : decode cX7_weighing 35 = .ok (.new 67, 3) := by decide +kernel
theorem dX7_weighing_38 : decode cX7_weighing 38 = .ok (.dup, 1) := by decide +kernel
theorem dX7_weighing_39 : decode cX7_weighing 39 = .ok (.ldc 201, 2) := by decide +kernel
theorem dX7_weighing_41 : decode cX7_weighing 41 = .ok (.invokespecial 71, 3) := by decide +kernel
theorem dX7_weighing_44 : decode cX7_weighing 44 = .ok (.athrow, 1) := by decide +kernel
theorem dX7_weighing_45 : decode cX7_weighing 45 = .ok (.aload_n 0, 1) := by decide +kernel
theorem dX7_weighing_46 : decode cX7_weighing 46 = .ok (.getfield 19, 3) := by decide +kernel
theorem dX7_weighing_49 : decode cX7_weighing 49 = .ok (.iload_n 1, 1) := by decide +kernel
theorem dX7_weighing_50 : decode cX7_weighing 50 = .ok (.iload_n 2, 1) := by decide +kernel
theorem dX7_weighing_51 : decode cX7_weighing 51 = .ok (.invokevirtual 203, 3) := by decide +kernel
theorem dX7_weighing_54 : decode cX7_weighing 54 = .ok (.ireturn, 1) := by decide +kernel
set_option maxRecDepth 20000 in
theorem ggX7_hide_X7_casesOf : GoodIn wsX7_hide wsX7_casesOf := goodIn_r _ [10] (by decide +kernel) (by decide +kernel)
set_option maxRecDepth 20000 in
theorem gX7_hide_X7_casesOf : GoodIn wsX7_hide (va_wsS RX7 209 yX7_casesOf wsX7_casesOf) := goodIn_app (goodIn_of _ (by decide +kernel)) ggX7_hide_X7_casesOf
set_option maxRecDepth 20000 in
theorem ggX7_hide_X0_remember : GoodIn wsX7_hide wsX0_remember := goodIn_r _ [15, 16, 17, 18, 19, 20, 21, 22, 23, 24, 14, 25, 26, 27, 28, 29, 30, 31, 32, 33, 34, 35, 36, 37, 38, 39, 40, 41, 42, 43, 44, 45, 46, 68, 69, 70, 71, 72, 73, 74, 75, 76, 77, 78, 79, 80, 81] (by decide +kernel) (by decide +kernel)
set_option maxRecDepth 20000 in
theorem gX7_hide_X0_remember : GoodIn wsX7_hide (wsV RX7 212 RX0 yX0_remember wsX0_remember) := goodIn_app (goodIn_of _ (by decide +kernel)) ggX7_hide_X0_remember
set_option maxRecDepth 20000 in
theorem ggX7_hide_X4_layOut : GoodIn wsX7_hide wsX4_layOut := goodIn_r _ [50, 32, 33, 38, 40, 51, 52, 53, 44, 54, 46, 71, 72, 73, 74, 75, 76, 77, 78, 79, 80, 81] (by decide +kernel) (by decide +kernel)
set_option maxRecDepth 20000 in
theorem gX7_hide_X4_layOut : GoodIn wsX7_hide (wsV RX7 122 RX4 yX4_layOut wsX4_layOut) := goodIn_app (goodIn_of _ (by decide +kernel)) ggX7_hide_X4_layOut
set_option maxRecDepth 20000 in
theorem ggX7_hide_X4_allCases : GoodIn wsX7_hide wsX4_allCases := goodIn_r _ [58, 32, 8, 9, 10, 71, 72, 73, 74, 75, 76, 77, 78, 79, 80] (by decide +kernel) (by decide +kernel)
set_option maxRecDepth 20000 in
theorem gX7_hide_X4_allCases : GoodIn wsX7_hide (wsV RX7 146 RX4 yX4_allCases wsX4_allCases) := goodIn_app (goodIn_of _ (by decide +kernel)) ggX7_hide_X4_allCases
theorem dX7_hide_0 : decode cX7_hide 0 = .ok (.iload_n 1, 1) := by decide +kernel
theorem dX7_hide_1 : decode cX7_hide 1 = .ok (.iconst 3, 1) := by decide +kernel
theorem dX7_hide_2 : decode cX7_hide 2 = .ok (.if_icmp .lt 9, 3) := by decide +kernel
theorem dX7_hide_5 : decode cX7_hide 5 = .ok (.iload_n 1, 1) := by decide +kernel
theorem dX7_hide_6 : decode cX7_hide 6 = .ok (.bipush 12, 2) := by decide +kernel
theorem dX7_hide_8 : decode cX7_hide 8 = .ok (.if_icmp .le 13, 3) := by decide +kernel
theorem dX7_hide_11 : decode cX7_hide 11 = .ok (.new 67, 3) := by decide +kernel
theorem dX7_hide_14 : decode cX7_hide 14 = .ok (.dup, 1) := by decide +kernel
theorem dX7_hide_15 : decode cX7_hide 15 = .ok (.ldc 207, 2) := by decide +kernel
theorem dX7_hide_17 : decode cX7_hide 17 = .ok (.invokespecial 71, 3) := by decide +kernel
theorem dX7_hide_20 : decode cX7_hide 20 = .ok (.athrow, 1) := by decide +kernel
theorem dX7_hide_21 : decode cX7_hide 21 = .ok (.iload_n 2, 1) := by decide +kernel
theorem dX7_hide_22 : decode cX7_hide 22 = .ok (.ifCond .lt 11, 3) := by decide +kernel
theorem dX7_hide_25 : decode cX7_hide 25 = .ok (.iload_n 2, 1) := by decide +kernel
theorem dX7_hide_26 : decode cX7_hide 26 = .ok (.iload_n 1, 1) := by decide +kernel
theorem dX7_hide_27 : decode cX7_hide 27 = .ok (.invokestatic 209, 3) := by decide +kernel
theorem dX7_hide_30 : decode cX7_hide 30 = .ok (.if_icmp .lt 13, 3) := by decide +kernel
theorem dX7_hide_33 : decode cX7_hide 33 = .ok (.new 182, 3) := by decide +kernel
theorem dX7_hide_36 : decode cX7_hide 36 = .ok (.dup, 1) := by decide +kernel
theorem dX7_hide_37 : decode cX7_hide 37 = .ok (.ldc 194, 2) := by decide +kernel
theorem dX7_hide_39 : decode cX7_hide 39 = .ok (.invokespecial 186, 3) := by decide +kernel
theorem dX7_hide_42 : decode cX7_hide 42 = .ok (.athrow, 1) := by decide +kernel
theorem dX7_hide_43 : decode cX7_hide 43 = .ok (.aload_n 0, 1) := by decide +kernel
theorem dX7_hide_44 : decode cX7_hide 44 = .ok (.getfield 29, 3) := by decide +kernel
theorem dX7_hide_47 : decode cX7_hide 47 = .ok (.aload_n 0, 1) := by decide +kernel
theorem dX7_hide_48 : decode cX7_hide 48 = .ok (.getfield 19, 3) := by decide +kernel
theorem dX7_hide_51 : decode cX7_hide 51 = .ok (.invokevirtual 212, 3) := by decide +kernel
theorem dX7_hide_54 : decode cX7_hide 54 = .ok (.aload_n 0, 1) := by decide +kernel
theorem dX7_hide_55 : decode cX7_hide 55 = .ok (.getfield 19, 3) := by decide +kernel
theorem dX7_hide_58 : decode cX7_hide 58 = .ok (.iload_n 1, 1) := by decide +kernel
theorem dX7_hide_59 : decode cX7_hide 59 = .ok (.iload_n 2, 1) := by decide +kernel
theorem dX7_hide_60 : decode cX7_hide 60 = .ok (.invokevirtual 122, 3) := by decide +kernel
theorem dX7_hide_63 : decode cX7_hide 63 = .ok (.aload_n 0, 1) := by decide +kernel
theorem dX7_hide_64 : decode cX7_hide 64 = .ok (.getfield 19, 3) := by decide +kernel
theorem dX7_hide_67 : decode cX7_hide 67 = .ok (.invokevirtual 146, 3) := by decide +kernel
theorem dX7_hide_70 : decode cX7_hide 70 = .ok (.ireturn, 1) := by decide +kernel
set_option maxRecDepth 20000 in
theorem ggX7_arms_X7_isArm : GoodIn wsX7_arms wsX7_isArm := goodIn_r _ [8] (by decide +kernel) (by decide +kernel)
set_option maxRecDepth 20000 in
theorem gX7_arms_X7_isArm : GoodIn wsX7_arms (va_wsS RX7 216 yX7_isArm wsX7_isArm) := goodIn_app (goodIn_of _ (by decide +kernel)) ggX7_arms_X7_isArm
set_option maxRecDepth 20000 in
theorem ggX7_arms_X0_remember : GoodIn wsX7_arms wsX0_remember := goodIn_r _ [13, 14, 15, 16, 17, 18, 19, 20, 21, 22, 12, 23, 24, 25, 26, 27, 28, 29, 30, 31, 32, 33, 34, 35, 36, 37, 38, 39, 40, 41, 42, 43, 44, 58, 59, 60, 61, 62, 63, 64, 65, 66, 67, 68, 69, 70, 71] (by decide +kernel) (by decide +kernel)
set_option maxRecDepth 20000 in
theorem gX7_arms_X0_remember : GoodIn wsX7_arms (wsV RX7 212 RX0 yX0_remember wsX0_remember) := goodIn_app (goodIn_of _ (by decide +kernel)) ggX7_arms_X0_remember
set_option maxRecDepth 20000 in
theorem ggX7_arms_X4_tryArms : GoodIn wsX7_arms wsX4_tryArms := goodIn_r _ [48, 32, 33, 6, 7, 8, 61, 62, 63, 64, 65, 66, 67, 68, 69, 70] (by decide +kernel) (by decide +kernel)
set_option maxRecDepth 20000 in
theorem gX7_arms_X4_tryArms : GoodIn wsX7_arms (wsV RX7 138 RX4 yX4_tryArms wsX4_tryArms) := goodIn_app (goodIn_of _ (by decide +kernel)) ggX7_arms_X4_tryArms
theorem dX7_arms_0 : decode cX7_arms 0 = .ok (.iload_n 1, 1) := by decide +kernel
theorem dX7_arms_1 : decode cX7_arms 1 = .ok (.invokestatic 216, 3) := by decide +kernel
theorem dX7_arms_4 : decode cX7_arms 4 = .ok (.ifCond .eq 10, 3) := by decide +kernel
theorem dX7_arms_7 : decode cX7_arms 7 = .ok (.iload_n 2, 1) := by decide +kernel
theorem dX7_arms_8 : decode cX7_arms 8 = .ok (.invokestatic 216, 3) := by decide +kernel
theorem dX7_arms_11 : decode cX7_arms 11 = .ok (.ifCond .ne 13, 3) := by decide +kernel
theorem dX7_arms_14 : decode cX7_arms 14 = .ok (.new 67, 3) := by decide +kernel
theorem dX7_arms_17 : decode cX7_arms 17 = .ok (.dup, 1) := by decide +kernel
theorem dX7_arms_18 : decode cX7_arms 18 = .ok (.ldc 219, 2) := by decide +kernel
theorem dX7_arms_20 : decode cX7_arms 20 = .ok (.invokespecial 71, 3) := by decide +kernel
theorem dX7_arms_23 : decode cX7_arms 23 = .ok (.athrow, 1) := by decide +kernel
theorem dX7_arms_24 : decode cX7_arms 24 = .ok (.aload_n 0, 1) := by decide +kernel
theorem dX7_arms_25 : decode cX7_arms 25 = .ok (.getfield 29, 3) := by decide +kernel
theorem dX7_arms_28 : decode cX7_arms 28 = .ok (.aload_n 0, 1) := by decide +kernel
theorem dX7_arms_29 : decode cX7_arms 29 = .ok (.getfield 19, 3) := by decide +kernel
theorem dX7_arms_32 : decode cX7_arms 32 = .ok (.invokevirtual 212, 3) := by decide +kernel
theorem dX7_arms_35 : decode cX7_arms 35 = .ok (.aload_n 0, 1) := by decide +kernel
theorem dX7_arms_36 : decode cX7_arms 36 = .ok (.getfield 19, 3) := by decide +kernel
theorem dX7_arms_39 : decode cX7_arms 39 = .ok (.iload_n 1, 1) := by decide +kernel
theorem dX7_arms_40 : decode cX7_arms 40 = .ok (.iload_n 2, 1) := by decide +kernel
theorem dX7_arms_41 : decode cX7_arms 41 = .ok (.invokevirtual 138, 3) := by decide +kernel
theorem dX7_arms_44 : decode cX7_arms 44 = .ok (.pop, 1) := by decide +kernel
theorem dX7_arms_45 : decode cX7_arms 45 = .ok (.iload_n 1, 1) := by decide +kernel
theorem dX7_arms_46 : decode cX7_arms 46 = .ok (.iload_n 2, 1) := by decide +kernel
theorem dX7_arms_47 : decode cX7_arms 47 = .ok (.if_icmp .ne 7, 3) := by decide +kernel
theorem dX7_arms_50 : decode cX7_arms 50 = .ok (.iconst 1, 1) := by decide +kernel
theorem dX7_arms_51 : decode cX7_arms 51 = .ok (.goto 4, 3) := by decide +kernel
theorem dX7_arms_54 : decode cX7_arms 54 = .ok (.iconst 0, 1) := by decide +kernel
theorem dX7_arms_55 : decode cX7_arms 55 = .ok (.ireturn, 1) := by decide +kernel
set_option maxRecDepth 20000 in
theorem ggX7_weigh_X7_refuseBadSets : GoodIn wsX7_weigh wsX7_refuseBadSets := goodIn_ca (goodIn_r _ [9, 10, 11, 3, 12, 13, 14, 15, 16, 17, 113, 114, 115, 116, 117, 118, 119, 120, 121, 122, 123, 124, 125, 126, 127, 128, 129, 130, 131] (by decide +kernel) (by decide +kernel)) (goodIn_sub (fun _ h => List.mem_cons_of_mem _ (List.mem_append_right _ h)) (by decide +kernel))
