theorem dX8_coinOf_47 : decode cX8_coinOf 47 = .ok (.goto 4, 3) := by decide +kernel
theorem dX8_coinOf_50 : decode cX8_coinOf 50 = .ok (.iconst 4, 1) := by decide +kernel
theorem dX8_coinOf_51 : decode cX8_coinOf 51 = .ok (.ior, 1) := by decide +kernel
theorem dX8_coinOf_52 : decode cX8_coinOf 52 = .ok (.istore_n 2, 1) := by decide +kernel
theorem dX8_coinOf_53 : decode cX8_coinOf 53 = .ok (.iinc 3 1, 3) := by decide +kernel
theorem dX8_coinOf_56 : decode cX8_coinOf 56 = .ok (.goto (-52), 3) := by decide +kernel
theorem dX8_coinOf_59 : decode cX8_coinOf 59 = .ok (.iload_n 2, 1) := by decide +kernel
theorem dX8_coinOf_60 : decode cX8_coinOf 60 = .ok (.ireturn, 1) := by decide +kernel
theorem dX8_pansOf_0 : decode cX8_pansOf 0 = .ok (.iconst 0, 1) := by decide +kernel
theorem dX8_pansOf_1 : decode cX8_pansOf 1 = .ok (.istore_n 1, 1) := by decide +kernel
theorem dX8_pansOf_2 : decode cX8_pansOf 2 = .ok (.iconst 0, 1) := by decide +kernel
theorem dX8_pansOf_3 : decode cX8_pansOf 3 = .ok (.istore_n 2, 1) := by decide +kernel
theorem dX8_pansOf_4 : decode cX8_pansOf 4 = .ok (.iload_n 2, 1) := by decide +kernel
theorem dX8_pansOf_5 : decode cX8_pansOf 5 = .ok (.aload_n 0, 1) := by decide +kernel
theorem dX8_pansOf_6 : decode cX8_pansOf 6 = .ok (.iconst 0, 1) := by decide +kernel
theorem dX8_pansOf_7 : decode cX8_pansOf 7 = .ok (.iaload, 1) := by decide +kernel
theorem dX8_pansOf_8 : decode cX8_pansOf 8 = .ok (.invokestatic 72, 3) := by decide +kernel
theorem dX8_pansOf_11 : decode cX8_pansOf 11 = .ok (.if_icmp .ge 32, 3) := by decide +kernel
theorem dX8_pansOf_14 : decode cX8_pansOf 14 = .ok (.iload_n 1, 1) := by decide +kernel
theorem dX8_pansOf_15 : decode cX8_pansOf 15 = .ok (.aload_n 0, 1) := by decide +kernel
theorem dX8_pansOf_16 : decode cX8_pansOf 16 = .ok (.iload_n 2, 1) := by decide +kernel
theorem dX8_pansOf_17 : decode cX8_pansOf 17 = .ok (.aload_n 0, 1) := by decide +kernel
theorem dX8_pansOf_18 : decode cX8_pansOf 18 = .ok (.iconst 4, 1) := by decide +kernel
theorem dX8_pansOf_19 : decode cX8_pansOf 19 = .ok (.iaload, 1) := by decide +kernel
theorem dX8_pansOf_20 : decode cX8_pansOf 20 = .ok (.invokestatic 75, 3) := by decide +kernel
theorem dX8_pansOf_23 : decode cX8_pansOf 23 = .ok (.ifCond .eq 11, 3) := by decide +kernel
theorem dX8_pansOf_26 : decode cX8_pansOf 26 = .ok (.iconst 1, 1) := by decide +kernel
theorem dX8_pansOf_27 : decode cX8_pansOf 27 = .ok (.iload_n 2, 1) := by decide +kernel
theorem dX8_pansOf_28 : decode cX8_pansOf 28 = .ok (.iconst 3, 1) := by decide +kernel
theorem dX8_pansOf_29 : decode cX8_pansOf 29 = .ok (.irem, 1) := by decide +kernel
theorem dX8_pansOf_30 : decode cX8_pansOf 30 = .ok (.ishl, 1) := by decide +kernel
theorem dX8_pansOf_31 : decode cX8_pansOf 31 = .ok (.goto 4, 3) := by decide +kernel
theorem dX8_pansOf_34 : decode cX8_pansOf 34 = .ok (.iconst 0, 1) := by decide +kernel
theorem dX8_pansOf_35 : decode cX8_pansOf 35 = .ok (.ior, 1) := by decide +kernel
theorem dX8_pansOf_36 : decode cX8_pansOf 36 = .ok (.istore_n 1, 1) := by decide +kernel
theorem dX8_pansOf_37 : decode cX8_pansOf 37 = .ok (.iinc 2 1, 3) := by decide +kernel
theorem dX8_pansOf_40 : decode cX8_pansOf 40 = .ok (.goto (-36), 3) := by decide +kernel
theorem dX8_pansOf_43 : decode cX8_pansOf 43 = .ok (.iload_n 1, 1) := by decide +kernel
theorem dX8_pansOf_44 : decode cX8_pansOf 44 = .ok (.ireturn, 1) := by decide +kernel
theorem dX8_needsOf_0 : decode cX8_needsOf 0 = .ok (.iconst 0, 1) := by decide +kernel
theorem dX8_needsOf_1 : decode cX8_needsOf 1 = .ok (.istore_n 1, 1) := by decide +kernel
theorem dX8_needsOf_2 : decode cX8_needsOf 2 = .ok (.iconst 1, 1) := by decide +kernel
theorem dX8_needsOf_3 : decode cX8_needsOf 3 = .ok (.istore_n 2, 1) := by decide +kernel
theorem dX8_needsOf_4 : decode cX8_needsOf 4 = .ok (.aload_n 0, 1) := by decide +kernel
theorem dX8_needsOf_5 : decode cX8_needsOf 5 = .ok (.invokestatic 86, 3) := by decide +kernel
theorem dX8_needsOf_8 : decode cX8_needsOf 8 = .ok (.istore_n 3, 1) := by decide +kernel
theorem dX8_needsOf_9 : decode cX8_needsOf 9 = .ok (.iload_n 2, 1) := by decide +kernel
theorem dX8_needsOf_10 : decode cX8_needsOf 10 = .ok (.iload_n 3, 1) := by decide +kernel
theorem dX8_needsOf_11 : decode cX8_needsOf 11 = .ok (.if_icmp .ge 13, 3) := by decide +kernel
theorem dX8_needsOf_14 : decode cX8_needsOf 14 = .ok (.iload_n 2, 1) := by decide +kernel
theorem dX8_needsOf_15 : decode cX8_needsOf 15 = .ok (.iconst 3, 1) := by decide +kernel
theorem dX8_needsOf_16 : decode cX8_needsOf 16 = .ok (.imul, 1) := by decide +kernel
theorem dX8_needsOf_17 : decode cX8_needsOf 17 = .ok (.istore_n 2, 1) := by decide +kernel
theorem dX8_needsOf_18 : decode cX8_needsOf 18 = .ok (.iinc 1 1, 3) := by decide +kernel
theorem dX8_needsOf_21 : decode cX8_needsOf 21 = .ok (.goto (-12), 3) := by decide +kernel
theorem dX8_needsOf_24 : decode cX8_needsOf 24 = .ok (.iload_n 1, 1) := by decide +kernel
theorem dX8_needsOf_25 : decode cX8_needsOf 25 = .ok (.ireturn, 1) := by decide +kernel
theorem dX8_hideOn_0 : decode cX8_hideOn 0 = .ok (.aload_n 0, 1) := by decide +kernel
theorem dX8_hideOn_1 : decode cX8_hideOn 1 = .ok (.iconst 0, 1) := by decide +kernel
theorem dX8_hideOn_2 : decode cX8_hideOn 2 = .ok (.iload_n 1, 1) := by decide +kernel
theorem dX8_hideOn_3 : decode cX8_hideOn 3 = .ok (.iastore, 1) := by decide +kernel
theorem dX8_hideOn_4 : decode cX8_hideOn 4 = .ok (.aload_n 0, 1) := by decide +kernel
theorem dX8_hideOn_5 : decode cX8_hideOn 5 = .ok (.iconst 1, 1) := by decide +kernel
theorem dX8_hideOn_6 : decode cX8_hideOn 6 = .ok (.iload_n 2, 1) := by decide +kernel
theorem dX8_hideOn_7 : decode cX8_hideOn 7 = .ok (.iastore, 1) := by decide +kernel
theorem dX8_hideOn_8 : decode cX8_hideOn 8 = .ok (.aload_n 0, 1) := by decide +kernel
theorem dX8_hideOn_9 : decode cX8_hideOn 9 = .ok (.iconst 4, 1) := by decide +kernel
theorem dX8_hideOn_10 : decode cX8_hideOn 10 = .ok (.iconst 0, 1) := by decide +kernel
theorem dX8_hideOn_11 : decode cX8_hideOn 11 = .ok (.iastore, 1) := by decide +kernel
theorem dX8_hideOn_12 : decode cX8_hideOn 12 = .ok (.iload_n 1, 1) := by decide +kernel
theorem dX8_hideOn_13 : decode cX8_hideOn 13 = .ok (.invokestatic 72, 3) := by decide +kernel
theorem dX8_hideOn_16 : decode cX8_hideOn 16 = .ok (.ireturn, 1) := by decide +kernel
theorem dX8_armsOn_0 : decode cX8_armsOn 0 = .ok (.aload_n 0, 1) := by decide +kernel
theorem dX8_armsOn_1 : decode cX8_armsOn 1 = .ok (.iconst 2, 1) := by decide +kernel
theorem dX8_armsOn_2 : decode cX8_armsOn 2 = .ok (.iload_n 1, 1) := by decide +kernel
theorem dX8_armsOn_3 : decode cX8_armsOn 3 = .ok (.iastore, 1) := by decide +kernel
theorem dX8_armsOn_4 : decode cX8_armsOn 4 = .ok (.aload_n 0, 1) := by decide +kernel
theorem dX8_armsOn_5 : decode cX8_armsOn 5 = .ok (.iconst 3, 1) := by decide +kernel
theorem dX8_armsOn_6 : decode cX8_armsOn 6 = .ok (.iload_n 2, 1) := by decide +kernel
theorem dX8_armsOn_7 : decode cX8_armsOn 7 = .ok (.iastore, 1) := by decide +kernel
theorem dX8_armsOn_8 : decode cX8_armsOn 8 = .ok (.iload_n 1, 1) := by decide +kernel
theorem dX8_armsOn_9 : decode cX8_armsOn 9 = .ok (.iload_n 2, 1) := by decide +kernel
theorem dX8_armsOn_10 : decode cX8_armsOn 10 = .ok (.if_icmp .ne 7, 3) := by decide +kernel
theorem dX8_armsOn_13 : decode cX8_armsOn 13 = .ok (.iconst 1, 1) := by decide +kernel
theorem dX8_armsOn_14 : decode cX8_armsOn 14 = .ok (.goto 4, 3) := by decide +kernel
theorem dX8_armsOn_17 : decode cX8_armsOn 17 = .ok (.iconst 0, 1) := by decide +kernel
theorem dX8_armsOn_18 : decode cX8_armsOn 18 = .ok (.ireturn, 1) := by decide +kernel
theorem dX8_canWeigh_0 : decode cX8_canWeigh 0 = .ok (.aload_n 0, 1) := by decide +kernel
theorem dX8_canWeigh_1 : decode cX8_canWeigh 1 = .ok (.iload_n 1, 1) := by decide +kernel
theorem dX8_canWeigh_2 : decode cX8_canWeigh 2 = .ok (.iload_n 2, 1) := by decide +kernel
theorem dX8_canWeigh_3 : decode cX8_canWeigh 3 = .ok (.invokestatic 90, 3) := by decide +kernel
theorem dX8_canWeigh_6 : decode cX8_canWeigh 6 = .ok (.ifCond .eq 15, 3) := by decide +kernel
theorem dX8_canWeigh_9 : decode cX8_canWeigh 9 = .ok (.aload_n 0, 1) := by decide +kernel
theorem dX8_canWeigh_10 : decode cX8_canWeigh 10 = .ok (.iconst 4, 1) := by decide +kernel
theorem dX8_canWeigh_11 : decode cX8_canWeigh 11 = .ok (.iaload, 1) := by decide +kernel
theorem dX8_canWeigh_12 : decode cX8_canWeigh 12 = .ok (.bipush 20, 2) := by decide +kernel
theorem dX8_canWeigh_14 : decode cX8_canWeigh 14 = .ok (.if_icmp .ge 7, 3) := by decide +kernel
theorem dX8_canWeigh_17 : decode cX8_canWeigh 17 = .ok (.iconst 1, 1) := by decide +kernel
theorem dX8_canWeigh_18 : decode cX8_canWeigh 18 = .ok (.goto 4, 3) := by decide +kernel
theorem dX8_canWeigh_21 : decode cX8_canWeigh 21 = .ok (.iconst 0, 1) := by decide +kernel
theorem dX8_canWeigh_22 : decode cX8_canWeigh 22 = .ok (.ireturn, 1) := by decide +kernel
theorem dX8_weighOn_0 : decode cX8_weighOn 0 = .ok (.aload_n 0, 1) := by decide +kernel
theorem dX8_weighOn_1 : decode cX8_weighOn 1 = .ok (.iconst 4, 1) := by decide +kernel
theorem dX8_weighOn_2 : decode cX8_weighOn 2 = .ok (.iaload, 1) := by decide +kernel
theorem dX8_weighOn_3 : decode cX8_weighOn 3 = .ok (.invokestatic 65, 3) := by decide +kernel
theorem dX8_weighOn_6 : decode cX8_weighOn 6 = .ok (.istore_n 3, 1) := by decide +kernel
theorem dX8_weighOn_7 : decode cX8_weighOn 7 = .ok (.aload_n 0, 1) := by decide +kernel
theorem dX8_weighOn_8 : decode cX8_weighOn 8 = .ok (.iload_n 3, 1) := by decide +kernel
theorem dX8_weighOn_9 : decode cX8_weighOn 9 = .ok (.iload_n 1, 1) := by decide +kernel
theorem dX8_weighOn_10 : decode cX8_weighOn 10 = .ok (.iastore, 1) := by decide +kernel
theorem dX8_weighOn_11 : decode cX8_weighOn 11 = .ok (.aload_n 0, 1) := by decide +kernel
theorem dX8_weighOn_12 : decode cX8_weighOn 12 = .ok (.iload_n 3, 1) := by decide +kernel
theorem dX8_weighOn_13 : decode cX8_weighOn 13 = .ok (.iconst 1, 1) := by decide +kernel
theorem dX8_weighOn_14 : decode cX8_weighOn 14 = .ok (.iadd, 1) := by decide +kernel
theorem dX8_weighOn_15 : decode cX8_weighOn 15 = .ok (.iload_n 2, 1) := by decide +kernel
theorem dX8_weighOn_16 : decode cX8_weighOn 16 = .ok (.iastore, 1) := by decide +kernel
theorem dX8_weighOn_17 : decode cX8_weighOn 17 = .ok (.aload_n 0, 1) := by decide +kernel
theorem dX8_weighOn_18 : decode cX8_weighOn 18 = .ok (.iload_n 3, 1) := by decide +kernel
theorem dX8_weighOn_19 : decode cX8_weighOn 19 = .ok (.iconst 2, 1) := by decide +kernel
theorem dX8_weighOn_20 : decode cX8_weighOn 20 = .ok (.iadd, 1) := by decide +kernel
theorem dX8_weighOn_21 : decode cX8_weighOn 21 = .ok (.iload_n 1, 1) := by decide +kernel
theorem dX8_weighOn_22 : decode cX8_weighOn 22 = .ok (.iload_n 2, 1) := by decide +kernel
theorem dX8_weighOn_23 : decode cX8_weighOn 23 = .ok (.aload_n 0, 1) := by decide +kernel
theorem dX8_weighOn_24 : decode cX8_weighOn 24 = .ok (.iconst 2, 1) := by decide +kernel
theorem dX8_weighOn_25 : decode cX8_weighOn 25 = .ok (.iaload, 1) := by decide +kernel
theorem dX8_weighOn_26 : decode cX8_weighOn 26 = .ok (.aload_n 0, 1) := by decide +kernel
theorem dX8_weighOn_27 : decode cX8_weighOn 27 = .ok (.iconst 3, 1) := by decide +kernel
theorem dX8_weighOn_28 : decode cX8_weighOn 28 = .ok (.iaload, 1) := by decide +kernel
theorem dX8_weighOn_29 : decode cX8_weighOn 29 = .ok (.aload_n 0, 1) := by decide +kernel
theorem dX8_weighOn_30 : decode cX8_weighOn 30 = .ok (.iconst 1, 1) := by decide +kernel
theorem dX8_weighOn_31 : decode cX8_weighOn 31 = .ok (.iaload, 1) := by decide +kernel
theorem dX8_weighOn_32 : decode cX8_weighOn 32 = .ok (.invokestatic 68, 3) := by decide +kernel
theorem dX8_weighOn_35 : decode cX8_weighOn 35 = .ok (.iastore, 1) := by decide +kernel
theorem dX8_weighOn_36 : decode cX8_weighOn 36 = .ok (.aload_n 0, 1) := by decide +kernel
theorem dX8_weighOn_37 : decode cX8_weighOn 37 = .ok (.iload_n 3, 1) := by decide +kernel
theorem dX8_weighOn_38 : decode cX8_weighOn 38 = .ok (.iconst 3, 1) := by decide +kernel
theorem dX8_weighOn_39 : decode cX8_weighOn 39 = .ok (.iadd, 1) := by decide +kernel
theorem dX8_weighOn_40 : decode cX8_weighOn 40 = .ok (.aload_n 0, 1) := by decide +kernel
theorem dX8_weighOn_41 : decode cX8_weighOn 41 = .ok (.iconst 2, 1) := by decide +kernel
theorem dX8_weighOn_42 : decode cX8_weighOn 42 = .ok (.iaload, 1) := by decide +kernel
theorem dX8_weighOn_43 : decode cX8_weighOn 43 = .ok (.iastore, 1) := by decide +kernel
theorem dX8_weighOn_44 : decode cX8_weighOn 44 = .ok (.aload_n 0, 1) := by decide +kernel
theorem dX8_weighOn_45 : decode cX8_weighOn 45 = .ok (.iload_n 3, 1) := by decide +kernel
theorem dX8_weighOn_46 : decode cX8_weighOn 46 = .ok (.iconst 4, 1) := by decide +kernel
theorem dX8_weighOn_47 : decode cX8_weighOn 47 = .ok (.iadd, 1) := by decide +kernel
theorem dX8_weighOn_48 : decode cX8_weighOn 48 = .ok (.aload_n 0, 1) := by decide +kernel
theorem dX8_weighOn_49 : decode cX8_weighOn 49 = .ok (.iconst 3, 1) := by decide +kernel
theorem dX8_weighOn_50 : decode cX8_weighOn 50 = .ok (.iaload, 1) := by decide +kernel
theorem dX8_weighOn_51 : decode cX8_weighOn 51 = .ok (.iastore, 1) := by decide +kernel
theorem dX8_weighOn_52 : decode cX8_weighOn 52 = .ok (.aload_n 0, 1) := by decide +kernel
theorem dX8_weighOn_53 : decode cX8_weighOn 53 = .ok (.iconst 4, 1) := by decide +kernel
theorem dX8_weighOn_54 : decode cX8_weighOn 54 = .ok (.dup2, 1) := by decide +kernel
theorem dX8_weighOn_55 : decode cX8_weighOn 55 = .ok (.iaload, 1) := by decide +kernel
theorem dX8_weighOn_56 : decode cX8_weighOn 56 = .ok (.iconst 1, 1) := by decide +kernel
theorem dX8_weighOn_57 : decode cX8_weighOn 57 = .ok (.iadd, 1) := by decide +kernel
theorem dX8_weighOn_58 : decode cX8_weighOn 58 = .ok (.iastore, 1) := by decide +kernel
theorem dX8_weighOn_59 : decode cX8_weighOn 59 = .ok (.aload_n 0, 1) := by decide +kernel
theorem dX8_weighOn_60 : decode cX8_weighOn 60 = .ok (.iload_n 3, 1) := by decide +kernel
theorem dX8_weighOn_61 : decode cX8_weighOn 61 = .ok (.iconst 2, 1) := by decide +kernel
theorem dX8_weighOn_62 : decode cX8_weighOn 62 = .ok (.iadd, 1) := by decide +kernel
theorem dX8_weighOn_63 : decode cX8_weighOn 63 = .ok (.iaload, 1) := by decide +kernel
theorem dX8_weighOn_64 : decode cX8_weighOn 64 = .ok (.ireturn, 1) := by decide +kernel
theorem dX8_told_0 : decode cX8_told 0 = .ok (.aload_n 0, 1) := by decide +kernel
theorem dX8_told_1 : decode cX8_told 1 = .ok (.iload_n 1, 1) := by decide +kernel
theorem dX8_told_2 : decode cX8_told 2 = .ok (.ifCond .eq 7, 3) := by decide +kernel
theorem dX8_told_5 : decode cX8_told 5 = .ok (.iconst 5, 1) := by decide +kernel
theorem dX8_told_6 : decode cX8_told 6 = .ok (.goto 5, 3) := by decide +kernel
theorem dX8_told_9 : decode cX8_told 9 = .ok (.bipush 6, 2) := by decide +kernel
theorem dX8_told_11 : decode cX8_told 11 = .ok (.dup2, 1) := by decide +kernel
theorem dX8_told_12 : decode cX8_told 12 = .ok (.iaload, 1) := by decide +kernel
theorem dX8_told_13 : decode cX8_told 13 = .ok (.iconst 1, 1) := by decide +kernel
theorem dX8_told_14 : decode cX8_told 14 = .ok (.iadd, 1) := by decide +kernel
theorem dX8_told_15 : decode cX8_told 15 = .ok (.iastore, 1) := by decide +kernel
theorem dX8_told_16 : decode cX8_told 16 = .ok (.iload_n 1, 1) := by decide +kernel
theorem dX8_told_17 : decode cX8_told 17 = .ok (.ifCond .eq 7, 3) := by decide +kernel
theorem dX8_told_20 : decode cX8_told 20 = .ok (.iconst 1, 1) := by decide +kernel
theorem dX8_told_21 : decode cX8_told 21 = .ok (.goto 4, 3) := by decide +kernel
theorem dX8_told_24 : decode cX8_told 24 = .ok (.iconst 0, 1) := by decide +kernel
theorem dX8_told_25 : decode cX8_told 25 = .ok (.ireturn, 1) := by decide +kernel
theorem dX8_accuseOn_0 : decode cX8_accuseOn 0 = .ok (.aload_n 0, 1) := by decide +kernel
theorem dX8_accuseOn_1 : decode cX8_accuseOn 1 = .ok (.aload_n 0, 1) := by decide +kernel
theorem dX8_accuseOn_2 : decode cX8_accuseOn 2 = .ok (.iconst 1, 1) := by decide +kernel
theorem dX8_accuseOn_3 : decode cX8_accuseOn 3 = .ok (.iaload, 1) := by decide +kernel
theorem dX8_accuseOn_4 : decode cX8_accuseOn 4 = .ok (.iconst 3, 1) := by decide +kernel
theorem dX8_accuseOn_5 : decode cX8_accuseOn 5 = .ok (.idiv, 1) := by decide +kernel
theorem dX8_accuseOn_6 : decode cX8_accuseOn 6 = .ok (.iconst 2, 1) := by decide +kernel
theorem dX8_accuseOn_7 : decode cX8_accuseOn 7 = .ok (.iload_n 1, 1) := by decide +kernel
theorem dX8_accuseOn_8 : decode cX8_accuseOn 8 = .ok (.imul, 1) := by decide +kernel
theorem dX8_accuseOn_9 : decode cX8_accuseOn 9 = .ok (.iload_n 2, 1) := by decide +kernel
theorem dX8_accuseOn_10 : decode cX8_accuseOn 10 = .ok (.ifCond .eq 7, 3) := by decide +kernel
theorem dX8_accuseOn_13 : decode cX8_accuseOn 13 = .ok (.iconst 1, 1) := by decide +kernel
theorem dX8_accuseOn_14 : decode cX8_accuseOn 14 = .ok (.goto 4, 3) := by decide +kernel
theorem dX8_accuseOn_17 : decode cX8_accuseOn 17 = .ok (.iconst 0, 1) := by decide +kernel
theorem dX8_accuseOn_18 : decode cX8_accuseOn 18 = .ok (.iadd, 1) := by decide +kernel
theorem dX8_accuseOn_19 : decode cX8_accuseOn 19 = .ok (.if_icmp .ne 7, 3) := by decide +kernel
theorem dX8_accuseOn_22 : decode cX8_accuseOn 22 = .ok (.iconst 1, 1) := by decide +kernel
theorem dX8_accuseOn_23 : decode cX8_accuseOn 23 = .ok (.goto 4, 3) := by decide +kernel
theorem dX8_accuseOn_26 : decode cX8_accuseOn 26 = .ok (.iconst 0, 1) := by decide +kernel
theorem dX8_accuseOn_27 : decode cX8_accuseOn 27 = .ok (.invokestatic 93, 3) := by decide +kernel
theorem dX8_accuseOn_30 : decode cX8_accuseOn 30 = .ok (.ireturn, 1) := by decide +kernel
theorem dX8_forgetOn_0 : decode cX8_forgetOn 0 = .ok (.aload_n 0, 1) := by decide +kernel
theorem dX8_forgetOn_1 : decode cX8_forgetOn 1 = .ok (.iconst 4, 1) := by decide +kernel
theorem dX8_forgetOn_2 : decode cX8_forgetOn 2 = .ok (.dup2, 1) := by decide +kernel
theorem dX8_forgetOn_3 : decode cX8_forgetOn 3 = .ok (.iaload, 1) := by decide +kernel
theorem dX8_forgetOn_4 : decode cX8_forgetOn 4 = .ok (.iconst 1, 1) := by decide +kernel
theorem dX8_forgetOn_5 : decode cX8_forgetOn 5 = .ok (.isub, 1) := by decide +kernel
theorem dX8_forgetOn_6 : decode cX8_forgetOn 6 = .ok (.iastore, 1) := by decide +kernel
theorem dX8_forgetOn_7 : decode cX8_forgetOn 7 = .ok (.aload_n 0, 1) := by decide +kernel
theorem dX8_forgetOn_8 : decode cX8_forgetOn 8 = .ok (.iconst 4, 1) := by decide +kernel
theorem dX8_forgetOn_9 : decode cX8_forgetOn 9 = .ok (.iaload, 1) := by decide +kernel
theorem dX8_forgetOn_10 : decode cX8_forgetOn 10 = .ok (.ireturn, 1) := by decide +kernel
theorem dX8_append_0 : decode cX8_append 0 = .ok (.aload_n 0, 1) := by decide +kernel
theorem dX8_append_1 : decode cX8_append 1 = .ok (.iload_n 1, 1) := by decide +kernel
theorem dX8_append_2 : decode cX8_append 2 = .ok (.i2l, 1) := by decide +kernel
theorem dX8_append_3 : decode cX8_append 3 = .ok (.lconst 0, 1) := by decide +kernel
theorem dX8_append_4 : decode cX8_append 4 = .ok (.ldc2_w 97, 3) := by decide +kernel
theorem dX8_append_7 : decode cX8_append 7 = .ok (.invokestatic 43, 3) := by decide +kernel
theorem dX8_append_10 : decode cX8_append 10 = .ok (.ifCond .ne 7, 3) := by decide +kernel
theorem dX8_append_13 : decode cX8_append 13 = .ok (.iconst 1, 1) := by decide +kernel
theorem dX8_append_14 : decode cX8_append 14 = .ok (.goto 17, 3) := by decide +kernel
theorem dX8_append_17 : decode cX8_append 17 = .ok (.aload_n 0, 1) := by decide +kernel
theorem dX8_append_18 : decode cX8_append 18 = .ok (.getfield 99, 3) := by decide +kernel
theorem dX8_append_21 : decode cX8_append 21 = .ok (.bipush 120, 2) := by decide +kernel
theorem dX8_append_23 : decode cX8_append 23 = .ok (.if_icmp .ne 7, 3) := by decide +kernel
theorem dX8_append_26 : decode cX8_append 26 = .ok (.iconst 2, 1) := by decide +kernel
theorem dX8_append_27 : decode cX8_append 27 = .ok (.goto 4, 3) := by decide +kernel
theorem dX8_append_30 : decode cX8_append 30 = .ok (.iconst 0, 1) := by decide +kernel
theorem dX8_append_31 : decode cX8_append 31 = .ok (.invokevirtual 102, 3) := by decide +kernel
theorem dX8_append_34 : decode cX8_append 34 = .ok (.ifCond .eq 5, 3) := by decide +kernel
theorem dX8_append_37 : decode cX8_append 37 = .ok (.iconst 0, 1) := by decide +kernel
theorem dX8_append_38 : decode cX8_append 38 = .ok (.ireturn, 1) := by decide +kernel
theorem dX8_append_39 : decode cX8_append 39 = .ok (.aload_n 0, 1) := by decide +kernel
theorem dX8_append_40 : decode cX8_append 40 = .ok (.getfield 7, 3) := by decide +kernel
theorem dX8_append_43 : decode cX8_append 43 = .ok (.aload_n 0, 1) := by decide +kernel
theorem dX8_append_44 : decode cX8_append 44 = .ok (.getfield 99, 3) := by decide +kernel
theorem dX8_append_47 : decode cX8_append 47 = .ok (.iload_n 1, 1) := by decide +kernel
theorem dX8_append_48 : decode cX8_append 48 = .ok (.iastore, 1) := by decide +kernel
theorem dX8_append_49 : decode cX8_append 49 = .ok (.aload_n 0, 1) := by decide +kernel
theorem dX8_append_50 : decode cX8_append 50 = .ok (.dup, 1) := by decide +kernel
theorem dX8_append_51 : decode cX8_append 51 = .ok (.getfield 99, 3) := by decide +kernel
theorem dX8_append_54 : decode cX8_append 54 = .ok (.iconst 1, 1) := by decide +kernel
theorem dX8_append_55 : decode cX8_append 55 = .ok (.iadd, 1) := by decide +kernel
theorem dX8_append_56 : decode cX8_append 56 = .ok (.putfield 99, 3) := by decide +kernel
theorem dX8_append_59 : decode cX8_append 59 = .ok (.aload_n 0, 1) := by decide +kernel
theorem dX8_append_60 : decode cX8_append 60 = .ok (.getfield 99, 3) := by decide +kernel
theorem dX8_append_63 : decode cX8_append 63 = .ok (.ireturn, 1) := by decide +kernel
theorem dX8_clearText_0 : decode cX8_clearText 0 = .ok (.aload_n 0, 1) := by decide +kernel
theorem dX8_clearText_1 : decode cX8_clearText 1 = .ok (.iconst 0, 1) := by decide +kernel
theorem dX8_clearText_2 : decode cX8_clearText 2 = .ok (.putfield 39, 3) := by decide +kernel
theorem dX8_clearText_5 : decode cX8_clearText 5 = .ok (.aload_n 0, 1) := by decide +kernel
theorem dX8_clearText_6 : decode cX8_clearText 6 = .ok (.getfield 99, 3) := by decide +kernel
theorem dX8_clearText_9 : decode cX8_clearText 9 = .ok (.istore_n 1, 1) := by decide +kernel
theorem dX8_clearText_10 : decode cX8_clearText 10 = .ok (.aload_n 0, 1) := by decide +kernel
theorem dX8_clearText_11 : decode cX8_clearText 11 = .ok (.iconst 0, 1) := by decide +kernel
theorem dX8_clearText_12 : decode cX8_clearText 12 = .ok (.putfield 99, 3) := by decide +kernel
theorem dX8_clearText_15 : decode cX8_clearText 15 = .ok (.iload_n 1, 1) := by decide +kernel
theorem dX8_clearText_16 : decode cX8_clearText 16 = .ok (.ireturn, 1) := by decide +kernel
theorem dX8_sign_0 : decode cX8_sign 0 = .ok (.aload_n 0, 1) := by decide +kernel
theorem dX8_sign_1 : decode cX8_sign 1 = .ok (.getfield 106, 3) := by decide +kernel
theorem dX8_sign_4 : decode cX8_sign 4 = .ok (.aload_n 0, 1) := by decide +kernel
theorem dX8_sign_5 : decode cX8_sign 5 = .ok (.getfield 99, 3) := by decide +kernel
theorem dX8_sign_8 : decode cX8_sign 8 = .ok (.if_icmp .ge 15, 3) := by decide +kernel
theorem dX8_sign_11 : decode cX8_sign 11 = .ok (.aload_n 0, 1) := by decide +kernel
theorem dX8_sign_12 : decode cX8_sign 12 = .ok (.getfield 7, 3) := by decide +kernel
theorem dX8_sign_15 : decode cX8_sign 15 = .ok (.aload_n 0, 1) := by decide +kernel
theorem dX8_sign_16 : decode cX8_sign 16 = .ok (.getfield 106, 3) := by decide +kernel
theorem dX8_sign_19 : decode cX8_sign 19 = .ok (.iaload, 1) := by decide +kernel
theorem dX8_sign_20 : decode cX8_sign 20 = .ok (.goto 4, 3) := by decide +kernel
theorem dX8_sign_23 : decode cX8_sign 23 = .ok (.iconst (-1), 1) := by decide +kernel
theorem dX8_sign_24 : decode cX8_sign 24 = .ok (.ireturn, 1) := by decide +kernel
theorem dX8_figures_0 : decode cX8_figures 0 = .ok (.iconst 0, 1) := by decide +kernel
theorem dX8_figures_1 : decode cX8_figures 1 = .ok (.istore 5, 2) := by decide +kernel
theorem dX8_figures_3 : decode cX8_figures 3 = .ok (.iload_n 2, 1) := by decide +kernel
theorem dX8_figures_4 : decode cX8_figures 4 = .ok (.iconst 2, 1) := by decide +kernel
theorem dX8_figures_5 : decode cX8_figures 5 = .ok (.if_icmp .ne 8, 3) := by decide +kernel
theorem dX8_figures_8 : decode cX8_figures 8 = .ok (.bipush 10, 2) := by decide +kernel
theorem dX8_figures_10 : decode cX8_figures 10 = .ok (.goto 4, 3) := by decide +kernel
theorem dX8_figures_13 : decode cX8_figures 13 = .ok (.iconst 1, 1) := by decide +kernel
theorem dX8_figures_14 : decode cX8_figures 14 = .ok (.istore 6, 2) := by decide +kernel
theorem dX8_figures_16 : decode cX8_figures 16 = .ok (.iload 6, 2) := by decide +kernel
theorem dX8_figures_18 : decode cX8_figures 18 = .ok (.ifCond .le 84, 3) := by decide +kernel
theorem dX8_figures_21 : decode cX8_figures 21 = .ok (.iload_n 1, 1) := by decide +kernel
theorem dX8_figures_22 : decode cX8_figures 22 = .ok (.iconst (-1), 1) := by decide +kernel
theorem dX8_figures_23 : decode cX8_figures 23 = .ok (.if_icmp .eq 79, 3) := by decide +kernel
theorem dX8_figures_26 : decode cX8_figures 26 = .ok (.aload_n 0, 1) := by decide +kernel
theorem dX8_figures_27 : decode cX8_figures 27 = .ok (.invokevirtual 109, 3) := by decide +kernel
theorem dX8_figures_30 : decode cX8_figures 30 = .ok (.bipush 48, 2) := by decide +kernel
theorem dX8_figures_32 : decode cX8_figures 32 = .ok (.isub, 1) := by decide +kernel
theorem dX8_figures_33 : decode cX8_figures 33 = .ok (.istore 7, 2) := by decide +kernel
theorem dX8_figures_35 : decode cX8_figures 35 = .ok (.iload 5, 2) := by decide +kernel
theorem dX8_figures_37 : decode cX8_figures 37 = .ok (.iload 7, 2) := by decide +kernel
theorem dX8_figures_39 : decode cX8_figures 39 = .ok (.iload 6, 2) := by decide +kernel
theorem dX8_figures_41 : decode cX8_figures 41 = .ok (.imul, 1) := by decide +kernel
theorem dX8_figures_42 : decode cX8_figures 42 = .ok (.iadd, 1) := by decide +kernel
theorem dX8_figures_43 : decode cX8_figures 43 = .ok (.istore 8, 2) := by decide +kernel
theorem dX8_figures_45 : decode cX8_figures 45 = .ok (.iload 7, 2) := by decide +kernel
theorem dX8_figures_47 : decode cX8_figures 47 = .ok (.i2l, 1) := by decide +kernel
theorem dX8_figures_48 : decode cX8_figures 48 = .ok (.lconst 0, 1) := by decide +kernel
theorem dX8_figures_49 : decode cX8_figures 49 = .ok (.ldc2_w 113, 3) := by decide +kernel
theorem dX8_figures_52 : decode cX8_figures 52 = .ok (.invokestatic 43, 3) := by decide +kernel
theorem dX8_figures_55 : decode cX8_figures 55 = .ok (.ifCond .eq 21, 3) := by decide +kernel
theorem dX8_figures_58 : decode cX8_figures 58 = .ok (.iload 8, 2) := by decide +kernel
theorem dX8_figures_60 : decode cX8_figures 60 = .ok (.iload 4, 2) := by decide +kernel
theorem dX8_figures_62 : decode cX8_figures 62 = .ok (.if_icmp .gt 14, 3) := by decide +kernel
theorem dX8_figures_65 : decode cX8_figures 65 = .ok (.iload 8, 2) := by decide +kernel
theorem dX8_figures_67 : decode cX8_figures 67 = .ok (.iload 6, 2) := by decide +kernel
theorem dX8_figures_69 : decode cX8_figures 69 = .ok (.iadd, 1) := by decide +kernel
theorem dX8_figures_70 : decode cX8_figures 70 = .ok (.iconst 1, 1) := by decide +kernel
theorem dX8_figures_71 : decode cX8_figures 71 = .ok (.isub, 1) := by decide +kernel
theorem dX8_figures_72 : decode cX8_figures 72 = .ok (.iload_n 3, 1) := by decide +kernel
theorem dX8_figures_73 : decode cX8_figures 73 = .ok (.if_icmp .ge 5, 3) := by decide +kernel
theorem dX8_figures_76 : decode cX8_figures 76 = .ok (.iconst (-1), 1) := by decide +kernel
theorem dX8_figures_77 : decode cX8_figures 77 = .ok (.ireturn, 1) := by decide +kernel
theorem dX8_figures_78 : decode cX8_figures 78 = .ok (.iload 8, 2) := by decide +kernel
theorem dX8_figures_80 : decode cX8_figures 80 = .ok (.istore 5, 2) := by decide +kernel
theorem dX8_figures_82 : decode cX8_figures 82 = .ok (.aload_n 0, 1) := by decide +kernel
theorem dX8_figures_83 : decode cX8_figures 83 = .ok (.dup, 1) := by decide +kernel
theorem dX8_figures_84 : decode cX8_figures 84 = .ok (.getfield 106, 3) := by decide +kernel
theorem dX8_figures_87 : decode cX8_figures 87 = .ok (.iconst 1, 1) := by decide +kernel
theorem dX8_figures_88 : decode cX8_figures 88 = .ok (.iadd, 1) := by decide +kernel
theorem dX8_figures_89 : decode cX8_figures 89 = .ok (.putfield 106, 3) := by decide +kernel
theorem dX8_figures_92 : decode cX8_figures 92 = .ok (.iload 6, 2) := by decide +kernel
theorem dX8_figures_94 : decode cX8_figures 94 = .ok (.bipush 10, 2) := by decide +kernel
theorem dX8_figures_96 : decode cX8_figures 96 = .ok (.idiv, 1) := by decide +kernel
theorem dX8_figures_97 : decode cX8_figures 97 = .ok (.istore 6, 2) := by decide +kernel
theorem dX8_figures_99 : decode cX8_figures 99 = .ok (.goto (-83), 3) := by decide +kernel
theorem dX8_figures_102 : decode cX8_figures 102 = .ok (.iload_n 1, 1) := by decide +kernel
theorem dX8_figures_103 : decode cX8_figures 103 = .ok (.iconst (-1), 1) := by decide +kernel
theorem dX8_figures_104 : decode cX8_figures 104 = .ok (.if_icmp .ne 7, 3) := by decide +kernel
theorem dX8_figures_107 : decode cX8_figures 107 = .ok (.iconst (-1), 1) := by decide +kernel
theorem dX8_figures_108 : decode cX8_figures 108 = .ok (.goto 5, 3) := by decide +kernel
theorem dX8_figures_111 : decode cX8_figures 111 = .ok (.iload 5, 2) := by decide +kernel
theorem dX8_figures_113 : decode cX8_figures 113 = .ok (.ireturn, 1) := by decide +kernel
theorem dX8_letters_0 : decode cX8_letters 0 = .ok (.iconst 0, 1) := by decide +kernel
theorem dX8_letters_1 : decode cX8_letters 1 = .ok (.istore_n 2, 1) := by decide +kernel
theorem dX8_letters_2 : decode cX8_letters 2 = .ok (.bipush 97, 2) := by decide +kernel
theorem dX8_letters_4 : decode cX8_letters 4 = .ok (.istore_n 3, 1) := by decide +kernel
theorem dX8_letters_5 : decode cX8_letters 5 = .ok (.aload_n 0, 1) := by decide +kernel
theorem dX8_letters_6 : decode cX8_letters 6 = .ok (.invokevirtual 109, 3) := by decide +kernel
theorem dX8_letters_9 : decode cX8_letters 9 = .ok (.i2l, 1) := by decide +kernel
theorem dX8_letters_10 : decode cX8_letters 10 = .ok (.iload_n 3, 1) := by decide +kernel
theorem dX8_letters_11 : decode cX8_letters 11 = .ok (.i2l, 1) := by decide +kernel
theorem dX8_letters_12 : decode cX8_letters 12 = .ok (.ldc2_w 115, 3) := by decide +kernel
theorem dX8_letters_15 : decode cX8_letters 15 = .ok (.invokestatic 43, 3) := by decide +kernel
theorem dX8_letters_18 : decode cX8_letters 18 = .ok (.ifCond .eq 35, 3) := by decide +kernel
theorem dX8_letters_21 : decode cX8_letters 21 = .ok (.iload_n 2, 1) := by decide +kernel
theorem dX8_letters_22 : decode cX8_letters 22 = .ok (.iconst 1, 1) := by decide +kernel
theorem dX8_letters_23 : decode cX8_letters 23 = .ok (.aload_n 0, 1) := by decide +kernel
theorem dX8_letters_24 : decode cX8_letters 24 = .ok (.invokevirtual 109, 3) := by decide +kernel
theorem dX8_letters_27 : decode cX8_letters 27 = .ok (.bipush 97, 2) := by decide +kernel
theorem dX8_letters_29 : decode cX8_letters 29 = .ok (.isub, 1) := by decide +kernel
theorem dX8_letters_30 : decode cX8_letters 30 = .ok (.ishl, 1) := by decide +kernel
theorem dX8_letters_31 : decode cX8_letters 31 = .ok (.ior, 1) := by decide +kernel
theorem dX8_letters_32 : decode cX8_letters 32 = .ok (.istore_n 2, 1) := by decide +kernel
theorem dX8_letters_33 : decode cX8_letters 33 = .ok (.aload_n 0, 1) := by decide +kernel
theorem dX8_letters_34 : decode cX8_letters 34 = .ok (.invokevirtual 109, 3) := by decide +kernel
theorem dX8_letters_37 : decode cX8_letters 37 = .ok (.iconst 1, 1) := by decide +kernel
theorem dX8_letters_38 : decode cX8_letters 38 = .ok (.iadd, 1) := by decide +kernel
theorem dX8_letters_39 : decode cX8_letters 39 = .ok (.istore_n 3, 1) := by decide +kernel
theorem dX8_letters_40 : decode cX8_letters 40 = .ok (.aload_n 0, 1) := by decide +kernel
theorem dX8_letters_41 : decode cX8_letters 41 = .ok (.dup, 1) := by decide +kernel
theorem dX8_letters_42 : decode cX8_letters 42 = .ok (.getfield 106, 3) := by decide +kernel
theorem dX8_letters_45 : decode cX8_letters 45 = .ok (.iconst 1, 1) := by decide +kernel
theorem dX8_letters_46 : decode cX8_letters 46 = .ok (.iadd, 1) := by decide +kernel
theorem dX8_letters_47 : decode cX8_letters 47 = .ok (.putfield 106, 3) := by decide +kernel
theorem dX8_letters_50 : decode cX8_letters 50 = .ok (.goto (-45), 3) := by decide +kernel
theorem dX8_letters_53 : decode cX8_letters 53 = .ok (.aload_n 0, 1) := by decide +kernel
theorem dX8_letters_54 : decode cX8_letters 54 = .ok (.invokevirtual 109, 3) := by decide +kernel
theorem dX8_letters_57 : decode cX8_letters 57 = .ok (.iload_n 1, 1) := by decide +kernel
theorem dX8_letters_58 : decode cX8_letters 58 = .ok (.if_icmp .eq 5, 3) := by decide +kernel
theorem dX8_letters_61 : decode cX8_letters 61 = .ok (.iconst (-1), 1) := by decide +kernel
theorem dX8_letters_62 : decode cX8_letters 62 = .ok (.ireturn, 1) := by decide +kernel
theorem dX8_letters_63 : decode cX8_letters 63 = .ok (.aload_n 0, 1) := by decide +kernel
theorem dX8_letters_64 : decode cX8_letters 64 = .ok (.dup, 1) := by decide +kernel
theorem dX8_letters_65 : decode cX8_letters 65 = .ok (.getfield 106, 3) := by decide +kernel
theorem dX8_letters_68 : decode cX8_letters 68 = .ok (.iconst 1, 1) := by decide +kernel
theorem dX8_letters_69 : decode cX8_letters 69 = .ok (.iadd, 1) := by decide +kernel
theorem dX8_letters_70 : decode cX8_letters 70 = .ok (.putfield 106, 3) := by decide +kernel
theorem dX8_letters_73 : decode cX8_letters 73 = .ok (.iload_n 2, 1) := by decide +kernel
theorem dX8_letters_74 : decode cX8_letters 74 = .ok (.ireturn, 1) := by decide +kernel
theorem dX8_done_0 : decode cX8_done 0 = .ok (.aload_n 0, 1) := by decide +kernel
theorem dX8_done_1 : decode cX8_done 1 = .ok (.dup, 1) := by decide +kernel
theorem dX8_done_2 : decode cX8_done 2 = .ok (.getfield 117, 3) := by decide +kernel
theorem dX8_done_5 : decode cX8_done 5 = .ok (.iload_n 1, 1) := by decide +kernel
theorem dX8_done_6 : decode cX8_done 6 = .ok (.ifCond .eq 7, 3) := by decide +kernel
theorem dX8_done_9 : decode cX8_done 9 = .ok (.iconst 0, 1) := by decide +kernel
theorem dX8_done_10 : decode cX8_done 10 = .ok (.goto 4, 3) := by decide +kernel
theorem dX8_done_13 : decode cX8_done 13 = .ok (.iconst 1, 1) := by decide +kernel
theorem dX8_done_14 : decode cX8_done 14 = .ok (.iadd, 1) := by decide +kernel
theorem dX8_done_15 : decode cX8_done 15 = .ok (.putfield 117, 3) := by decide +kernel
theorem dX8_done_18 : decode cX8_done 18 = .ok (.iconst 1, 1) := by decide +kernel
theorem dX8_done_19 : decode cX8_done 19 = .ok (.ireturn, 1) := by decide +kernel
theorem dX8_readCommand_0 : decode cX8_readCommand 0 = .ok (.aload_n 0, 1) := by decide +kernel
theorem dX8_readCommand_1 : decode cX8_readCommand 1 = .ok (.invokevirtual 109, 3) := by decide +kernel
theorem dX8_readCommand_4 : decode cX8_readCommand 4 = .ok (.lookupswitch 164 #[(97, 102), (119, 28)], 28) := by decide +kernel
theorem dX8_readCommand_32 : decode cX8_readCommand 32 = .ok (.aload_n 0, 1) := by decide +kernel
theorem dX8_readCommand_33 : decode cX8_readCommand 33 = .ok (.dup, 1) := by decide +kernel
theorem dX8_readCommand_34 : decode cX8_readCommand 34 = .ok (.getfield 106, 3) := by decide +kernel
theorem dX8_readCommand_37 : decode cX8_readCommand 37 = .ok (.iconst 1, 1) := by decide +kernel
theorem dX8_readCommand_38 : decode cX8_readCommand 38 = .ok (.iadd, 1) := by decide +kernel
theorem dX8_readCommand_39 : decode cX8_readCommand 39 = .ok (.putfield 106, 3) := by decide +kernel
theorem dX8_readCommand_42 : decode cX8_readCommand 42 = .ok (.aload_n 0, 1) := by decide +kernel
theorem dX8_readCommand_43 : decode cX8_readCommand 43 = .ok (.bipush 118, 2) := by decide +kernel
theorem dX8_readCommand_45 : decode cX8_readCommand 45 = .ok (.invokevirtual 120, 3) := by decide +kernel
theorem dX8_readCommand_48 : decode cX8_readCommand 48 = .ok (.istore_n 2, 1) := by decide +kernel
theorem dX8_readCommand_49 : decode cX8_readCommand 49 = .ok (.iload_n 2, 1) := by decide +kernel
theorem dX8_readCommand_50 : decode cX8_readCommand 50 = .ok (.iconst (-1), 1) := by decide +kernel
theorem dX8_readCommand_51 : decode cX8_readCommand 51 = .ok (.if_icmp .ne 7, 3) := by decide +kernel
theorem dX8_readCommand_54 : decode cX8_readCommand 54 = .ok (.iconst (-1), 1) := by decide +kernel
theorem dX8_readCommand_55 : decode cX8_readCommand 55 = .ok (.goto 9, 3) := by decide +kernel
theorem dX8_readCommand_58 : decode cX8_readCommand 58 = .ok (.aload_n 0, 1) := by decide +kernel
theorem dX8_readCommand_59 : decode cX8_readCommand 59 = .ok (.bipush 46, 2) := by decide +kernel
theorem dX8_readCommand_61 : decode cX8_readCommand 61 = .ok (.invokevirtual 120, 3) := by decide +kernel
theorem dX8_readCommand_64 : decode cX8_readCommand 64 = .ok (.istore_n 3, 1) := by decide +kernel
theorem dX8_readCommand_65 : decode cX8_readCommand 65 = .ok (.iload_n 3, 1) := by decide +kernel
theorem dX8_readCommand_66 : decode cX8_readCommand 66 = .ok (.iconst (-1), 1) := by decide +kernel
theorem dX8_readCommand_67 : decode cX8_readCommand 67 = .ok (.if_icmp .eq 37, 3) := by decide +kernel
theorem dX8_readCommand_70 : decode cX8_readCommand 70 = .ok (.aload_n 0, 1) := by decide +kernel
theorem dX8_readCommand_71 : decode cX8_readCommand 71 = .ok (.aload_n 1, 1) := by decide +kernel
theorem dX8_readCommand_72 : decode cX8_readCommand 72 = .ok (.iload_n 2, 1) := by decide +kernel
theorem dX8_readCommand_73 : decode cX8_readCommand 73 = .ok (.iload_n 3, 1) := by decide +kernel
theorem dX8_readCommand_74 : decode cX8_readCommand 74 = .ok (.invokestatic 123, 3) := by decide +kernel
theorem dX8_readCommand_77 : decode cX8_readCommand 77 = .ok (.ifCond .eq 16, 3) := by decide +kernel
theorem dX8_readCommand_80 : decode cX8_readCommand 80 = .ok (.aload_n 1, 1) := by decide +kernel
theorem dX8_readCommand_81 : decode cX8_readCommand 81 = .ok (.iload_n 2, 1) := by decide +kernel
theorem dX8_readCommand_82 : decode cX8_readCommand 82 = .ok (.iload_n 3, 1) := by decide +kernel
theorem dX8_readCommand_83 : decode cX8_readCommand 83 = .ok (.invokestatic 126, 3) := by decide +kernel
theorem dX8_readCommand_86 : decode cX8_readCommand 86 = .ok (.ifCond .lt 7, 3) := by decide +kernel
theorem dX8_readCommand_89 : decode cX8_readCommand 89 = .ok (.iconst 1, 1) := by decide +kernel
theorem dX8_readCommand_90 : decode cX8_readCommand 90 = .ok (.goto 4, 3) := by decide +kernel
theorem dX8_readCommand_93 : decode cX8_readCommand 93 = .ok (.iconst 0, 1) := by decide +kernel
theorem dX8_readCommand_94 : decode cX8_readCommand 94 = .ok (.invokevirtual 130, 3) := by decide +kernel
theorem dX8_readCommand_97 : decode cX8_readCommand 97 = .ok (.ifCond .eq 7, 3) := by decide +kernel
theorem dX8_readCommand_100 : decode cX8_readCommand 100 = .ok (.iconst 1, 1) := by decide +kernel
theorem dX8_readCommand_101 : decode cX8_readCommand 101 = .ok (.goto 4, 3) := by decide +kernel
theorem dX8_readCommand_104 : decode cX8_readCommand 104 = .ok (.iconst 0, 1) := by decide +kernel
theorem dX8_readCommand_105 : decode cX8_readCommand 105 = .ok (.ireturn, 1) := by decide +kernel
theorem dX8_readCommand_106 : decode cX8_readCommand 106 = .ok (.aload_n 0, 1) := by decide +kernel
theorem dX8_readCommand_107 : decode cX8_readCommand 107 = .ok (.dup, 1) := by decide +kernel
theorem dX8_readCommand_108 : decode cX8_readCommand 108 = .ok (.getfield 106, 3) := by decide +kernel
theorem dX8_readCommand_111 : decode cX8_readCommand 111 = .ok (.iconst 1, 1) := by decide +kernel
theorem dX8_readCommand_112 : decode cX8_readCommand 112 = .ok (.iadd, 1) := by decide +kernel
theorem dX8_readCommand_113 : decode cX8_readCommand 113 = .ok (.putfield 106, 3) := by decide +kernel
theorem dX8_readCommand_116 : decode cX8_readCommand 116 = .ok (.aload_n 0, 1) := by decide +kernel
theorem dX8_readCommand_117 : decode cX8_readCommand 117 = .ok (.iconst 0, 1) := by decide +kernel
theorem dX8_readCommand_118 : decode cX8_readCommand 118 = .ok (.iconst 2, 1) := by decide +kernel
theorem dX8_readCommand_119 : decode cX8_readCommand 119 = .ok (.iconst 1, 1) := by decide +kernel
theorem dX8_readCommand_120 : decode cX8_readCommand 120 = .ok (.bipush 20, 2) := by decide +kernel
theorem dX8_readCommand_122 : decode cX8_readCommand 122 = .ok (.invokevirtual 134, 3) := by decide +kernel
theorem dX8_readCommand_125 : decode cX8_readCommand 125 = .ok (.istore_n 2, 1) := by decide +kernel
theorem dX8_readCommand_126 : decode cX8_readCommand 126 = .ok (.aload_n 0, 1) := by decide +kernel
theorem dX8_readCommand_127 : decode cX8_readCommand 127 = .ok (.iload_n 2, 1) := by decide +kernel
theorem dX8_readCommand_128 : decode cX8_readCommand 128 = .ok (.iconst 2, 1) := by decide +kernel
theorem dX8_readCommand_129 : decode cX8_readCommand 129 = .ok (.iconst 1, 1) := by decide +kernel
theorem dX8_readCommand_130 : decode cX8_readCommand 130 = .ok (.bipush 20, 2) := by decide +kernel
theorem dX8_readCommand_132 : decode cX8_readCommand 132 = .ok (.invokevirtual 134, 3) := by decide +kernel
theorem dX8_readCommand_135 : decode cX8_readCommand 135 = .ok (.istore_n 3, 1) := by decide +kernel
theorem dX8_readCommand_136 : decode cX8_readCommand 136 = .ok (.iload_n 3, 1) := by decide +kernel
theorem dX8_readCommand_137 : decode cX8_readCommand 137 = .ok (.iconst (-1), 1) := by decide +kernel
theorem dX8_readCommand_138 : decode cX8_readCommand 138 = .ok (.if_icmp .eq 28, 3) := by decide +kernel
theorem dX8_readCommand_141 : decode cX8_readCommand 141 = .ok (.aload_n 0, 1) := by decide +kernel
theorem dX8_readCommand_142 : decode cX8_readCommand 142 = .ok (.aload_n 1, 1) := by decide +kernel
theorem dX8_readCommand_143 : decode cX8_readCommand 143 = .ok (.iload_n 2, 1) := by decide +kernel
theorem dX8_readCommand_144 : decode cX8_readCommand 144 = .ok (.iload_n 3, 1) := by decide +kernel
theorem dX8_readCommand_145 : decode cX8_readCommand 145 = .ok (.invokestatic 138, 3) := by decide +kernel
theorem dX8_readCommand_148 : decode cX8_readCommand 148 = .ok (.ifCond .lt 7, 3) := by decide +kernel
theorem dX8_readCommand_151 : decode cX8_readCommand 151 = .ok (.iconst 1, 1) := by decide +kernel
theorem dX8_readCommand_152 : decode cX8_readCommand 152 = .ok (.goto 4, 3) := by decide +kernel
theorem dX8_readCommand_155 : decode cX8_readCommand 155 = .ok (.iconst 0, 1) := by decide +kernel
theorem dX8_readCommand_156 : decode cX8_readCommand 156 = .ok (.invokevirtual 130, 3) := by decide +kernel
theorem dX8_readCommand_159 : decode cX8_readCommand 159 = .ok (.ifCond .eq 7, 3) := by decide +kernel
theorem dX8_readCommand_162 : decode cX8_readCommand 162 = .ok (.iconst 1, 1) := by decide +kernel
theorem dX8_readCommand_163 : decode cX8_readCommand 163 = .ok (.goto 4, 3) := by decide +kernel
theorem dX8_readCommand_166 : decode cX8_readCommand 166 = .ok (.iconst 0, 1) := by decide +kernel
theorem dX8_readCommand_167 : decode cX8_readCommand 167 = .ok (.ireturn, 1) := by decide +kernel
theorem dX8_readCommand_168 : decode cX8_readCommand 168 = .ok (.iconst 0, 1) := by decide +kernel
theorem dX8_readCommand_169 : decode cX8_readCommand 169 = .ok (.ireturn, 1) := by decide +kernel
theorem dX8_readCase_0 : decode cX8_readCase 0 = .ok (.aload_n 0, 1) := by decide +kernel
theorem dX8_readCase_1 : decode cX8_readCase 1 = .ok (.iconst 0, 1) := by decide +kernel
theorem dX8_readCase_2 : decode cX8_readCase 2 = .ok (.iconst 2, 1) := by decide +kernel
theorem dX8_readCase_3 : decode cX8_readCase 3 = .ok (.iconst 3, 1) := by decide +kernel
theorem dX8_readCase_4 : decode cX8_readCase 4 = .ok (.bipush 12, 2) := by decide +kernel
theorem dX8_readCase_6 : decode cX8_readCase 6 = .ok (.invokevirtual 134, 3) := by decide +kernel
theorem dX8_readCase_9 : decode cX8_readCase 9 = .ok (.istore_n 2, 1) := by decide +kernel
theorem dX8_readCase_10 : decode cX8_readCase 10 = .ok (.aload_n 0, 1) := by decide +kernel
theorem dX8_readCase_11 : decode cX8_readCase 11 = .ok (.iload_n 2, 1) := by decide +kernel
theorem dX8_readCase_12 : decode cX8_readCase 12 = .ok (.iconst 2, 1) := by decide +kernel
theorem dX8_readCase_13 : decode cX8_readCase 13 = .ok (.iconst 0, 1) := by decide +kernel
theorem dX8_readCase_14 : decode cX8_readCase 14 = .ok (.bipush 11, 2) := by decide +kernel
theorem dX8_readCase_16 : decode cX8_readCase 16 = .ok (.invokevirtual 134, 3) := by decide +kernel
theorem dX8_readCase_19 : decode cX8_readCase 19 = .ok (.istore_n 3, 1) := by decide +kernel
theorem dX8_readCase_20 : decode cX8_readCase 20 = .ok (.iload_n 3, 1) := by decide +kernel
theorem dX8_readCase_21 : decode cX8_readCase 21 = .ok (.iconst (-1), 1) := by decide +kernel
theorem dX8_readCase_22 : decode cX8_readCase 22 = .ok (.if_icmp .ne 7, 3) := by decide +kernel
theorem dX8_readCase_25 : decode cX8_readCase 25 = .ok (.iconst (-1), 1) := by decide +kernel
theorem dX8_readCase_26 : decode cX8_readCase 26 = .ok (.goto 43, 3) := by decide +kernel
theorem dX8_readCase_29 : decode cX8_readCase 29 = .ok (.aload_n 0, 1) := by decide +kernel
theorem dX8_readCase_30 : decode cX8_readCase 30 = .ok (.invokevirtual 109, 3) := by decide +kernel
theorem dX8_readCase_33 : decode cX8_readCase 33 = .ok (.bipush 108, 2) := by decide +kernel
theorem dX8_readCase_35 : decode cX8_readCase 35 = .ok (.if_icmp .ne 7, 3) := by decide +kernel
theorem dX8_readCase_38 : decode cX8_readCase 38 = .ok (.iconst 0, 1) := by decide +kernel
theorem dX8_readCase_39 : decode cX8_readCase 39 = .ok (.goto 30, 3) := by decide +kernel
theorem dX8_readCase_42 : decode cX8_readCase 42 = .ok (.aload_n 0, 1) := by decide +kernel
theorem dX8_readCase_43 : decode cX8_readCase 43 = .ok (.invokevirtual 109, 3) := by decide +kernel
theorem dX8_readCase_46 : decode cX8_readCase 46 = .ok (.bipush 104, 2) := by decide +kernel
theorem dX8_readCase_48 : decode cX8_readCase 48 = .ok (.if_icmp .ne 7, 3) := by decide +kernel
theorem dX8_readCase_51 : decode cX8_readCase 51 = .ok (.iconst 1, 1) := by decide +kernel
theorem dX8_readCase_52 : decode cX8_readCase 52 = .ok (.goto 17, 3) := by decide +kernel
theorem dX8_readCase_55 : decode cX8_readCase 55 = .ok (.aload_n 0, 1) := by decide +kernel
theorem dX8_readCase_56 : decode cX8_readCase 56 = .ok (.invokevirtual 109, 3) := by decide +kernel
theorem dX8_readCase_59 : decode cX8_readCase 59 = .ok (.bipush 116, 2) := by decide +kernel
theorem dX8_readCase_61 : decode cX8_readCase 61 = .ok (.if_icmp .ne 7, 3) := by decide +kernel
theorem dX8_readCase_64 : decode cX8_readCase 64 = .ok (.iconst 2, 1) := by decide +kernel
theorem dX8_readCase_65 : decode cX8_readCase 65 = .ok (.goto 4, 3) := by decide +kernel
theorem dX8_readCase_68 : decode cX8_readCase 68 = .ok (.iconst (-1), 1) := by decide +kernel
theorem dX8_readCase_69 : decode cX8_readCase 69 = .ok (.istore 4, 2) := by decide +kernel
theorem dX8_readCase_71 : decode cX8_readCase 71 = .ok (.aload_n 0, 1) := by decide +kernel
theorem dX8_readCase_72 : decode cX8_readCase 72 = .ok (.dup, 1) := by decide +kernel
theorem dX8_readCase_73 : decode cX8_readCase 73 = .ok (.getfield 106, 3) := by decide +kernel
theorem dX8_readCase_76 : decode cX8_readCase 76 = .ok (.iload 4, 2) := by decide +kernel
theorem dX8_readCase_78 : decode cX8_readCase 78 = .ok (.iconst (-1), 1) := by decide +kernel
theorem dX8_readCase_79 : decode cX8_readCase 79 = .ok (.if_icmp .ne 7, 3) := by decide +kernel
theorem dX8_readCase_82 : decode cX8_readCase 82 = .ok (.iconst 0, 1) := by decide +kernel
theorem dX8_readCase_83 : decode cX8_readCase 83 = .ok (.goto 4, 3) := by decide +kernel
theorem dX8_readCase_86 : decode cX8_readCase 86 = .ok (.iconst 1, 1) := by decide +kernel
theorem dX8_readCase_87 : decode cX8_readCase 87 = .ok (.iadd, 1) := by decide +kernel
theorem dX8_readCase_88 : decode cX8_readCase 88 = .ok (.putfield 106, 3) := by decide +kernel
theorem dX8_readCase_91 : decode cX8_readCase 91 = .ok (.aload_n 0, 1) := by decide +kernel
theorem dX8_readCase_92 : decode cX8_readCase 92 = .ok (.iload 4, 2) := by decide +kernel
theorem dX8_readCase_94 : decode cX8_readCase 94 = .ok (.iconst 1, 1) := by decide +kernel
theorem dX8_readCase_95 : decode cX8_readCase 95 = .ok (.iconst 0, 1) := by decide +kernel
theorem dX8_readCase_96 : decode cX8_readCase 96 = .ok (.iconst 2, 1) := by decide +kernel
theorem dX8_readCase_97 : decode cX8_readCase 97 = .ok (.invokevirtual 134, 3) := by decide +kernel
theorem dX8_readCase_100 : decode cX8_readCase 100 = .ok (.istore 5, 2) := by decide +kernel
theorem dX8_readCase_102 : decode cX8_readCase 102 = .ok (.iload 5, 2) := by decide +kernel
theorem dX8_readCase_104 : decode cX8_readCase 104 = .ok (.iconst (-1), 1) := by decide +kernel
theorem dX8_readCase_105 : decode cX8_readCase 105 = .ok (.if_icmp .ne 5, 3) := by decide +kernel
theorem dX8_readCase_108 : decode cX8_readCase 108 = .ok (.iconst 0, 1) := by decide +kernel
theorem dX8_readCase_109 : decode cX8_readCase 109 = .ok (.ireturn, 1) := by decide +kernel
theorem dX8_readCase_110 : decode cX8_readCase 110 = .ok (.aload_n 1, 1) := by decide +kernel
theorem dX8_readCase_111 : decode cX8_readCase 111 = .ok (.iload_n 2, 1) := by decide +kernel
theorem dX8_readCase_112 : decode cX8_readCase 112 = .ok (.iconst 3, 1) := by decide +kernel
theorem dX8_readCase_113 : decode cX8_readCase 113 = .ok (.iload 4, 2) := by decide +kernel
theorem dX8_readCase_115 : decode cX8_readCase 115 = .ok (.iconst 2, 1) := by decide +kernel
theorem dX8_readCase_116 : decode cX8_readCase 116 = .ok (.if_icmp .eq 8, 3) := by decide +kernel
theorem dX8_readCase_119 : decode cX8_readCase 119 = .ok (.iload_n 3, 1) := by decide +kernel
theorem dX8_readCase_120 : decode cX8_readCase 120 = .ok (.iload_n 2, 1) := by decide +kernel
theorem dX8_readCase_121 : decode cX8_readCase 121 = .ok (.if_icmp .lt 9, 3) := by decide +kernel
theorem dX8_readCase_124 : decode cX8_readCase 124 = .ok (.iconst 2, 1) := by decide +kernel
theorem dX8_readCase_125 : decode cX8_readCase 125 = .ok (.iload_n 2, 1) := by decide +kernel
theorem dX8_readCase_126 : decode cX8_readCase 126 = .ok (.imul, 1) := by decide +kernel
theorem dX8_readCase_127 : decode cX8_readCase 127 = .ok (.goto 9, 3) := by decide +kernel
theorem dX8_readCase_130 : decode cX8_readCase 130 = .ok (.iconst 2, 1) := by decide +kernel
theorem dX8_readCase_131 : decode cX8_readCase 131 = .ok (.iload_n 3, 1) := by decide +kernel
theorem dX8_readCase_132 : decode cX8_readCase 132 = .ok (.imul, 1) := by decide +kernel
theorem dX8_readCase_133 : decode cX8_readCase 133 = .ok (.iload 4, 2) := by decide +kernel
theorem dX8_readCase_135 : decode cX8_readCase 135 = .ok (.iadd, 1) := by decide +kernel
theorem dX8_readCase_136 : decode cX8_readCase 136 = .ok (.imul, 1) := by decide +kernel
theorem dX8_readCase_137 : decode cX8_readCase 137 = .ok (.iload 5, 2) := by decide +kernel
theorem dX8_readCase_139 : decode cX8_readCase 139 = .ok (.iadd, 1) := by decide +kernel
theorem dX8_readCase_140 : decode cX8_readCase 140 = .ok (.invokestatic 141, 3) := by decide +kernel
theorem dX8_readCase_143 : decode cX8_readCase 143 = .ok (.pop, 1) := by decide +kernel
theorem dX8_readCase_144 : decode cX8_readCase 144 = .ok (.iconst 1, 1) := by decide +kernel
theorem dX8_readCase_145 : decode cX8_readCase 145 = .ok (.ireturn, 1) := by decide +kernel
theorem dX8_readText_0 : decode cX8_readText 0 = .ok (.aload_n 1, 1) := by decide +kernel
theorem dX8_readText_1 : decode cX8_readText 1 = .ok (.invokestatic 35, 3) := by decide +kernel
theorem dX8_readText_4 : decode cX8_readText 4 = .ok (.aload_n 0, 1) := by decide +kernel
theorem dX8_readText_5 : decode cX8_readText 5 = .ok (.iconst 0, 1) := by decide +kernel
theorem dX8_readText_6 : decode cX8_readText 6 = .ok (.putfield 117, 3) := by decide +kernel
theorem dX8_readText_9 : decode cX8_readText 9 = .ok (.aload_n 0, 1) := by decide +kernel
theorem dX8_readText_10 : decode cX8_readText 10 = .ok (.iconst 0, 1) := by decide +kernel
theorem dX8_readText_11 : decode cX8_readText 11 = .ok (.putfield 106, 3) := by decide +kernel
theorem dX8_readText_14 : decode cX8_readText 14 = .ok (.aload_n 0, 1) := by decide +kernel
theorem dX8_readText_15 : decode cX8_readText 15 = .ok (.invokevirtual 109, 3) := by decide +kernel
theorem dX8_readText_18 : decode cX8_readText 18 = .ok (.bipush 80, 2) := by decide +kernel
theorem dX8_readText_20 : decode cX8_readText 20 = .ok (.if_icmp .eq 5, 3) := by decide +kernel
theorem dX8_readText_23 : decode cX8_readText 23 = .ok (.iconst 0, 1) := by decide +kernel
theorem dX8_readText_24 : decode cX8_readText 24 = .ok (.ireturn, 1) := by decide +kernel
theorem dX8_readText_25 : decode cX8_readText 25 = .ok (.aload_n 0, 1) := by decide +kernel
theorem dX8_readText_26 : decode cX8_readText 26 = .ok (.iconst 1, 1) := by decide +kernel
theorem dX8_readText_27 : decode cX8_readText 27 = .ok (.putfield 106, 3) := by decide +kernel
theorem dX8_readText_30 : decode cX8_readText 30 = .ok (.aload_n 0, 1) := by decide +kernel
theorem dX8_readText_31 : decode cX8_readText 31 = .ok (.aload_n 1, 1) := by decide +kernel
theorem dX8_readText_32 : decode cX8_readText 32 = .ok (.invokevirtual 144, 3) := by decide +kernel
theorem dX8_readText_35 : decode cX8_readText 35 = .ok (.ifCond .ne 8, 3) := by decide +kernel
theorem dX8_readText_38 : decode cX8_readText 38 = .ok (.aload_n 0, 1) := by decide +kernel
theorem dX8_readText_39 : decode cX8_readText 39 = .ok (.getfield 106, 3) := by decide +kernel
theorem dX8_readText_42 : decode cX8_readText 42 = .ok (.ireturn, 1) := by decide +kernel
theorem dX8_readText_43 : decode cX8_readText 43 = .ok (.aload_n 0, 1) := by decide +kernel
theorem dX8_readText_44 : decode cX8_readText 44 = .ok (.getfield 106, 3) := by decide +kernel
theorem dX8_readText_47 : decode cX8_readText 47 = .ok (.aload_n 0, 1) := by decide +kernel
theorem dX8_readText_48 : decode cX8_readText 48 = .ok (.getfield 99, 3) := by decide +kernel
theorem dX8_readText_51 : decode cX8_readText 51 = .ok (.if_icmp .ge 16, 3) := by decide +kernel
theorem dX8_readText_54 : decode cX8_readText 54 = .ok (.aload_n 0, 1) := by decide +kernel
theorem dX8_readText_55 : decode cX8_readText 55 = .ok (.aload_n 1, 1) := by decide +kernel
theorem dX8_readText_56 : decode cX8_readText 56 = .ok (.invokevirtual 148, 3) := by decide +kernel
theorem dX8_readText_59 : decode cX8_readText 59 = .ok (.ifCond .ne (-16), 3) := by decide +kernel
theorem dX8_readText_62 : decode cX8_readText 62 = .ok (.aload_n 0, 1) := by decide +kernel
theorem dX8_readText_63 : decode cX8_readText 63 = .ok (.getfield 106, 3) := by decide +kernel
theorem dX8_readText_66 : decode cX8_readText 66 = .ok (.ireturn, 1) := by decide +kernel
theorem dX8_readText_67 : decode cX8_readText 67 = .ok (.iconst (-1), 1) := by decide +kernel
theorem dX8_readText_68 : decode cX8_readText 68 = .ok (.ireturn, 1) := by decide +kernel
theorem dX8_errorPosition_0 : decode cX8_errorPosition 0 = .ok (.aload_n 0, 1) := by decide +kernel
theorem dX8_errorPosition_1 : decode cX8_errorPosition 1 = .ok (.iconst 0, 1) := by decide +kernel
theorem dX8_errorPosition_2 : decode cX8_errorPosition 2 = .ok (.putfield 39, 3) := by decide +kernel
theorem dX8_errorPosition_5 : decode cX8_errorPosition 5 = .ok (.aload_n 0, 1) := by decide +kernel
theorem dX8_errorPosition_6 : decode cX8_errorPosition 6 = .ok (.aload_n 0, 1) := by decide +kernel
theorem dX8_errorPosition_7 : decode cX8_errorPosition 7 = .ok (.getfield 16, 3) := by decide +kernel
theorem dX8_errorPosition_10 : decode cX8_errorPosition 10 = .ok (.invokevirtual 151, 3) := by decide +kernel
theorem dX8_errorPosition_13 : decode cX8_errorPosition 13 = .ok (.ireturn, 1) := by decide +kernel
theorem dX8_load_0 : decode cX8_load 0 = .ok (.aload_n 0, 1) := by decide +kernel
theorem dX8_load_1 : decode cX8_load 1 = .ok (.aload_n 0, 1) := by decide +kernel
theorem dX8_load_2 : decode cX8_load 2 = .ok (.aload_n 0, 1) := by decide +kernel
theorem dX8_load_3 : decode cX8_load 3 = .ok (.getfield 16, 3) := by decide +kernel
theorem dX8_load_6 : decode cX8_load 6 = .ok (.invokevirtual 151, 3) := by decide +kernel
theorem dX8_load_9 : decode cX8_load 9 = .ok (.iconst (-1), 1) := by decide +kernel
theorem dX8_load_10 : decode cX8_load 10 = .ok (.if_icmp .ne 7, 3) := by decide +kernel
theorem dX8_load_13 : decode cX8_load 13 = .ok (.iconst 0, 1) := by decide +kernel
theorem dX8_load_14 : decode cX8_load 14 = .ok (.goto 4, 3) := by decide +kernel
theorem dX8_load_17 : decode cX8_load 17 = .ok (.iconst 1, 1) := by decide +kernel
theorem dX8_load_18 : decode cX8_load 18 = .ok (.invokevirtual 102, 3) := by decide +kernel
theorem dX8_load_21 : decode cX8_load 21 = .ok (.ifCond .eq 5, 3) := by decide +kernel
theorem dX8_load_24 : decode cX8_load 24 = .ok (.iconst 0, 1) := by decide +kernel
theorem dX8_load_25 : decode cX8_load 25 = .ok (.ireturn, 1) := by decide +kernel
theorem dX8_load_26 : decode cX8_load 26 = .ok (.aload_n 0, 1) := by decide +kernel
theorem dX8_load_27 : decode cX8_load 27 = .ok (.getfield 16, 3) := by decide +kernel
theorem dX8_load_30 : decode cX8_load 30 = .ok (.iconst 0, 1) := by decide +kernel
theorem dX8_load_31 : decode cX8_load 31 = .ok (.aload_n 0, 1) := by decide +kernel
theorem dX8_load_32 : decode cX8_load 32 = .ok (.getfield 13, 3) := by decide +kernel
theorem dX8_load_35 : decode cX8_load 35 = .ok (.iconst 0, 1) := by decide +kernel
theorem dX8_load_36 : decode cX8_load 36 = .ok (.invokestatic 154, 3) := by decide +kernel
theorem dX8_load_39 : decode cX8_load 39 = .ok (.aload_n 0, 1) := by decide +kernel
theorem dX8_load_40 : decode cX8_load 40 = .ok (.iconst 0, 1) := by decide +kernel
theorem dX8_load_41 : decode cX8_load 41 = .ok (.putfield 158, 3) := by decide +kernel
theorem dX8_load_44 : decode cX8_load 44 = .ok (.aload_n 0, 1) := by decide +kernel
theorem dX8_load_45 : decode cX8_load 45 = .ok (.getfield 25, 3) := by decide +kernel
theorem dX8_load_48 : decode cX8_load 48 = .ok (.iconst 0, 1) := by decide +kernel
theorem dX8_load_49 : decode cX8_load 49 = .ok (.iconst 0, 1) := by decide +kernel
theorem dX8_load_50 : decode cX8_load 50 = .ok (.bastore, 1) := by decide +kernel
theorem dX8_load_51 : decode cX8_load 51 = .ok (.aload_n 0, 1) := by decide +kernel
theorem dX8_load_52 : decode cX8_load 52 = .ok (.getfield 25, 3) := by decide +kernel
theorem dX8_load_55 : decode cX8_load 55 = .ok (.iconst 1, 1) := by decide +kernel
theorem dX8_load_56 : decode cX8_load 56 = .ok (.iconst 0, 1) := by decide +kernel
theorem dX8_load_57 : decode cX8_load 57 = .ok (.bastore, 1) := by decide +kernel
theorem dX8_load_58 : decode cX8_load 58 = .ok (.aload_n 0, 1) := by decide +kernel
theorem dX8_load_59 : decode cX8_load 59 = .ok (.getfield 117, 3) := by decide +kernel
theorem dX8_load_62 : decode cX8_load 62 = .ok (.ireturn, 1) := by decide +kernel
theorem dX8_about_0 : decode cX8_about 0 = .ok (.aload_n 0, 1) := by decide +kernel
theorem dX8_about_1 : decode cX8_about 1 = .ok (.iload_n 1, 1) := by decide +kernel
theorem dX8_about_2 : decode cX8_about 2 = .ok (.i2l, 1) := by decide +kernel
theorem dX8_about_3 : decode cX8_about 3 = .ok (.lconst 0, 1) := by decide +kernel
theorem dX8_about_4 : decode cX8_about 4 = .ok (.ldc2_w 161, 3) := by decide +kernel
theorem dX8_about_7 : decode cX8_about 7 = .ok (.invokestatic 43, 3) := by decide +kernel
theorem dX8_about_10 : decode cX8_about 10 = .ok (.ifCond .eq 7, 3) := by decide +kernel
theorem dX8_about_13 : decode cX8_about 13 = .ok (.iconst 0, 1) := by decide +kernel
theorem dX8_about_14 : decode cX8_about 14 = .ok (.goto 4, 3) := by decide +kernel
theorem dX8_about_17 : decode cX8_about 17 = .ok (.iconst 1, 1) := by decide +kernel
theorem dX8_about_18 : decode cX8_about 18 = .ok (.invokevirtual 102, 3) := by decide +kernel
theorem dX8_about_21 : decode cX8_about 21 = .ok (.ifCond .eq 5, 3) := by decide +kernel
theorem dX8_about_24 : decode cX8_about 24 = .ok (.iconst 0, 1) := by decide +kernel
theorem dX8_about_25 : decode cX8_about 25 = .ok (.ireturn, 1) := by decide +kernel
theorem dX8_about_26 : decode cX8_about 26 = .ok (.iload_n 1, 1) := by decide +kernel
theorem dX8_about_27 : decode cX8_about 27 = .ok (.tableswitch 133 0 6 #[41, 48, 58, 66, 73, 73, 82], 41) := by decide +kernel
theorem dX8_about_68 : decode cX8_about 68 = .ok (.aload_n 0, 1) := by decide +kernel
theorem dX8_about_69 : decode cX8_about 69 = .ok (.getfield 13, 3) := by decide +kernel
theorem dX8_about_72 : decode cX8_about 72 = .ok (.iconst 0, 1) := by decide +kernel
theorem dX8_about_73 : decode cX8_about 73 = .ok (.iaload, 1) := by decide +kernel
theorem dX8_about_74 : decode cX8_about 74 = .ok (.ireturn, 1) := by decide +kernel
theorem dX8_about_75 : decode cX8_about 75 = .ok (.aload_n 0, 1) := by decide +kernel
theorem dX8_about_76 : decode cX8_about 76 = .ok (.getfield 13, 3) := by decide +kernel
theorem dX8_about_79 : decode cX8_about 79 = .ok (.iconst 0, 1) := by decide +kernel
theorem dX8_about_80 : decode cX8_about 80 = .ok (.iaload, 1) := by decide +kernel
theorem dX8_about_81 : decode cX8_about 81 = .ok (.invokestatic 72, 3) := by decide +kernel
theorem dX8_about_84 : decode cX8_about 84 = .ok (.ireturn, 1) := by decide +kernel
theorem dX8_about_85 : decode cX8_about 85 = .ok (.aload_n 0, 1) := by decide +kernel
theorem dX8_about_86 : decode cX8_about 86 = .ok (.getfield 13, 3) := by decide +kernel
theorem dX8_about_89 : decode cX8_about 89 = .ok (.invokestatic 86, 3) := by decide +kernel
theorem dX8_about_92 : decode cX8_about 92 = .ok (.ireturn, 1) := by decide +kernel
theorem dX8_about_93 : decode cX8_about 93 = .ok (.aload_n 0, 1) := by decide +kernel
theorem dX8_about_94 : decode cX8_about 94 = .ok (.getfield 13, 3) := by decide +kernel
theorem dX8_about_97 : decode cX8_about 97 = .ok (.iconst 4, 1) := by decide +kernel
theorem dX8_about_98 : decode cX8_about 98 = .ok (.iaload, 1) := by decide +kernel
theorem dX8_about_99 : decode cX8_about 99 = .ok (.ireturn, 1) := by decide +kernel
theorem dX8_about_100 : decode cX8_about 100 = .ok (.aload_n 0, 1) := by decide +kernel
theorem dX8_about_101 : decode cX8_about 101 = .ok (.getfield 13, 3) := by decide +kernel
theorem dX8_about_104 : decode cX8_about 104 = .ok (.iload_n 1, 1) := by decide +kernel
theorem dX8_about_105 : decode cX8_about 105 = .ok (.iconst 2, 1) := by decide +kernel
theorem dX8_about_106 : decode cX8_about 106 = .ok (.isub, 1) := by decide +kernel
theorem dX8_about_107 : decode cX8_about 107 = .ok (.iaload, 1) := by decide +kernel
theorem dX8_about_108 : decode cX8_about 108 = .ok (.ireturn, 1) := by decide +kernel
theorem dX8_about_109 : decode cX8_about 109 = .ok (.iconst 0, 1) := by decide +kernel
theorem dX8_about_110 : decode cX8_about 110 = .ok (.istore_n 2, 1) := by decide +kernel
theorem dX8_about_111 : decode cX8_about 111 = .ok (.iconst 0, 1) := by decide +kernel
theorem dX8_about_112 : decode cX8_about 112 = .ok (.istore_n 3, 1) := by decide +kernel
theorem dX8_about_113 : decode cX8_about 113 = .ok (.iload_n 3, 1) := by decide +kernel
theorem dX8_about_114 : decode cX8_about 114 = .ok (.aload_n 0, 1) := by decide +kernel
theorem dX8_about_115 : decode cX8_about 115 = .ok (.getfield 13, 3) := by decide +kernel
theorem dX8_about_118 : decode cX8_about 118 = .ok (.iconst 4, 1) := by decide +kernel
theorem dX8_about_119 : decode cX8_about 119 = .ok (.iaload, 1) := by decide +kernel
theorem dX8_about_120 : decode cX8_about 120 = .ok (.if_icmp .ge 38, 3) := by decide +kernel
theorem dX8_about_123 : decode cX8_about 123 = .ok (.iload_n 2, 1) := by decide +kernel
theorem dX8_about_124 : decode cX8_about 124 = .ok (.aload_n 0, 1) := by decide +kernel
theorem dX8_about_125 : decode cX8_about 125 = .ok (.getfield 13, 3) := by decide +kernel
theorem dX8_about_128 : decode cX8_about 128 = .ok (.iload_n 3, 1) := by decide +kernel
theorem dX8_about_129 : decode cX8_about 129 = .ok (.invokestatic 79, 3) := by decide +kernel
theorem dX8_about_132 : decode cX8_about 132 = .ok (.aload_n 0, 1) := by decide +kernel
theorem dX8_about_133 : decode cX8_about 133 = .ok (.getfield 13, 3) := by decide +kernel
theorem dX8_about_136 : decode cX8_about 136 = .ok (.iload_n 3, 1) := by decide +kernel
theorem dX8_about_137 : decode cX8_about 137 = .ok (.iconst 1, 1) := by decide +kernel
theorem dX8_about_138 : decode cX8_about 138 = .ok (.iadd, 1) := by decide +kernel
theorem dX8_about_139 : decode cX8_about 139 = .ok (.invokestatic 79, 3) := by decide +kernel
theorem dX8_about_142 : decode cX8_about 142 = .ok (.if_icmp .ne 7, 3) := by decide +kernel
theorem dX8_about_145 : decode cX8_about 145 = .ok (.iconst 1, 1) := by decide +kernel
theorem dX8_about_146 : decode cX8_about 146 = .ok (.goto 4, 3) := by decide +kernel
theorem dX8_about_149 : decode cX8_about 149 = .ok (.iconst 0, 1) := by decide +kernel
theorem dX8_about_150 : decode cX8_about 150 = .ok (.iadd, 1) := by decide +kernel
theorem dX8_about_151 : decode cX8_about 151 = .ok (.istore_n 2, 1) := by decide +kernel
theorem dX8_about_152 : decode cX8_about 152 = .ok (.iinc 3 1, 3) := by decide +kernel
theorem dX8_about_155 : decode cX8_about 155 = .ok (.goto (-42), 3) := by decide +kernel
theorem dX8_about_158 : decode cX8_about 158 = .ok (.iload_n 2, 1) := by decide +kernel
theorem dX8_about_159 : decode cX8_about 159 = .ok (.ireturn, 1) := by decide +kernel
theorem dX8_about_160 : decode cX8_about 160 = .ok (.aload_n 0, 1) := by decide +kernel
theorem dX8_about_161 : decode cX8_about 161 = .ok (.getfield 13, 3) := by decide +kernel
theorem dX8_about_164 : decode cX8_about 164 = .ok (.iload_n 1, 1) := by decide +kernel
theorem dX8_about_165 : decode cX8_about 165 = .ok (.iconst 2, 1) := by decide +kernel
theorem dX8_about_166 : decode cX8_about 166 = .ok (.isub, 1) := by decide +kernel
theorem dX8_about_167 : decode cX8_about 167 = .ok (.iaload, 1) := by decide +kernel
theorem dX8_about_168 : decode cX8_about 168 = .ok (.ireturn, 1) := by decide +kernel
theorem dX8_coin_0 : decode cX8_coin 0 = .ok (.aload_n 0, 1) := by decide +kernel
theorem dX8_coin_1 : decode cX8_coin 1 = .ok (.aload_n 0, 1) := by decide +kernel
theorem dX8_coin_2 : decode cX8_coin 2 = .ok (.getfield 13, 3) := by decide +kernel
theorem dX8_coin_5 : decode cX8_coin 5 = .ok (.iload_n 1, 1) := by decide +kernel
theorem dX8_coin_6 : decode cX8_coin 6 = .ok (.invokestatic 163, 3) := by decide +kernel
theorem dX8_coin_9 : decode cX8_coin 9 = .ok (.ifCond .eq 7, 3) := by decide +kernel
theorem dX8_coin_12 : decode cX8_coin 12 = .ok (.iconst 0, 1) := by decide +kernel
theorem dX8_coin_13 : decode cX8_coin 13 = .ok (.goto 4, 3) := by decide +kernel
theorem dX8_coin_16 : decode cX8_coin 16 = .ok (.iconst 1, 1) := by decide +kernel
theorem dX8_coin_17 : decode cX8_coin 17 = .ok (.invokevirtual 102, 3) := by decide +kernel
theorem dX8_coin_20 : decode cX8_coin 20 = .ok (.ifCond .eq 5, 3) := by decide +kernel
theorem dX8_coin_23 : decode cX8_coin 23 = .ok (.iconst 0, 1) := by decide +kernel
theorem dX8_coin_24 : decode cX8_coin 24 = .ok (.ireturn, 1) := by decide +kernel
theorem dX8_coin_25 : decode cX8_coin 25 = .ok (.aload_n 0, 1) := by decide +kernel
theorem dX8_coin_26 : decode cX8_coin 26 = .ok (.getfield 13, 3) := by decide +kernel
theorem dX8_coin_29 : decode cX8_coin 29 = .ok (.iload_n 1, 1) := by decide +kernel
theorem dX8_coin_30 : decode cX8_coin 30 = .ok (.invokestatic 166, 3) := by decide +kernel
theorem dX8_coin_33 : decode cX8_coin 33 = .ok (.ireturn, 1) := by decide +kernel
theorem dX8_pans_0 : decode cX8_pans 0 = .ok (.aload_n 0, 1) := by decide +kernel
theorem dX8_pans_1 : decode cX8_pans 1 = .ok (.iconst 0, 1) := by decide +kernel
theorem dX8_pans_2 : decode cX8_pans 2 = .ok (.putfield 39, 3) := by decide +kernel
theorem dX8_pans_5 : decode cX8_pans 5 = .ok (.aload_n 0, 1) := by decide +kernel
theorem dX8_pans_6 : decode cX8_pans 6 = .ok (.getfield 13, 3) := by decide +kernel
theorem dX8_pans_9 : decode cX8_pans 9 = .ok (.invokestatic 169, 3) := by decide +kernel
theorem dX8_pans_12 : decode cX8_pans 12 = .ok (.ireturn, 1) := by decide +kernel
theorem dX8_isLeft_0 : decode cX8_isLeft 0 = .ok (.aload_n 0, 1) := by decide +kernel
theorem dX8_isLeft_1 : decode cX8_isLeft 1 = .ok (.iload_n 1, 1) := by decide +kernel
theorem dX8_isLeft_2 : decode cX8_isLeft 2 = .ok (.i2l, 1) := by decide +kernel
theorem dX8_isLeft_3 : decode cX8_isLeft 3 = .ok (.lconst 0, 1) := by decide +kernel
theorem dX8_isLeft_4 : decode cX8_isLeft 4 = .ok (.aload_n 0, 1) := by decide +kernel
theorem dX8_isLeft_5 : decode cX8_isLeft 5 = .ok (.getfield 13, 3) := by decide +kernel
theorem dX8_isLeft_8 : decode cX8_isLeft 8 = .ok (.iconst 0, 1) := by decide +kernel
theorem dX8_isLeft_9 : decode cX8_isLeft 9 = .ok (.iaload, 1) := by decide +kernel
theorem dX8_isLeft_10 : decode cX8_isLeft 10 = .ok (.invokestatic 72, 3) := by decide +kernel
theorem dX8_isLeft_13 : decode cX8_isLeft 13 = .ok (.iconst 1, 1) := by decide +kernel
theorem dX8_isLeft_14 : decode cX8_isLeft 14 = .ok (.isub, 1) := by decide +kernel
theorem dX8_isLeft_15 : decode cX8_isLeft 15 = .ok (.i2l, 1) := by decide +kernel
theorem dX8_isLeft_16 : decode cX8_isLeft 16 = .ok (.invokestatic 43, 3) := by decide +kernel
theorem dX8_isLeft_19 : decode cX8_isLeft 19 = .ok (.ifCond .eq 7, 3) := by decide +kernel
theorem dX8_isLeft_22 : decode cX8_isLeft 22 = .ok (.iconst 0, 1) := by decide +kernel
theorem dX8_isLeft_23 : decode cX8_isLeft 23 = .ok (.goto 4, 3) := by decide +kernel
theorem dX8_isLeft_26 : decode cX8_isLeft 26 = .ok (.iconst 1, 1) := by decide +kernel
theorem dX8_isLeft_27 : decode cX8_isLeft 27 = .ok (.invokevirtual 102, 3) := by decide +kernel
theorem dX8_isLeft_30 : decode cX8_isLeft 30 = .ok (.ifCond .eq 5, 3) := by decide +kernel
theorem dX8_isLeft_33 : decode cX8_isLeft 33 = .ok (.iconst 0, 1) := by decide +kernel
theorem dX8_isLeft_34 : decode cX8_isLeft 34 = .ok (.ireturn, 1) := by decide +kernel
theorem dX8_isLeft_35 : decode cX8_isLeft 35 = .ok (.aload_n 0, 1) := by decide +kernel
theorem dX8_isLeft_36 : decode cX8_isLeft 36 = .ok (.getfield 13, 3) := by decide +kernel
theorem dX8_isLeft_39 : decode cX8_isLeft 39 = .ok (.iload_n 1, 1) := by decide +kernel
theorem dX8_isLeft_40 : decode cX8_isLeft 40 = .ok (.aload_n 0, 1) := by decide +kernel
theorem dX8_isLeft_41 : decode cX8_isLeft 41 = .ok (.getfield 13, 3) := by decide +kernel
theorem dX8_isLeft_44 : decode cX8_isLeft 44 = .ok (.iconst 4, 1) := by decide +kernel
theorem dX8_isLeft_45 : decode cX8_isLeft 45 = .ok (.iaload, 1) := by decide +kernel
theorem dX8_isLeft_46 : decode cX8_isLeft 46 = .ok (.invokestatic 75, 3) := by decide +kernel
theorem dX8_isLeft_49 : decode cX8_isLeft 49 = .ok (.ifCond .eq 7, 3) := by decide +kernel
theorem dX8_isLeft_52 : decode cX8_isLeft 52 = .ok (.iconst 1, 1) := by decide +kernel
theorem dX8_isLeft_53 : decode cX8_isLeft 53 = .ok (.goto 4, 3) := by decide +kernel
theorem dX8_isLeft_56 : decode cX8_isLeft 56 = .ok (.iconst 0, 1) := by decide +kernel
theorem dX8_isLeft_57 : decode cX8_isLeft 57 = .ok (.ireturn, 1) := by decide +kernel
theorem dX8_weighing_0 : decode cX8_weighing 0 = .ok (.aload_n 0, 1) := by decide +kernel
theorem dX8_weighing_1 : decode cX8_weighing 1 = .ok (.iload_n 1, 1) := by decide +kernel
theorem dX8_weighing_2 : decode cX8_weighing 2 = .ok (.i2l, 1) := by decide +kernel
theorem dX8_weighing_3 : decode cX8_weighing 3 = .ok (.lconst 0, 1) := by decide +kernel
theorem dX8_weighing_4 : decode cX8_weighing 4 = .ok (.aload_n 0, 1) := by decide +kernel
theorem dX8_weighing_5 : decode cX8_weighing 5 = .ok (.getfield 13, 3) := by decide +kernel
theorem dX8_weighing_8 : decode cX8_weighing 8 = .ok (.iconst 4, 1) := by decide +kernel
theorem dX8_weighing_9 : decode cX8_weighing 9 = .ok (.iaload, 1) := by decide +kernel
theorem dX8_weighing_10 : decode cX8_weighing 10 = .ok (.iconst 1, 1) := by decide +kernel
theorem dX8_weighing_11 : decode cX8_weighing 11 = .ok (.isub, 1) := by decide +kernel
theorem dX8_weighing_12 : decode cX8_weighing 12 = .ok (.i2l, 1) := by decide +kernel
theorem dX8_weighing_13 : decode cX8_weighing 13 = .ok (.invokestatic 43, 3) := by decide +kernel
theorem dX8_weighing_16 : decode cX8_weighing 16 = .ok (.ifCond .ne 7, 3) := by decide +kernel
theorem dX8_weighing_19 : decode cX8_weighing 19 = .ok (.iconst 1, 1) := by decide +kernel
theorem dX8_weighing_20 : decode cX8_weighing 20 = .ok (.goto 20, 3) := by decide +kernel
theorem dX8_weighing_23 : decode cX8_weighing 23 = .ok (.iload_n 2, 1) := by decide +kernel
theorem dX8_weighing_24 : decode cX8_weighing 24 = .ok (.i2l, 1) := by decide +kernel
theorem dX8_weighing_25 : decode cX8_weighing 25 = .ok (.lconst 0, 1) := by decide +kernel
theorem dX8_weighing_26 : decode cX8_weighing 26 = .ok (.ldc2_w 172, 3) := by decide +kernel
theorem dX8_weighing_29 : decode cX8_weighing 29 = .ok (.invokestatic 43, 3) := by decide +kernel
theorem dX8_weighing_32 : decode cX8_weighing 32 = .ok (.ifCond .eq 7, 3) := by decide +kernel
theorem dX8_weighing_35 : decode cX8_weighing 35 = .ok (.iconst 0, 1) := by decide +kernel
theorem dX8_weighing_36 : decode cX8_weighing 36 = .ok (.goto 4, 3) := by decide +kernel
theorem dX8_weighing_39 : decode cX8_weighing 39 = .ok (.iconst 2, 1) := by decide +kernel
theorem dX8_weighing_40 : decode cX8_weighing 40 = .ok (.invokevirtual 102, 3) := by decide +kernel
theorem dX8_weighing_43 : decode cX8_weighing 43 = .ok (.ifCond .eq 5, 3) := by decide +kernel
theorem dX8_weighing_46 : decode cX8_weighing 46 = .ok (.iconst 0, 1) := by decide +kernel
theorem dX8_weighing_47 : decode cX8_weighing 47 = .ok (.ireturn, 1) := by decide +kernel
theorem dX8_weighing_48 : decode cX8_weighing 48 = .ok (.iload_n 2, 1) := by decide +kernel
theorem dX8_weighing_49 : decode cX8_weighing 49 = .ok (.iconst 5, 1) := by decide +kernel
theorem dX8_weighing_50 : decode cX8_weighing 50 = .ok (.if_icmp .ne 16, 3) := by decide +kernel
theorem dX8_weighing_53 : decode cX8_weighing 53 = .ok (.aload_n 0, 1) := by decide +kernel
theorem dX8_weighing_54 : decode cX8_weighing 54 = .ok (.getfield 13, 3) := by decide +kernel
theorem dX8_weighing_57 : decode cX8_weighing 57 = .ok (.iload_n 1, 1) := by decide +kernel
theorem dX8_weighing_58 : decode cX8_weighing 58 = .ok (.iconst 1, 1) := by decide +kernel
theorem dX8_weighing_59 : decode cX8_weighing 59 = .ok (.iadd, 1) := by decide +kernel
theorem dX8_weighing_60 : decode cX8_weighing 60 = .ok (.invokestatic 79, 3) := by decide +kernel
theorem dX8_weighing_63 : decode cX8_weighing 63 = .ok (.goto 14, 3) := by decide +kernel
theorem dX8_weighing_66 : decode cX8_weighing 66 = .ok (.aload_n 0, 1) := by decide +kernel
theorem dX8_weighing_67 : decode cX8_weighing 67 = .ok (.getfield 13, 3) := by decide +kernel
theorem dX8_weighing_70 : decode cX8_weighing 70 = .ok (.iload_n 1, 1) := by decide +kernel
theorem dX8_weighing_71 : decode cX8_weighing 71 = .ok (.invokestatic 65, 3) := by decide +kernel
theorem dX8_weighing_74 : decode cX8_weighing 74 = .ok (.iload_n 2, 1) := by decide +kernel
theorem dX8_weighing_75 : decode cX8_weighing 75 = .ok (.iadd, 1) := by decide +kernel
theorem dX8_weighing_76 : decode cX8_weighing 76 = .ok (.iaload, 1) := by decide +kernel
theorem dX8_weighing_77 : decode cX8_weighing 77 = .ok (.ireturn, 1) := by decide +kernel
theorem dX8_remember_0 : decode cX8_remember 0 = .ok (.aload_n 0, 1) := by decide +kernel
theorem dX8_remember_1 : decode cX8_remember 1 = .ok (.getfield 158, 3) := by decide +kernel
theorem dX8_remember_4 : decode cX8_remember 4 = .ok (.bipush 14, 2) := by decide +kernel
theorem dX8_remember_6 : decode cX8_remember 6 = .ok (.if_icmp .ne 43, 3) := by decide +kernel
theorem dX8_remember_9 : decode cX8_remember 9 = .ok (.iconst 0, 1) := by decide +kernel
theorem dX8_remember_10 : decode cX8_remember 10 = .ok (.istore_n 1, 1) := by decide +kernel
theorem dX8_remember_11 : decode cX8_remember 11 = .ok (.iload_n 1, 1) := by decide +kernel
theorem dX8_remember_12 : decode cX8_remember 12 = .ok (.sipush 1391, 3) := by decide +kernel
theorem dX8_remember_15 : decode cX8_remember 15 = .ok (.if_icmp .ge 24, 3) := by decide +kernel
theorem dX8_remember_18 : decode cX8_remember 18 = .ok (.aload_n 0, 1) := by decide +kernel
theorem dX8_remember_19 : decode cX8_remember 19 = .ok (.getfield 19, 3) := by decide +kernel
theorem dX8_remember_22 : decode cX8_remember 22 = .ok (.iload_n 1, 1) := by decide +kernel
theorem dX8_remember_23 : decode cX8_remember 23 = .ok (.aload_n 0, 1) := by decide +kernel
theorem dX8_remember_24 : decode cX8_remember 24 = .ok (.getfield 19, 3) := by decide +kernel
theorem dX8_remember_27 : decode cX8_remember 27 = .ok (.iload_n 1, 1) := by decide +kernel
theorem dX8_remember_28 : decode cX8_remember 28 = .ok (.bipush 107, 2) := by decide +kernel
theorem dX8_remember_30 : decode cX8_remember 30 = .ok (.iadd, 1) := by decide +kernel
theorem dX8_remember_31 : decode cX8_remember 31 = .ok (.iaload, 1) := by decide +kernel
theorem dX8_remember_32 : decode cX8_remember 32 = .ok (.iastore, 1) := by decide +kernel
theorem dX8_remember_33 : decode cX8_remember 33 = .ok (.iinc 1 1, 3) := by decide +kernel
theorem dX8_remember_36 : decode cX8_remember 36 = .ok (.goto (-25), 3) := by decide +kernel
theorem dX8_remember_39 : decode cX8_remember 39 = .ok (.aload_n 0, 1) := by decide +kernel
theorem dX8_remember_40 : decode cX8_remember 40 = .ok (.dup, 1) := by decide +kernel
theorem dX8_remember_41 : decode cX8_remember 41 = .ok (.getfield 158, 3) := by decide +kernel
theorem dX8_remember_44 : decode cX8_remember 44 = .ok (.iconst 1, 1) := by decide +kernel
theorem dX8_remember_45 : decode cX8_remember 45 = .ok (.isub, 1) := by decide +kernel
theorem dX8_remember_46 : decode cX8_remember 46 = .ok (.putfield 158, 3) := by decide +kernel
theorem dX8_remember_49 : decode cX8_remember 49 = .ok (.aload_n 0, 1) := by decide +kernel
theorem dX8_remember_50 : decode cX8_remember 50 = .ok (.getfield 13, 3) := by decide +kernel
theorem dX8_remember_53 : decode cX8_remember 53 = .ok (.iconst 0, 1) := by decide +kernel
theorem dX8_remember_54 : decode cX8_remember 54 = .ok (.aload_n 0, 1) := by decide +kernel
theorem dX8_remember_55 : decode cX8_remember 55 = .ok (.getfield 19, 3) := by decide +kernel
theorem dX8_remember_58 : decode cX8_remember 58 = .ok (.bipush 107, 2) := by decide +kernel
theorem dX8_remember_60 : decode cX8_remember 60 = .ok (.aload_n 0, 1) := by decide +kernel
theorem dX8_remember_61 : decode cX8_remember 61 = .ok (.getfield 158, 3) := by decide +kernel
theorem dX8_remember_64 : decode cX8_remember 64 = .ok (.imul, 1) := by decide +kernel
theorem dX8_remember_65 : decode cX8_remember 65 = .ok (.invokestatic 154, 3) := by decide +kernel
theorem dX8_remember_68 : decode cX8_remember 68 = .ok (.aload_n 0, 1) := by decide +kernel
theorem dX8_remember_69 : decode cX8_remember 69 = .ok (.dup, 1) := by decide +kernel
theorem dX8_remember_70 : decode cX8_remember 70 = .ok (.getfield 158, 3) := by decide +kernel
theorem dX8_remember_73 : decode cX8_remember 73 = .ok (.iconst 1, 1) := by decide +kernel
theorem dX8_remember_74 : decode cX8_remember 74 = .ok (.iadd, 1) := by decide +kernel
theorem dX8_remember_75 : decode cX8_remember 75 = .ok (.putfield 158, 3) := by decide +kernel
theorem dX8_remember_78 : decode cX8_remember 78 = .ok (.return_, 1) := by decide +kernel
theorem dX8_hide_0 : decode cX8_hide 0 = .ok (.aload_n 0, 1) := by decide +kernel
theorem dX8_hide_1 : decode cX8_hide 1 = .ok (.iload_n 1, 1) := by decide +kernel
theorem dX8_hide_2 : decode cX8_hide 2 = .ok (.invokestatic 174, 3) := by decide +kernel
theorem dX8_hide_5 : decode cX8_hide 5 = .ok (.ifCond .ne 7, 3) := by decide +kernel
theorem dX8_hide_8 : decode cX8_hide 8 = .ok (.iconst 2, 1) := by decide +kernel
theorem dX8_hide_9 : decode cX8_hide 9 = .ok (.goto 24, 3) := by decide +kernel
theorem dX8_hide_12 : decode cX8_hide 12 = .ok (.iload_n 2, 1) := by decide +kernel
theorem dX8_hide_13 : decode cX8_hide 13 = .ok (.i2l, 1) := by decide +kernel
theorem dX8_hide_14 : decode cX8_hide 14 = .ok (.lconst 0, 1) := by decide +kernel
theorem dX8_hide_15 : decode cX8_hide 15 = .ok (.iload_n 1, 1) := by decide +kernel
theorem dX8_hide_16 : decode cX8_hide 16 = .ok (.invokestatic 72, 3) := by decide +kernel
theorem dX8_hide_19 : decode cX8_hide 19 = .ok (.iconst 1, 1) := by decide +kernel
theorem dX8_hide_20 : decode cX8_hide 20 = .ok (.isub, 1) := by decide +kernel
theorem dX8_hide_21 : decode cX8_hide 21 = .ok (.i2l, 1) := by decide +kernel
theorem dX8_hide_22 : decode cX8_hide 22 = .ok (.invokestatic 43, 3) := by decide +kernel
theorem dX8_hide_25 : decode cX8_hide 25 = .ok (.ifCond .eq 7, 3) := by decide +kernel
theorem dX8_hide_28 : decode cX8_hide 28 = .ok (.iconst 0, 1) := by decide +kernel
theorem dX8_hide_29 : decode cX8_hide 29 = .ok (.goto 4, 3) := by decide +kernel
theorem dX8_hide_32 : decode cX8_hide 32 = .ok (.iconst 1, 1) := by decide +kernel
theorem dX8_hide_33 : decode cX8_hide 33 = .ok (.invokevirtual 102, 3) := by decide +kernel
theorem dX8_hide_36 : decode cX8_hide 36 = .ok (.ifCond .eq 5, 3) := by decide +kernel
theorem dX8_hide_39 : decode cX8_hide 39 = .ok (.iconst 0, 1) := by decide +kernel
theorem dX8_hide_40 : decode cX8_hide 40 = .ok (.ireturn, 1) := by decide +kernel
theorem dX8_hide_41 : decode cX8_hide 41 = .ok (.aload_n 0, 1) := by decide +kernel
theorem dX8_hide_42 : decode cX8_hide 42 = .ok (.invokevirtual 177, 3) := by decide +kernel
theorem dX8_hide_45 : decode cX8_hide 45 = .ok (.aload_n 0, 1) := by decide +kernel
theorem dX8_hide_46 : decode cX8_hide 46 = .ok (.getfield 13, 3) := by decide +kernel
theorem dX8_hide_49 : decode cX8_hide 49 = .ok (.iload_n 1, 1) := by decide +kernel
theorem dX8_hide_50 : decode cX8_hide 50 = .ok (.iload_n 2, 1) := by decide +kernel
theorem dX8_hide_51 : decode cX8_hide 51 = .ok (.invokestatic 141, 3) := by decide +kernel
theorem dX8_hide_54 : decode cX8_hide 54 = .ok (.ireturn, 1) := by decide +kernel
theorem dX8_arms_0 : decode cX8_arms 0 = .ok (.aload_n 0, 1) := by decide +kernel
theorem dX8_arms_1 : decode cX8_arms 1 = .ok (.iload_n 1, 1) := by decide +kernel
theorem dX8_arms_2 : decode cX8_arms 2 = .ok (.iload_n 2, 1) := by decide +kernel
theorem dX8_arms_3 : decode cX8_arms 3 = .ok (.invokestatic 180, 3) := by decide +kernel
theorem dX8_arms_6 : decode cX8_arms 6 = .ok (.ifCond .eq 7, 3) := by decide +kernel
theorem dX8_arms_9 : decode cX8_arms 9 = .ok (.iconst 0, 1) := by decide +kernel
theorem dX8_arms_10 : decode cX8_arms 10 = .ok (.goto 4, 3) := by decide +kernel
theorem dX8_arms_13 : decode cX8_arms 13 = .ok (.iconst 1, 1) := by decide +kernel
theorem dX8_arms_14 : decode cX8_arms 14 = .ok (.invokevirtual 102, 3) := by decide +kernel
theorem dX8_arms_17 : decode cX8_arms 17 = .ok (.ifCond .eq 5, 3) := by decide +kernel
theorem dX8_arms_20 : decode cX8_arms 20 = .ok (.iconst 0, 1) := by decide +kernel
theorem dX8_arms_21 : decode cX8_arms 21 = .ok (.ireturn, 1) := by decide +kernel
theorem dX8_arms_22 : decode cX8_arms 22 = .ok (.aload_n 0, 1) := by decide +kernel
theorem dX8_arms_23 : decode cX8_arms 23 = .ok (.invokevirtual 177, 3) := by decide +kernel
theorem dX8_arms_26 : decode cX8_arms 26 = .ok (.aload_n 0, 1) := by decide +kernel
theorem dX8_arms_27 : decode cX8_arms 27 = .ok (.getfield 13, 3) := by decide +kernel
theorem dX8_arms_30 : decode cX8_arms 30 = .ok (.iload_n 1, 1) := by decide +kernel
theorem dX8_arms_31 : decode cX8_arms 31 = .ok (.iload_n 2, 1) := by decide +kernel
theorem dX8_arms_32 : decode cX8_arms 32 = .ok (.invokestatic 138, 3) := by decide +kernel
theorem dX8_arms_35 : decode cX8_arms 35 = .ok (.ireturn, 1) := by decide +kernel
theorem dX8_weigh_0 : decode cX8_weigh 0 = .ok (.aload_n 0, 1) := by decide +kernel
theorem dX8_weigh_1 : decode cX8_weigh 1 = .ok (.aload_n 0, 1) := by decide +kernel
theorem dX8_weigh_2 : decode cX8_weigh 2 = .ok (.getfield 13, 3) := by decide +kernel
theorem dX8_weigh_5 : decode cX8_weigh 5 = .ok (.iload_n 1, 1) := by decide +kernel
theorem dX8_weigh_6 : decode cX8_weigh 6 = .ok (.iload_n 2, 1) := by decide +kernel
theorem dX8_weigh_7 : decode cX8_weigh 7 = .ok (.invokestatic 90, 3) := by decide +kernel
theorem dX8_weigh_10 : decode cX8_weigh 10 = .ok (.ifCond .ne 7, 3) := by decide +kernel
theorem dX8_weigh_13 : decode cX8_weigh 13 = .ok (.iconst 1, 1) := by decide +kernel
theorem dX8_weigh_14 : decode cX8_weigh 14 = .ok (.goto 20, 3) := by decide +kernel
theorem dX8_weigh_17 : decode cX8_weigh 17 = .ok (.aload_n 0, 1) := by decide +kernel
theorem dX8_weigh_18 : decode cX8_weigh 18 = .ok (.getfield 13, 3) := by decide +kernel
theorem dX8_weigh_21 : decode cX8_weigh 21 = .ok (.iload_n 1, 1) := by decide +kernel
theorem dX8_weigh_22 : decode cX8_weigh 22 = .ok (.iload_n 2, 1) := by decide +kernel
theorem dX8_weigh_23 : decode cX8_weigh 23 = .ok (.invokestatic 123, 3) := by decide +kernel
theorem dX8_weigh_26 : decode cX8_weigh 26 = .ok (.ifCond .eq 7, 3) := by decide +kernel
theorem dX8_weigh_29 : decode cX8_weigh 29 = .ok (.iconst 0, 1) := by decide +kernel
theorem dX8_weigh_30 : decode cX8_weigh 30 = .ok (.goto 4, 3) := by decide +kernel
theorem dX8_weigh_33 : decode cX8_weigh 33 = .ok (.iconst 2, 1) := by decide +kernel
theorem dX8_weigh_34 : decode cX8_weigh 34 = .ok (.invokevirtual 102, 3) := by decide +kernel
theorem dX8_weigh_37 : decode cX8_weigh 37 = .ok (.ifCond .eq 5, 3) := by decide +kernel
theorem dX8_weigh_40 : decode cX8_weigh 40 = .ok (.iconst 0, 1) := by decide +kernel
theorem dX8_weigh_41 : decode cX8_weigh 41 = .ok (.ireturn, 1) := by decide +kernel
theorem dX8_weigh_42 : decode cX8_weigh 42 = .ok (.aload_n 0, 1) := by decide +kernel
theorem dX8_weigh_43 : decode cX8_weigh 43 = .ok (.invokevirtual 177, 3) := by decide +kernel
theorem dX8_weigh_46 : decode cX8_weigh 46 = .ok (.aload_n 0, 1) := by decide +kernel
theorem dX8_weigh_47 : decode cX8_weigh 47 = .ok (.getfield 13, 3) := by decide +kernel
theorem dX8_weigh_50 : decode cX8_weigh 50 = .ok (.iload_n 1, 1) := by decide +kernel
theorem dX8_weigh_51 : decode cX8_weigh 51 = .ok (.iload_n 2, 1) := by decide +kernel
theorem dX8_weigh_52 : decode cX8_weigh 52 = .ok (.invokestatic 126, 3) := by decide +kernel
theorem dX8_weigh_55 : decode cX8_weigh 55 = .ok (.ireturn, 1) := by decide +kernel
theorem dX8_accuse_0 : decode cX8_accuse 0 = .ok (.aload_n 0, 1) := by decide +kernel
theorem dX8_accuse_1 : decode cX8_accuse 1 = .ok (.aload_n 0, 1) := by decide +kernel
theorem dX8_accuse_2 : decode cX8_accuse 2 = .ok (.getfield 13, 3) := by decide +kernel
theorem dX8_accuse_5 : decode cX8_accuse 5 = .ok (.iload_n 1, 1) := by decide +kernel
theorem dX8_accuse_6 : decode cX8_accuse 6 = .ok (.invokestatic 163, 3) := by decide +kernel
theorem dX8_accuse_9 : decode cX8_accuse 9 = .ok (.ifCond .eq 7, 3) := by decide +kernel
theorem dX8_accuse_12 : decode cX8_accuse 12 = .ok (.iconst 0, 1) := by decide +kernel
theorem dX8_accuse_13 : decode cX8_accuse 13 = .ok (.goto 4, 3) := by decide +kernel
theorem dX8_accuse_16 : decode cX8_accuse 16 = .ok (.iconst 1, 1) := by decide +kernel
theorem dX8_accuse_17 : decode cX8_accuse 17 = .ok (.invokevirtual 102, 3) := by decide +kernel
theorem dX8_accuse_20 : decode cX8_accuse 20 = .ok (.ifCond .eq 5, 3) := by decide +kernel
theorem dX8_accuse_23 : decode cX8_accuse 23 = .ok (.iconst 0, 1) := by decide +kernel
theorem dX8_accuse_24 : decode cX8_accuse 24 = .ok (.ireturn, 1) := by decide +kernel
theorem dX8_accuse_25 : decode cX8_accuse 25 = .ok (.aload_n 0, 1) := by decide +kernel
theorem dX8_accuse_26 : decode cX8_accuse 26 = .ok (.invokevirtual 177, 3) := by decide +kernel
theorem dX8_accuse_29 : decode cX8_accuse 29 = .ok (.aload_n 0, 1) := by decide +kernel
theorem dX8_accuse_30 : decode cX8_accuse 30 = .ok (.getfield 13, 3) := by decide +kernel
theorem dX8_accuse_33 : decode cX8_accuse 33 = .ok (.iload_n 1, 1) := by decide +kernel
theorem dX8_accuse_34 : decode cX8_accuse 34 = .ok (.iload_n 2, 1) := by decide +kernel
theorem dX8_accuse_35 : decode cX8_accuse 35 = .ok (.invokestatic 184, 3) := by decide +kernel
theorem dX8_accuse_38 : decode cX8_accuse 38 = .ok (.ireturn, 1) := by decide +kernel
theorem dX8_accusePan_0 : decode cX8_accusePan 0 = .ok (.aload_n 0, 1) := by decide +kernel
theorem dX8_accusePan_1 : decode cX8_accusePan 1 = .ok (.iload_n 1, 1) := by decide +kernel
theorem dX8_accusePan_2 : decode cX8_accusePan 2 = .ok (.i2l, 1) := by decide +kernel
theorem dX8_accusePan_3 : decode cX8_accusePan 3 = .ok (.lconst 0, 1) := by decide +kernel
theorem dX8_accusePan_4 : decode cX8_accusePan 4 = .ok (.ldc2_w 188, 3) := by decide +kernel
theorem dX8_accusePan_7 : decode cX8_accusePan 7 = .ok (.invokestatic 43, 3) := by decide +kernel
theorem dX8_accusePan_10 : decode cX8_accusePan 10 = .ok (.ifCond .eq 7, 3) := by decide +kernel
theorem dX8_accusePan_13 : decode cX8_accusePan 13 = .ok (.iconst 0, 1) := by decide +kernel
theorem dX8_accusePan_14 : decode cX8_accusePan 14 = .ok (.goto 4, 3) := by decide +kernel
theorem dX8_accusePan_17 : decode cX8_accusePan 17 = .ok (.iconst 1, 1) := by decide +kernel
theorem dX8_accusePan_18 : decode cX8_accusePan 18 = .ok (.invokevirtual 102, 3) := by decide +kernel
theorem dX8_accusePan_21 : decode cX8_accusePan 21 = .ok (.ifCond .eq 5, 3) := by decide +kernel
theorem dX8_accusePan_24 : decode cX8_accusePan 24 = .ok (.iconst 0, 1) := by decide +kernel
theorem dX8_accusePan_25 : decode cX8_accusePan 25 = .ok (.ireturn, 1) := by decide +kernel
theorem dX8_accusePan_26 : decode cX8_accusePan 26 = .ok (.aload_n 0, 1) := by decide +kernel
theorem dX8_accusePan_27 : decode cX8_accusePan 27 = .ok (.invokevirtual 177, 3) := by decide +kernel
theorem dX8_accusePan_30 : decode cX8_accusePan 30 = .ok (.aload_n 0, 1) := by decide +kernel
theorem dX8_accusePan_31 : decode cX8_accusePan 31 = .ok (.getfield 13, 3) := by decide +kernel
theorem dX8_accusePan_34 : decode cX8_accusePan 34 = .ok (.aload_n 0, 1) := by decide +kernel
theorem dX8_accusePan_35 : decode cX8_accusePan 35 = .ok (.getfield 13, 3) := by decide +kernel
theorem dX8_accusePan_38 : decode cX8_accusePan 38 = .ok (.iconst 1, 1) := by decide +kernel
theorem dX8_accusePan_39 : decode cX8_accusePan 39 = .ok (.iaload, 1) := by decide +kernel
theorem dX8_accusePan_40 : decode cX8_accusePan 40 = .ok (.iconst 3, 1) := by decide +kernel
theorem dX8_accusePan_41 : decode cX8_accusePan 41 = .ok (.irem, 1) := by decide +kernel
theorem dX8_accusePan_42 : decode cX8_accusePan 42 = .ok (.iload_n 1, 1) := by decide +kernel
theorem dX8_accusePan_43 : decode cX8_accusePan 43 = .ok (.if_icmp .ne 7, 3) := by decide +kernel
theorem dX8_accusePan_46 : decode cX8_accusePan 46 = .ok (.iconst 1, 1) := by decide +kernel
theorem dX8_accusePan_47 : decode cX8_accusePan 47 = .ok (.goto 4, 3) := by decide +kernel
theorem dX8_accusePan_50 : decode cX8_accusePan 50 = .ok (.iconst 0, 1) := by decide +kernel
theorem dX8_accusePan_51 : decode cX8_accusePan 51 = .ok (.invokestatic 93, 3) := by decide +kernel
theorem dX8_accusePan_54 : decode cX8_accusePan 54 = .ok (.ireturn, 1) := by decide +kernel
theorem dX8_forget_0 : decode cX8_forget 0 = .ok (.aload_n 0, 1) := by decide +kernel
theorem dX8_forget_1 : decode cX8_forget 1 = .ok (.aload_n 0, 1) := by decide +kernel
theorem dX8_forget_2 : decode cX8_forget 2 = .ok (.getfield 13, 3) := by decide +kernel
theorem dX8_forget_5 : decode cX8_forget 5 = .ok (.iconst 4, 1) := by decide +kernel
theorem dX8_forget_6 : decode cX8_forget 6 = .ok (.iaload, 1) := by decide +kernel
theorem dX8_forget_7 : decode cX8_forget 7 = .ok (.ifCond .ne 7, 3) := by decide +kernel
theorem dX8_forget_10 : decode cX8_forget 10 = .ok (.iconst 1, 1) := by decide +kernel
theorem dX8_forget_11 : decode cX8_forget 11 = .ok (.goto 4, 3) := by decide +kernel
theorem dX8_forget_14 : decode cX8_forget 14 = .ok (.iconst 0, 1) := by decide +kernel
theorem dX8_forget_15 : decode cX8_forget 15 = .ok (.invokevirtual 102, 3) := by decide +kernel
theorem dX8_forget_18 : decode cX8_forget 18 = .ok (.ifCond .eq 5, 3) := by decide +kernel
theorem dX8_forget_21 : decode cX8_forget 21 = .ok (.iconst 0, 1) := by decide +kernel
theorem dX8_forget_22 : decode cX8_forget 22 = .ok (.ireturn, 1) := by decide +kernel
theorem dX8_forget_23 : decode cX8_forget 23 = .ok (.aload_n 0, 1) := by decide +kernel
theorem dX8_forget_24 : decode cX8_forget 24 = .ok (.invokevirtual 177, 3) := by decide +kernel
theorem dX8_forget_27 : decode cX8_forget 27 = .ok (.aload_n 0, 1) := by decide +kernel
theorem dX8_forget_28 : decode cX8_forget 28 = .ok (.getfield 13, 3) := by decide +kernel
theorem dX8_forget_31 : decode cX8_forget 31 = .ok (.invokestatic 190, 3) := by decide +kernel
theorem dX8_forget_34 : decode cX8_forget 34 = .ok (.ireturn, 1) := by decide +kernel
theorem dX8_undo_0 : decode cX8_undo 0 = .ok (.aload_n 0, 1) := by decide +kernel
theorem dX8_undo_1 : decode cX8_undo 1 = .ok (.aload_n 0, 1) := by decide +kernel
theorem dX8_undo_2 : decode cX8_undo 2 = .ok (.getfield 158, 3) := by decide +kernel
theorem dX8_undo_5 : decode cX8_undo 5 = .ok (.ifCond .ne 7, 3) := by decide +kernel
theorem dX8_undo_8 : decode cX8_undo 8 = .ok (.iconst 1, 1) := by decide +kernel
theorem dX8_undo_9 : decode cX8_undo 9 = .ok (.goto 4, 3) := by decide +kernel
theorem dX8_undo_12 : decode cX8_undo 12 = .ok (.iconst 0, 1) := by decide +kernel
theorem dX8_undo_13 : decode cX8_undo 13 = .ok (.invokevirtual 102, 3) := by decide +kernel
theorem dX8_undo_16 : decode cX8_undo 16 = .ok (.ifCond .eq 5, 3) := by decide +kernel
theorem dX8_undo_19 : decode cX8_undo 19 = .ok (.iconst 0, 1) := by decide +kernel
theorem dX8_undo_20 : decode cX8_undo 20 = .ok (.ireturn, 1) := by decide +kernel
theorem dX8_undo_21 : decode cX8_undo 21 = .ok (.aload_n 0, 1) := by decide +kernel
theorem dX8_undo_22 : decode cX8_undo 22 = .ok (.dup, 1) := by decide +kernel
theorem dX8_undo_23 : decode cX8_undo 23 = .ok (.getfield 158, 3) := by decide +kernel
theorem dX8_undo_26 : decode cX8_undo 26 = .ok (.iconst 1, 1) := by decide +kernel
theorem dX8_undo_27 : decode cX8_undo 27 = .ok (.isub, 1) := by decide +kernel
theorem dX8_undo_28 : decode cX8_undo 28 = .ok (.putfield 158, 3) := by decide +kernel
theorem dX8_undo_31 : decode cX8_undo 31 = .ok (.aload_n 0, 1) := by decide +kernel
theorem dX8_undo_32 : decode cX8_undo 32 = .ok (.getfield 19, 3) := by decide +kernel
theorem dX8_undo_35 : decode cX8_undo 35 = .ok (.bipush 107, 2) := by decide +kernel
theorem dX8_undo_37 : decode cX8_undo 37 = .ok (.aload_n 0, 1) := by decide +kernel
theorem dX8_undo_38 : decode cX8_undo 38 = .ok (.getfield 158, 3) := by decide +kernel
theorem dX8_undo_41 : decode cX8_undo 41 = .ok (.imul, 1) := by decide +kernel
theorem dX8_undo_42 : decode cX8_undo 42 = .ok (.aload_n 0, 1) := by decide +kernel
theorem dX8_undo_43 : decode cX8_undo 43 = .ok (.getfield 13, 3) := by decide +kernel
theorem dX8_undo_46 : decode cX8_undo 46 = .ok (.iconst 0, 1) := by decide +kernel
theorem dX8_undo_47 : decode cX8_undo 47 = .ok (.invokestatic 154, 3) := by decide +kernel
theorem dX8_undo_50 : decode cX8_undo 50 = .ok (.aload_n 0, 1) := by decide +kernel
theorem dX8_undo_51 : decode cX8_undo 51 = .ok (.getfield 158, 3) := by decide +kernel
theorem dX8_undo_54 : decode cX8_undo 54 = .ok (.ireturn, 1) := by decide +kernel
theorem dX8_leaves_0 : decode cX8_leaves 0 = .ok (.aload_n 0, 1) := by decide +kernel
theorem dX8_leaves_1 : decode cX8_leaves 1 = .ok (.iload_n 3, 1) := by decide +kernel
theorem dX8_leaves_2 : decode cX8_leaves 2 = .ok (.i2l, 1) := by decide +kernel
theorem dX8_leaves_3 : decode cX8_leaves 3 = .ok (.lconst 0, 1) := by decide +kernel
theorem dX8_leaves_4 : decode cX8_leaves 4 = .ok (.ldc2_w 188, 3) := by decide +kernel
theorem dX8_leaves_7 : decode cX8_leaves 7 = .ok (.invokestatic 43, 3) := by decide +kernel
theorem dX8_leaves_10 : decode cX8_leaves 10 = .ok (.ifCond .ne 7, 3) := by decide +kernel
theorem dX8_leaves_13 : decode cX8_leaves 13 = .ok (.iconst 1, 1) := by decide +kernel
theorem dX8_leaves_14 : decode cX8_leaves 14 = .ok (.goto 20, 3) := by decide +kernel
theorem dX8_leaves_17 : decode cX8_leaves 17 = .ok (.aload_n 0, 1) := by decide +kernel
theorem dX8_leaves_18 : decode cX8_leaves 18 = .ok (.getfield 13, 3) := by decide +kernel
theorem dX8_leaves_21 : decode cX8_leaves 21 = .ok (.iload_n 1, 1) := by decide +kernel
theorem dX8_leaves_22 : decode cX8_leaves 22 = .ok (.iload_n 2, 1) := by decide +kernel
theorem dX8_leaves_23 : decode cX8_leaves 23 = .ok (.invokestatic 90, 3) := by decide +kernel
theorem dX8_leaves_26 : decode cX8_leaves 26 = .ok (.ifCond .eq 7, 3) := by decide +kernel
theorem dX8_leaves_29 : decode cX8_leaves 29 = .ok (.iconst 0, 1) := by decide +kernel
theorem dX8_leaves_30 : decode cX8_leaves 30 = .ok (.goto 4, 3) := by decide +kernel
theorem dX8_leaves_33 : decode cX8_leaves 33 = .ok (.iconst 2, 1) := by decide +kernel
theorem dX8_leaves_34 : decode cX8_leaves 34 = .ok (.invokevirtual 102, 3) := by decide +kernel
theorem dX8_leaves_37 : decode cX8_leaves 37 = .ok (.ifCond .eq 5, 3) := by decide +kernel
theorem dX8_leaves_40 : decode cX8_leaves 40 = .ok (.iconst 0, 1) := by decide +kernel
theorem dX8_leaves_41 : decode cX8_leaves 41 = .ok (.ireturn, 1) := by decide +kernel
theorem dX8_leaves_42 : decode cX8_leaves 42 = .ok (.aload_n 0, 1) := by decide +kernel
theorem dX8_leaves_43 : decode cX8_leaves 43 = .ok (.aload_n 0, 1) := by decide +kernel
theorem dX8_leaves_44 : decode cX8_leaves 44 = .ok (.getfield 13, 3) := by decide +kernel
theorem dX8_leaves_47 : decode cX8_leaves 47 = .ok (.invokevirtual 193, 3) := by decide +kernel
theorem dX8_leaves_50 : decode cX8_leaves 50 = .ok (.aload_n 0, 1) := by decide +kernel
theorem dX8_leaves_51 : decode cX8_leaves 51 = .ok (.iload_n 1, 1) := by decide +kernel
theorem dX8_leaves_52 : decode cX8_leaves 52 = .ok (.iload_n 2, 1) := by decide +kernel
theorem dX8_leaves_53 : decode cX8_leaves 53 = .ok (.aload_n 0, 1) := by decide +kernel
theorem dX8_leaves_54 : decode cX8_leaves 54 = .ok (.getfield 13, 3) := by decide +kernel
theorem dX8_leaves_57 : decode cX8_leaves 57 = .ok (.iconst 2, 1) := by decide +kernel
theorem dX8_leaves_58 : decode cX8_leaves 58 = .ok (.iaload, 1) := by decide +kernel
theorem dX8_leaves_59 : decode cX8_leaves 59 = .ok (.aload_n 0, 1) := by decide +kernel
theorem dX8_leaves_60 : decode cX8_leaves 60 = .ok (.getfield 13, 3) := by decide +kernel
theorem dX8_leaves_63 : decode cX8_leaves 63 = .ok (.iconst 3, 1) := by decide +kernel
theorem dX8_leaves_64 : decode cX8_leaves 64 = .ok (.iaload, 1) := by decide +kernel
theorem dX8_leaves_65 : decode cX8_leaves 65 = .ok (.invokevirtual 196, 3) := by decide +kernel
theorem dX8_leaves_68 : decode cX8_leaves 68 = .ok (.pop, 1) := by decide +kernel
theorem dX8_leaves_69 : decode cX8_leaves 69 = .ok (.aload_n 0, 1) := by decide +kernel
theorem dX8_leaves_70 : decode cX8_leaves 70 = .ok (.getfield 32, 3) := by decide +kernel
theorem dX8_leaves_73 : decode cX8_leaves 73 = .ok (.iload_n 3, 1) := by decide +kernel
theorem dX8_leaves_74 : decode cX8_leaves 74 = .ok (.iaload, 1) := by decide +kernel
theorem dX8_leaves_75 : decode cX8_leaves 75 = .ok (.ireturn, 1) := by decide +kernel
theorem dX8_best_0 : decode cX8_best 0 = .ok (.aload_n 0, 1) := by decide +kernel
theorem dX8_best_1 : decode cX8_best 1 = .ok (.iload_n 1, 1) := by decide +kernel
theorem dX8_best_2 : decode cX8_best 2 = .ok (.i2l, 1) := by decide +kernel
theorem dX8_best_3 : decode cX8_best 3 = .ok (.lconst 1, 1) := by decide +kernel
theorem dX8_best_4 : decode cX8_best 4 = .ok (.ldc2_w 188, 3) := by decide +kernel
theorem dX8_best_7 : decode cX8_best 7 = .ok (.invokestatic 43, 3) := by decide +kernel
theorem dX8_best_10 : decode cX8_best 10 = .ok (.ifCond .eq 19, 3) := by decide +kernel
theorem dX8_best_13 : decode cX8_best 13 = .ok (.iload_n 2, 1) := by decide +kernel
theorem dX8_best_14 : decode cX8_best 14 = .ok (.i2l, 1) := by decide +kernel
theorem dX8_best_15 : decode cX8_best 15 = .ok (.lconst 0, 1) := by decide +kernel
theorem dX8_best_16 : decode cX8_best 16 = .ok (.ldc2_w 188, 3) := by decide +kernel
theorem dX8_best_19 : decode cX8_best 19 = .ok (.invokestatic 43, 3) := by decide +kernel
theorem dX8_best_22 : decode cX8_best 22 = .ok (.ifCond .eq 7, 3) := by decide +kernel
theorem dX8_best_25 : decode cX8_best 25 = .ok (.iconst 0, 1) := by decide +kernel
theorem dX8_best_26 : decode cX8_best 26 = .ok (.goto 4, 3) := by decide +kernel
theorem dX8_best_29 : decode cX8_best 29 = .ok (.iconst 1, 1) := by decide +kernel
theorem dX8_best_30 : decode cX8_best 30 = .ok (.invokevirtual 102, 3) := by decide +kernel
theorem dX8_best_33 : decode cX8_best 33 = .ok (.ifCond .eq 5, 3) := by decide +kernel
theorem dX8_best_36 : decode cX8_best 36 = .ok (.iconst 0, 1) := by decide +kernel
theorem dX8_best_37 : decode cX8_best 37 = .ok (.ireturn, 1) := by decide +kernel
theorem dX8_best_38 : decode cX8_best 38 = .ok (.aload_n 0, 1) := by decide +kernel
theorem dX8_best_39 : decode cX8_best 39 = .ok (.aload_n 0, 1) := by decide +kernel
theorem dX8_best_40 : decode cX8_best 40 = .ok (.getfield 13, 3) := by decide +kernel
theorem dX8_best_43 : decode cX8_best 43 = .ok (.invokevirtual 193, 3) := by decide +kernel
theorem dX8_best_46 : decode cX8_best 46 = .ok (.iconst 1, 1) := by decide +kernel
theorem dX8_best_47 : decode cX8_best 47 = .ok (.aload_n 0, 1) := by decide +kernel
theorem dX8_best_48 : decode cX8_best 48 = .ok (.getfield 13, 3) := by decide +kernel
theorem dX8_best_51 : decode cX8_best 51 = .ok (.iconst 0, 1) := by decide +kernel
theorem dX8_best_52 : decode cX8_best 52 = .ok (.iaload, 1) := by decide +kernel
theorem dX8_best_53 : decode cX8_best 53 = .ok (.ishl, 1) := by decide +kernel
theorem dX8_best_54 : decode cX8_best 54 = .ok (.istore_n 3, 1) := by decide +kernel
theorem dX8_best_55 : decode cX8_best 55 = .ok (.iconst (-1), 1) := by decide +kernel
theorem dX8_best_56 : decode cX8_best 56 = .ok (.istore 4, 2) := by decide +kernel
theorem dX8_best_58 : decode cX8_best 58 = .ok (.iconst (-1), 1) := by decide +kernel
theorem dX8_best_59 : decode cX8_best 59 = .ok (.istore 5, 2) := by decide +kernel
theorem dX8_best_61 : decode cX8_best 61 = .ok (.iconst (-1), 1) := by decide +kernel
theorem dX8_best_62 : decode cX8_best 62 = .ok (.istore 6, 2) := by decide +kernel
theorem dX8_best_64 : decode cX8_best 64 = .ok (.iconst 0, 1) := by decide +kernel
theorem dX8_best_65 : decode cX8_best 65 = .ok (.istore 7, 2) := by decide +kernel
theorem dX8_best_67 : decode cX8_best 67 = .ok (.iload 7, 2) := by decide +kernel
theorem dX8_best_69 : decode cX8_best 69 = .ok (.iload_n 3, 1) := by decide +kernel
theorem dX8_best_70 : decode cX8_best 70 = .ok (.if_icmp .ge 134, 3) := by decide +kernel
theorem dX8_best_73 : decode cX8_best 73 = .ok (.iconst 0, 1) := by decide +kernel
theorem dX8_best_74 : decode cX8_best 74 = .ok (.istore 8, 2) := by decide +kernel
theorem dX8_best_76 : decode cX8_best 76 = .ok (.iload 8, 2) := by decide +kernel
theorem dX8_best_78 : decode cX8_best 78 = .ok (.iload_n 3, 1) := by decide +kernel
theorem dX8_best_79 : decode cX8_best 79 = .ok (.if_icmp .ge 119, 3) := by decide +kernel
theorem dX8_best_82 : decode cX8_best 82 = .ok (.iload 7, 2) := by decide +kernel
theorem dX8_best_84 : decode cX8_best 84 = .ok (.invokestatic 57, 3) := by decide +kernel
theorem dX8_best_87 : decode cX8_best 87 = .ok (.iload_n 1, 1) := by decide +kernel
theorem dX8_best_88 : decode cX8_best 88 = .ok (.if_icmp .ne 110, 3) := by decide +kernel
theorem dX8_best_91 : decode cX8_best 91 = .ok (.iload 7, 2) := by decide +kernel
theorem dX8_best_93 : decode cX8_best 93 = .ok (.iload 8, 2) := by decide +kernel
theorem dX8_best_95 : decode cX8_best 95 = .ok (.iand, 1) := by decide +kernel
theorem dX8_best_96 : decode cX8_best 96 = .ok (.ifCond .ne 96, 3) := by decide +kernel
theorem dX8_best_99 : decode cX8_best 99 = .ok (.iload 8, 2) := by decide +kernel
theorem dX8_best_101 : decode cX8_best 101 = .ok (.invokestatic 57, 3) := by decide +kernel
theorem dX8_best_104 : decode cX8_best 104 = .ok (.iload_n 1, 1) := by decide +kernel
theorem dX8_best_105 : decode cX8_best 105 = .ok (.if_icmp .ne 87, 3) := by decide +kernel
theorem dX8_best_108 : decode cX8_best 108 = .ok (.aload_n 0, 1) := by decide +kernel
theorem dX8_best_109 : decode cX8_best 109 = .ok (.iload 7, 2) := by decide +kernel
theorem dX8_best_111 : decode cX8_best 111 = .ok (.iload 8, 2) := by decide +kernel
theorem dX8_best_113 : decode cX8_best 113 = .ok (.aload_n 0, 1) := by decide +kernel
theorem dX8_best_114 : decode cX8_best 114 = .ok (.getfield 13, 3) := by decide +kernel
theorem dX8_best_117 : decode cX8_best 117 = .ok (.iconst 2, 1) := by decide +kernel
theorem dX8_best_118 : decode cX8_best 118 = .ok (.iaload, 1) := by decide +kernel
theorem dX8_best_119 : decode cX8_best 119 = .ok (.aload_n 0, 1) := by decide +kernel
theorem dX8_best_120 : decode cX8_best 120 = .ok (.getfield 13, 3) := by decide +kernel
theorem dX8_best_123 : decode cX8_best 123 = .ok (.iconst 3, 1) := by decide +kernel
theorem dX8_best_124 : decode cX8_best 124 = .ok (.iaload, 1) := by decide +kernel
theorem dX8_best_125 : decode cX8_best 125 = .ok (.invokevirtual 196, 3) := by decide +kernel
theorem dX8_best_128 : decode cX8_best 128 = .ok (.istore 9, 2) := by decide +kernel
theorem dX8_best_130 : decode cX8_best 130 = .ok (.iload 6, 2) := by decide +kernel
theorem dX8_best_132 : decode cX8_best 132 = .ok (.iconst (-1), 1) := by decide +kernel
theorem dX8_best_133 : decode cX8_best 133 = .ok (.if_icmp .eq 10, 3) := by decide +kernel
theorem dX8_best_136 : decode cX8_best 136 = .ok (.iload 9, 2) := by decide +kernel
theorem dX8_best_138 : decode cX8_best 138 = .ok (.iload 6, 2) := by decide +kernel
theorem dX8_best_140 : decode cX8_best 140 = .ok (.if_icmp .ge 7, 3) := by decide +kernel
theorem dX8_best_143 : decode cX8_best 143 = .ok (.iconst 1, 1) := by decide +kernel
theorem dX8_best_144 : decode cX8_best 144 = .ok (.goto 4, 3) := by decide +kernel
theorem dX8_best_147 : decode cX8_best 147 = .ok (.iconst 0, 1) := by decide +kernel
theorem dX8_best_148 : decode cX8_best 148 = .ok (.istore 10, 2) := by decide +kernel
theorem dX8_best_150 : decode cX8_best 150 = .ok (.iload 10, 2) := by decide +kernel
theorem dX8_best_152 : decode cX8_best 152 = .ok (.ifCond .eq 8, 3) := by decide +kernel
theorem dX8_best_155 : decode cX8_best 155 = .ok (.iload 7, 2) := by decide +kernel
theorem dX8_best_157 : decode cX8_best 157 = .ok (.goto 5, 3) := by decide +kernel
theorem dX8_best_160 : decode cX8_best 160 = .ok (.iload 4, 2) := by decide +kernel
theorem dX8_best_162 : decode cX8_best 162 = .ok (.istore 4, 2) := by decide +kernel
theorem dX8_best_164 : decode cX8_best 164 = .ok (.iload 10, 2) := by decide +kernel
theorem dX8_best_166 : decode cX8_best 166 = .ok (.ifCond .eq 8, 3) := by decide +kernel
theorem dX8_best_169 : decode cX8_best 169 = .ok (.iload 8, 2) := by decide +kernel
theorem dX8_best_171 : decode cX8_best 171 = .ok (.goto 5, 3) := by decide +kernel
theorem dX8_best_174 : decode cX8_best 174 = .ok (.iload 5, 2) := by decide +kernel
theorem dX8_best_176 : decode cX8_best 176 = .ok (.istore 5, 2) := by decide +kernel
theorem dX8_best_178 : decode cX8_best 178 = .ok (.iload 10, 2) := by decide +kernel
theorem dX8_best_180 : decode cX8_best 180 = .ok (.ifCond .eq 8, 3) := by decide +kernel
theorem dX8_best_183 : decode cX8_best 183 = .ok (.iload 9, 2) := by decide +kernel
theorem dX8_best_185 : decode cX8_best 185 = .ok (.goto 5, 3) := by decide +kernel
theorem dX8_best_188 : decode cX8_best 188 = .ok (.iload 6, 2) := by decide +kernel
theorem dX8_best_190 : decode cX8_best 190 = .ok (.istore 6, 2) := by decide +kernel
theorem dX8_best_192 : decode cX8_best 192 = .ok (.iinc 8 1, 3) := by decide +kernel
theorem dX8_best_195 : decode cX8_best 195 = .ok (.goto (-119), 3) := by decide +kernel
theorem dX8_best_198 : decode cX8_best 198 = .ok (.iinc 7 1, 3) := by decide +kernel
theorem dX8_best_201 : decode cX8_best 201 = .ok (.goto (-134), 3) := by decide +kernel
theorem dX8_best_204 : decode cX8_best 204 = .ok (.iload_n 2, 1) := by decide +kernel
theorem dX8_best_205 : decode cX8_best 205 = .ok (.ifCond .ne 8, 3) := by decide +kernel
theorem dX8_best_208 : decode cX8_best 208 = .ok (.iload 4, 2) := by decide +kernel
theorem dX8_best_210 : decode cX8_best 210 = .ok (.goto 15, 3) := by decide +kernel
theorem dX8_best_213 : decode cX8_best 213 = .ok (.iload_n 2, 1) := by decide +kernel
theorem dX8_best_214 : decode cX8_best 214 = .ok (.iconst 1, 1) := by decide +kernel
theorem dX8_best_215 : decode cX8_best 215 = .ok (.if_icmp .ne 8, 3) := by decide +kernel
theorem dX8_best_218 : decode cX8_best 218 = .ok (.iload 5, 2) := by decide +kernel
theorem dX8_best_220 : decode cX8_best 220 = .ok (.goto 5, 3) := by decide +kernel
theorem dX8_best_223 : decode cX8_best 223 = .ok (.iload 6, 2) := by decide +kernel
theorem dX8_best_225 : decode cX8_best 225 = .ok (.ireturn, 1) := by decide +kernel
theorem dX8_sharpest_0 : decode cX8_sharpest 0 = .ok (.aload_n 0, 1) := by decide +kernel
theorem dX8_sharpest_1 : decode cX8_sharpest 1 = .ok (.iconst 0, 1) := by decide +kernel
theorem dX8_sharpest_2 : decode cX8_sharpest 2 = .ok (.putfield 39, 3) := by decide +kernel
theorem dX8_sharpest_5 : decode cX8_sharpest 5 = .ok (.aload_n 0, 1) := by decide +kernel
theorem dX8_sharpest_6 : decode cX8_sharpest 6 = .ok (.aload_n 0, 1) := by decide +kernel
theorem dX8_sharpest_7 : decode cX8_sharpest 7 = .ok (.getfield 13, 3) := by decide +kernel
theorem dX8_sharpest_10 : decode cX8_sharpest 10 = .ok (.invokevirtual 193, 3) := by decide +kernel
theorem dX8_sharpest_13 : decode cX8_sharpest 13 = .ok (.iconst (-1), 1) := by decide +kernel
theorem dX8_sharpest_14 : decode cX8_sharpest 14 = .ok (.istore_n 1, 1) := by decide +kernel
theorem dX8_sharpest_15 : decode cX8_sharpest 15 = .ok (.iconst 0, 1) := by decide +kernel
theorem dX8_sharpest_16 : decode cX8_sharpest 16 = .ok (.istore_n 2, 1) := by decide +kernel
theorem dX8_sharpest_17 : decode cX8_sharpest 17 = .ok (.iconst 0, 1) := by decide +kernel
theorem dX8_sharpest_18 : decode cX8_sharpest 18 = .ok (.istore_n 3, 1) := by decide +kernel
theorem dX8_sharpest_19 : decode cX8_sharpest 19 = .ok (.iload_n 3, 1) := by decide +kernel
theorem dX8_sharpest_20 : decode cX8_sharpest 20 = .ok (.aload_n 0, 1) := by decide +kernel
theorem dX8_sharpest_21 : decode cX8_sharpest 21 = .ok (.getfield 13, 3) := by decide +kernel
theorem dX8_sharpest_24 : decode cX8_sharpest 24 = .ok (.iconst 0, 1) := by decide +kernel
theorem dX8_sharpest_25 : decode cX8_sharpest 25 = .ok (.iaload, 1) := by decide +kernel
theorem dX8_sharpest_26 : decode cX8_sharpest 26 = .ok (.if_icmp .ge 158, 3) := by decide +kernel
theorem dX8_sharpest_29 : decode cX8_sharpest 29 = .ok (.iconst 0, 1) := by decide +kernel
theorem dX8_sharpest_30 : decode cX8_sharpest 30 = .ok (.istore 4, 2) := by decide +kernel
theorem dX8_sharpest_32 : decode cX8_sharpest 32 = .ok (.iload 4, 2) := by decide +kernel
theorem dX8_sharpest_34 : decode cX8_sharpest 34 = .ok (.bipush 12, 2) := by decide +kernel
theorem dX8_sharpest_36 : decode cX8_sharpest 36 = .ok (.if_icmp .gt 142, 3) := by decide +kernel
theorem dX8_sharpest_39 : decode cX8_sharpest 39 = .ok (.iload 4, 2) := by decide +kernel
theorem dX8_sharpest_41 : decode cX8_sharpest 41 = .ok (.bipush 12, 2) := by decide +kernel
theorem dX8_sharpest_43 : decode cX8_sharpest 43 = .ok (.if_icmp .eq 20, 3) := by decide +kernel
theorem dX8_sharpest_46 : decode cX8_sharpest 46 = .ok (.iload 4, 2) := by decide +kernel
theorem dX8_sharpest_48 : decode cX8_sharpest 48 = .ok (.aload_n 0, 1) := by decide +kernel
theorem dX8_sharpest_49 : decode cX8_sharpest 49 = .ok (.getfield 13, 3) := by decide +kernel
theorem dX8_sharpest_52 : decode cX8_sharpest 52 = .ok (.iconst 0, 1) := by decide +kernel
theorem dX8_sharpest_53 : decode cX8_sharpest 53 = .ok (.iaload, 1) := by decide +kernel
theorem dX8_sharpest_54 : decode cX8_sharpest 54 = .ok (.if_icmp .ge 118, 3) := by decide +kernel
theorem dX8_sharpest_57 : decode cX8_sharpest 57 = .ok (.iload 4, 2) := by decide +kernel
theorem dX8_sharpest_59 : decode cX8_sharpest 59 = .ok (.iload_n 3, 1) := by decide +kernel
theorem dX8_sharpest_60 : decode cX8_sharpest 60 = .ok (.if_icmp .eq 112, 3) := by decide +kernel
theorem dX8_sharpest_63 : decode cX8_sharpest 63 = .ok (.aload_n 0, 1) := by decide +kernel
theorem dX8_sharpest_64 : decode cX8_sharpest 64 = .ok (.iconst 1, 1) := by decide +kernel
theorem dX8_sharpest_65 : decode cX8_sharpest 65 = .ok (.iload_n 3, 1) := by decide +kernel
theorem dX8_sharpest_66 : decode cX8_sharpest 66 = .ok (.ishl, 1) := by decide +kernel
theorem dX8_sharpest_67 : decode cX8_sharpest 67 = .ok (.iload 4, 2) := by decide +kernel
theorem dX8_sharpest_69 : decode cX8_sharpest 69 = .ok (.bipush 12, 2) := by decide +kernel
theorem dX8_sharpest_71 : decode cX8_sharpest 71 = .ok (.if_icmp .ne 7, 3) := by decide +kernel
theorem dX8_sharpest_74 : decode cX8_sharpest 74 = .ok (.iconst 0, 1) := by decide +kernel
theorem dX8_sharpest_75 : decode cX8_sharpest 75 = .ok (.goto 7, 3) := by decide +kernel
theorem dX8_sharpest_78 : decode cX8_sharpest 78 = .ok (.iconst 1, 1) := by decide +kernel
theorem dX8_sharpest_79 : decode cX8_sharpest 79 = .ok (.iload 4, 2) := by decide +kernel
theorem dX8_sharpest_81 : decode cX8_sharpest 81 = .ok (.ishl, 1) := by decide +kernel
theorem dX8_sharpest_82 : decode cX8_sharpest 82 = .ok (.aload_n 0, 1) := by decide +kernel
theorem dX8_sharpest_83 : decode cX8_sharpest 83 = .ok (.getfield 13, 3) := by decide +kernel
theorem dX8_sharpest_86 : decode cX8_sharpest 86 = .ok (.iconst 2, 1) := by decide +kernel
theorem dX8_sharpest_87 : decode cX8_sharpest 87 = .ok (.iaload, 1) := by decide +kernel
theorem dX8_sharpest_88 : decode cX8_sharpest 88 = .ok (.aload_n 0, 1) := by decide +kernel
theorem dX8_sharpest_89 : decode cX8_sharpest 89 = .ok (.getfield 13, 3) := by decide +kernel
theorem dX8_sharpest_92 : decode cX8_sharpest 92 = .ok (.iconst 3, 1) := by decide +kernel
theorem dX8_sharpest_93 : decode cX8_sharpest 93 = .ok (.iaload, 1) := by decide +kernel
theorem dX8_sharpest_94 : decode cX8_sharpest 94 = .ok (.invokevirtual 196, 3) := by decide +kernel
theorem dX8_sharpest_97 : decode cX8_sharpest 97 = .ok (.pop, 1) := by decide +kernel
theorem dX8_sharpest_98 : decode cX8_sharpest 98 = .ok (.aload_n 0, 1) := by decide +kernel
theorem dX8_sharpest_99 : decode cX8_sharpest 99 = .ok (.getfield 32, 3) := by decide +kernel
theorem dX8_sharpest_102 : decode cX8_sharpest 102 = .ok (.iconst 0, 1) := by decide +kernel
theorem dX8_sharpest_103 : decode cX8_sharpest 103 = .ok (.iaload, 1) := by decide +kernel
theorem dX8_sharpest_104 : decode cX8_sharpest 104 = .ok (.aload_n 0, 1) := by decide +kernel
theorem dX8_sharpest_105 : decode cX8_sharpest 105 = .ok (.getfield 32, 3) := by decide +kernel
theorem dX8_sharpest_108 : decode cX8_sharpest 108 = .ok (.iconst 1, 1) := by decide +kernel
theorem dX8_sharpest_109 : decode cX8_sharpest 109 = .ok (.iaload, 1) := by decide +kernel
theorem dX8_sharpest_110 : decode cX8_sharpest 110 = .ok (.imul, 1) := by decide +kernel
theorem dX8_sharpest_111 : decode cX8_sharpest 111 = .ok (.aload_n 0, 1) := by decide +kernel
theorem dX8_sharpest_112 : decode cX8_sharpest 112 = .ok (.getfield 32, 3) := by decide +kernel
theorem dX8_sharpest_115 : decode cX8_sharpest 115 = .ok (.iconst 0, 1) := by decide +kernel
theorem dX8_sharpest_116 : decode cX8_sharpest 116 = .ok (.iaload, 1) := by decide +kernel
theorem dX8_sharpest_117 : decode cX8_sharpest 117 = .ok (.aload_n 0, 1) := by decide +kernel
theorem dX8_sharpest_118 : decode cX8_sharpest 118 = .ok (.getfield 32, 3) := by decide +kernel
theorem dX8_sharpest_121 : decode cX8_sharpest 121 = .ok (.iconst 2, 1) := by decide +kernel
theorem dX8_sharpest_122 : decode cX8_sharpest 122 = .ok (.iaload, 1) := by decide +kernel
theorem dX8_sharpest_123 : decode cX8_sharpest 123 = .ok (.imul, 1) := by decide +kernel
theorem dX8_sharpest_124 : decode cX8_sharpest 124 = .ok (.iadd, 1) := by decide +kernel
theorem dX8_sharpest_125 : decode cX8_sharpest 125 = .ok (.aload_n 0, 1) := by decide +kernel
theorem dX8_sharpest_126 : decode cX8_sharpest 126 = .ok (.getfield 32, 3) := by decide +kernel
theorem dX8_sharpest_129 : decode cX8_sharpest 129 = .ok (.iconst 1, 1) := by decide +kernel
theorem dX8_sharpest_130 : decode cX8_sharpest 130 = .ok (.iaload, 1) := by decide +kernel
theorem dX8_sharpest_131 : decode cX8_sharpest 131 = .ok (.aload_n 0, 1) := by decide +kernel
theorem dX8_sharpest_132 : decode cX8_sharpest 132 = .ok (.getfield 32, 3) := by decide +kernel
theorem dX8_sharpest_135 : decode cX8_sharpest 135 = .ok (.iconst 2, 1) := by decide +kernel
theorem dX8_sharpest_136 : decode cX8_sharpest 136 = .ok (.iaload, 1) := by decide +kernel
theorem dX8_sharpest_137 : decode cX8_sharpest 137 = .ok (.imul, 1) := by decide +kernel
theorem dX8_sharpest_138 : decode cX8_sharpest 138 = .ok (.iadd, 1) := by decide +kernel
theorem dX8_sharpest_139 : decode cX8_sharpest 139 = .ok (.istore 5, 2) := by decide +kernel
theorem dX8_sharpest_141 : decode cX8_sharpest 141 = .ok (.iload 5, 2) := by decide +kernel
theorem dX8_sharpest_143 : decode cX8_sharpest 143 = .ok (.iload_n 2, 1) := by decide +kernel
theorem dX8_sharpest_144 : decode cX8_sharpest 144 = .ok (.if_icmp .le 13, 3) := by decide +kernel
theorem dX8_sharpest_147 : decode cX8_sharpest 147 = .ok (.bipush 100, 2) := by decide +kernel
theorem dX8_sharpest_149 : decode cX8_sharpest 149 = .ok (.iload_n 3, 1) := by decide +kernel
theorem dX8_sharpest_150 : decode cX8_sharpest 150 = .ok (.imul, 1) := by decide +kernel
theorem dX8_sharpest_151 : decode cX8_sharpest 151 = .ok (.iload 4, 2) := by decide +kernel
theorem dX8_sharpest_153 : decode cX8_sharpest 153 = .ok (.iadd, 1) := by decide +kernel
theorem dX8_sharpest_154 : decode cX8_sharpest 154 = .ok (.goto 4, 3) := by decide +kernel
theorem dX8_sharpest_157 : decode cX8_sharpest 157 = .ok (.iload_n 1, 1) := by decide +kernel
theorem dX8_sharpest_158 : decode cX8_sharpest 158 = .ok (.istore_n 1, 1) := by decide +kernel
theorem dX8_sharpest_159 : decode cX8_sharpest 159 = .ok (.iload 5, 2) := by decide +kernel
theorem dX8_sharpest_161 : decode cX8_sharpest 161 = .ok (.iload_n 2, 1) := by decide +kernel
theorem dX8_sharpest_162 : decode cX8_sharpest 162 = .ok (.if_icmp .le 8, 3) := by decide +kernel
theorem dX8_sharpest_165 : decode cX8_sharpest 165 = .ok (.iload 5, 2) := by decide +kernel
theorem dX8_sharpest_167 : decode cX8_sharpest 167 = .ok (.goto 4, 3) := by decide +kernel
theorem dX8_sharpest_170 : decode cX8_sharpest 170 = .ok (.iload_n 2, 1) := by decide +kernel
theorem dX8_sharpest_171 : decode cX8_sharpest 171 = .ok (.istore_n 2, 1) := by decide +kernel
theorem dX8_sharpest_172 : decode cX8_sharpest 172 = .ok (.iinc 4 1, 3) := by decide +kernel
theorem dX8_sharpest_175 : decode cX8_sharpest 175 = .ok (.goto (-143), 3) := by decide +kernel
theorem dX8_sharpest_178 : decode cX8_sharpest 178 = .ok (.iinc 3 1, 3) := by decide +kernel
theorem dX8_sharpest_181 : decode cX8_sharpest 181 = .ok (.goto (-162), 3) := by decide +kernel
theorem dX8_sharpest_184 : decode cX8_sharpest 184 = .ok (.iload_n 1, 1) := by decide +kernel
theorem dX8_sharpest_185 : decode cX8_sharpest 185 = .ok (.ireturn, 1) := by decide +kernel
theorem dX8_needs_0 : decode cX8_needs 0 = .ok (.aload_n 0, 1) := by decide +kernel
theorem dX8_needs_1 : decode cX8_needs 1 = .ok (.iconst 0, 1) := by decide +kernel
theorem dX8_needs_2 : decode cX8_needs 2 = .ok (.putfield 39, 3) := by decide +kernel
theorem dX8_needs_5 : decode cX8_needs 5 = .ok (.aload_n 0, 1) := by decide +kernel
theorem dX8_needs_6 : decode cX8_needs 6 = .ok (.getfield 13, 3) := by decide +kernel
theorem dX8_needs_9 : decode cX8_needs 9 = .ok (.invokestatic 199, 3) := by decide +kernel
theorem dX8_needs_12 : decode cX8_needs 12 = .ok (.ireturn, 1) := by decide +kernel
theorem dX8_bestArms_0 : decode cX8_bestArms 0 = .ok (.aload_n 0, 1) := by decide +kernel
theorem dX8_bestArms_1 : decode cX8_bestArms 1 = .ok (.aload_n 0, 1) := by decide +kernel
theorem dX8_bestArms_2 : decode cX8_bestArms 2 = .ok (.getfield 13, 3) := by decide +kernel
theorem dX8_bestArms_5 : decode cX8_bestArms 5 = .ok (.iload_n 1, 1) := by decide +kernel
theorem dX8_bestArms_6 : decode cX8_bestArms 6 = .ok (.iload_n 2, 1) := by decide +kernel
theorem dX8_bestArms_7 : decode cX8_bestArms 7 = .ok (.invokestatic 90, 3) := by decide +kernel
theorem dX8_bestArms_10 : decode cX8_bestArms 10 = .ok (.ifCond .eq 7, 3) := by decide +kernel
theorem dX8_bestArms_13 : decode cX8_bestArms 13 = .ok (.iconst 0, 1) := by decide +kernel
theorem dX8_bestArms_14 : decode cX8_bestArms 14 = .ok (.goto 4, 3) := by decide +kernel
theorem dX8_bestArms_17 : decode cX8_bestArms 17 = .ok (.iconst 1, 1) := by decide +kernel
theorem dX8_bestArms_18 : decode cX8_bestArms 18 = .ok (.invokevirtual 102, 3) := by decide +kernel
theorem dX8_bestArms_21 : decode cX8_bestArms 21 = .ok (.ifCond .eq 5, 3) := by decide +kernel
theorem dX8_bestArms_24 : decode cX8_bestArms 24 = .ok (.iconst 0, 1) := by decide +kernel
theorem dX8_bestArms_25 : decode cX8_bestArms 25 = .ok (.ireturn, 1) := by decide +kernel
theorem dX8_bestArms_26 : decode cX8_bestArms 26 = .ok (.aload_n 0, 1) := by decide +kernel
theorem dX8_bestArms_27 : decode cX8_bestArms 27 = .ok (.aload_n 0, 1) := by decide +kernel
theorem dX8_bestArms_28 : decode cX8_bestArms 28 = .ok (.getfield 13, 3) := by decide +kernel
theorem dX8_bestArms_31 : decode cX8_bestArms 31 = .ok (.invokevirtual 193, 3) := by decide +kernel
theorem dX8_bestArms_34 : decode cX8_bestArms 34 = .ok (.iconst (-1), 1) := by decide +kernel
theorem dX8_bestArms_35 : decode cX8_bestArms 35 = .ok (.istore_n 3, 1) := by decide +kernel
theorem dX8_bestArms_36 : decode cX8_bestArms 36 = .ok (.iconst 0, 1) := by decide +kernel
theorem dX8_bestArms_37 : decode cX8_bestArms 37 = .ok (.istore 4, 2) := by decide +kernel
theorem dX8_bestArms_39 : decode cX8_bestArms 39 = .ok (.iconst 1, 1) := by decide +kernel
theorem dX8_bestArms_40 : decode cX8_bestArms 40 = .ok (.istore 5, 2) := by decide +kernel
theorem dX8_bestArms_42 : decode cX8_bestArms 42 = .ok (.iload 5, 2) := by decide +kernel
theorem dX8_bestArms_44 : decode cX8_bestArms 44 = .ok (.bipush 20, 2) := by decide +kernel
theorem dX8_bestArms_46 : decode cX8_bestArms 46 = .ok (.if_icmp .gt 88, 3) := by decide +kernel
theorem dX8_bestArms_49 : decode cX8_bestArms 49 = .ok (.iconst 1, 1) := by decide +kernel
theorem dX8_bestArms_50 : decode cX8_bestArms 50 = .ok (.istore 6, 2) := by decide +kernel
theorem dX8_bestArms_52 : decode cX8_bestArms 52 = .ok (.iload 6, 2) := by decide +kernel
theorem dX8_bestArms_54 : decode cX8_bestArms 54 = .ok (.bipush 20, 2) := by decide +kernel
theorem dX8_bestArms_56 : decode cX8_bestArms 56 = .ok (.if_icmp .gt 72, 3) := by decide +kernel
theorem dX8_bestArms_59 : decode cX8_bestArms 59 = .ok (.aload_n 0, 1) := by decide +kernel
theorem dX8_bestArms_60 : decode cX8_bestArms 60 = .ok (.iload_n 1, 1) := by decide +kernel
theorem dX8_bestArms_61 : decode cX8_bestArms 61 = .ok (.iload_n 2, 1) := by decide +kernel
theorem dX8_bestArms_62 : decode cX8_bestArms 62 = .ok (.iload 5, 2) := by decide +kernel
theorem dX8_bestArms_64 : decode cX8_bestArms 64 = .ok (.iload 6, 2) := by decide +kernel
theorem dX8_bestArms_66 : decode cX8_bestArms 66 = .ok (.invokevirtual 196, 3) := by decide +kernel
theorem dX8_bestArms_69 : decode cX8_bestArms 69 = .ok (.istore 7, 2) := by decide +kernel
theorem dX8_bestArms_71 : decode cX8_bestArms 71 = .ok (.iload_n 3, 1) := by decide +kernel
theorem dX8_bestArms_72 : decode cX8_bestArms 72 = .ok (.iconst (-1), 1) := by decide +kernel
theorem dX8_bestArms_73 : decode cX8_bestArms 73 = .ok (.if_icmp .eq 10, 3) := by decide +kernel
theorem dX8_bestArms_76 : decode cX8_bestArms 76 = .ok (.iload 7, 2) := by decide +kernel
theorem dX8_bestArms_78 : decode cX8_bestArms 78 = .ok (.iload 4, 2) := by decide +kernel
theorem dX8_bestArms_80 : decode cX8_bestArms 80 = .ok (.if_icmp .ge 7, 3) := by decide +kernel
theorem dX8_bestArms_83 : decode cX8_bestArms 83 = .ok (.iconst 1, 1) := by decide +kernel
theorem dX8_bestArms_84 : decode cX8_bestArms 84 = .ok (.goto 4, 3) := by decide +kernel
theorem dX8_bestArms_87 : decode cX8_bestArms 87 = .ok (.iconst 0, 1) := by decide +kernel
theorem dX8_bestArms_88 : decode cX8_bestArms 88 = .ok (.istore 8, 2) := by decide +kernel
theorem dX8_bestArms_90 : decode cX8_bestArms 90 = .ok (.iload 8, 2) := by decide +kernel
theorem dX8_bestArms_92 : decode cX8_bestArms 92 = .ok (.ifCond .eq 14, 3) := by decide +kernel
theorem dX8_bestArms_95 : decode cX8_bestArms 95 = .ok (.bipush 100, 2) := by decide +kernel
theorem dX8_bestArms_97 : decode cX8_bestArms 97 = .ok (.iload 5, 2) := by decide +kernel
theorem dX8_bestArms_99 : decode cX8_bestArms 99 = .ok (.imul, 1) := by decide +kernel
theorem dX8_bestArms_100 : decode cX8_bestArms 100 = .ok (.iload 6, 2) := by decide +kernel
theorem dX8_bestArms_102 : decode cX8_bestArms 102 = .ok (.iadd, 1) := by decide +kernel
theorem dX8_bestArms_103 : decode cX8_bestArms 103 = .ok (.goto 4, 3) := by decide +kernel
theorem dX8_bestArms_106 : decode cX8_bestArms 106 = .ok (.iload_n 3, 1) := by decide +kernel
theorem dX8_bestArms_107 : decode cX8_bestArms 107 = .ok (.istore_n 3, 1) := by decide +kernel
theorem dX8_bestArms_108 : decode cX8_bestArms 108 = .ok (.iload 8, 2) := by decide +kernel
theorem dX8_bestArms_110 : decode cX8_bestArms 110 = .ok (.ifCond .eq 8, 3) := by decide +kernel
theorem dX8_bestArms_113 : decode cX8_bestArms 113 = .ok (.iload 7, 2) := by decide +kernel
theorem dX8_bestArms_115 : decode cX8_bestArms 115 = .ok (.goto 5, 3) := by decide +kernel
theorem dX8_bestArms_118 : decode cX8_bestArms 118 = .ok (.iload 4, 2) := by decide +kernel
theorem dX8_bestArms_120 : decode cX8_bestArms 120 = .ok (.istore 4, 2) := by decide +kernel
theorem dX8_bestArms_122 : decode cX8_bestArms 122 = .ok (.iinc 6 1, 3) := by decide +kernel
theorem dX8_bestArms_125 : decode cX8_bestArms 125 = .ok (.goto (-73), 3) := by decide +kernel
theorem dX8_bestArms_128 : decode cX8_bestArms 128 = .ok (.iinc 5 1, 3) := by decide +kernel
theorem dX8_bestArms_131 : decode cX8_bestArms 131 = .ok (.goto (-89), 3) := by decide +kernel
theorem dX8_bestArms_134 : decode cX8_bestArms 134 = .ok (.iload_n 3, 1) := by decide +kernel
theorem dX8_bestArms_135 : decode cX8_bestArms 135 = .ok (.ireturn, 1) := by decide +kernel
theorem dX8_weighs_0 : decode cX8_weighs 0 = .ok (.iload_n 2, 1) := by decide +kernel
theorem dX8_weighs_1 : decode cX8_weighs 1 = .ok (.bipush 99, 2) := by decide +kernel
theorem dX8_weighs_3 : decode cX8_weighs 3 = .ok (.if_icmp .ne 7, 3) := by decide +kernel
theorem dX8_weighs_6 : decode cX8_weighs 6 = .ok (.iconst 0, 1) := by decide +kernel
theorem dX8_weighs_7 : decode cX8_weighs 7 = .ok (.goto 21, 3) := by decide +kernel
theorem dX8_weighs_10 : decode cX8_weighs 10 = .ok (.aload_n 0, 1) := by decide +kernel
theorem dX8_weighs_11 : decode cX8_weighs 11 = .ok (.getfield 16, 3) := by decide +kernel
theorem dX8_weighs_14 : decode cX8_weighs 14 = .ok (.iload_n 2, 1) := by decide +kernel
theorem dX8_weighs_15 : decode cX8_weighs 15 = .ok (.invokestatic 163, 3) := by decide +kernel
theorem dX8_weighs_18 : decode cX8_weighs 18 = .ok (.ifCond .eq 9, 3) := by decide +kernel
theorem dX8_weighs_21 : decode cX8_weighs 21 = .ok (.iconst 1, 1) := by decide +kernel
theorem dX8_weighs_22 : decode cX8_weighs 22 = .ok (.iload_n 2, 1) := by decide +kernel
theorem dX8_weighs_23 : decode cX8_weighs 23 = .ok (.ishl, 1) := by decide +kernel
theorem dX8_weighs_24 : decode cX8_weighs 24 = .ok (.goto 4, 3) := by decide +kernel
theorem dX8_weighs_27 : decode cX8_weighs 27 = .ok (.iconst (-1), 1) := by decide +kernel
theorem dX8_weighs_28 : decode cX8_weighs 28 = .ok (.istore_n 3, 1) := by decide +kernel
theorem dX8_weighs_29 : decode cX8_weighs 29 = .ok (.aload_n 0, 1) := by decide +kernel
theorem dX8_weighs_30 : decode cX8_weighs 30 = .ok (.getfield 16, 3) := by decide +kernel
theorem dX8_weighs_33 : decode cX8_weighs 33 = .ok (.iload_n 1, 1) := by decide +kernel
theorem dX8_weighs_34 : decode cX8_weighs 34 = .ok (.invokestatic 163, 3) := by decide +kernel
theorem dX8_weighs_37 : decode cX8_weighs 37 = .ok (.ifCond .eq 40, 3) := by decide +kernel
theorem dX8_weighs_40 : decode cX8_weighs 40 = .ok (.iload_n 3, 1) := by decide +kernel
theorem dX8_weighs_41 : decode cX8_weighs 41 = .ok (.iconst (-1), 1) := by decide +kernel
theorem dX8_weighs_42 : decode cX8_weighs 42 = .ok (.if_icmp .eq 35, 3) := by decide +kernel
theorem dX8_weighs_45 : decode cX8_weighs 45 = .ok (.aload_n 0, 1) := by decide +kernel
theorem dX8_weighs_46 : decode cX8_weighs 46 = .ok (.getfield 16, 3) := by decide +kernel
theorem dX8_weighs_49 : decode cX8_weighs 49 = .ok (.iconst 1, 1) := by decide +kernel
theorem dX8_weighs_50 : decode cX8_weighs 50 = .ok (.iload_n 1, 1) := by decide +kernel
theorem dX8_weighs_51 : decode cX8_weighs 51 = .ok (.ishl, 1) := by decide +kernel
theorem dX8_weighs_52 : decode cX8_weighs 52 = .ok (.iload_n 3, 1) := by decide +kernel
theorem dX8_weighs_53 : decode cX8_weighs 53 = .ok (.invokestatic 123, 3) := by decide +kernel
theorem dX8_weighs_56 : decode cX8_weighs 56 = .ok (.ifCond .eq 21, 3) := by decide +kernel
theorem dX8_weighs_59 : decode cX8_weighs 59 = .ok (.aload_n 0, 1) := by decide +kernel
theorem dX8_weighs_60 : decode cX8_weighs 60 = .ok (.getfield 16, 3) := by decide +kernel
theorem dX8_weighs_63 : decode cX8_weighs 63 = .ok (.iconst 1, 1) := by decide +kernel
theorem dX8_weighs_64 : decode cX8_weighs 64 = .ok (.iload_n 1, 1) := by decide +kernel
theorem dX8_weighs_65 : decode cX8_weighs 65 = .ok (.ishl, 1) := by decide +kernel
theorem dX8_weighs_66 : decode cX8_weighs 66 = .ok (.iload_n 3, 1) := by decide +kernel
theorem dX8_weighs_67 : decode cX8_weighs 67 = .ok (.invokestatic 126, 3) := by decide +kernel
theorem dX8_weighs_70 : decode cX8_weighs 70 = .ok (.ifCond .lt 7, 3) := by decide +kernel
theorem dX8_weighs_73 : decode cX8_weighs 73 = .ok (.iconst 1, 1) := by decide +kernel
theorem dX8_weighs_74 : decode cX8_weighs 74 = .ok (.goto 4, 3) := by decide +kernel
theorem dX8_weighs_77 : decode cX8_weighs 77 = .ok (.iconst 0, 1) := by decide +kernel
theorem dX8_weighs_78 : decode cX8_weighs 78 = .ok (.ireturn, 1) := by decide +kernel
theorem dX8_command_0 : decode cX8_command 0 = .ok (.iload_n 2, 1) := by decide +kernel
theorem dX8_command_1 : decode cX8_command 1 = .ok (.bipush 100, 2) := by decide +kernel
theorem dX8_command_3 : decode cX8_command 3 = .ok (.idiv, 1) := by decide +kernel
theorem dX8_command_4 : decode cX8_command 4 = .ok (.istore_n 3, 1) := by decide +kernel
theorem dX8_command_5 : decode cX8_command 5 = .ok (.iload_n 2, 1) := by decide +kernel
theorem dX8_command_6 : decode cX8_command 6 = .ok (.bipush 100, 2) := by decide +kernel
theorem dX8_command_8 : decode cX8_command 8 = .ok (.irem, 1) := by decide +kernel
theorem dX8_command_9 : decode cX8_command 9 = .ok (.istore 4, 2) := by decide +kernel
theorem dX8_command_11 : decode cX8_command 11 = .ok (.iload_n 2, 1) := by decide +kernel
theorem dX8_command_12 : decode cX8_command 12 = .ok (.sipush 1000, 3) := by decide +kernel
theorem dX8_command_15 : decode cX8_command 15 = .ok (.idiv, 1) := by decide +kernel
theorem dX8_command_16 : decode cX8_command 16 = .ok (.istore 5, 2) := by decide +kernel
theorem dX8_command_18 : decode cX8_command 18 = .ok (.iload_n 1, 1) := by decide +kernel
theorem dX8_command_19 : decode cX8_command 19 = .ok (.tableswitch 315 1 9 #[49, 57, 85, 131, 180, 209, 232, 269, 292], 49) := by decide +kernel
theorem dX8_command_68 : decode cX8_command 68 = .ok (.aload_n 0, 1) := by decide +kernel
theorem dX8_command_69 : decode cX8_command 69 = .ok (.iload_n 3, 1) := by decide +kernel
theorem dX8_command_70 : decode cX8_command 70 = .ok (.iload 4, 2) := by decide +kernel
theorem dX8_command_72 : decode cX8_command 72 = .ok (.invokevirtual 202, 3) := by decide +kernel
theorem dX8_command_75 : decode cX8_command 75 = .ok (.ireturn, 1) := by decide +kernel
theorem dX8_command_76 : decode cX8_command 76 = .ok (.iload_n 3, 1) := by decide +kernel
theorem dX8_command_77 : decode cX8_command 77 = .ok (.iload 4, 2) := by decide +kernel
theorem dX8_command_79 : decode cX8_command 79 = .ok (.invokestatic 180, 3) := by decide +kernel
theorem dX8_command_82 : decode cX8_command 82 = .ok (.ifCond .eq 20, 3) := by decide +kernel
theorem dX8_command_85 : decode cX8_command 85 = .ok (.aload_n 0, 1) := by decide +kernel
theorem dX8_command_86 : decode cX8_command 86 = .ok (.getfield 16, 3) := by decide +kernel
theorem dX8_command_89 : decode cX8_command 89 = .ok (.iload_n 3, 1) := by decide +kernel
theorem dX8_command_90 : decode cX8_command 90 = .ok (.iload 4, 2) := by decide +kernel
theorem dX8_command_92 : decode cX8_command 92 = .ok (.invokestatic 138, 3) := by decide +kernel
theorem dX8_command_95 : decode cX8_command 95 = .ok (.ifCond .lt 7, 3) := by decide +kernel
theorem dX8_command_98 : decode cX8_command 98 = .ok (.iconst 1, 1) := by decide +kernel
theorem dX8_command_99 : decode cX8_command 99 = .ok (.goto 4, 3) := by decide +kernel
theorem dX8_command_102 : decode cX8_command 102 = .ok (.iconst 0, 1) := by decide +kernel
theorem dX8_command_103 : decode cX8_command 103 = .ok (.ireturn, 1) := by decide +kernel
theorem dX8_command_104 : decode cX8_command 104 = .ok (.iload 4, 2) := by decide +kernel
theorem dX8_command_106 : decode cX8_command 106 = .ok (.iconst 2, 1) := by decide +kernel
theorem dX8_command_107 : decode cX8_command 107 = .ok (.if_icmp .ge 41, 3) := by decide +kernel
theorem dX8_command_110 : decode cX8_command 110 = .ok (.aload_n 0, 1) := by decide +kernel
theorem dX8_command_111 : decode cX8_command 111 = .ok (.getfield 16, 3) := by decide +kernel
theorem dX8_command_114 : decode cX8_command 114 = .ok (.iload_n 3, 1) := by decide +kernel
theorem dX8_command_115 : decode cX8_command 115 = .ok (.invokestatic 163, 3) := by decide +kernel
theorem dX8_command_118 : decode cX8_command 118 = .ok (.ifCond .eq 30, 3) := by decide +kernel
theorem dX8_command_121 : decode cX8_command 121 = .ok (.aload_n 0, 1) := by decide +kernel
theorem dX8_command_122 : decode cX8_command 122 = .ok (.getfield 16, 3) := by decide +kernel
theorem dX8_command_125 : decode cX8_command 125 = .ok (.iload_n 3, 1) := by decide +kernel
theorem dX8_command_126 : decode cX8_command 126 = .ok (.iload 4, 2) := by decide +kernel
theorem dX8_command_128 : decode cX8_command 128 = .ok (.iconst 1, 1) := by decide +kernel
theorem dX8_command_129 : decode cX8_command 129 = .ok (.if_icmp .ne 7, 3) := by decide +kernel
theorem dX8_command_132 : decode cX8_command 132 = .ok (.iconst 1, 1) := by decide +kernel
theorem dX8_command_133 : decode cX8_command 133 = .ok (.goto 4, 3) := by decide +kernel
theorem dX8_command_136 : decode cX8_command 136 = .ok (.iconst 0, 1) := by decide +kernel
theorem dX8_command_137 : decode cX8_command 137 = .ok (.invokestatic 184, 3) := by decide +kernel
theorem dX8_command_140 : decode cX8_command 140 = .ok (.iconst 1, 1) := by decide +kernel
theorem dX8_command_141 : decode cX8_command 141 = .ok (.if_icmp .ne 7, 3) := by decide +kernel
theorem dX8_command_144 : decode cX8_command 144 = .ok (.iconst 1, 1) := by decide +kernel
theorem dX8_command_145 : decode cX8_command 145 = .ok (.goto 4, 3) := by decide +kernel
theorem dX8_command_148 : decode cX8_command 148 = .ok (.iconst 0, 1) := by decide +kernel
theorem dX8_command_149 : decode cX8_command 149 = .ok (.ireturn, 1) := by decide +kernel
theorem dX8_command_150 : decode cX8_command 150 = .ok (.iload_n 2, 1) := by decide +kernel
theorem dX8_command_151 : decode cX8_command 151 = .ok (.sipush 1000, 3) := by decide +kernel
theorem dX8_command_154 : decode cX8_command 154 = .ok (.irem, 1) := by decide +kernel
theorem dX8_command_155 : decode cX8_command 155 = .ok (.ifCond .ne 42, 3) := by decide +kernel
theorem dX8_command_158 : decode cX8_command 158 = .ok (.iload 5, 2) := by decide +kernel
theorem dX8_command_160 : decode cX8_command 160 = .ok (.iconst 3, 1) := by decide +kernel
theorem dX8_command_161 : decode cX8_command 161 = .ok (.if_icmp .ge 36, 3) := by decide +kernel
theorem dX8_command_164 : decode cX8_command 164 = .ok (.aload_n 0, 1) := by decide +kernel
theorem dX8_command_165 : decode cX8_command 165 = .ok (.getfield 16, 3) := by decide +kernel
theorem dX8_command_168 : decode cX8_command 168 = .ok (.aload_n 0, 1) := by decide +kernel
theorem dX8_command_169 : decode cX8_command 169 = .ok (.getfield 16, 3) := by decide +kernel
theorem dX8_command_172 : decode cX8_command 172 = .ok (.iconst 1, 1) := by decide +kernel
theorem dX8_command_173 : decode cX8_command 173 = .ok (.iaload, 1) := by decide +kernel
theorem dX8_command_174 : decode cX8_command 174 = .ok (.iconst 3, 1) := by decide +kernel
theorem dX8_command_175 : decode cX8_command 175 = .ok (.irem, 1) := by decide +kernel
theorem dX8_command_176 : decode cX8_command 176 = .ok (.iload 5, 2) := by decide +kernel
theorem dX8_command_178 : decode cX8_command 178 = .ok (.if_icmp .ne 7, 3) := by decide +kernel
theorem dX8_command_181 : decode cX8_command 181 = .ok (.iconst 1, 1) := by decide +kernel
theorem dX8_command_182 : decode cX8_command 182 = .ok (.goto 4, 3) := by decide +kernel
theorem dX8_command_185 : decode cX8_command 185 = .ok (.iconst 0, 1) := by decide +kernel
theorem dX8_command_186 : decode cX8_command 186 = .ok (.invokestatic 93, 3) := by decide +kernel
theorem dX8_command_189 : decode cX8_command 189 = .ok (.iconst 1, 1) := by decide +kernel
theorem dX8_command_190 : decode cX8_command 190 = .ok (.if_icmp .ne 7, 3) := by decide +kernel
theorem dX8_command_193 : decode cX8_command 193 = .ok (.iconst 1, 1) := by decide +kernel
theorem dX8_command_194 : decode cX8_command 194 = .ok (.goto 4, 3) := by decide +kernel
theorem dX8_command_197 : decode cX8_command 197 = .ok (.iconst 0, 1) := by decide +kernel
theorem dX8_command_198 : decode cX8_command 198 = .ok (.ireturn, 1) := by decide +kernel
theorem dX8_command_199 : decode cX8_command 199 = .ok (.iload_n 2, 1) := by decide +kernel
theorem dX8_command_200 : decode cX8_command 200 = .ok (.ifCond .ne 26, 3) := by decide +kernel
theorem dX8_command_203 : decode cX8_command 203 = .ok (.aload_n 0, 1) := by decide +kernel
theorem dX8_command_204 : decode cX8_command 204 = .ok (.getfield 16, 3) := by decide +kernel
theorem dX8_command_207 : decode cX8_command 207 = .ok (.iconst 4, 1) := by decide +kernel
theorem dX8_command_208 : decode cX8_command 208 = .ok (.iaload, 1) := by decide +kernel
theorem dX8_command_209 : decode cX8_command 209 = .ok (.ifCond .le 17, 3) := by decide +kernel
theorem dX8_command_212 : decode cX8_command 212 = .ok (.aload_n 0, 1) := by decide +kernel
theorem dX8_command_213 : decode cX8_command 213 = .ok (.getfield 16, 3) := by decide +kernel
theorem dX8_command_216 : decode cX8_command 216 = .ok (.invokestatic 190, 3) := by decide +kernel
theorem dX8_command_219 : decode cX8_command 219 = .ok (.ifCond .lt 7, 3) := by decide +kernel
theorem dX8_command_222 : decode cX8_command 222 = .ok (.iconst 1, 1) := by decide +kernel
theorem dX8_command_223 : decode cX8_command 223 = .ok (.goto 4, 3) := by decide +kernel
theorem dX8_command_226 : decode cX8_command 226 = .ok (.iconst 0, 1) := by decide +kernel
theorem dX8_command_227 : decode cX8_command 227 = .ok (.ireturn, 1) := by decide +kernel
theorem dX8_command_228 : decode cX8_command 228 = .ok (.iload_n 2, 1) := by decide +kernel
theorem dX8_command_229 : decode cX8_command 229 = .ok (.bipush 100, 2) := by decide +kernel
theorem dX8_command_231 : decode cX8_command 231 = .ok (.if_icmp .ge 18, 3) := by decide +kernel
theorem dX8_command_234 : decode cX8_command 234 = .ok (.aload_n 0, 1) := by decide +kernel
theorem dX8_command_235 : decode cX8_command 235 = .ok (.getfield 16, 3) := by decide +kernel
theorem dX8_command_238 : decode cX8_command 238 = .ok (.invokestatic 86, 3) := by decide +kernel
theorem dX8_command_241 : decode cX8_command 241 = .ok (.iload_n 2, 1) := by decide +kernel
theorem dX8_command_242 : decode cX8_command 242 = .ok (.if_icmp .gt 7, 3) := by decide +kernel
theorem dX8_command_245 : decode cX8_command 245 = .ok (.iconst 1, 1) := by decide +kernel
theorem dX8_command_246 : decode cX8_command 246 = .ok (.goto 4, 3) := by decide +kernel
theorem dX8_command_249 : decode cX8_command 249 = .ok (.iconst 0, 1) := by decide +kernel
theorem dX8_command_250 : decode cX8_command 250 = .ok (.ireturn, 1) := by decide +kernel
theorem dX8_command_251 : decode cX8_command 251 = .ok (.iload 4, 2) := by decide +kernel
theorem dX8_command_253 : decode cX8_command 253 = .ok (.bipush 10, 2) := by decide +kernel
theorem dX8_command_255 : decode cX8_command 255 = .ok (.if_icmp .ge 31, 3) := by decide +kernel
theorem dX8_command_258 : decode cX8_command 258 = .ok (.aload_n 0, 1) := by decide +kernel
theorem dX8_command_259 : decode cX8_command 259 = .ok (.getfield 16, 3) := by decide +kernel
theorem dX8_command_262 : decode cX8_command 262 = .ok (.iload_n 3, 1) := by decide +kernel
theorem dX8_command_263 : decode cX8_command 263 = .ok (.invokestatic 163, 3) := by decide +kernel
theorem dX8_command_266 : decode cX8_command 266 = .ok (.ifCond .eq 20, 3) := by decide +kernel
theorem dX8_command_269 : decode cX8_command 269 = .ok (.aload_n 0, 1) := by decide +kernel
theorem dX8_command_270 : decode cX8_command 270 = .ok (.getfield 16, 3) := by decide +kernel
theorem dX8_command_273 : decode cX8_command 273 = .ok (.iload_n 3, 1) := by decide +kernel
theorem dX8_command_274 : decode cX8_command 274 = .ok (.invokestatic 166, 3) := by decide +kernel
theorem dX8_command_277 : decode cX8_command 277 = .ok (.iload 4, 2) := by decide +kernel
theorem dX8_command_279 : decode cX8_command 279 = .ok (.if_icmp .ne 7, 3) := by decide +kernel
theorem dX8_command_282 : decode cX8_command 282 = .ok (.iconst 1, 1) := by decide +kernel
theorem dX8_command_283 : decode cX8_command 283 = .ok (.goto 4, 3) := by decide +kernel
theorem dX8_command_286 : decode cX8_command 286 = .ok (.iconst 0, 1) := by decide +kernel
theorem dX8_command_287 : decode cX8_command 287 = .ok (.ireturn, 1) := by decide +kernel
theorem dX8_command_288 : decode cX8_command 288 = .ok (.iload_n 2, 1) := by decide +kernel
theorem dX8_command_289 : decode cX8_command 289 = .ok (.bipush 10, 2) := by decide +kernel
theorem dX8_command_291 : decode cX8_command 291 = .ok (.if_icmp .ge 18, 3) := by decide +kernel
theorem dX8_command_294 : decode cX8_command 294 = .ok (.aload_n 0, 1) := by decide +kernel
theorem dX8_command_295 : decode cX8_command 295 = .ok (.getfield 16, 3) := by decide +kernel
theorem dX8_command_298 : decode cX8_command 298 = .ok (.invokestatic 169, 3) := by decide +kernel
theorem dX8_command_301 : decode cX8_command 301 = .ok (.iload_n 2, 1) := by decide +kernel
theorem dX8_command_302 : decode cX8_command 302 = .ok (.if_icmp .ne 7, 3) := by decide +kernel
theorem dX8_command_305 : decode cX8_command 305 = .ok (.iconst 1, 1) := by decide +kernel
theorem dX8_command_306 : decode cX8_command 306 = .ok (.goto 4, 3) := by decide +kernel
theorem dX8_command_309 : decode cX8_command 309 = .ok (.iconst 0, 1) := by decide +kernel
theorem dX8_command_310 : decode cX8_command 310 = .ok (.ireturn, 1) := by decide +kernel
theorem dX8_command_311 : decode cX8_command 311 = .ok (.iload_n 2, 1) := by decide +kernel
theorem dX8_command_312 : decode cX8_command 312 = .ok (.bipush 10, 2) := by decide +kernel
theorem dX8_command_314 : decode cX8_command 314 = .ok (.if_icmp .ge 18, 3) := by decide +kernel
theorem dX8_command_317 : decode cX8_command 317 = .ok (.aload_n 0, 1) := by decide +kernel
theorem dX8_command_318 : decode cX8_command 318 = .ok (.getfield 16, 3) := by decide +kernel
theorem dX8_command_321 : decode cX8_command 321 = .ok (.invokestatic 199, 3) := by decide +kernel
theorem dX8_command_324 : decode cX8_command 324 = .ok (.iload_n 2, 1) := by decide +kernel
