theorem dX7_coin_5 : decode cX7_coin 5 = .ok (.invokevirtual 178, 3) := by decide +kernel
theorem dX7_coin_8 : decode cX7_coin 8 = .ok (.ifCond .ne 13, 3) := by decide +kernel
theorem dX7_coin_11 : decode cX7_coin 11 = .ok (.new 182, 3) := by decide +kernel
theorem dX7_coin_14 : decode cX7_coin 14 = .ok (.dup, 1) := by decide +kernel
theorem dX7_coin_15 : decode cX7_coin 15 = .ok (.ldc 184, 2) := by decide +kernel
theorem dX7_coin_17 : decode cX7_coin 17 = .ok (.invokespecial 186, 3) := by decide +kernel
theorem dX7_coin_20 : decode cX7_coin 20 = .ok (.athrow, 1) := by decide +kernel
theorem dX7_coin_21 : decode cX7_coin 21 = .ok (.aload_n 0, 1) := by decide +kernel
theorem dX7_coin_22 : decode cX7_coin 22 = .ok (.getfield 19, 3) := by decide +kernel
theorem dX7_coin_25 : decode cX7_coin 25 = .ok (.getfield 149, 3) := by decide +kernel
theorem dX7_coin_28 : decode cX7_coin 28 = .ok (.iload_n 1, 1) := by decide +kernel
theorem dX7_coin_29 : decode cX7_coin 29 = .ok (.invokevirtual 187, 3) := by decide +kernel
theorem dX7_coin_32 : decode cX7_coin 32 = .ok (.ireturn, 1) := by decide +kernel
theorem dX7_pans_0 : decode cX7_pans 0 = .ok (.aload_n 0, 1) := by decide +kernel
theorem dX7_pans_1 : decode cX7_pans 1 = .ok (.getfield 19, 3) := by decide +kernel
theorem dX7_pans_4 : decode cX7_pans 4 = .ok (.getfield 149, 3) := by decide +kernel
theorem dX7_pans_7 : decode cX7_pans 7 = .ok (.invokevirtual 191, 3) := by decide +kernel
theorem dX7_pans_10 : decode cX7_pans 10 = .ok (.ireturn, 1) := by decide +kernel
theorem dX7_isLeft_0 : decode cX7_isLeft 0 = .ok (.iload_n 1, 1) := by decide +kernel
theorem dX7_isLeft_1 : decode cX7_isLeft 1 = .ok (.ifCond .lt 14, 3) := by decide +kernel
theorem dX7_isLeft_4 : decode cX7_isLeft 4 = .ok (.iload_n 1, 1) := by decide +kernel
theorem dX7_isLeft_5 : decode cX7_isLeft 5 = .ok (.aload_n 0, 1) := by decide +kernel
theorem dX7_isLeft_6 : decode cX7_isLeft 6 = .ok (.getfield 19, 3) := by decide +kernel
theorem dX7_isLeft_9 : decode cX7_isLeft 9 = .ok (.invokevirtual 146, 3) := by decide +kernel
theorem dX7_isLeft_12 : decode cX7_isLeft 12 = .ok (.if_icmp .lt 13, 3) := by decide +kernel
theorem dX7_isLeft_15 : decode cX7_isLeft 15 = .ok (.new 182, 3) := by decide +kernel
theorem dX7_isLeft_18 : decode cX7_isLeft 18 = .ok (.dup, 1) := by decide +kernel
theorem dX7_isLeft_19 : decode cX7_isLeft 19 = .ok (.ldc 194, 2) := by decide +kernel
theorem dX7_isLeft_21 : decode cX7_isLeft 21 = .ok (.invokespecial 186, 3) := by decide +kernel
theorem dX7_isLeft_24 : decode cX7_isLeft 24 = .ok (.athrow, 1) := by decide +kernel
theorem dX7_isLeft_25 : decode cX7_isLeft 25 = .ok (.aload_n 0, 1) := by decide +kernel
theorem dX7_isLeft_26 : decode cX7_isLeft 26 = .ok (.getfield 19, 3) := by decide +kernel
theorem dX7_isLeft_29 : decode cX7_isLeft 29 = .ok (.getfield 149, 3) := by decide +kernel
theorem dX7_isLeft_32 : decode cX7_isLeft 32 = .ok (.iload_n 1, 1) := by decide +kernel
theorem dX7_isLeft_33 : decode cX7_isLeft 33 = .ok (.invokevirtual 196, 3) := by decide +kernel
theorem dX7_isLeft_36 : decode cX7_isLeft 36 = .ok (.ifCond .eq 7, 3) := by decide +kernel
theorem dX7_isLeft_39 : decode cX7_isLeft 39 = .ok (.iconst 1, 1) := by decide +kernel
theorem dX7_isLeft_40 : decode cX7_isLeft 40 = .ok (.goto 4, 3) := by decide +kernel
theorem dX7_isLeft_43 : decode cX7_isLeft 43 = .ok (.iconst 0, 1) := by decide +kernel
theorem dX7_isLeft_44 : decode cX7_isLeft 44 = .ok (.ireturn, 1) := by decide +kernel
theorem dX7_weighing_0 : decode cX7_weighing 0 = .ok (.iload_n 1, 1) := by decide +kernel
theorem dX7_weighing_1 : decode cX7_weighing 1 = .ok (.ifCond .lt 14, 3) := by decide +kernel
theorem dX7_weighing_4 : decode cX7_weighing 4 = .ok (.iload_n 1, 1) := by decide +kernel
theorem dX7_weighing_5 : decode cX7_weighing 5 = .ok (.aload_n 0, 1) := by decide +kernel
theorem dX7_weighing_6 : decode cX7_weighing 6 = .ok (.getfield 19, 3) := by decide +kernel
theorem dX7_weighing_9 : decode cX7_weighing 9 = .ok (.getfield 158, 3) := by decide +kernel
theorem dX7_weighing_12 : decode cX7_weighing 12 = .ok (.if_icmp .lt 13, 3) := by decide +kernel
theorem dX7_weighing_15 : decode cX7_weighing 15 = .ok (.new 182, 3) := by decide +kernel
theorem dX7_weighing_18 : decode cX7_weighing 18 = .ok (.dup, 1) := by decide +kernel
theorem dX7_weighing_19 : decode cX7_weighing 19 = .ok (.ldc 199, 2) := by decide +kernel
theorem dX7_weighing_21 : decode cX7_weighing 21 = .ok (.invokespecial 186, 3) := by decide +kernel
theorem dX7_weighing_24 : decode cX7_weighing 24 = .ok (.athrow, 1) := by decide +kernel
theorem dX7_weighing_25 : decode cX7_weighing 25 = .ok (.iload_n 2, 1) := by decide +kernel
theorem dX7_weighing_26 : decode cX7_weighing 26 = .ok (.ifCond .lt 9, 3) := by decide +kernel
theorem dX7_weighing_29 : decode cX7_weighing 29 = .ok (.iload_n 2, 1) := by decide +kernel
theorem dX7_weighing_30 : decode cX7_weighing 30 = .ok (.bipush 6, 2) := by decide +kernel
theorem dX7_weighing_32 : decode cX7_weighing 32 = .ok (.if_icmp .lt 13, 3) := by decide +kernel
theorem dX7_weighing_35 : decode cX7_weighing 35 = .ok (.new 67, 3) := by decide +kernel
theorem dX7_weighing_38 : decode cX7_weighing 38 = .ok (.dup, 1) := by decide +kernel
theorem dX7_weighing_39 : decode cX7_weighing 39 = .ok (.ldc 201, 2) := by decide +kernel
theorem dX7_weighing_41 : decode cX7_weighing 41 = .ok (.invokespecial 71, 3) := by decide +kernel
theorem dX7_weighing_44 : decode cX7_weighing 44 = .ok (.athrow, 1) := by decide +kernel
theorem dX7_weighing_45 : decode cX7_weighing 45 = .ok (.aload_n 0, 1) := by decide +kernel
theorem dX7_weighing_46 : decode cX7_weighing 46 = .ok (.getfield 19, 3) := by decide +kernel
theorem dX7_weighing_49 : decode cX7_weighing 49 = .ok (.iload_n 1, 1) := by decide +kernel
theorem dX7_weighing_50 : decode cX7_weighing 50 = .ok (.iload_n 2, 1) := by decide +kernel
theorem dX7_weighing_51 : decode cX7_weighing 51 = .ok (.invokevirtual 203, 3) := by decide +kernel
theorem dX7_weighing_54 : decode cX7_weighing 54 = .ok (.ireturn, 1) := by decide +kernel
theorem dX7_hide_0 : decode cX7_hide 0 = .ok (.iload_n 1, 1) := by decide +kernel
theorem dX7_hide_1 : decode cX7_hide 1 = .ok (.iconst 3, 1) := by decide +kernel
theorem dX7_hide_2 : decode cX7_hide 2 = .ok (.if_icmp .lt 9, 3) := by decide +kernel
theorem dX7_hide_5 : decode cX7_hide 5 = .ok (.iload_n 1, 1) := by decide +kernel
theorem dX7_hide_6 : decode cX7_hide 6 = .ok (.bipush 12, 2) := by decide +kernel
theorem dX7_hide_8 : decode cX7_hide 8 = .ok (.if_icmp .le 13, 3) := by decide +kernel
theorem dX7_hide_11 : decode cX7_hide 11 = .ok (.new 67, 3) := by decide +kernel
theorem dX7_hide_14 : decode cX7_hide 14 = .ok (.dup, 1) := by decide +kernel
theorem dX7_hide_15 : decode cX7_hide 15 = .ok (.ldc 207, 2) := by decide +kernel
theorem dX7_hide_17 : decode cX7_hide 17 = .ok (.invokespecial 71, 3) := by decide +kernel
theorem dX7_hide_20 : decode cX7_hide 20 = .ok (.athrow, 1) := by decide +kernel
theorem dX7_hide_21 : decode cX7_hide 21 = .ok (.iload_n 2, 1) := by decide +kernel
theorem dX7_hide_22 : decode cX7_hide 22 = .ok (.ifCond .lt 11, 3) := by decide +kernel
theorem dX7_hide_25 : decode cX7_hide 25 = .ok (.iload_n 2, 1) := by decide +kernel
theorem dX7_hide_26 : decode cX7_hide 26 = .ok (.iload_n 1, 1) := by decide +kernel
theorem dX7_hide_27 : decode cX7_hide 27 = .ok (.invokestatic 209, 3) := by decide +kernel
theorem dX7_hide_30 : decode cX7_hide 30 = .ok (.if_icmp .lt 13, 3) := by decide +kernel
theorem dX7_hide_33 : decode cX7_hide 33 = .ok (.new 182, 3) := by decide +kernel
theorem dX7_hide_36 : decode cX7_hide 36 = .ok (.dup, 1) := by decide +kernel
theorem dX7_hide_37 : decode cX7_hide 37 = .ok (.ldc 194, 2) := by decide +kernel
theorem dX7_hide_39 : decode cX7_hide 39 = .ok (.invokespecial 186, 3) := by decide +kernel
theorem dX7_hide_42 : decode cX7_hide 42 = .ok (.athrow, 1) := by decide +kernel
theorem dX7_hide_43 : decode cX7_hide 43 = .ok (.aload_n 0, 1) := by decide +kernel
theorem dX7_hide_44 : decode cX7_hide 44 = .ok (.getfield 29, 3) := by decide +kernel
theorem dX7_hide_47 : decode cX7_hide 47 = .ok (.aload_n 0, 1) := by decide +kernel
theorem dX7_hide_48 : decode cX7_hide 48 = .ok (.getfield 19, 3) := by decide +kernel
theorem dX7_hide_51 : decode cX7_hide 51 = .ok (.invokevirtual 212, 3) := by decide +kernel
theorem dX7_hide_54 : decode cX7_hide 54 = .ok (.aload_n 0, 1) := by decide +kernel
theorem dX7_hide_55 : decode cX7_hide 55 = .ok (.getfield 19, 3) := by decide +kernel
theorem dX7_hide_58 : decode cX7_hide 58 = .ok (.iload_n 1, 1) := by decide +kernel
theorem dX7_hide_59 : decode cX7_hide 59 = .ok (.iload_n 2, 1) := by decide +kernel
theorem dX7_hide_60 : decode cX7_hide 60 = .ok (.invokevirtual 122, 3) := by decide +kernel
theorem dX7_hide_63 : decode cX7_hide 63 = .ok (.aload_n 0, 1) := by decide +kernel
theorem dX7_hide_64 : decode cX7_hide 64 = .ok (.getfield 19, 3) := by decide +kernel
theorem dX7_hide_67 : decode cX7_hide 67 = .ok (.invokevirtual 146, 3) := by decide +kernel
theorem dX7_hide_70 : decode cX7_hide 70 = .ok (.ireturn, 1) := by decide +kernel
theorem dX7_arms_0 : decode cX7_arms 0 = .ok (.iload_n 1, 1) := by decide +kernel
theorem dX7_arms_1 : decode cX7_arms 1 = .ok (.invokestatic 216, 3) := by decide +kernel
theorem dX7_arms_4 : decode cX7_arms 4 = .ok (.ifCond .eq 10, 3) := by decide +kernel
theorem dX7_arms_7 : decode cX7_arms 7 = .ok (.iload_n 2, 1) := by decide +kernel
theorem dX7_arms_8 : decode cX7_arms 8 = .ok (.invokestatic 216, 3) := by decide +kernel
theorem dX7_arms_11 : decode cX7_arms 11 = .ok (.ifCond .ne 13, 3) := by decide +kernel
theorem dX7_arms_14 : decode cX7_arms 14 = .ok (.new 67, 3) := by decide +kernel
theorem dX7_arms_17 : decode cX7_arms 17 = .ok (.dup, 1) := by decide +kernel
theorem dX7_arms_18 : decode cX7_arms 18 = .ok (.ldc 219, 2) := by decide +kernel
theorem dX7_arms_20 : decode cX7_arms 20 = .ok (.invokespecial 71, 3) := by decide +kernel
theorem dX7_arms_23 : decode cX7_arms 23 = .ok (.athrow, 1) := by decide +kernel
theorem dX7_arms_24 : decode cX7_arms 24 = .ok (.aload_n 0, 1) := by decide +kernel
theorem dX7_arms_25 : decode cX7_arms 25 = .ok (.getfield 29, 3) := by decide +kernel
theorem dX7_arms_28 : decode cX7_arms 28 = .ok (.aload_n 0, 1) := by decide +kernel
theorem dX7_arms_29 : decode cX7_arms 29 = .ok (.getfield 19, 3) := by decide +kernel
theorem dX7_arms_32 : decode cX7_arms 32 = .ok (.invokevirtual 212, 3) := by decide +kernel
theorem dX7_arms_35 : decode cX7_arms 35 = .ok (.aload_n 0, 1) := by decide +kernel
theorem dX7_arms_36 : decode cX7_arms 36 = .ok (.getfield 19, 3) := by decide +kernel
theorem dX7_arms_39 : decode cX7_arms 39 = .ok (.iload_n 1, 1) := by decide +kernel
theorem dX7_arms_40 : decode cX7_arms 40 = .ok (.iload_n 2, 1) := by decide +kernel
theorem dX7_arms_41 : decode cX7_arms 41 = .ok (.invokevirtual 138, 3) := by decide +kernel
theorem dX7_arms_44 : decode cX7_arms 44 = .ok (.pop, 1) := by decide +kernel
theorem dX7_arms_45 : decode cX7_arms 45 = .ok (.iload_n 1, 1) := by decide +kernel
theorem dX7_arms_46 : decode cX7_arms 46 = .ok (.iload_n 2, 1) := by decide +kernel
theorem dX7_arms_47 : decode cX7_arms 47 = .ok (.if_icmp .ne 7, 3) := by decide +kernel
theorem dX7_arms_50 : decode cX7_arms 50 = .ok (.iconst 1, 1) := by decide +kernel
theorem dX7_arms_51 : decode cX7_arms 51 = .ok (.goto 4, 3) := by decide +kernel
theorem dX7_arms_54 : decode cX7_arms 54 = .ok (.iconst 0, 1) := by decide +kernel
theorem dX7_arms_55 : decode cX7_arms 55 = .ok (.ireturn, 1) := by decide +kernel
theorem dX7_weigh_0 : decode cX7_weigh 0 = .ok (.aload_n 0, 1) := by decide +kernel
theorem dX7_weigh_1 : decode cX7_weigh 1 = .ok (.iload_n 1, 1) := by decide +kernel
theorem dX7_weigh_2 : decode cX7_weigh 2 = .ok (.iload_n 2, 1) := by decide +kernel
theorem dX7_weigh_3 : decode cX7_weigh 3 = .ok (.invokevirtual 221, 3) := by decide +kernel
theorem dX7_weigh_6 : decode cX7_weigh 6 = .ok (.aload_n 0, 1) := by decide +kernel
theorem dX7_weigh_7 : decode cX7_weigh 7 = .ok (.getfield 19, 3) := by decide +kernel
theorem dX7_weigh_10 : decode cX7_weigh 10 = .ok (.invokevirtual 224, 3) := by decide +kernel
theorem dX7_weigh_13 : decode cX7_weigh 13 = .ok (.ifCond .eq 13, 3) := by decide +kernel
theorem dX7_weigh_16 : decode cX7_weigh 16 = .ok (.new 78, 3) := by decide +kernel
theorem dX7_weigh_19 : decode cX7_weigh 19 = .ok (.dup, 1) := by decide +kernel
theorem dX7_weigh_20 : decode cX7_weigh 20 = .ok (.ldc 227, 2) := by decide +kernel
theorem dX7_weigh_22 : decode cX7_weigh 22 = .ok (.invokespecial 82, 3) := by decide +kernel
theorem dX7_weigh_25 : decode cX7_weigh 25 = .ok (.athrow, 1) := by decide +kernel
theorem dX7_weigh_26 : decode cX7_weigh 26 = .ok (.aload_n 0, 1) := by decide +kernel
theorem dX7_weigh_27 : decode cX7_weigh 27 = .ok (.getfield 29, 3) := by decide +kernel
theorem dX7_weigh_30 : decode cX7_weigh 30 = .ok (.aload_n 0, 1) := by decide +kernel
theorem dX7_weigh_31 : decode cX7_weigh 31 = .ok (.getfield 19, 3) := by decide +kernel
theorem dX7_weigh_34 : decode cX7_weigh 34 = .ok (.invokevirtual 212, 3) := by decide +kernel
theorem dX7_weigh_37 : decode cX7_weigh 37 = .ok (.aload_n 0, 1) := by decide +kernel
theorem dX7_weigh_38 : decode cX7_weigh 38 = .ok (.getfield 19, 3) := by decide +kernel
theorem dX7_weigh_41 : decode cX7_weigh 41 = .ok (.iload_n 1, 1) := by decide +kernel
theorem dX7_weigh_42 : decode cX7_weigh 42 = .ok (.iload_n 2, 1) := by decide +kernel
theorem dX7_weigh_43 : decode cX7_weigh 43 = .ok (.invokevirtual 142, 3) := by decide +kernel
theorem dX7_weigh_46 : decode cX7_weigh 46 = .ok (.pop, 1) := by decide +kernel
theorem dX7_weigh_47 : decode cX7_weigh 47 = .ok (.aload_n 0, 1) := by decide +kernel
theorem dX7_weigh_48 : decode cX7_weigh 48 = .ok (.getfield 19, 3) := by decide +kernel
theorem dX7_weigh_51 : decode cX7_weigh 51 = .ok (.invokevirtual 229, 3) := by decide +kernel
theorem dX7_weigh_54 : decode cX7_weigh 54 = .ok (.ireturn, 1) := by decide +kernel
theorem dX7_accuse_0 : decode cX7_accuse 0 = .ok (.aload_n 0, 1) := by decide +kernel
theorem dX7_accuse_1 : decode cX7_accuse 1 = .ok (.getfield 19, 3) := by decide +kernel
theorem dX7_accuse_4 : decode cX7_accuse 4 = .ok (.iload_n 1, 1) := by decide +kernel
theorem dX7_accuse_5 : decode cX7_accuse 5 = .ok (.invokevirtual 178, 3) := by decide +kernel
theorem dX7_accuse_8 : decode cX7_accuse 8 = .ok (.ifCond .ne 13, 3) := by decide +kernel
theorem dX7_accuse_11 : decode cX7_accuse 11 = .ok (.new 182, 3) := by decide +kernel
theorem dX7_accuse_14 : decode cX7_accuse 14 = .ok (.dup, 1) := by decide +kernel
theorem dX7_accuse_15 : decode cX7_accuse 15 = .ok (.ldc 184, 2) := by decide +kernel
theorem dX7_accuse_17 : decode cX7_accuse 17 = .ok (.invokespecial 186, 3) := by decide +kernel
theorem dX7_accuse_20 : decode cX7_accuse 20 = .ok (.athrow, 1) := by decide +kernel
theorem dX7_accuse_21 : decode cX7_accuse 21 = .ok (.aload_n 0, 1) := by decide +kernel
theorem dX7_accuse_22 : decode cX7_accuse 22 = .ok (.getfield 29, 3) := by decide +kernel
theorem dX7_accuse_25 : decode cX7_accuse 25 = .ok (.aload_n 0, 1) := by decide +kernel
theorem dX7_accuse_26 : decode cX7_accuse 26 = .ok (.getfield 19, 3) := by decide +kernel
theorem dX7_accuse_29 : decode cX7_accuse 29 = .ok (.invokevirtual 212, 3) := by decide +kernel
theorem dX7_accuse_32 : decode cX7_accuse 32 = .ok (.aload_n 0, 1) := by decide +kernel
theorem dX7_accuse_33 : decode cX7_accuse 33 = .ok (.getfield 19, 3) := by decide +kernel
theorem dX7_accuse_36 : decode cX7_accuse 36 = .ok (.iload_n 1, 1) := by decide +kernel
theorem dX7_accuse_37 : decode cX7_accuse 37 = .ok (.iload_n 2, 1) := by decide +kernel
theorem dX7_accuse_38 : decode cX7_accuse 38 = .ok (.invokevirtual 232, 3) := by decide +kernel
theorem dX7_accuse_41 : decode cX7_accuse 41 = .ok (.ifCond .eq 7, 3) := by decide +kernel
theorem dX7_accuse_44 : decode cX7_accuse 44 = .ok (.iconst 1, 1) := by decide +kernel
theorem dX7_accuse_45 : decode cX7_accuse 45 = .ok (.goto 4, 3) := by decide +kernel
theorem dX7_accuse_48 : decode cX7_accuse 48 = .ok (.iconst 0, 1) := by decide +kernel
theorem dX7_accuse_49 : decode cX7_accuse 49 = .ok (.ireturn, 1) := by decide +kernel
theorem dX7_accusePan_0 : decode cX7_accusePan 0 = .ok (.iload_n 1, 1) := by decide +kernel
theorem dX7_accusePan_1 : decode cX7_accusePan 1 = .ok (.invokestatic 236, 3) := by decide +kernel
theorem dX7_accusePan_4 : decode cX7_accusePan 4 = .ok (.ifCond .ne 13, 3) := by decide +kernel
theorem dX7_accusePan_7 : decode cX7_accusePan 7 = .ok (.new 67, 3) := by decide +kernel
theorem dX7_accusePan_10 : decode cX7_accusePan 10 = .ok (.dup, 1) := by decide +kernel
theorem dX7_accusePan_11 : decode cX7_accusePan 11 = .ok (.ldc 239, 2) := by decide +kernel
theorem dX7_accusePan_13 : decode cX7_accusePan 13 = .ok (.invokespecial 71, 3) := by decide +kernel
theorem dX7_accusePan_16 : decode cX7_accusePan 16 = .ok (.athrow, 1) := by decide +kernel
theorem dX7_accusePan_17 : decode cX7_accusePan 17 = .ok (.aload_n 0, 1) := by decide +kernel
theorem dX7_accusePan_18 : decode cX7_accusePan 18 = .ok (.getfield 29, 3) := by decide +kernel
theorem dX7_accusePan_21 : decode cX7_accusePan 21 = .ok (.aload_n 0, 1) := by decide +kernel
theorem dX7_accusePan_22 : decode cX7_accusePan 22 = .ok (.getfield 19, 3) := by decide +kernel
theorem dX7_accusePan_25 : decode cX7_accusePan 25 = .ok (.invokevirtual 212, 3) := by decide +kernel
theorem dX7_accusePan_28 : decode cX7_accusePan 28 = .ok (.aload_n 0, 1) := by decide +kernel
theorem dX7_accusePan_29 : decode cX7_accusePan 29 = .ok (.getfield 19, 3) := by decide +kernel
theorem dX7_accusePan_32 : decode cX7_accusePan 32 = .ok (.iload_n 1, 1) := by decide +kernel
theorem dX7_accusePan_33 : decode cX7_accusePan 33 = .ok (.invokevirtual 241, 3) := by decide +kernel
theorem dX7_accusePan_36 : decode cX7_accusePan 36 = .ok (.ifCond .eq 7, 3) := by decide +kernel
theorem dX7_accusePan_39 : decode cX7_accusePan 39 = .ok (.iconst 1, 1) := by decide +kernel
theorem dX7_accusePan_40 : decode cX7_accusePan 40 = .ok (.goto 4, 3) := by decide +kernel
theorem dX7_accusePan_43 : decode cX7_accusePan 43 = .ok (.iconst 0, 1) := by decide +kernel
theorem dX7_accusePan_44 : decode cX7_accusePan 44 = .ok (.ireturn, 1) := by decide +kernel
theorem dX7_forget_0 : decode cX7_forget 0 = .ok (.aload_n 0, 1) := by decide +kernel
theorem dX7_forget_1 : decode cX7_forget 1 = .ok (.getfield 19, 3) := by decide +kernel
theorem dX7_forget_4 : decode cX7_forget 4 = .ok (.getfield 158, 3) := by decide +kernel
theorem dX7_forget_7 : decode cX7_forget 7 = .ok (.ifCond .gt 13, 3) := by decide +kernel
theorem dX7_forget_10 : decode cX7_forget 10 = .ok (.new 78, 3) := by decide +kernel
theorem dX7_forget_13 : decode cX7_forget 13 = .ok (.dup, 1) := by decide +kernel
theorem dX7_forget_14 : decode cX7_forget 14 = .ok (.ldc 244, 2) := by decide +kernel
theorem dX7_forget_16 : decode cX7_forget 16 = .ok (.invokespecial 82, 3) := by decide +kernel
theorem dX7_forget_19 : decode cX7_forget 19 = .ok (.athrow, 1) := by decide +kernel
theorem dX7_forget_20 : decode cX7_forget 20 = .ok (.aload_n 0, 1) := by decide +kernel
theorem dX7_forget_21 : decode cX7_forget 21 = .ok (.getfield 29, 3) := by decide +kernel
theorem dX7_forget_24 : decode cX7_forget 24 = .ok (.aload_n 0, 1) := by decide +kernel
theorem dX7_forget_25 : decode cX7_forget 25 = .ok (.getfield 19, 3) := by decide +kernel
theorem dX7_forget_28 : decode cX7_forget 28 = .ok (.invokevirtual 212, 3) := by decide +kernel
theorem dX7_forget_31 : decode cX7_forget 31 = .ok (.aload_n 0, 1) := by decide +kernel
theorem dX7_forget_32 : decode cX7_forget 32 = .ok (.getfield 19, 3) := by decide +kernel
theorem dX7_forget_35 : decode cX7_forget 35 = .ok (.invokevirtual 246, 3) := by decide +kernel
theorem dX7_forget_38 : decode cX7_forget 38 = .ok (.pop, 1) := by decide +kernel
theorem dX7_forget_39 : decode cX7_forget 39 = .ok (.aload_n 0, 1) := by decide +kernel
theorem dX7_forget_40 : decode cX7_forget 40 = .ok (.getfield 19, 3) := by decide +kernel
theorem dX7_forget_43 : decode cX7_forget 43 = .ok (.getfield 158, 3) := by decide +kernel
theorem dX7_forget_46 : decode cX7_forget 46 = .ok (.ireturn, 1) := by decide +kernel
theorem dX7_undo_0 : decode cX7_undo 0 = .ok (.aload_n 0, 1) := by decide +kernel
theorem dX7_undo_1 : decode cX7_undo 1 = .ok (.getfield 29, 3) := by decide +kernel
theorem dX7_undo_4 : decode cX7_undo 4 = .ok (.getfield 249, 3) := by decide +kernel
theorem dX7_undo_7 : decode cX7_undo 7 = .ok (.ifCond .gt 13, 3) := by decide +kernel
theorem dX7_undo_10 : decode cX7_undo 10 = .ok (.new 78, 3) := by decide +kernel
theorem dX7_undo_13 : decode cX7_undo 13 = .ok (.dup, 1) := by decide +kernel
theorem dX7_undo_14 : decode cX7_undo 14 = .ok (.ldc 251, 2) := by decide +kernel
theorem dX7_undo_16 : decode cX7_undo 16 = .ok (.invokespecial 82, 3) := by decide +kernel
theorem dX7_undo_19 : decode cX7_undo 19 = .ok (.athrow, 1) := by decide +kernel
theorem dX7_undo_20 : decode cX7_undo 20 = .ok (.aload_n 0, 1) := by decide +kernel
theorem dX7_undo_21 : decode cX7_undo 21 = .ok (.getfield 29, 3) := by decide +kernel
theorem dX7_undo_24 : decode cX7_undo 24 = .ok (.aload_n 0, 1) := by decide +kernel
theorem dX7_undo_25 : decode cX7_undo 25 = .ok (.getfield 19, 3) := by decide +kernel
theorem dX7_undo_28 : decode cX7_undo 28 = .ok (.invokevirtual 253, 3) := by decide +kernel
theorem dX7_undo_31 : decode cX7_undo 31 = .ok (.aload_n 0, 1) := by decide +kernel
theorem dX7_undo_32 : decode cX7_undo 32 = .ok (.getfield 29, 3) := by decide +kernel
theorem dX7_undo_35 : decode cX7_undo 35 = .ok (.getfield 249, 3) := by decide +kernel
theorem dX7_undo_38 : decode cX7_undo 38 = .ok (.ireturn, 1) := by decide +kernel
theorem dX7_leaves_0 : decode cX7_leaves 0 = .ok (.iload_n 3, 1) := by decide +kernel
theorem dX7_leaves_1 : decode cX7_leaves 1 = .ok (.ifCond .lt 8, 3) := by decide +kernel
theorem dX7_leaves_4 : decode cX7_leaves 4 = .ok (.iload_n 3, 1) := by decide +kernel
theorem dX7_leaves_5 : decode cX7_leaves 5 = .ok (.iconst 3, 1) := by decide +kernel
theorem dX7_leaves_6 : decode cX7_leaves 6 = .ok (.if_icmp .lt 14, 3) := by decide +kernel
theorem dX7_leaves_9 : decode cX7_leaves 9 = .ok (.new 182, 3) := by decide +kernel
theorem dX7_leaves_12 : decode cX7_leaves 12 = .ok (.dup, 1) := by decide +kernel
theorem dX7_leaves_13 : decode cX7_leaves 13 = .ok (.ldc_w 256, 3) := by decide +kernel
theorem dX7_leaves_16 : decode cX7_leaves 16 = .ok (.invokespecial 186, 3) := by decide +kernel
theorem dX7_leaves_19 : decode cX7_leaves 19 = .ok (.athrow, 1) := by decide +kernel
theorem dX7_leaves_20 : decode cX7_leaves 20 = .ok (.aload_n 0, 1) := by decide +kernel
theorem dX7_leaves_21 : decode cX7_leaves 21 = .ok (.iload_n 1, 1) := by decide +kernel
theorem dX7_leaves_22 : decode cX7_leaves 22 = .ok (.iload_n 2, 1) := by decide +kernel
theorem dX7_leaves_23 : decode cX7_leaves 23 = .ok (.invokevirtual 221, 3) := by decide +kernel
theorem dX7_leaves_26 : decode cX7_leaves 26 = .ok (.aload_n 0, 1) := by decide +kernel
theorem dX7_leaves_27 : decode cX7_leaves 27 = .ok (.getfield 19, 3) := by decide +kernel
theorem dX7_leaves_30 : decode cX7_leaves 30 = .ok (.iload_n 1, 1) := by decide +kernel
theorem dX7_leaves_31 : decode cX7_leaves 31 = .ok (.iload_n 2, 1) := by decide +kernel
theorem dX7_leaves_32 : decode cX7_leaves 32 = .ok (.aload_n 0, 1) := by decide +kernel
theorem dX7_leaves_33 : decode cX7_leaves 33 = .ok (.getfield 46, 3) := by decide +kernel
theorem dX7_leaves_36 : decode cX7_leaves 36 = .ok (.invokevirtual 258, 3) := by decide +kernel
theorem dX7_leaves_39 : decode cX7_leaves 39 = .ok (.aload_n 0, 1) := by decide +kernel
theorem dX7_leaves_40 : decode cX7_leaves 40 = .ok (.getfield 46, 3) := by decide +kernel
theorem dX7_leaves_43 : decode cX7_leaves 43 = .ok (.iload_n 3, 1) := by decide +kernel
theorem dX7_leaves_44 : decode cX7_leaves 44 = .ok (.invokevirtual 262, 3) := by decide +kernel
theorem dX7_leaves_47 : decode cX7_leaves 47 = .ok (.ireturn, 1) := by decide +kernel
theorem dX7_best_0 : decode cX7_best 0 = .ok (.iload_n 1, 1) := by decide +kernel
theorem dX7_best_1 : decode cX7_best 1 = .ok (.iconst 1, 1) := by decide +kernel
theorem dX7_best_2 : decode cX7_best 2 = .ok (.if_icmp .lt 8, 3) := by decide +kernel
theorem dX7_best_5 : decode cX7_best 5 = .ok (.iload_n 1, 1) := by decide +kernel
theorem dX7_best_6 : decode cX7_best 6 = .ok (.iconst 2, 1) := by decide +kernel
theorem dX7_best_7 : decode cX7_best 7 = .ok (.if_icmp .le 14, 3) := by decide +kernel
theorem dX7_best_10 : decode cX7_best 10 = .ok (.new 67, 3) := by decide +kernel
theorem dX7_best_13 : decode cX7_best 13 = .ok (.dup, 1) := by decide +kernel
theorem dX7_best_14 : decode cX7_best 14 = .ok (.ldc_w 265, 3) := by decide +kernel
theorem dX7_best_17 : decode cX7_best 17 = .ok (.invokespecial 71, 3) := by decide +kernel
theorem dX7_best_20 : decode cX7_best 20 = .ok (.athrow, 1) := by decide +kernel
theorem dX7_best_21 : decode cX7_best 21 = .ok (.iload_n 2, 1) := by decide +kernel
theorem dX7_best_22 : decode cX7_best 22 = .ok (.ifCond .lt 8, 3) := by decide +kernel
theorem dX7_best_25 : decode cX7_best 25 = .ok (.iload_n 2, 1) := by decide +kernel
theorem dX7_best_26 : decode cX7_best 26 = .ok (.iconst 2, 1) := by decide +kernel
theorem dX7_best_27 : decode cX7_best 27 = .ok (.if_icmp .le 14, 3) := by decide +kernel
theorem dX7_best_30 : decode cX7_best 30 = .ok (.new 67, 3) := by decide +kernel
theorem dX7_best_33 : decode cX7_best 33 = .ok (.dup, 1) := by decide +kernel
theorem dX7_best_34 : decode cX7_best 34 = .ok (.ldc_w 267, 3) := by decide +kernel
theorem dX7_best_37 : decode cX7_best 37 = .ok (.invokespecial 71, 3) := by decide +kernel
theorem dX7_best_40 : decode cX7_best 40 = .ok (.athrow, 1) := by decide +kernel
theorem dX7_best_41 : decode cX7_best 41 = .ok (.iload_n 1, 1) := by decide +kernel
theorem dX7_best_42 : decode cX7_best 42 = .ok (.iconst 1, 1) := by decide +kernel
theorem dX7_best_43 : decode cX7_best 43 = .ok (.if_icmp .ne 10, 3) := by decide +kernel
theorem dX7_best_46 : decode cX7_best 46 = .ok (.aload_n 0, 1) := by decide +kernel
theorem dX7_best_47 : decode cX7_best 47 = .ok (.getfield 54, 3) := by decide +kernel
theorem dX7_best_50 : decode cX7_best 50 = .ok (.goto 7, 3) := by decide +kernel
theorem dX7_best_53 : decode cX7_best 53 = .ok (.aload_n 0, 1) := by decide +kernel
theorem dX7_best_54 : decode cX7_best 54 = .ok (.getfield 61, 3) := by decide +kernel
theorem dX7_best_57 : decode cX7_best 57 = .ok (.astore_n 3, 1) := by decide +kernel
theorem dX7_best_58 : decode cX7_best 58 = .ok (.iconst 1, 1) := by decide +kernel
theorem dX7_best_59 : decode cX7_best 59 = .ok (.aload_n 0, 1) := by decide +kernel
theorem dX7_best_60 : decode cX7_best 60 = .ok (.getfield 19, 3) := by decide +kernel
theorem dX7_best_63 : decode cX7_best 63 = .ok (.getfield 145, 3) := by decide +kernel
theorem dX7_best_66 : decode cX7_best 66 = .ok (.ishl, 1) := by decide +kernel
theorem dX7_best_67 : decode cX7_best 67 = .ok (.istore 4, 2) := by decide +kernel
theorem dX7_best_69 : decode cX7_best 69 = .ok (.iconst (-1), 1) := by decide +kernel
theorem dX7_best_70 : decode cX7_best 70 = .ok (.istore 5, 2) := by decide +kernel
theorem dX7_best_72 : decode cX7_best 72 = .ok (.iconst (-1), 1) := by decide +kernel
theorem dX7_best_73 : decode cX7_best 73 = .ok (.istore 6, 2) := by decide +kernel
theorem dX7_best_75 : decode cX7_best 75 = .ok (.iconst (-1), 1) := by decide +kernel
theorem dX7_best_76 : decode cX7_best 76 = .ok (.istore 7, 2) := by decide +kernel
theorem dX7_best_78 : decode cX7_best 78 = .ok (.iconst 0, 1) := by decide +kernel
theorem dX7_best_79 : decode cX7_best 79 = .ok (.istore 8, 2) := by decide +kernel
theorem dX7_best_81 : decode cX7_best 81 = .ok (.iload 8, 2) := by decide +kernel
theorem dX7_best_83 : decode cX7_best 83 = .ok (.aload_n 3, 1) := by decide +kernel
theorem dX7_best_84 : decode cX7_best 84 = .ok (.arraylength, 1) := by decide +kernel
theorem dX7_best_85 : decode cX7_best 85 = .ok (.if_icmp .ge 116, 3) := by decide +kernel
theorem dX7_best_88 : decode cX7_best 88 = .ok (.aload_n 3, 1) := by decide +kernel
theorem dX7_best_89 : decode cX7_best 89 = .ok (.iload 8, 2) := by decide +kernel
theorem dX7_best_91 : decode cX7_best 91 = .ok (.iaload, 1) := by decide +kernel
theorem dX7_best_92 : decode cX7_best 92 = .ok (.iload 4, 2) := by decide +kernel
theorem dX7_best_94 : decode cX7_best 94 = .ok (.if_icmp .ge 107, 3) := by decide +kernel
theorem dX7_best_97 : decode cX7_best 97 = .ok (.iconst 0, 1) := by decide +kernel
theorem dX7_best_98 : decode cX7_best 98 = .ok (.istore 9, 2) := by decide +kernel
theorem dX7_best_100 : decode cX7_best 100 = .ok (.iload 9, 2) := by decide +kernel
theorem dX7_best_102 : decode cX7_best 102 = .ok (.aload_n 3, 1) := by decide +kernel
theorem dX7_best_103 : decode cX7_best 103 = .ok (.arraylength, 1) := by decide +kernel
theorem dX7_best_104 : decode cX7_best 104 = .ok (.if_icmp .ge 91, 3) := by decide +kernel
theorem dX7_best_107 : decode cX7_best 107 = .ok (.aload_n 3, 1) := by decide +kernel
theorem dX7_best_108 : decode cX7_best 108 = .ok (.iload 9, 2) := by decide +kernel
theorem dX7_best_110 : decode cX7_best 110 = .ok (.iaload, 1) := by decide +kernel
theorem dX7_best_111 : decode cX7_best 111 = .ok (.iload 4, 2) := by decide +kernel
theorem dX7_best_113 : decode cX7_best 113 = .ok (.if_icmp .ge 82, 3) := by decide +kernel
theorem dX7_best_116 : decode cX7_best 116 = .ok (.aload_n 3, 1) := by decide +kernel
theorem dX7_best_117 : decode cX7_best 117 = .ok (.iload 8, 2) := by decide +kernel
theorem dX7_best_119 : decode cX7_best 119 = .ok (.iaload, 1) := by decide +kernel
theorem dX7_best_120 : decode cX7_best 120 = .ok (.aload_n 3, 1) := by decide +kernel
theorem dX7_best_121 : decode cX7_best 121 = .ok (.iload 9, 2) := by decide +kernel
theorem dX7_best_123 : decode cX7_best 123 = .ok (.iaload, 1) := by decide +kernel
theorem dX7_best_124 : decode cX7_best 124 = .ok (.iand, 1) := by decide +kernel
theorem dX7_best_125 : decode cX7_best 125 = .ok (.ifCond .eq 6, 3) := by decide +kernel
theorem dX7_best_128 : decode cX7_best 128 = .ok (.goto 61, 3) := by decide +kernel
theorem dX7_best_131 : decode cX7_best 131 = .ok (.aload_n 0, 1) := by decide +kernel
theorem dX7_best_132 : decode cX7_best 132 = .ok (.getfield 19, 3) := by decide +kernel
theorem dX7_best_135 : decode cX7_best 135 = .ok (.aload_n 3, 1) := by decide +kernel
theorem dX7_best_136 : decode cX7_best 136 = .ok (.iload 8, 2) := by decide +kernel
theorem dX7_best_138 : decode cX7_best 138 = .ok (.iaload, 1) := by decide +kernel
theorem dX7_best_139 : decode cX7_best 139 = .ok (.aload_n 3, 1) := by decide +kernel
theorem dX7_best_140 : decode cX7_best 140 = .ok (.iload 9, 2) := by decide +kernel
theorem dX7_best_142 : decode cX7_best 142 = .ok (.iaload, 1) := by decide +kernel
theorem dX7_best_143 : decode cX7_best 143 = .ok (.aload_n 0, 1) := by decide +kernel
theorem dX7_best_144 : decode cX7_best 144 = .ok (.getfield 46, 3) := by decide +kernel
theorem dX7_best_147 : decode cX7_best 147 = .ok (.invokevirtual 258, 3) := by decide +kernel
theorem dX7_best_150 : decode cX7_best 150 = .ok (.iload 7, 2) := by decide +kernel
theorem dX7_best_152 : decode cX7_best 152 = .ok (.iconst (-1), 1) := by decide +kernel
theorem dX7_best_153 : decode cX7_best 153 = .ok (.if_icmp .eq 15, 3) := by decide +kernel
theorem dX7_best_156 : decode cX7_best 156 = .ok (.aload_n 0, 1) := by decide +kernel
theorem dX7_best_157 : decode cX7_best 157 = .ok (.getfield 46, 3) := by decide +kernel
theorem dX7_best_160 : decode cX7_best 160 = .ok (.invokevirtual 269, 3) := by decide +kernel
theorem dX7_best_163 : decode cX7_best 163 = .ok (.iload 7, 2) := by decide +kernel
theorem dX7_best_165 : decode cX7_best 165 = .ok (.if_icmp .ge 24, 3) := by decide +kernel
theorem dX7_best_168 : decode cX7_best 168 = .ok (.aload_n 0, 1) := by decide +kernel
theorem dX7_best_169 : decode cX7_best 169 = .ok (.getfield 46, 3) := by decide +kernel
theorem dX7_best_172 : decode cX7_best 172 = .ok (.invokevirtual 269, 3) := by decide +kernel
theorem dX7_best_175 : decode cX7_best 175 = .ok (.istore 7, 2) := by decide +kernel
theorem dX7_best_177 : decode cX7_best 177 = .ok (.aload_n 3, 1) := by decide +kernel
theorem dX7_best_178 : decode cX7_best 178 = .ok (.iload 8, 2) := by decide +kernel
theorem dX7_best_180 : decode cX7_best 180 = .ok (.iaload, 1) := by decide +kernel
theorem dX7_best_181 : decode cX7_best 181 = .ok (.istore 5, 2) := by decide +kernel
theorem dX7_best_183 : decode cX7_best 183 = .ok (.aload_n 3, 1) := by decide +kernel
theorem dX7_best_184 : decode cX7_best 184 = .ok (.iload 9, 2) := by decide +kernel
theorem dX7_best_186 : decode cX7_best 186 = .ok (.iaload, 1) := by decide +kernel
theorem dX7_best_187 : decode cX7_best 187 = .ok (.istore 6, 2) := by decide +kernel
theorem dX7_best_189 : decode cX7_best 189 = .ok (.iinc 9 1, 3) := by decide +kernel
theorem dX7_best_192 : decode cX7_best 192 = .ok (.goto (-92), 3) := by decide +kernel
theorem dX7_best_195 : decode cX7_best 195 = .ok (.iinc 8 1, 3) := by decide +kernel
theorem dX7_best_198 : decode cX7_best 198 = .ok (.goto (-117), 3) := by decide +kernel
theorem dX7_best_201 : decode cX7_best 201 = .ok (.iload_n 2, 1) := by decide +kernel
theorem dX7_best_202 : decode cX7_best 202 = .ok (.ifCond .ne 8, 3) := by decide +kernel
theorem dX7_best_205 : decode cX7_best 205 = .ok (.iload 5, 2) := by decide +kernel
theorem dX7_best_207 : decode cX7_best 207 = .ok (.goto 15, 3) := by decide +kernel
theorem dX7_best_210 : decode cX7_best 210 = .ok (.iload_n 2, 1) := by decide +kernel
theorem dX7_best_211 : decode cX7_best 211 = .ok (.iconst 1, 1) := by decide +kernel
theorem dX7_best_212 : decode cX7_best 212 = .ok (.if_icmp .ne 8, 3) := by decide +kernel
theorem dX7_best_215 : decode cX7_best 215 = .ok (.iload 6, 2) := by decide +kernel
theorem dX7_best_217 : decode cX7_best 217 = .ok (.goto 5, 3) := by decide +kernel
theorem dX7_best_220 : decode cX7_best 220 = .ok (.iload 7, 2) := by decide +kernel
theorem dX7_best_222 : decode cX7_best 222 = .ok (.ireturn, 1) := by decide +kernel
theorem dX7_sharpest_0 : decode cX7_sharpest 0 = .ok (.iconst 0, 1) := by decide +kernel
theorem dX7_sharpest_1 : decode cX7_sharpest 1 = .ok (.istore_n 1, 1) := by decide +kernel
theorem dX7_sharpest_2 : decode cX7_sharpest 2 = .ok (.iconst (-1), 1) := by decide +kernel
theorem dX7_sharpest_3 : decode cX7_sharpest 3 = .ok (.istore_n 2, 1) := by decide +kernel
theorem dX7_sharpest_4 : decode cX7_sharpest 4 = .ok (.iconst 0, 1) := by decide +kernel
theorem dX7_sharpest_5 : decode cX7_sharpest 5 = .ok (.istore_n 3, 1) := by decide +kernel
theorem dX7_sharpest_6 : decode cX7_sharpest 6 = .ok (.iload_n 3, 1) := by decide +kernel
theorem dX7_sharpest_7 : decode cX7_sharpest 7 = .ok (.aload_n 0, 1) := by decide +kernel
theorem dX7_sharpest_8 : decode cX7_sharpest 8 = .ok (.getfield 19, 3) := by decide +kernel
theorem dX7_sharpest_11 : decode cX7_sharpest 11 = .ok (.getfield 145, 3) := by decide +kernel
theorem dX7_sharpest_14 : decode cX7_sharpest 14 = .ok (.if_icmp .ge 109, 3) := by decide +kernel
theorem dX7_sharpest_17 : decode cX7_sharpest 17 = .ok (.iconst 0, 1) := by decide +kernel
theorem dX7_sharpest_18 : decode cX7_sharpest 18 = .ok (.istore 4, 2) := by decide +kernel
theorem dX7_sharpest_20 : decode cX7_sharpest 20 = .ok (.iload 4, 2) := by decide +kernel
theorem dX7_sharpest_22 : decode cX7_sharpest 22 = .ok (.bipush 12, 2) := by decide +kernel
theorem dX7_sharpest_24 : decode cX7_sharpest 24 = .ok (.if_icmp .gt 93, 3) := by decide +kernel
theorem dX7_sharpest_27 : decode cX7_sharpest 27 = .ok (.iload 4, 2) := by decide +kernel
theorem dX7_sharpest_29 : decode cX7_sharpest 29 = .ok (.iload_n 3, 1) := by decide +kernel
theorem dX7_sharpest_30 : decode cX7_sharpest 30 = .ok (.if_icmp .eq 81, 3) := by decide +kernel
theorem dX7_sharpest_33 : decode cX7_sharpest 33 = .ok (.iload 4, 2) := by decide +kernel
theorem dX7_sharpest_35 : decode cX7_sharpest 35 = .ok (.aload_n 0, 1) := by decide +kernel
theorem dX7_sharpest_36 : decode cX7_sharpest 36 = .ok (.getfield 19, 3) := by decide +kernel
theorem dX7_sharpest_39 : decode cX7_sharpest 39 = .ok (.getfield 145, 3) := by decide +kernel
theorem dX7_sharpest_42 : decode cX7_sharpest 42 = .ok (.if_icmp .lt 13, 3) := by decide +kernel
theorem dX7_sharpest_45 : decode cX7_sharpest 45 = .ok (.iload 4, 2) := by decide +kernel
theorem dX7_sharpest_47 : decode cX7_sharpest 47 = .ok (.bipush 12, 2) := by decide +kernel
theorem dX7_sharpest_49 : decode cX7_sharpest 49 = .ok (.if_icmp .ge 6, 3) := by decide +kernel
theorem dX7_sharpest_52 : decode cX7_sharpest 52 = .ok (.goto 59, 3) := by decide +kernel
theorem dX7_sharpest_55 : decode cX7_sharpest 55 = .ok (.aload_n 0, 1) := by decide +kernel
theorem dX7_sharpest_56 : decode cX7_sharpest 56 = .ok (.getfield 19, 3) := by decide +kernel
theorem dX7_sharpest_59 : decode cX7_sharpest 59 = .ok (.iconst 1, 1) := by decide +kernel
theorem dX7_sharpest_60 : decode cX7_sharpest 60 = .ok (.iload_n 3, 1) := by decide +kernel
theorem dX7_sharpest_61 : decode cX7_sharpest 61 = .ok (.ishl, 1) := by decide +kernel
theorem dX7_sharpest_62 : decode cX7_sharpest 62 = .ok (.iload 4, 2) := by decide +kernel
theorem dX7_sharpest_64 : decode cX7_sharpest 64 = .ok (.bipush 12, 2) := by decide +kernel
theorem dX7_sharpest_66 : decode cX7_sharpest 66 = .ok (.if_icmp .ge 10, 3) := by decide +kernel
theorem dX7_sharpest_69 : decode cX7_sharpest 69 = .ok (.iconst 1, 1) := by decide +kernel
theorem dX7_sharpest_70 : decode cX7_sharpest 70 = .ok (.iload 4, 2) := by decide +kernel
theorem dX7_sharpest_72 : decode cX7_sharpest 72 = .ok (.ishl, 1) := by decide +kernel
theorem dX7_sharpest_73 : decode cX7_sharpest 73 = .ok (.goto 4, 3) := by decide +kernel
theorem dX7_sharpest_76 : decode cX7_sharpest 76 = .ok (.iconst 0, 1) := by decide +kernel
theorem dX7_sharpest_77 : decode cX7_sharpest 77 = .ok (.aload_n 0, 1) := by decide +kernel
theorem dX7_sharpest_78 : decode cX7_sharpest 78 = .ok (.getfield 46, 3) := by decide +kernel
theorem dX7_sharpest_81 : decode cX7_sharpest 81 = .ok (.invokevirtual 258, 3) := by decide +kernel
theorem dX7_sharpest_84 : decode cX7_sharpest 84 = .ok (.aload_n 0, 1) := by decide +kernel
theorem dX7_sharpest_85 : decode cX7_sharpest 85 = .ok (.getfield 46, 3) := by decide +kernel
theorem dX7_sharpest_88 : decode cX7_sharpest 88 = .ok (.invokevirtual 272, 3) := by decide +kernel
theorem dX7_sharpest_91 : decode cX7_sharpest 91 = .ok (.iload_n 1, 1) := by decide +kernel
theorem dX7_sharpest_92 : decode cX7_sharpest 92 = .ok (.if_icmp .le 19, 3) := by decide +kernel
theorem dX7_sharpest_95 : decode cX7_sharpest 95 = .ok (.aload_n 0, 1) := by decide +kernel
theorem dX7_sharpest_96 : decode cX7_sharpest 96 = .ok (.getfield 46, 3) := by decide +kernel
theorem dX7_sharpest_99 : decode cX7_sharpest 99 = .ok (.invokevirtual 272, 3) := by decide +kernel
theorem dX7_sharpest_102 : decode cX7_sharpest 102 = .ok (.istore_n 1, 1) := by decide +kernel
theorem dX7_sharpest_103 : decode cX7_sharpest 103 = .ok (.bipush 100, 2) := by decide +kernel
theorem dX7_sharpest_105 : decode cX7_sharpest 105 = .ok (.iload_n 3, 1) := by decide +kernel
theorem dX7_sharpest_106 : decode cX7_sharpest 106 = .ok (.imul, 1) := by decide +kernel
theorem dX7_sharpest_107 : decode cX7_sharpest 107 = .ok (.iload 4, 2) := by decide +kernel
theorem dX7_sharpest_109 : decode cX7_sharpest 109 = .ok (.iadd, 1) := by decide +kernel
theorem dX7_sharpest_110 : decode cX7_sharpest 110 = .ok (.istore_n 2, 1) := by decide +kernel
theorem dX7_sharpest_111 : decode cX7_sharpest 111 = .ok (.iinc 4 1, 3) := by decide +kernel
theorem dX7_sharpest_114 : decode cX7_sharpest 114 = .ok (.goto (-94), 3) := by decide +kernel
theorem dX7_sharpest_117 : decode cX7_sharpest 117 = .ok (.iinc 3 1, 3) := by decide +kernel
theorem dX7_sharpest_120 : decode cX7_sharpest 120 = .ok (.goto (-114), 3) := by decide +kernel
theorem dX7_sharpest_123 : decode cX7_sharpest 123 = .ok (.iload_n 2, 1) := by decide +kernel
theorem dX7_sharpest_124 : decode cX7_sharpest 124 = .ok (.ireturn, 1) := by decide +kernel
theorem dX7_needs_0 : decode cX7_needs 0 = .ok (.aload_n 0, 1) := by decide +kernel
theorem dX7_needs_1 : decode cX7_needs 1 = .ok (.getfield 19, 3) := by decide +kernel
theorem dX7_needs_4 : decode cX7_needs 4 = .ok (.getfield 149, 3) := by decide +kernel
theorem dX7_needs_7 : decode cX7_needs 7 = .ok (.invokevirtual 153, 3) := by decide +kernel
theorem dX7_needs_10 : decode cX7_needs 10 = .ok (.invokestatic 275, 3) := by decide +kernel
theorem dX7_needs_13 : decode cX7_needs 13 = .ok (.ireturn, 1) := by decide +kernel
theorem dX7_bestArms_0 : decode cX7_bestArms 0 = .ok (.aload_n 0, 1) := by decide +kernel
theorem dX7_bestArms_1 : decode cX7_bestArms 1 = .ok (.iload_n 1, 1) := by decide +kernel
theorem dX7_bestArms_2 : decode cX7_bestArms 2 = .ok (.iload_n 2, 1) := by decide +kernel
theorem dX7_bestArms_3 : decode cX7_bestArms 3 = .ok (.invokevirtual 221, 3) := by decide +kernel
theorem dX7_bestArms_6 : decode cX7_bestArms 6 = .ok (.iconst (-1), 1) := by decide +kernel
theorem dX7_bestArms_7 : decode cX7_bestArms 7 = .ok (.istore_n 3, 1) := by decide +kernel
theorem dX7_bestArms_8 : decode cX7_bestArms 8 = .ok (.iconst (-1), 1) := by decide +kernel
theorem dX7_bestArms_9 : decode cX7_bestArms 9 = .ok (.istore 4, 2) := by decide +kernel
theorem dX7_bestArms_11 : decode cX7_bestArms 11 = .ok (.iconst 1, 1) := by decide +kernel
theorem dX7_bestArms_12 : decode cX7_bestArms 12 = .ok (.istore 5, 2) := by decide +kernel
theorem dX7_bestArms_14 : decode cX7_bestArms 14 = .ok (.iload 5, 2) := by decide +kernel
theorem dX7_bestArms_16 : decode cX7_bestArms 16 = .ok (.bipush 20, 2) := by decide +kernel
theorem dX7_bestArms_18 : decode cX7_bestArms 18 = .ok (.if_icmp .gt 76, 3) := by decide +kernel
theorem dX7_bestArms_21 : decode cX7_bestArms 21 = .ok (.iconst 1, 1) := by decide +kernel
theorem dX7_bestArms_22 : decode cX7_bestArms 22 = .ok (.istore 6, 2) := by decide +kernel
theorem dX7_bestArms_24 : decode cX7_bestArms 24 = .ok (.iload 6, 2) := by decide +kernel
theorem dX7_bestArms_26 : decode cX7_bestArms 26 = .ok (.bipush 20, 2) := by decide +kernel
theorem dX7_bestArms_28 : decode cX7_bestArms 28 = .ok (.if_icmp .gt 60, 3) := by decide +kernel
theorem dX7_bestArms_31 : decode cX7_bestArms 31 = .ok (.aload_n 0, 1) := by decide +kernel
theorem dX7_bestArms_32 : decode cX7_bestArms 32 = .ok (.getfield 19, 3) := by decide +kernel
theorem dX7_bestArms_35 : decode cX7_bestArms 35 = .ok (.iload_n 1, 1) := by decide +kernel
theorem dX7_bestArms_36 : decode cX7_bestArms 36 = .ok (.iload_n 2, 1) := by decide +kernel
theorem dX7_bestArms_37 : decode cX7_bestArms 37 = .ok (.iload 5, 2) := by decide +kernel
theorem dX7_bestArms_39 : decode cX7_bestArms 39 = .ok (.iload 6, 2) := by decide +kernel
theorem dX7_bestArms_41 : decode cX7_bestArms 41 = .ok (.aload_n 0, 1) := by decide +kernel
theorem dX7_bestArms_42 : decode cX7_bestArms 42 = .ok (.getfield 46, 3) := by decide +kernel
theorem dX7_bestArms_45 : decode cX7_bestArms 45 = .ok (.invokevirtual 278, 3) := by decide +kernel
theorem dX7_bestArms_48 : decode cX7_bestArms 48 = .ok (.iload_n 3, 1) := by decide +kernel
theorem dX7_bestArms_49 : decode cX7_bestArms 49 = .ok (.iconst (-1), 1) := by decide +kernel
theorem dX7_bestArms_50 : decode cX7_bestArms 50 = .ok (.if_icmp .eq 14, 3) := by decide +kernel
theorem dX7_bestArms_53 : decode cX7_bestArms 53 = .ok (.aload_n 0, 1) := by decide +kernel
theorem dX7_bestArms_54 : decode cX7_bestArms 54 = .ok (.getfield 46, 3) := by decide +kernel
theorem dX7_bestArms_57 : decode cX7_bestArms 57 = .ok (.invokevirtual 269, 3) := by decide +kernel
theorem dX7_bestArms_60 : decode cX7_bestArms 60 = .ok (.iload_n 3, 1) := by decide +kernel
theorem dX7_bestArms_61 : decode cX7_bestArms 61 = .ok (.if_icmp .ge 21, 3) := by decide +kernel
theorem dX7_bestArms_64 : decode cX7_bestArms 64 = .ok (.aload_n 0, 1) := by decide +kernel
theorem dX7_bestArms_65 : decode cX7_bestArms 65 = .ok (.getfield 46, 3) := by decide +kernel
theorem dX7_bestArms_68 : decode cX7_bestArms 68 = .ok (.invokevirtual 269, 3) := by decide +kernel
theorem dX7_bestArms_71 : decode cX7_bestArms 71 = .ok (.istore_n 3, 1) := by decide +kernel
theorem dX7_bestArms_72 : decode cX7_bestArms 72 = .ok (.bipush 100, 2) := by decide +kernel
theorem dX7_bestArms_74 : decode cX7_bestArms 74 = .ok (.iload 5, 2) := by decide +kernel
theorem dX7_bestArms_76 : decode cX7_bestArms 76 = .ok (.imul, 1) := by decide +kernel
theorem dX7_bestArms_77 : decode cX7_bestArms 77 = .ok (.iload 6, 2) := by decide +kernel
theorem dX7_bestArms_79 : decode cX7_bestArms 79 = .ok (.iadd, 1) := by decide +kernel
theorem dX7_bestArms_80 : decode cX7_bestArms 80 = .ok (.istore 4, 2) := by decide +kernel
theorem dX7_bestArms_82 : decode cX7_bestArms 82 = .ok (.iinc 6 1, 3) := by decide +kernel
theorem dX7_bestArms_85 : decode cX7_bestArms 85 = .ok (.goto (-61), 3) := by decide +kernel
theorem dX7_bestArms_88 : decode cX7_bestArms 88 = .ok (.iinc 5 1, 3) := by decide +kernel
theorem dX7_bestArms_91 : decode cX7_bestArms 91 = .ok (.goto (-77), 3) := by decide +kernel
theorem dX7_bestArms_94 : decode cX7_bestArms 94 = .ok (.iload 4, 2) := by decide +kernel
theorem dX7_bestArms_96 : decode cX7_bestArms 96 = .ok (.ireturn, 1) := by decide +kernel
theorem dX7_runScript_0 : decode cX7_runScript 0 = .ok (.iload_n 1, 1) := by decide +kernel
theorem dX7_runScript_1 : decode cX7_runScript 1 = .ok (.iconst 1, 1) := by decide +kernel
theorem dX7_runScript_2 : decode cX7_runScript 2 = .ok (.if_icmp .lt 8, 3) := by decide +kernel
theorem dX7_runScript_5 : decode cX7_runScript 5 = .ok (.iload_n 1, 1) := by decide +kernel
theorem dX7_runScript_6 : decode cX7_runScript 6 = .ok (.iconst 3, 1) := by decide +kernel
theorem dX7_runScript_7 : decode cX7_runScript 7 = .ok (.if_icmp .le 14, 3) := by decide +kernel
theorem dX7_runScript_10 : decode cX7_runScript 10 = .ok (.new 67, 3) := by decide +kernel
theorem dX7_runScript_13 : decode cX7_runScript 13 = .ok (.dup, 1) := by decide +kernel
theorem dX7_runScript_14 : decode cX7_runScript 14 = .ok (.ldc_w 282, 3) := by decide +kernel
theorem dX7_runScript_17 : decode cX7_runScript 17 = .ok (.invokespecial 71, 3) := by decide +kernel
theorem dX7_runScript_20 : decode cX7_runScript 20 = .ok (.athrow, 1) := by decide +kernel
theorem dX7_runScript_21 : decode cX7_runScript 21 = .ok (.lload_n 2, 1) := by decide +kernel
theorem dX7_runScript_22 : decode cX7_runScript 22 = .ok (.lconst 0, 1) := by decide +kernel
theorem dX7_runScript_23 : decode cX7_runScript 23 = .ok (.lcmp, 1) := by decide +kernel
theorem dX7_runScript_24 : decode cX7_runScript 24 = .ok (.ifCond .lt 13, 3) := by decide +kernel
theorem dX7_runScript_27 : decode cX7_runScript 27 = .ok (.lload_n 2, 1) := by decide +kernel
theorem dX7_runScript_28 : decode cX7_runScript 28 = .ok (.iload_n 1, 1) := by decide +kernel
theorem dX7_runScript_29 : decode cX7_runScript 29 = .ok (.invokestatic 284, 3) := by decide +kernel
theorem dX7_runScript_32 : decode cX7_runScript 32 = .ok (.lconst 0, 1) := by decide +kernel
theorem dX7_runScript_33 : decode cX7_runScript 33 = .ok (.lcmp, 1) := by decide +kernel
theorem dX7_runScript_34 : decode cX7_runScript 34 = .ok (.ifCond .eq 14, 3) := by decide +kernel
theorem dX7_runScript_37 : decode cX7_runScript 37 = .ok (.new 67, 3) := by decide +kernel
theorem dX7_runScript_40 : decode cX7_runScript 40 = .ok (.dup, 1) := by decide +kernel
theorem dX7_runScript_41 : decode cX7_runScript 41 = .ok (.ldc_w 288, 3) := by decide +kernel
theorem dX7_runScript_44 : decode cX7_runScript 44 = .ok (.invokespecial 71, 3) := by decide +kernel
theorem dX7_runScript_47 : decode cX7_runScript 47 = .ok (.athrow, 1) := by decide +kernel
theorem dX7_runScript_48 : decode cX7_runScript 48 = .ok (.aload_n 0, 1) := by decide +kernel
theorem dX7_runScript_49 : decode cX7_runScript 49 = .ok (.getfield 23, 3) := by decide +kernel
theorem dX7_runScript_52 : decode cX7_runScript 52 = .ok (.aload_n 0, 1) := by decide +kernel
theorem dX7_runScript_53 : decode cX7_runScript 53 = .ok (.getfield 19, 3) := by decide +kernel
theorem dX7_runScript_56 : decode cX7_runScript 56 = .ok (.invokevirtual 290, 3) := by decide +kernel
theorem dX7_runScript_59 : decode cX7_runScript 59 = .ok (.iconst 0, 1) := by decide +kernel
theorem dX7_runScript_60 : decode cX7_runScript 60 = .ok (.istore 4, 2) := by decide +kernel
theorem dX7_runScript_62 : decode cX7_runScript 62 = .ok (.iload 4, 2) := by decide +kernel
theorem dX7_runScript_64 : decode cX7_runScript 64 = .ok (.iload_n 1, 1) := by decide +kernel
theorem dX7_runScript_65 : decode cX7_runScript 65 = .ok (.if_icmp .ge 34, 3) := by decide +kernel
theorem dX7_runScript_68 : decode cX7_runScript 68 = .ok (.aload_n 0, 1) := by decide +kernel
theorem dX7_runScript_69 : decode cX7_runScript 69 = .ok (.lload_n 2, 1) := by decide +kernel
theorem dX7_runScript_70 : decode cX7_runScript 70 = .ok (.iload_n 1, 1) := by decide +kernel
theorem dX7_runScript_71 : decode cX7_runScript 71 = .ok (.iconst 1, 1) := by decide +kernel
theorem dX7_runScript_72 : decode cX7_runScript 72 = .ok (.isub, 1) := by decide +kernel
theorem dX7_runScript_73 : decode cX7_runScript 73 = .ok (.iload 4, 2) := by decide +kernel
theorem dX7_runScript_75 : decode cX7_runScript 75 = .ok (.isub, 1) := by decide +kernel
theorem dX7_runScript_76 : decode cX7_runScript 76 = .ok (.invokestatic 284, 3) := by decide +kernel
theorem dX7_runScript_79 : decode cX7_runScript 79 = .ok (.ldc2_w 293, 3) := by decide +kernel
theorem dX7_runScript_82 : decode cX7_runScript 82 = .ok (.lrem, 1) := by decide +kernel
theorem dX7_runScript_83 : decode cX7_runScript 83 = .ok (.l2i, 1) := by decide +kernel
theorem dX7_runScript_84 : decode cX7_runScript 84 = .ok (.invokevirtual 295, 3) := by decide +kernel
theorem dX7_runScript_87 : decode cX7_runScript 87 = .ok (.ifCond .ne 6, 3) := by decide +kernel
theorem dX7_runScript_90 : decode cX7_runScript 90 = .ok (.iload 4, 2) := by decide +kernel
theorem dX7_runScript_92 : decode cX7_runScript 92 = .ok (.ireturn, 1) := by decide +kernel
theorem dX7_runScript_93 : decode cX7_runScript 93 = .ok (.iinc 4 1, 3) := by decide +kernel
theorem dX7_runScript_96 : decode cX7_runScript 96 = .ok (.goto (-34), 3) := by decide +kernel
theorem dX7_runScript_99 : decode cX7_runScript 99 = .ok (.iconst (-1), 1) := by decide +kernel
theorem dX7_runScript_100 : decode cX7_runScript 100 = .ok (.ireturn, 1) := by decide +kernel
theorem dX7_simulate_0 : decode cX7_simulate 0 = .ok (.iload_n 3, 1) := by decide +kernel
theorem dX7_simulate_1 : decode cX7_simulate 1 = .ok (.iconst 1, 1) := by decide +kernel
theorem dX7_simulate_2 : decode cX7_simulate 2 = .ok (.if_icmp .lt 9, 3) := by decide +kernel
theorem dX7_simulate_5 : decode cX7_simulate 5 = .ok (.iload_n 3, 1) := by decide +kernel
theorem dX7_simulate_6 : decode cX7_simulate 6 = .ok (.bipush 60, 2) := by decide +kernel
theorem dX7_simulate_8 : decode cX7_simulate 8 = .ok (.if_icmp .le 14, 3) := by decide +kernel
theorem dX7_simulate_11 : decode cX7_simulate 11 = .ok (.new 67, 3) := by decide +kernel
theorem dX7_simulate_14 : decode cX7_simulate 14 = .ok (.dup, 1) := by decide +kernel
theorem dX7_simulate_15 : decode cX7_simulate 15 = .ok (.ldc_w 298, 3) := by decide +kernel
theorem dX7_simulate_18 : decode cX7_simulate 18 = .ok (.invokespecial 71, 3) := by decide +kernel
theorem dX7_simulate_21 : decode cX7_simulate 21 = .ok (.athrow, 1) := by decide +kernel
theorem dX7_simulate_22 : decode cX7_simulate 22 = .ok (.aload_n 0, 1) := by decide +kernel
theorem dX7_simulate_23 : decode cX7_simulate 23 = .ok (.getfield 23, 3) := by decide +kernel
theorem dX7_simulate_26 : decode cX7_simulate 26 = .ok (.aload_n 0, 1) := by decide +kernel
theorem dX7_simulate_27 : decode cX7_simulate 27 = .ok (.getfield 19, 3) := by decide +kernel
theorem dX7_simulate_30 : decode cX7_simulate 30 = .ok (.invokevirtual 290, 3) := by decide +kernel
theorem dX7_simulate_33 : decode cX7_simulate 33 = .ok (.lload_n 1, 1) := by decide +kernel
theorem dX7_simulate_34 : decode cX7_simulate 34 = .ok (.lstore 4, 2) := by decide +kernel
theorem dX7_simulate_36 : decode cX7_simulate 36 = .ok (.iconst 0, 1) := by decide +kernel
theorem dX7_simulate_37 : decode cX7_simulate 37 = .ok (.istore 6, 2) := by decide +kernel
theorem dX7_simulate_39 : decode cX7_simulate 39 = .ok (.iload 6, 2) := by decide +kernel
theorem dX7_simulate_41 : decode cX7_simulate 41 = .ok (.iload_n 3, 1) := by decide +kernel
theorem dX7_simulate_42 : decode cX7_simulate 42 = .ok (.if_icmp .ge 31, 3) := by decide +kernel
theorem dX7_simulate_45 : decode cX7_simulate 45 = .ok (.lload 4, 2) := by decide +kernel
theorem dX7_simulate_47 : decode cX7_simulate 47 = .ok (.ldc2_w 300, 3) := by decide +kernel
theorem dX7_simulate_50 : decode cX7_simulate 50 = .ok (.lmul, 1) := by decide +kernel
theorem dX7_simulate_51 : decode cX7_simulate 51 = .ok (.ldc2_w 302, 3) := by decide +kernel
theorem dX7_simulate_54 : decode cX7_simulate 54 = .ok (.ladd, 1) := by decide +kernel
theorem dX7_simulate_55 : decode cX7_simulate 55 = .ok (.lstore 4, 2) := by decide +kernel
theorem dX7_simulate_57 : decode cX7_simulate 57 = .ok (.aload_n 0, 1) := by decide +kernel
theorem dX7_simulate_58 : decode cX7_simulate 58 = .ok (.lload 4, 2) := by decide +kernel
theorem dX7_simulate_60 : decode cX7_simulate 60 = .ok (.bipush 33, 2) := by decide +kernel
theorem dX7_simulate_62 : decode cX7_simulate 62 = .ok (.lushr, 1) := by decide +kernel
theorem dX7_simulate_63 : decode cX7_simulate 63 = .ok (.l2i, 1) := by decide +kernel
theorem dX7_simulate_64 : decode cX7_simulate 64 = .ok (.invokevirtual 304, 3) := by decide +kernel
theorem dX7_simulate_67 : decode cX7_simulate 67 = .ok (.iinc 6 1, 3) := by decide +kernel
theorem dX7_simulate_70 : decode cX7_simulate 70 = .ok (.goto (-31), 3) := by decide +kernel
theorem dX7_simulate_73 : decode cX7_simulate 73 = .ok (.sipush 1000, 3) := by decide +kernel
theorem dX7_simulate_76 : decode cX7_simulate 76 = .ok (.aload_n 0, 1) := by decide +kernel
theorem dX7_simulate_77 : decode cX7_simulate 77 = .ok (.getfield 23, 3) := by decide +kernel
theorem dX7_simulate_80 : decode cX7_simulate 80 = .ok (.getfield 158, 3) := by decide +kernel
theorem dX7_simulate_83 : decode cX7_simulate 83 = .ok (.imul, 1) := by decide +kernel
theorem dX7_simulate_84 : decode cX7_simulate 84 = .ok (.aload_n 0, 1) := by decide +kernel
theorem dX7_simulate_85 : decode cX7_simulate 85 = .ok (.getfield 23, 3) := by decide +kernel
theorem dX7_simulate_88 : decode cX7_simulate 88 = .ok (.getfield 149, 3) := by decide +kernel
theorem dX7_simulate_91 : decode cX7_simulate 91 = .ok (.invokevirtual 153, 3) := by decide +kernel
theorem dX7_simulate_94 : decode cX7_simulate 94 = .ok (.iadd, 1) := by decide +kernel
theorem dX7_simulate_95 : decode cX7_simulate 95 = .ok (.ireturn, 1) := by decide +kernel
theorem dX7_save_0 : decode cX7_save 0 = .ok (.iload_n 1, 1) := by decide +kernel
theorem dX7_save_1 : decode cX7_save 1 = .ok (.ifCond .lt 8, 3) := by decide +kernel
theorem dX7_save_4 : decode cX7_save 4 = .ok (.iload_n 1, 1) := by decide +kernel
theorem dX7_save_5 : decode cX7_save 5 = .ok (.iconst 2, 1) := by decide +kernel
theorem dX7_save_6 : decode cX7_save 6 = .ok (.if_icmp .lt 14, 3) := by decide +kernel
theorem dX7_save_9 : decode cX7_save 9 = .ok (.new 182, 3) := by decide +kernel
theorem dX7_save_12 : decode cX7_save 12 = .ok (.dup, 1) := by decide +kernel
theorem dX7_save_13 : decode cX7_save 13 = .ok (.ldc_w 308, 3) := by decide +kernel
theorem dX7_save_16 : decode cX7_save 16 = .ok (.invokespecial 186, 3) := by decide +kernel
theorem dX7_save_19 : decode cX7_save 19 = .ok (.athrow, 1) := by decide +kernel
theorem dX7_save_20 : decode cX7_save 20 = .ok (.iload_n 1, 1) := by decide +kernel
theorem dX7_save_21 : decode cX7_save 21 = .ok (.ifCond .ne 10, 3) := by decide +kernel
theorem dX7_save_24 : decode cX7_save 24 = .ok (.aload_n 0, 1) := by decide +kernel
theorem dX7_save_25 : decode cX7_save 25 = .ok (.getfield 36, 3) := by decide +kernel
theorem dX7_save_28 : decode cX7_save 28 = .ok (.goto 7, 3) := by decide +kernel
theorem dX7_save_31 : decode cX7_save 31 = .ok (.aload_n 0, 1) := by decide +kernel
theorem dX7_save_32 : decode cX7_save 32 = .ok (.getfield 40, 3) := by decide +kernel
theorem dX7_save_35 : decode cX7_save 35 = .ok (.astore_n 2, 1) := by decide +kernel
theorem dX7_save_36 : decode cX7_save 36 = .ok (.aload_n 2, 1) := by decide +kernel
theorem dX7_save_37 : decode cX7_save 37 = .ok (.getfield 310, 3) := by decide +kernel
theorem dX7_save_40 : decode cX7_save 40 = .ok (.aload_n 0, 1) := by decide +kernel
theorem dX7_save_41 : decode cX7_save 41 = .ok (.getfield 19, 3) := by decide +kernel
theorem dX7_save_44 : decode cX7_save 44 = .ok (.invokevirtual 290, 3) := by decide +kernel
theorem dX7_save_47 : decode cX7_save 47 = .ok (.aload_n 2, 1) := by decide +kernel
theorem dX7_save_48 : decode cX7_save 48 = .ok (.iconst 1, 1) := by decide +kernel
theorem dX7_save_49 : decode cX7_save 49 = .ok (.putfield 113, 3) := by decide +kernel
theorem dX7_save_52 : decode cX7_save 52 = .ok (.aload_n 0, 1) := by decide +kernel
theorem dX7_save_53 : decode cX7_save 53 = .ok (.getfield 19, 3) := by decide +kernel
theorem dX7_save_56 : decode cX7_save 56 = .ok (.getfield 149, 3) := by decide +kernel
theorem dX7_save_59 : decode cX7_save 59 = .ok (.invokevirtual 153, 3) := by decide +kernel
theorem dX7_save_62 : decode cX7_save 62 = .ok (.ireturn, 1) := by decide +kernel
theorem dX7_restore_0 : decode cX7_restore 0 = .ok (.iload_n 1, 1) := by decide +kernel
theorem dX7_restore_1 : decode cX7_restore 1 = .ok (.ifCond .lt 8, 3) := by decide +kernel
theorem dX7_restore_4 : decode cX7_restore 4 = .ok (.iload_n 1, 1) := by decide +kernel
theorem dX7_restore_5 : decode cX7_restore 5 = .ok (.iconst 2, 1) := by decide +kernel
theorem dX7_restore_6 : decode cX7_restore 6 = .ok (.if_icmp .lt 14, 3) := by decide +kernel
theorem dX7_restore_9 : decode cX7_restore 9 = .ok (.new 182, 3) := by decide +kernel
theorem dX7_restore_12 : decode cX7_restore 12 = .ok (.dup, 1) := by decide +kernel
theorem dX7_restore_13 : decode cX7_restore 13 = .ok (.ldc_w 308, 3) := by decide +kernel
theorem dX7_restore_16 : decode cX7_restore 16 = .ok (.invokespecial 186, 3) := by decide +kernel
theorem dX7_restore_19 : decode cX7_restore 19 = .ok (.athrow, 1) := by decide +kernel
theorem dX7_restore_20 : decode cX7_restore 20 = .ok (.iload_n 1, 1) := by decide +kernel
theorem dX7_restore_21 : decode cX7_restore 21 = .ok (.ifCond .ne 10, 3) := by decide +kernel
theorem dX7_restore_24 : decode cX7_restore 24 = .ok (.aload_n 0, 1) := by decide +kernel
theorem dX7_restore_25 : decode cX7_restore 25 = .ok (.getfield 36, 3) := by decide +kernel
theorem dX7_restore_28 : decode cX7_restore 28 = .ok (.goto 7, 3) := by decide +kernel
theorem dX7_restore_31 : decode cX7_restore 31 = .ok (.aload_n 0, 1) := by decide +kernel
theorem dX7_restore_32 : decode cX7_restore 32 = .ok (.getfield 40, 3) := by decide +kernel
theorem dX7_restore_35 : decode cX7_restore 35 = .ok (.astore_n 2, 1) := by decide +kernel
theorem dX7_restore_36 : decode cX7_restore 36 = .ok (.aload_n 2, 1) := by decide +kernel
theorem dX7_restore_37 : decode cX7_restore 37 = .ok (.getfield 113, 3) := by decide +kernel
theorem dX7_restore_40 : decode cX7_restore 40 = .ok (.ifCond .ne 14, 3) := by decide +kernel
theorem dX7_restore_43 : decode cX7_restore 43 = .ok (.new 78, 3) := by decide +kernel
theorem dX7_restore_46 : decode cX7_restore 46 = .ok (.dup, 1) := by decide +kernel
theorem dX7_restore_47 : decode cX7_restore 47 = .ok (.ldc_w 313, 3) := by decide +kernel
theorem dX7_restore_50 : decode cX7_restore 50 = .ok (.invokespecial 82, 3) := by decide +kernel
theorem dX7_restore_53 : decode cX7_restore 53 = .ok (.athrow, 1) := by decide +kernel
theorem dX7_restore_54 : decode cX7_restore 54 = .ok (.aload_n 0, 1) := by decide +kernel
theorem dX7_restore_55 : decode cX7_restore 55 = .ok (.getfield 19, 3) := by decide +kernel
theorem dX7_restore_58 : decode cX7_restore 58 = .ok (.aload_n 2, 1) := by decide +kernel
theorem dX7_restore_59 : decode cX7_restore 59 = .ok (.getfield 310, 3) := by decide +kernel
theorem dX7_restore_62 : decode cX7_restore 62 = .ok (.invokevirtual 290, 3) := by decide +kernel
theorem dX7_restore_65 : decode cX7_restore 65 = .ok (.aload_n 0, 1) := by decide +kernel
theorem dX7_restore_66 : decode cX7_restore 66 = .ok (.getfield 29, 3) := by decide +kernel
theorem dX7_restore_69 : decode cX7_restore 69 = .ok (.invokevirtual 110, 3) := by decide +kernel
theorem dX7_restore_72 : decode cX7_restore 72 = .ok (.aload_n 0, 1) := by decide +kernel
theorem dX7_restore_73 : decode cX7_restore 73 = .ok (.getfield 19, 3) := by decide +kernel
theorem dX7_restore_76 : decode cX7_restore 76 = .ok (.getfield 149, 3) := by decide +kernel
theorem dX7_restore_79 : decode cX7_restore 79 = .ok (.invokevirtual 153, 3) := by decide +kernel
theorem dX7_restore_82 : decode cX7_restore 82 = .ok (.ireturn, 1) := by decide +kernel
theorem dX7_refuseBadSets_0 : decode cX7_refuseBadSets 0 = .ok (.aload_n 0, 1) := by decide +kernel
theorem dX7_refuseBadSets_1 : decode cX7_refuseBadSets 1 = .ok (.getfield 19, 3) := by decide +kernel
theorem dX7_refuseBadSets_4 : decode cX7_refuseBadSets 4 = .ok (.iload_n 1, 1) := by decide +kernel
theorem dX7_refuseBadSets_5 : decode cX7_refuseBadSets 5 = .ok (.iload_n 2, 1) := by decide +kernel
theorem dX7_refuseBadSets_6 : decode cX7_refuseBadSets 6 = .ok (.invokevirtual 315, 3) := by decide +kernel
theorem dX7_refuseBadSets_9 : decode cX7_refuseBadSets 9 = .ok (.ifCond .ne 14, 3) := by decide +kernel
theorem dX7_refuseBadSets_12 : decode cX7_refuseBadSets 12 = .ok (.new 67, 3) := by decide +kernel
theorem dX7_refuseBadSets_15 : decode cX7_refuseBadSets 15 = .ok (.dup, 1) := by decide +kernel
theorem dX7_refuseBadSets_16 : decode cX7_refuseBadSets 16 = .ok (.ldc_w 318, 3) := by decide +kernel
theorem dX7_refuseBadSets_19 : decode cX7_refuseBadSets 19 = .ok (.invokespecial 71, 3) := by decide +kernel
theorem dX7_refuseBadSets_22 : decode cX7_refuseBadSets 22 = .ok (.athrow, 1) := by decide +kernel
theorem dX7_refuseBadSets_23 : decode cX7_refuseBadSets 23 = .ok (.return_, 1) := by decide +kernel
theorem dX7_obeyGroup_0 : decode cX7_obeyGroup 0 = .ok (.iload_n 1, 1) := by decide +kernel
theorem dX7_obeyGroup_1 : decode cX7_obeyGroup 1 = .ok (.bipush 100, 2) := by decide +kernel
theorem dX7_obeyGroup_3 : decode cX7_obeyGroup 3 = .ok (.idiv, 1) := by decide +kernel
theorem dX7_obeyGroup_4 : decode cX7_obeyGroup 4 = .ok (.bipush 100, 2) := by decide +kernel
theorem dX7_obeyGroup_6 : decode cX7_obeyGroup 6 = .ok (.irem, 1) := by decide +kernel
theorem dX7_obeyGroup_7 : decode cX7_obeyGroup 7 = .ok (.istore_n 2, 1) := by decide +kernel
theorem dX7_obeyGroup_8 : decode cX7_obeyGroup 8 = .ok (.iload_n 1, 1) := by decide +kernel
theorem dX7_obeyGroup_9 : decode cX7_obeyGroup 9 = .ok (.bipush 100, 2) := by decide +kernel
theorem dX7_obeyGroup_11 : decode cX7_obeyGroup 11 = .ok (.irem, 1) := by decide +kernel
theorem dX7_obeyGroup_12 : decode cX7_obeyGroup 12 = .ok (.istore_n 3, 1) := by decide +kernel
theorem dX7_obeyGroup_13 : decode cX7_obeyGroup 13 = .ok (.iload_n 1, 1) := by decide +kernel
theorem dX7_obeyGroup_14 : decode cX7_obeyGroup 14 = .ok (.bipush 10, 2) := by decide +kernel
theorem dX7_obeyGroup_16 : decode cX7_obeyGroup 16 = .ok (.irem, 1) := by decide +kernel
theorem dX7_obeyGroup_17 : decode cX7_obeyGroup 17 = .ok (.istore 4, 2) := by decide +kernel
theorem dX7_obeyGroup_19 : decode cX7_obeyGroup 19 = .ok (.iload_n 1, 1) := by decide +kernel
theorem dX7_obeyGroup_20 : decode cX7_obeyGroup 20 = .ok (.sipush 10000, 3) := by decide +kernel
theorem dX7_obeyGroup_23 : decode cX7_obeyGroup 23 = .ok (.idiv, 1) := by decide +kernel
theorem dX7_obeyGroup_24 : decode cX7_obeyGroup 24 = .ok (.tableswitch 310 1 9 #[52, 59, 69, 112, 158, 182, 206, 245, 276], 52) := by decide +kernel
theorem dX7_obeyGroup_76 : decode cX7_obeyGroup 76 = .ok (.aload_n 0, 1) := by decide +kernel
theorem dX7_obeyGroup_77 : decode cX7_obeyGroup 77 = .ok (.iload_n 2, 1) := by decide +kernel
theorem dX7_obeyGroup_78 : decode cX7_obeyGroup 78 = .ok (.iload_n 3, 1) := by decide +kernel
theorem dX7_obeyGroup_79 : decode cX7_obeyGroup 79 = .ok (.invokevirtual 320, 3) := by decide +kernel
theorem dX7_obeyGroup_82 : decode cX7_obeyGroup 82 = .ok (.ireturn, 1) := by decide +kernel
theorem dX7_obeyGroup_83 : decode cX7_obeyGroup 83 = .ok (.aload_n 0, 1) := by decide +kernel
theorem dX7_obeyGroup_84 : decode cX7_obeyGroup 84 = .ok (.getfield 23, 3) := by decide +kernel
theorem dX7_obeyGroup_87 : decode cX7_obeyGroup 87 = .ok (.iload_n 2, 1) := by decide +kernel
theorem dX7_obeyGroup_88 : decode cX7_obeyGroup 88 = .ok (.iload_n 3, 1) := by decide +kernel
theorem dX7_obeyGroup_89 : decode cX7_obeyGroup 89 = .ok (.invokevirtual 138, 3) := by decide +kernel
theorem dX7_obeyGroup_92 : decode cX7_obeyGroup 92 = .ok (.ireturn, 1) := by decide +kernel
theorem dX7_obeyGroup_93 : decode cX7_obeyGroup 93 = .ok (.iload_n 3, 1) := by decide +kernel
theorem dX7_obeyGroup_94 : decode cX7_obeyGroup 94 = .ok (.iconst 1, 1) := by decide +kernel
theorem dX7_obeyGroup_95 : decode cX7_obeyGroup 95 = .ok (.if_icmp .gt 39, 3) := by decide +kernel
theorem dX7_obeyGroup_98 : decode cX7_obeyGroup 98 = .ok (.aload_n 0, 1) := by decide +kernel
theorem dX7_obeyGroup_99 : decode cX7_obeyGroup 99 = .ok (.getfield 23, 3) := by decide +kernel
theorem dX7_obeyGroup_102 : decode cX7_obeyGroup 102 = .ok (.iload_n 2, 1) := by decide +kernel
theorem dX7_obeyGroup_103 : decode cX7_obeyGroup 103 = .ok (.invokevirtual 178, 3) := by decide +kernel
theorem dX7_obeyGroup_106 : decode cX7_obeyGroup 106 = .ok (.ifCond .eq 28, 3) := by decide +kernel
theorem dX7_obeyGroup_109 : decode cX7_obeyGroup 109 = .ok (.aload_n 0, 1) := by decide +kernel
theorem dX7_obeyGroup_110 : decode cX7_obeyGroup 110 = .ok (.getfield 23, 3) := by decide +kernel
theorem dX7_obeyGroup_113 : decode cX7_obeyGroup 113 = .ok (.iload_n 2, 1) := by decide +kernel
theorem dX7_obeyGroup_114 : decode cX7_obeyGroup 114 = .ok (.iload_n 3, 1) := by decide +kernel
theorem dX7_obeyGroup_115 : decode cX7_obeyGroup 115 = .ok (.iconst 1, 1) := by decide +kernel
theorem dX7_obeyGroup_116 : decode cX7_obeyGroup 116 = .ok (.if_icmp .ne 7, 3) := by decide +kernel
theorem dX7_obeyGroup_119 : decode cX7_obeyGroup 119 = .ok (.iconst 1, 1) := by decide +kernel
theorem dX7_obeyGroup_120 : decode cX7_obeyGroup 120 = .ok (.goto 4, 3) := by decide +kernel
theorem dX7_obeyGroup_123 : decode cX7_obeyGroup 123 = .ok (.iconst 0, 1) := by decide +kernel
theorem dX7_obeyGroup_124 : decode cX7_obeyGroup 124 = .ok (.invokevirtual 232, 3) := by decide +kernel
theorem dX7_obeyGroup_127 : decode cX7_obeyGroup 127 = .ok (.ifCond .eq 7, 3) := by decide +kernel
theorem dX7_obeyGroup_130 : decode cX7_obeyGroup 130 = .ok (.iconst 1, 1) := by decide +kernel
theorem dX7_obeyGroup_131 : decode cX7_obeyGroup 131 = .ok (.goto 4, 3) := by decide +kernel
theorem dX7_obeyGroup_134 : decode cX7_obeyGroup 134 = .ok (.iconst 0, 1) := by decide +kernel
theorem dX7_obeyGroup_135 : decode cX7_obeyGroup 135 = .ok (.ireturn, 1) := by decide +kernel
theorem dX7_obeyGroup_136 : decode cX7_obeyGroup 136 = .ok (.iload_n 1, 1) := by decide +kernel
theorem dX7_obeyGroup_137 : decode cX7_obeyGroup 137 = .ok (.sipush 1000, 3) := by decide +kernel
theorem dX7_obeyGroup_140 : decode cX7_obeyGroup 140 = .ok (.irem, 1) := by decide +kernel
theorem dX7_obeyGroup_141 : decode cX7_obeyGroup 141 = .ok (.ifCond .ne 39, 3) := by decide +kernel
theorem dX7_obeyGroup_144 : decode cX7_obeyGroup 144 = .ok (.iload_n 1, 1) := by decide +kernel
theorem dX7_obeyGroup_145 : decode cX7_obeyGroup 145 = .ok (.sipush 1000, 3) := by decide +kernel
theorem dX7_obeyGroup_148 : decode cX7_obeyGroup 148 = .ok (.idiv, 1) := by decide +kernel
theorem dX7_obeyGroup_149 : decode cX7_obeyGroup 149 = .ok (.bipush 10, 2) := by decide +kernel
theorem dX7_obeyGroup_151 : decode cX7_obeyGroup 151 = .ok (.irem, 1) := by decide +kernel
theorem dX7_obeyGroup_152 : decode cX7_obeyGroup 152 = .ok (.invokestatic 236, 3) := by decide +kernel
theorem dX7_obeyGroup_155 : decode cX7_obeyGroup 155 = .ok (.ifCond .eq 25, 3) := by decide +kernel
theorem dX7_obeyGroup_158 : decode cX7_obeyGroup 158 = .ok (.aload_n 0, 1) := by decide +kernel
theorem dX7_obeyGroup_159 : decode cX7_obeyGroup 159 = .ok (.getfield 23, 3) := by decide +kernel
theorem dX7_obeyGroup_162 : decode cX7_obeyGroup 162 = .ok (.iload_n 1, 1) := by decide +kernel
theorem dX7_obeyGroup_163 : decode cX7_obeyGroup 163 = .ok (.sipush 1000, 3) := by decide +kernel
theorem dX7_obeyGroup_166 : decode cX7_obeyGroup 166 = .ok (.idiv, 1) := by decide +kernel
theorem dX7_obeyGroup_167 : decode cX7_obeyGroup 167 = .ok (.bipush 10, 2) := by decide +kernel
theorem dX7_obeyGroup_169 : decode cX7_obeyGroup 169 = .ok (.irem, 1) := by decide +kernel
theorem dX7_obeyGroup_170 : decode cX7_obeyGroup 170 = .ok (.invokevirtual 241, 3) := by decide +kernel
theorem dX7_obeyGroup_173 : decode cX7_obeyGroup 173 = .ok (.ifCond .eq 7, 3) := by decide +kernel
theorem dX7_obeyGroup_176 : decode cX7_obeyGroup 176 = .ok (.iconst 1, 1) := by decide +kernel
theorem dX7_obeyGroup_177 : decode cX7_obeyGroup 177 = .ok (.goto 4, 3) := by decide +kernel
theorem dX7_obeyGroup_180 : decode cX7_obeyGroup 180 = .ok (.iconst 0, 1) := by decide +kernel
theorem dX7_obeyGroup_181 : decode cX7_obeyGroup 181 = .ok (.ireturn, 1) := by decide +kernel
theorem dX7_obeyGroup_182 : decode cX7_obeyGroup 182 = .ok (.iload_n 1, 1) := by decide +kernel
theorem dX7_obeyGroup_183 : decode cX7_obeyGroup 183 = .ok (.sipush 10000, 3) := by decide +kernel
theorem dX7_obeyGroup_186 : decode cX7_obeyGroup 186 = .ok (.irem, 1) := by decide +kernel
theorem dX7_obeyGroup_187 : decode cX7_obeyGroup 187 = .ok (.ifCond .ne 17, 3) := by decide +kernel
theorem dX7_obeyGroup_190 : decode cX7_obeyGroup 190 = .ok (.aload_n 0, 1) := by decide +kernel
theorem dX7_obeyGroup_191 : decode cX7_obeyGroup 191 = .ok (.getfield 23, 3) := by decide +kernel
theorem dX7_obeyGroup_194 : decode cX7_obeyGroup 194 = .ok (.invokevirtual 246, 3) := by decide +kernel
theorem dX7_obeyGroup_197 : decode cX7_obeyGroup 197 = .ok (.ifCond .eq 7, 3) := by decide +kernel
theorem dX7_obeyGroup_200 : decode cX7_obeyGroup 200 = .ok (.iconst 1, 1) := by decide +kernel
theorem dX7_obeyGroup_201 : decode cX7_obeyGroup 201 = .ok (.goto 4, 3) := by decide +kernel
theorem dX7_obeyGroup_204 : decode cX7_obeyGroup 204 = .ok (.iconst 0, 1) := by decide +kernel
theorem dX7_obeyGroup_205 : decode cX7_obeyGroup 205 = .ok (.ireturn, 1) := by decide +kernel
theorem dX7_obeyGroup_206 : decode cX7_obeyGroup 206 = .ok (.iload_n 2, 1) := by decide +kernel
theorem dX7_obeyGroup_207 : decode cX7_obeyGroup 207 = .ok (.ifCond .ne 21, 3) := by decide +kernel
theorem dX7_obeyGroup_210 : decode cX7_obeyGroup 210 = .ok (.aload_n 0, 1) := by decide +kernel
theorem dX7_obeyGroup_211 : decode cX7_obeyGroup 211 = .ok (.getfield 23, 3) := by decide +kernel
theorem dX7_obeyGroup_214 : decode cX7_obeyGroup 214 = .ok (.getfield 149, 3) := by decide +kernel
theorem dX7_obeyGroup_217 : decode cX7_obeyGroup 217 = .ok (.invokevirtual 153, 3) := by decide +kernel
theorem dX7_obeyGroup_220 : decode cX7_obeyGroup 220 = .ok (.iload_n 3, 1) := by decide +kernel
theorem dX7_obeyGroup_221 : decode cX7_obeyGroup 221 = .ok (.if_icmp .gt 7, 3) := by decide +kernel
theorem dX7_obeyGroup_224 : decode cX7_obeyGroup 224 = .ok (.iconst 1, 1) := by decide +kernel
theorem dX7_obeyGroup_225 : decode cX7_obeyGroup 225 = .ok (.goto 4, 3) := by decide +kernel
theorem dX7_obeyGroup_228 : decode cX7_obeyGroup 228 = .ok (.iconst 0, 1) := by decide +kernel
theorem dX7_obeyGroup_229 : decode cX7_obeyGroup 229 = .ok (.ireturn, 1) := by decide +kernel
theorem dX7_obeyGroup_230 : decode cX7_obeyGroup 230 = .ok (.iload_n 3, 1) := by decide +kernel
theorem dX7_obeyGroup_231 : decode cX7_obeyGroup 231 = .ok (.bipush 9, 2) := by decide +kernel
theorem dX7_obeyGroup_233 : decode cX7_obeyGroup 233 = .ok (.if_icmp .gt 34, 3) := by decide +kernel
theorem dX7_obeyGroup_236 : decode cX7_obeyGroup 236 = .ok (.aload_n 0, 1) := by decide +kernel
theorem dX7_obeyGroup_237 : decode cX7_obeyGroup 237 = .ok (.getfield 23, 3) := by decide +kernel
theorem dX7_obeyGroup_240 : decode cX7_obeyGroup 240 = .ok (.iload_n 2, 1) := by decide +kernel
theorem dX7_obeyGroup_241 : decode cX7_obeyGroup 241 = .ok (.invokevirtual 178, 3) := by decide +kernel
theorem dX7_obeyGroup_244 : decode cX7_obeyGroup 244 = .ok (.ifCond .eq 23, 3) := by decide +kernel
theorem dX7_obeyGroup_247 : decode cX7_obeyGroup 247 = .ok (.aload_n 0, 1) := by decide +kernel
theorem dX7_obeyGroup_248 : decode cX7_obeyGroup 248 = .ok (.getfield 23, 3) := by decide +kernel
theorem dX7_obeyGroup_251 : decode cX7_obeyGroup 251 = .ok (.getfield 149, 3) := by decide +kernel
theorem dX7_obeyGroup_254 : decode cX7_obeyGroup 254 = .ok (.iload_n 2, 1) := by decide +kernel
theorem dX7_obeyGroup_255 : decode cX7_obeyGroup 255 = .ok (.invokevirtual 187, 3) := by decide +kernel
theorem dX7_obeyGroup_258 : decode cX7_obeyGroup 258 = .ok (.iload 4, 2) := by decide +kernel
theorem dX7_obeyGroup_260 : decode cX7_obeyGroup 260 = .ok (.if_icmp .ne 7, 3) := by decide +kernel
theorem dX7_obeyGroup_263 : decode cX7_obeyGroup 263 = .ok (.iconst 1, 1) := by decide +kernel
theorem dX7_obeyGroup_264 : decode cX7_obeyGroup 264 = .ok (.goto 4, 3) := by decide +kernel
theorem dX7_obeyGroup_267 : decode cX7_obeyGroup 267 = .ok (.iconst 0, 1) := by decide +kernel
theorem dX7_obeyGroup_268 : decode cX7_obeyGroup 268 = .ok (.ireturn, 1) := by decide +kernel
theorem dX7_obeyGroup_269 : decode cX7_obeyGroup 269 = .ok (.iload_n 1, 1) := by decide +kernel
theorem dX7_obeyGroup_270 : decode cX7_obeyGroup 270 = .ok (.sipush 10000, 3) := by decide +kernel
theorem dX7_obeyGroup_273 : decode cX7_obeyGroup 273 = .ok (.irem, 1) := by decide +kernel
theorem dX7_obeyGroup_274 : decode cX7_obeyGroup 274 = .ok (.bipush 9, 2) := by decide +kernel
theorem dX7_obeyGroup_276 : decode cX7_obeyGroup 276 = .ok (.if_icmp .gt 22, 3) := by decide +kernel
theorem dX7_obeyGroup_279 : decode cX7_obeyGroup 279 = .ok (.aload_n 0, 1) := by decide +kernel
theorem dX7_obeyGroup_280 : decode cX7_obeyGroup 280 = .ok (.getfield 23, 3) := by decide +kernel
theorem dX7_obeyGroup_283 : decode cX7_obeyGroup 283 = .ok (.getfield 149, 3) := by decide +kernel
theorem dX7_obeyGroup_286 : decode cX7_obeyGroup 286 = .ok (.invokevirtual 191, 3) := by decide +kernel
theorem dX7_obeyGroup_289 : decode cX7_obeyGroup 289 = .ok (.iload 4, 2) := by decide +kernel
theorem dX7_obeyGroup_291 : decode cX7_obeyGroup 291 = .ok (.if_icmp .ne 7, 3) := by decide +kernel
theorem dX7_obeyGroup_294 : decode cX7_obeyGroup 294 = .ok (.iconst 1, 1) := by decide +kernel
theorem dX7_obeyGroup_295 : decode cX7_obeyGroup 295 = .ok (.goto 4, 3) := by decide +kernel
theorem dX7_obeyGroup_298 : decode cX7_obeyGroup 298 = .ok (.iconst 0, 1) := by decide +kernel
theorem dX7_obeyGroup_299 : decode cX7_obeyGroup 299 = .ok (.ireturn, 1) := by decide +kernel
theorem dX7_obeyGroup_300 : decode cX7_obeyGroup 300 = .ok (.iload_n 1, 1) := by decide +kernel
theorem dX7_obeyGroup_301 : decode cX7_obeyGroup 301 = .ok (.sipush 10000, 3) := by decide +kernel
theorem dX7_obeyGroup_304 : decode cX7_obeyGroup 304 = .ok (.irem, 1) := by decide +kernel
theorem dX7_obeyGroup_305 : decode cX7_obeyGroup 305 = .ok (.bipush 9, 2) := by decide +kernel
theorem dX7_obeyGroup_307 : decode cX7_obeyGroup 307 = .ok (.if_icmp .gt 25, 3) := by decide +kernel
theorem dX7_obeyGroup_310 : decode cX7_obeyGroup 310 = .ok (.aload_n 0, 1) := by decide +kernel
theorem dX7_obeyGroup_311 : decode cX7_obeyGroup 311 = .ok (.getfield 23, 3) := by decide +kernel
theorem dX7_obeyGroup_314 : decode cX7_obeyGroup 314 = .ok (.getfield 149, 3) := by decide +kernel
theorem dX7_obeyGroup_317 : decode cX7_obeyGroup 317 = .ok (.invokevirtual 153, 3) := by decide +kernel
theorem dX7_obeyGroup_320 : decode cX7_obeyGroup 320 = .ok (.invokestatic 275, 3) := by decide +kernel
theorem dX7_obeyGroup_323 : decode cX7_obeyGroup 323 = .ok (.iload 4, 2) := by decide +kernel
theorem dX7_obeyGroup_325 : decode cX7_obeyGroup 325 = .ok (.if_icmp .gt 7, 3) := by decide +kernel
theorem dX7_obeyGroup_328 : decode cX7_obeyGroup 328 = .ok (.iconst 1, 1) := by decide +kernel
theorem dX7_obeyGroup_329 : decode cX7_obeyGroup 329 = .ok (.goto 4, 3) := by decide +kernel
theorem dX7_obeyGroup_332 : decode cX7_obeyGroup 332 = .ok (.iconst 0, 1) := by decide +kernel
theorem dX7_obeyGroup_333 : decode cX7_obeyGroup 333 = .ok (.ireturn, 1) := by decide +kernel
theorem dX7_obeyGroup_334 : decode cX7_obeyGroup 334 = .ok (.iconst 0, 1) := by decide +kernel
theorem dX7_obeyGroup_335 : decode cX7_obeyGroup 335 = .ok (.ireturn, 1) := by decide +kernel
theorem dX7_tryCoins_0 : decode cX7_tryCoins 0 = .ok (.aload_n 0, 1) := by decide +kernel
theorem dX7_tryCoins_1 : decode cX7_tryCoins 1 = .ok (.getfield 23, 3) := by decide +kernel
theorem dX7_tryCoins_4 : decode cX7_tryCoins 4 = .ok (.iload_n 1, 1) := by decide +kernel
theorem dX7_tryCoins_5 : decode cX7_tryCoins 5 = .ok (.invokevirtual 178, 3) := by decide +kernel
theorem dX7_tryCoins_8 : decode cX7_tryCoins 8 = .ok (.ifCond .eq 20, 3) := by decide +kernel
theorem dX7_tryCoins_11 : decode cX7_tryCoins 11 = .ok (.iload_n 2, 1) := by decide +kernel
theorem dX7_tryCoins_12 : decode cX7_tryCoins 12 = .ok (.bipush 99, 2) := by decide +kernel
theorem dX7_tryCoins_14 : decode cX7_tryCoins 14 = .ok (.if_icmp .eq 16, 3) := by decide +kernel
theorem dX7_tryCoins_17 : decode cX7_tryCoins 17 = .ok (.aload_n 0, 1) := by decide +kernel
theorem dX7_tryCoins_18 : decode cX7_tryCoins 18 = .ok (.getfield 23, 3) := by decide +kernel
theorem dX7_tryCoins_21 : decode cX7_tryCoins 21 = .ok (.iload_n 2, 1) := by decide +kernel
theorem dX7_tryCoins_22 : decode cX7_tryCoins 22 = .ok (.invokevirtual 178, 3) := by decide +kernel
theorem dX7_tryCoins_25 : decode cX7_tryCoins 25 = .ok (.ifCond .ne 5, 3) := by decide +kernel
theorem dX7_tryCoins_28 : decode cX7_tryCoins 28 = .ok (.iconst 0, 1) := by decide +kernel
theorem dX7_tryCoins_29 : decode cX7_tryCoins 29 = .ok (.ireturn, 1) := by decide +kernel
theorem dX7_tryCoins_30 : decode cX7_tryCoins 30 = .ok (.aload_n 0, 1) := by decide +kernel
theorem dX7_tryCoins_31 : decode cX7_tryCoins 31 = .ok (.getfield 23, 3) := by decide +kernel
theorem dX7_tryCoins_34 : decode cX7_tryCoins 34 = .ok (.iconst 1, 1) := by decide +kernel
theorem dX7_tryCoins_35 : decode cX7_tryCoins 35 = .ok (.iload_n 1, 1) := by decide +kernel
theorem dX7_tryCoins_36 : decode cX7_tryCoins 36 = .ok (.ishl, 1) := by decide +kernel
theorem dX7_tryCoins_37 : decode cX7_tryCoins 37 = .ok (.iload_n 2, 1) := by decide +kernel
theorem dX7_tryCoins_38 : decode cX7_tryCoins 38 = .ok (.bipush 99, 2) := by decide +kernel
theorem dX7_tryCoins_40 : decode cX7_tryCoins 40 = .ok (.if_icmp .ne 7, 3) := by decide +kernel
theorem dX7_tryCoins_43 : decode cX7_tryCoins 43 = .ok (.iconst 0, 1) := by decide +kernel
theorem dX7_tryCoins_44 : decode cX7_tryCoins 44 = .ok (.goto 6, 3) := by decide +kernel
theorem dX7_tryCoins_47 : decode cX7_tryCoins 47 = .ok (.iconst 1, 1) := by decide +kernel
theorem dX7_tryCoins_48 : decode cX7_tryCoins 48 = .ok (.iload_n 2, 1) := by decide +kernel
theorem dX7_tryCoins_49 : decode cX7_tryCoins 49 = .ok (.ishl, 1) := by decide +kernel
theorem dX7_tryCoins_50 : decode cX7_tryCoins 50 = .ok (.invokevirtual 142, 3) := by decide +kernel
theorem dX7_tryCoins_53 : decode cX7_tryCoins 53 = .ok (.ireturn, 1) := by decide +kernel
theorem dX7_takeTurn_0 : decode cX7_takeTurn 0 = .ok (.iload_n 1, 1) := by decide +kernel
theorem dX7_takeTurn_1 : decode cX7_takeTurn 1 = .ok (.bipush 8, 2) := by decide +kernel
theorem dX7_takeTurn_3 : decode cX7_takeTurn 3 = .ok (.idiv, 1) := by decide +kernel
theorem dX7_takeTurn_4 : decode cX7_takeTurn 4 = .ok (.istore_n 2, 1) := by decide +kernel
theorem dX7_takeTurn_5 : decode cX7_takeTurn 5 = .ok (.iload_n 1, 1) := by decide +kernel
theorem dX7_takeTurn_6 : decode cX7_takeTurn 6 = .ok (.bipush 8, 2) := by decide +kernel
theorem dX7_takeTurn_8 : decode cX7_takeTurn 8 = .ok (.irem, 1) := by decide +kernel
theorem dX7_takeTurn_9 : decode cX7_takeTurn 9 = .ok (.tableswitch 129 0 2 #[27, 74, 85], 27) := by decide +kernel
theorem dX7_takeTurn_36 : decode cX7_takeTurn 36 = .ok (.iload_n 2, 1) := by decide +kernel
theorem dX7_takeTurn_37 : decode cX7_takeTurn 37 = .ok (.iconst 3, 1) := by decide +kernel
theorem dX7_takeTurn_38 : decode cX7_takeTurn 38 = .ok (.irem, 1) := by decide +kernel
theorem dX7_takeTurn_39 : decode cX7_takeTurn 39 = .ok (.ifCond .ne 29, 3) := by decide +kernel
theorem dX7_takeTurn_42 : decode cX7_takeTurn 42 = .ok (.aload_n 0, 1) := by decide +kernel
theorem dX7_takeTurn_43 : decode cX7_takeTurn 43 = .ok (.getfield 23, 3) := by decide +kernel
theorem dX7_takeTurn_46 : decode cX7_takeTurn 46 = .ok (.iconst 1, 1) := by decide +kernel
theorem dX7_takeTurn_47 : decode cX7_takeTurn 47 = .ok (.iload_n 2, 1) := by decide +kernel
theorem dX7_takeTurn_48 : decode cX7_takeTurn 48 = .ok (.bipush 20, 2) := by decide +kernel
theorem dX7_takeTurn_50 : decode cX7_takeTurn 50 = .ok (.irem, 1) := by decide +kernel
theorem dX7_takeTurn_51 : decode cX7_takeTurn 51 = .ok (.iadd, 1) := by decide +kernel
theorem dX7_takeTurn_52 : decode cX7_takeTurn 52 = .ok (.iconst 1, 1) := by decide +kernel
theorem dX7_takeTurn_53 : decode cX7_takeTurn 53 = .ok (.iload_n 2, 1) := by decide +kernel
theorem dX7_takeTurn_54 : decode cX7_takeTurn 54 = .ok (.bipush 32, 2) := by decide +kernel
theorem dX7_takeTurn_56 : decode cX7_takeTurn 56 = .ok (.idiv, 1) := by decide +kernel
theorem dX7_takeTurn_57 : decode cX7_takeTurn 57 = .ok (.bipush 20, 2) := by decide +kernel
theorem dX7_takeTurn_59 : decode cX7_takeTurn 59 = .ok (.irem, 1) := by decide +kernel
theorem dX7_takeTurn_60 : decode cX7_takeTurn 60 = .ok (.iadd, 1) := by decide +kernel
theorem dX7_takeTurn_61 : decode cX7_takeTurn 61 = .ok (.invokevirtual 138, 3) := by decide +kernel
theorem dX7_takeTurn_64 : decode cX7_takeTurn 64 = .ok (.pop, 1) := by decide +kernel
theorem dX7_takeTurn_65 : decode cX7_takeTurn 65 = .ok (.goto 124, 3) := by decide +kernel
theorem dX7_takeTurn_68 : decode cX7_takeTurn 68 = .ok (.aload_n 0, 1) := by decide +kernel
theorem dX7_takeTurn_69 : decode cX7_takeTurn 69 = .ok (.getfield 23, 3) := by decide +kernel
theorem dX7_takeTurn_72 : decode cX7_takeTurn 72 = .ok (.bipush 10, 2) := by decide +kernel
theorem dX7_takeTurn_74 : decode cX7_takeTurn 74 = .ok (.bipush 10, 2) := by decide +kernel
theorem dX7_takeTurn_76 : decode cX7_takeTurn 76 = .ok (.invokevirtual 138, 3) := by decide +kernel
theorem dX7_takeTurn_79 : decode cX7_takeTurn 79 = .ok (.pop, 1) := by decide +kernel
theorem dX7_takeTurn_80 : decode cX7_takeTurn 80 = .ok (.goto 109, 3) := by decide +kernel
theorem dX7_takeTurn_83 : decode cX7_takeTurn 83 = .ok (.aload_n 0, 1) := by decide +kernel
theorem dX7_takeTurn_84 : decode cX7_takeTurn 84 = .ok (.getfield 23, 3) := by decide +kernel
theorem dX7_takeTurn_87 : decode cX7_takeTurn 87 = .ok (.invokevirtual 246, 3) := by decide +kernel
theorem dX7_takeTurn_90 : decode cX7_takeTurn 90 = .ok (.pop, 1) := by decide +kernel
theorem dX7_takeTurn_91 : decode cX7_takeTurn 91 = .ok (.goto 98, 3) := by decide +kernel
theorem dX7_takeTurn_94 : decode cX7_takeTurn 94 = .ok (.aload_n 0, 1) := by decide +kernel
theorem dX7_takeTurn_95 : decode cX7_takeTurn 95 = .ok (.getfield 23, 3) := by decide +kernel
theorem dX7_takeTurn_98 : decode cX7_takeTurn 98 = .ok (.iload_n 2, 1) := by decide +kernel
theorem dX7_takeTurn_99 : decode cX7_takeTurn 99 = .ok (.bipush 12, 2) := by decide +kernel
theorem dX7_takeTurn_101 : decode cX7_takeTurn 101 = .ok (.irem, 1) := by decide +kernel
theorem dX7_takeTurn_102 : decode cX7_takeTurn 102 = .ok (.invokevirtual 178, 3) := by decide +kernel
theorem dX7_takeTurn_105 : decode cX7_takeTurn 105 = .ok (.ifCond .eq 84, 3) := by decide +kernel
theorem dX7_takeTurn_108 : decode cX7_takeTurn 108 = .ok (.aload_n 0, 1) := by decide +kernel
theorem dX7_takeTurn_109 : decode cX7_takeTurn 109 = .ok (.getfield 23, 3) := by decide +kernel
theorem dX7_takeTurn_112 : decode cX7_takeTurn 112 = .ok (.iload_n 2, 1) := by decide +kernel
theorem dX7_takeTurn_113 : decode cX7_takeTurn 113 = .ok (.bipush 12, 2) := by decide +kernel
theorem dX7_takeTurn_115 : decode cX7_takeTurn 115 = .ok (.irem, 1) := by decide +kernel
theorem dX7_takeTurn_116 : decode cX7_takeTurn 116 = .ok (.iload_n 2, 1) := by decide +kernel
theorem dX7_takeTurn_117 : decode cX7_takeTurn 117 = .ok (.bipush 16, 2) := by decide +kernel
theorem dX7_takeTurn_119 : decode cX7_takeTurn 119 = .ok (.idiv, 1) := by decide +kernel
theorem dX7_takeTurn_120 : decode cX7_takeTurn 120 = .ok (.iconst 2, 1) := by decide +kernel
theorem dX7_takeTurn_121 : decode cX7_takeTurn 121 = .ok (.irem, 1) := by decide +kernel
theorem dX7_takeTurn_122 : decode cX7_takeTurn 122 = .ok (.iconst 1, 1) := by decide +kernel
theorem dX7_takeTurn_123 : decode cX7_takeTurn 123 = .ok (.if_icmp .ne 7, 3) := by decide +kernel
theorem dX7_takeTurn_126 : decode cX7_takeTurn 126 = .ok (.iconst 1, 1) := by decide +kernel
theorem dX7_takeTurn_127 : decode cX7_takeTurn 127 = .ok (.goto 4, 3) := by decide +kernel
theorem dX7_takeTurn_130 : decode cX7_takeTurn 130 = .ok (.iconst 0, 1) := by decide +kernel
theorem dX7_takeTurn_131 : decode cX7_takeTurn 131 = .ok (.invokevirtual 232, 3) := by decide +kernel
theorem dX7_takeTurn_134 : decode cX7_takeTurn 134 = .ok (.pop, 1) := by decide +kernel
theorem dX7_takeTurn_135 : decode cX7_takeTurn 135 = .ok (.goto 54, 3) := by decide +kernel
theorem dX7_takeTurn_138 : decode cX7_takeTurn 138 = .ok (.iconst 1, 1) := by decide +kernel
theorem dX7_takeTurn_139 : decode cX7_takeTurn 139 = .ok (.aload_n 0, 1) := by decide +kernel
theorem dX7_takeTurn_140 : decode cX7_takeTurn 140 = .ok (.getfield 23, 3) := by decide +kernel
theorem dX7_takeTurn_143 : decode cX7_takeTurn 143 = .ok (.getfield 145, 3) := by decide +kernel
theorem dX7_takeTurn_146 : decode cX7_takeTurn 146 = .ok (.ishl, 1) := by decide +kernel
theorem dX7_takeTurn_147 : decode cX7_takeTurn 147 = .ok (.iconst 1, 1) := by decide +kernel
theorem dX7_takeTurn_148 : decode cX7_takeTurn 148 = .ok (.isub, 1) := by decide +kernel
theorem dX7_takeTurn_149 : decode cX7_takeTurn 149 = .ok (.istore_n 3, 1) := by decide +kernel
theorem dX7_takeTurn_150 : decode cX7_takeTurn 150 = .ok (.iload_n 2, 1) := by decide +kernel
theorem dX7_takeTurn_151 : decode cX7_takeTurn 151 = .ok (.sipush 4096, 3) := by decide +kernel
theorem dX7_takeTurn_154 : decode cX7_takeTurn 154 = .ok (.irem, 1) := by decide +kernel
theorem dX7_takeTurn_155 : decode cX7_takeTurn 155 = .ok (.iload_n 3, 1) := by decide +kernel
theorem dX7_takeTurn_156 : decode cX7_takeTurn 156 = .ok (.iand, 1) := by decide +kernel
theorem dX7_takeTurn_157 : decode cX7_takeTurn 157 = .ok (.istore 4, 2) := by decide +kernel
theorem dX7_takeTurn_159 : decode cX7_takeTurn 159 = .ok (.iload_n 2, 1) := by decide +kernel
theorem dX7_takeTurn_160 : decode cX7_takeTurn 160 = .ok (.sipush 4096, 3) := by decide +kernel
theorem dX7_takeTurn_163 : decode cX7_takeTurn 163 = .ok (.idiv, 1) := by decide +kernel
theorem dX7_takeTurn_164 : decode cX7_takeTurn 164 = .ok (.sipush 4096, 3) := by decide +kernel
theorem dX7_takeTurn_167 : decode cX7_takeTurn 167 = .ok (.irem, 1) := by decide +kernel
theorem dX7_takeTurn_168 : decode cX7_takeTurn 168 = .ok (.iload_n 3, 1) := by decide +kernel
theorem dX7_takeTurn_169 : decode cX7_takeTurn 169 = .ok (.iand, 1) := by decide +kernel
theorem dX7_takeTurn_170 : decode cX7_takeTurn 170 = .ok (.iload 4, 2) := by decide +kernel
theorem dX7_takeTurn_172 : decode cX7_takeTurn 172 = .ok (.iconst (-1), 1) := by decide +kernel
theorem dX7_takeTurn_173 : decode cX7_takeTurn 173 = .ok (.ixor, 1) := by decide +kernel
theorem dX7_takeTurn_174 : decode cX7_takeTurn 174 = .ok (.iand, 1) := by decide +kernel
theorem dX7_takeTurn_175 : decode cX7_takeTurn 175 = .ok (.istore 5, 2) := by decide +kernel
theorem dX7_takeTurn_177 : decode cX7_takeTurn 177 = .ok (.aload_n 0, 1) := by decide +kernel
theorem dX7_takeTurn_178 : decode cX7_takeTurn 178 = .ok (.getfield 23, 3) := by decide +kernel
theorem dX7_takeTurn_181 : decode cX7_takeTurn 181 = .ok (.iload 4, 2) := by decide +kernel
theorem dX7_takeTurn_183 : decode cX7_takeTurn 183 = .ok (.iload 5, 2) := by decide +kernel
theorem dX7_takeTurn_185 : decode cX7_takeTurn 185 = .ok (.invokevirtual 142, 3) := by decide +kernel
theorem dX7_takeTurn_188 : decode cX7_takeTurn 188 = .ok (.pop, 1) := by decide +kernel
theorem dX7_takeTurn_189 : decode cX7_takeTurn 189 = .ok (.return_, 1) := by decide +kernel
theorem dX7_withoutGroups_0 : decode cX7_withoutGroups 0 = .ok (.lload_n 0, 1) := by decide +kernel
theorem dX7_withoutGroups_1 : decode cX7_withoutGroups 1 = .ok (.lstore_n 3, 1) := by decide +kernel
theorem dX7_withoutGroups_2 : decode cX7_withoutGroups 2 = .ok (.iconst 0, 1) := by decide +kernel
theorem dX7_withoutGroups_3 : decode cX7_withoutGroups 3 = .ok (.istore 5, 2) := by decide +kernel
theorem dX7_withoutGroups_5 : decode cX7_withoutGroups 5 = .ok (.iload 5, 2) := by decide +kernel
theorem dX7_withoutGroups_7 : decode cX7_withoutGroups 7 = .ok (.iload_n 2, 1) := by decide +kernel
theorem dX7_withoutGroups_8 : decode cX7_withoutGroups 8 = .ok (.if_icmp .ge 15, 3) := by decide +kernel
theorem dX7_withoutGroups_11 : decode cX7_withoutGroups 11 = .ok (.lload_n 3, 1) := by decide +kernel
theorem dX7_withoutGroups_12 : decode cX7_withoutGroups 12 = .ok (.ldc2_w 293, 3) := by decide +kernel
theorem dX7_withoutGroups_15 : decode cX7_withoutGroups 15 = .ok (.ldiv, 1) := by decide +kernel
theorem dX7_withoutGroups_16 : decode cX7_withoutGroups 16 = .ok (.lstore_n 3, 1) := by decide +kernel
theorem dX7_withoutGroups_17 : decode cX7_withoutGroups 17 = .ok (.iinc 5 1, 3) := by decide +kernel
theorem dX7_withoutGroups_20 : decode cX7_withoutGroups 20 = .ok (.goto (-15), 3) := by decide +kernel
theorem dX7_withoutGroups_23 : decode cX7_withoutGroups 23 = .ok (.lload_n 3, 1) := by decide +kernel
theorem dX7_withoutGroups_24 : decode cX7_withoutGroups 24 = .ok (.lreturn, 1) := by decide +kernel
theorem dX7_weighingsFor_0 : decode cX7_weighingsFor 0 = .ok (.iconst 0, 1) := by decide +kernel
theorem dX7_weighingsFor_1 : decode cX7_weighingsFor 1 = .ok (.istore_n 1, 1) := by decide +kernel
theorem dX7_weighingsFor_2 : decode cX7_weighingsFor 2 = .ok (.iconst 1, 1) := by decide +kernel
theorem dX7_weighingsFor_3 : decode cX7_weighingsFor 3 = .ok (.istore_n 2, 1) := by decide +kernel
theorem dX7_weighingsFor_4 : decode cX7_weighingsFor 4 = .ok (.iconst 0, 1) := by decide +kernel
theorem dX7_weighingsFor_5 : decode cX7_weighingsFor 5 = .ok (.istore_n 3, 1) := by decide +kernel
theorem dX7_weighingsFor_6 : decode cX7_weighingsFor 6 = .ok (.iload_n 3, 1) := by decide +kernel
theorem dX7_weighingsFor_7 : decode cX7_weighingsFor 7 = .ok (.bipush 20, 2) := by decide +kernel
theorem dX7_weighingsFor_9 : decode cX7_weighingsFor 9 = .ok (.if_icmp .ge 21, 3) := by decide +kernel
theorem dX7_weighingsFor_12 : decode cX7_weighingsFor 12 = .ok (.iload_n 2, 1) := by decide +kernel
theorem dX7_weighingsFor_13 : decode cX7_weighingsFor 13 = .ok (.iload_n 0, 1) := by decide +kernel
theorem dX7_weighingsFor_14 : decode cX7_weighingsFor 14 = .ok (.if_icmp .ge 16, 3) := by decide +kernel
theorem dX7_weighingsFor_17 : decode cX7_weighingsFor 17 = .ok (.iload_n 2, 1) := by decide +kernel
theorem dX7_weighingsFor_18 : decode cX7_weighingsFor 18 = .ok (.iconst 3, 1) := by decide +kernel
theorem dX7_weighingsFor_19 : decode cX7_weighingsFor 19 = .ok (.imul, 1) := by decide +kernel
theorem dX7_weighingsFor_20 : decode cX7_weighingsFor 20 = .ok (.istore_n 2, 1) := by decide +kernel
theorem dX7_weighingsFor_21 : decode cX7_weighingsFor 21 = .ok (.iinc 1 1, 3) := by decide +kernel
theorem dX7_weighingsFor_24 : decode cX7_weighingsFor 24 = .ok (.iinc 3 1, 3) := by decide +kernel
theorem dX7_weighingsFor_27 : decode cX7_weighingsFor 27 = .ok (.goto (-21), 3) := by decide +kernel
theorem dX7_weighingsFor_30 : decode cX7_weighingsFor 30 = .ok (.iload_n 1, 1) := by decide +kernel
theorem dX7_weighingsFor_31 : decode cX7_weighingsFor 31 = .ok (.ireturn, 1) := by decide +kernel
theorem dX7_casesOf_0 : decode cX7_casesOf 0 = .ok (.iconst 3, 1) := by decide +kernel
theorem dX7_casesOf_1 : decode cX7_casesOf 1 = .ok (.iconst 2, 1) := by decide +kernel
theorem dX7_casesOf_2 : decode cX7_casesOf 2 = .ok (.iload_n 0, 1) := by decide +kernel
theorem dX7_casesOf_3 : decode cX7_casesOf 3 = .ok (.imul, 1) := by decide +kernel
theorem dX7_casesOf_4 : decode cX7_casesOf 4 = .ok (.iconst 1, 1) := by decide +kernel
theorem dX7_casesOf_5 : decode cX7_casesOf 5 = .ok (.iadd, 1) := by decide +kernel
theorem dX7_casesOf_6 : decode cX7_casesOf 6 = .ok (.imul, 1) := by decide +kernel
theorem dX7_casesOf_7 : decode cX7_casesOf 7 = .ok (.ireturn, 1) := by decide +kernel
theorem dX7_isArm_0 : decode cX7_isArm 0 = .ok (.iload_n 0, 1) := by decide +kernel
theorem dX7_isArm_1 : decode cX7_isArm 1 = .ok (.iconst 1, 1) := by decide +kernel
theorem dX7_isArm_2 : decode cX7_isArm 2 = .ok (.if_icmp .lt 13, 3) := by decide +kernel
theorem dX7_isArm_5 : decode cX7_isArm 5 = .ok (.iload_n 0, 1) := by decide +kernel
theorem dX7_isArm_6 : decode cX7_isArm 6 = .ok (.bipush 20, 2) := by decide +kernel
theorem dX7_isArm_8 : decode cX7_isArm 8 = .ok (.if_icmp .gt 7, 3) := by decide +kernel
theorem dX7_isArm_11 : decode cX7_isArm 11 = .ok (.iconst 1, 1) := by decide +kernel
theorem dX7_isArm_12 : decode cX7_isArm 12 = .ok (.goto 4, 3) := by decide +kernel
theorem dX7_isArm_15 : decode cX7_isArm 15 = .ok (.iconst 0, 1) := by decide +kernel
theorem dX7_isArm_16 : decode cX7_isArm 16 = .ok (.ireturn, 1) := by decide +kernel
theorem dX7_isPan_0 : decode cX7_isPan 0 = .ok (.iload_n 0, 1) := by decide +kernel
theorem dX7_isPan_1 : decode cX7_isPan 1 = .ok (.ifCond .lt 12, 3) := by decide +kernel
theorem dX7_isPan_4 : decode cX7_isPan 4 = .ok (.iload_n 0, 1) := by decide +kernel
theorem dX7_isPan_5 : decode cX7_isPan 5 = .ok (.iconst 3, 1) := by decide +kernel
theorem dX7_isPan_6 : decode cX7_isPan 6 = .ok (.if_icmp .ge 7, 3) := by decide +kernel
theorem dX7_isPan_9 : decode cX7_isPan 9 = .ok (.iconst 1, 1) := by decide +kernel
theorem dX7_isPan_10 : decode cX7_isPan 10 = .ok (.goto 4, 3) := by decide +kernel
theorem dX7_isPan_13 : decode cX7_isPan 13 = .ok (.iconst 0, 1) := by decide +kernel
theorem dX7_isPan_14 : decode cX7_isPan 14 = .ok (.ireturn, 1) := by decide +kernel
theorem dX7_setsOfOne_0 : decode cX7_setsOfOne 0 = .ok (.bipush 12, 2) := by decide +kernel
theorem dX7_setsOfOne_2 : decode cX7_setsOfOne 2 = .ok (.newarray .int, 2) := by decide +kernel
theorem dX7_setsOfOne_4 : decode cX7_setsOfOne 4 = .ok (.astore_n 0, 1) := by decide +kernel
theorem dX7_setsOfOne_5 : decode cX7_setsOfOne 5 = .ok (.iconst 0, 1) := by decide +kernel
theorem dX7_setsOfOne_6 : decode cX7_setsOfOne 6 = .ok (.istore_n 1, 1) := by decide +kernel
theorem dX7_setsOfOne_7 : decode cX7_setsOfOne 7 = .ok (.iload_n 1, 1) := by decide +kernel
theorem dX7_setsOfOne_8 : decode cX7_setsOfOne 8 = .ok (.aload_n 0, 1) := by decide +kernel
theorem dX7_setsOfOne_9 : decode cX7_setsOfOne 9 = .ok (.arraylength, 1) := by decide +kernel
theorem dX7_setsOfOne_10 : decode cX7_setsOfOne 10 = .ok (.if_icmp .ge 15, 3) := by decide +kernel
theorem dX7_setsOfOne_13 : decode cX7_setsOfOne 13 = .ok (.aload_n 0, 1) := by decide +kernel
theorem dX7_setsOfOne_14 : decode cX7_setsOfOne 14 = .ok (.iload_n 1, 1) := by decide +kernel
theorem dX7_setsOfOne_15 : decode cX7_setsOfOne 15 = .ok (.iconst 1, 1) := by decide +kernel
theorem dX7_setsOfOne_16 : decode cX7_setsOfOne 16 = .ok (.iload_n 1, 1) := by decide +kernel
theorem dX7_setsOfOne_17 : decode cX7_setsOfOne 17 = .ok (.ishl, 1) := by decide +kernel
theorem dX7_setsOfOne_18 : decode cX7_setsOfOne 18 = .ok (.iastore, 1) := by decide +kernel
theorem dX7_setsOfOne_19 : decode cX7_setsOfOne 19 = .ok (.iinc 1 1, 3) := by decide +kernel
theorem dX7_setsOfOne_22 : decode cX7_setsOfOne 22 = .ok (.goto (-15), 3) := by decide +kernel
theorem dX7_setsOfOne_25 : decode cX7_setsOfOne 25 = .ok (.aload_n 0, 1) := by decide +kernel
theorem dX7_setsOfOne_26 : decode cX7_setsOfOne 26 = .ok (.areturn, 1) := by decide +kernel
theorem dX7_setsOfTwo_0 : decode cX7_setsOfTwo 0 = .ok (.bipush 66, 2) := by decide +kernel
theorem dX7_setsOfTwo_2 : decode cX7_setsOfTwo 2 = .ok (.newarray .int, 2) := by decide +kernel
theorem dX7_setsOfTwo_4 : decode cX7_setsOfTwo 4 = .ok (.astore_n 0, 1) := by decide +kernel
theorem dX7_setsOfTwo_5 : decode cX7_setsOfTwo 5 = .ok (.iconst 0, 1) := by decide +kernel
theorem dX7_setsOfTwo_6 : decode cX7_setsOfTwo 6 = .ok (.istore_n 1, 1) := by decide +kernel
theorem dX7_setsOfTwo_7 : decode cX7_setsOfTwo 7 = .ok (.iconst 1, 1) := by decide +kernel
theorem dX7_setsOfTwo_8 : decode cX7_setsOfTwo 8 = .ok (.istore_n 2, 1) := by decide +kernel
theorem dX7_setsOfTwo_9 : decode cX7_setsOfTwo 9 = .ok (.iload_n 2, 1) := by decide +kernel
theorem dX7_setsOfTwo_10 : decode cX7_setsOfTwo 10 = .ok (.bipush 12, 2) := by decide +kernel
theorem dX7_setsOfTwo_12 : decode cX7_setsOfTwo 12 = .ok (.if_icmp .ge 41, 3) := by decide +kernel
theorem dX7_setsOfTwo_15 : decode cX7_setsOfTwo 15 = .ok (.iconst 0, 1) := by decide +kernel
theorem dX7_setsOfTwo_16 : decode cX7_setsOfTwo 16 = .ok (.istore_n 3, 1) := by decide +kernel
theorem dX7_setsOfTwo_17 : decode cX7_setsOfTwo 17 = .ok (.iload_n 3, 1) := by decide +kernel
theorem dX7_setsOfTwo_18 : decode cX7_setsOfTwo 18 = .ok (.iload_n 2, 1) := by decide +kernel
theorem dX7_setsOfTwo_19 : decode cX7_setsOfTwo 19 = .ok (.if_icmp .ge 28, 3) := by decide +kernel
theorem dX7_setsOfTwo_22 : decode cX7_setsOfTwo 22 = .ok (.iload_n 1, 1) := by decide +kernel
theorem dX7_setsOfTwo_23 : decode cX7_setsOfTwo 23 = .ok (.aload_n 0, 1) := by decide +kernel
theorem dX7_setsOfTwo_24 : decode cX7_setsOfTwo 24 = .ok (.arraylength, 1) := by decide +kernel
theorem dX7_setsOfTwo_25 : decode cX7_setsOfTwo 25 = .ok (.if_icmp .ge 22, 3) := by decide +kernel
theorem dX7_setsOfTwo_28 : decode cX7_setsOfTwo 28 = .ok (.aload_n 0, 1) := by decide +kernel
theorem dX7_setsOfTwo_29 : decode cX7_setsOfTwo 29 = .ok (.iload_n 1, 1) := by decide +kernel
theorem dX7_setsOfTwo_30 : decode cX7_setsOfTwo 30 = .ok (.iconst 1, 1) := by decide +kernel
theorem dX7_setsOfTwo_31 : decode cX7_setsOfTwo 31 = .ok (.iload_n 2, 1) := by decide +kernel
theorem dX7_setsOfTwo_32 : decode cX7_setsOfTwo 32 = .ok (.ishl, 1) := by decide +kernel
theorem dX7_setsOfTwo_33 : decode cX7_setsOfTwo 33 = .ok (.iconst 1, 1) := by decide +kernel
theorem dX7_setsOfTwo_34 : decode cX7_setsOfTwo 34 = .ok (.iload_n 3, 1) := by decide +kernel
theorem dX7_setsOfTwo_35 : decode cX7_setsOfTwo 35 = .ok (.ishl, 1) := by decide +kernel
theorem dX7_setsOfTwo_36 : decode cX7_setsOfTwo 36 = .ok (.ior, 1) := by decide +kernel
theorem dX7_setsOfTwo_37 : decode cX7_setsOfTwo 37 = .ok (.iastore, 1) := by decide +kernel
theorem dX7_setsOfTwo_38 : decode cX7_setsOfTwo 38 = .ok (.iinc 1 1, 3) := by decide +kernel
theorem dX7_setsOfTwo_41 : decode cX7_setsOfTwo 41 = .ok (.iinc 3 1, 3) := by decide +kernel
theorem dX7_setsOfTwo_44 : decode cX7_setsOfTwo 44 = .ok (.goto (-27), 3) := by decide +kernel
theorem dX7_setsOfTwo_47 : decode cX7_setsOfTwo 47 = .ok (.iinc 2 1, 3) := by decide +kernel
theorem dX7_setsOfTwo_50 : decode cX7_setsOfTwo 50 = .ok (.goto (-41), 3) := by decide +kernel
theorem dX7_setsOfTwo_53 : decode cX7_setsOfTwo 53 = .ok (.aload_n 0, 1) := by decide +kernel
theorem dX7_setsOfTwo_54 : decode cX7_setsOfTwo 54 = .ok (.areturn, 1) := by decide +kernel
theorem dJ11_isValidCodePoint_9a6ad_0 : decode cJ11_isValidCodePoint_9a6ad 0 = .ok (.iload_n 0, 1) := by decide +kernel
theorem dJ11_isValidCodePoint_9a6ad_1 : decode cJ11_isValidCodePoint_9a6ad 1 = .ok (.bipush 16, 2) := by decide +kernel
theorem dJ11_isValidCodePoint_9a6ad_3 : decode cJ11_isValidCodePoint_9a6ad 3 = .ok (.iushr, 1) := by decide +kernel
theorem dJ11_isValidCodePoint_9a6ad_4 : decode cJ11_isValidCodePoint_9a6ad 4 = .ok (.istore_n 1, 1) := by decide +kernel
theorem dJ11_isValidCodePoint_9a6ad_5 : decode cJ11_isValidCodePoint_9a6ad 5 = .ok (.iload_n 1, 1) := by decide +kernel
theorem dJ11_isValidCodePoint_9a6ad_6 : decode cJ11_isValidCodePoint_9a6ad 6 = .ok (.bipush 17, 2) := by decide +kernel
theorem dJ11_isValidCodePoint_9a6ad_8 : decode cJ11_isValidCodePoint_9a6ad 8 = .ok (.if_icmp .ge 7, 3) := by decide +kernel
theorem dJ11_isValidCodePoint_9a6ad_11 : decode cJ11_isValidCodePoint_9a6ad 11 = .ok (.iconst 1, 1) := by decide +kernel
theorem dJ11_isValidCodePoint_9a6ad_12 : decode cJ11_isValidCodePoint_9a6ad 12 = .ok (.goto 4, 3) := by decide +kernel
theorem dJ11_isValidCodePoint_9a6ad_15 : decode cJ11_isValidCodePoint_9a6ad 15 = .ok (.iconst 0, 1) := by decide +kernel
theorem dJ11_isValidCodePoint_9a6ad_16 : decode cJ11_isValidCodePoint_9a6ad 16 = .ok (.ireturn, 1) := by decide +kernel
theorem dJ11_highSurrogate_5068e_0 : decode cJ11_highSurrogate_5068e 0 = .ok (.iload_n 0, 1) := by decide +kernel
theorem dJ11_highSurrogate_5068e_1 : decode cJ11_highSurrogate_5068e 1 = .ok (.bipush 10, 2) := by decide +kernel
theorem dJ11_highSurrogate_5068e_3 : decode cJ11_highSurrogate_5068e 3 = .ok (.iushr, 1) := by decide +kernel
theorem dJ11_highSurrogate_5068e_4 : decode cJ11_highSurrogate_5068e 4 = .ok (.ldc 110, 2) := by decide +kernel
theorem dJ11_highSurrogate_5068e_6 : decode cJ11_highSurrogate_5068e 6 = .ok (.iadd, 1) := by decide +kernel
theorem dJ11_highSurrogate_5068e_7 : decode cJ11_highSurrogate_5068e 7 = .ok (.i2c, 1) := by decide +kernel
theorem dJ11_highSurrogate_5068e_8 : decode cJ11_highSurrogate_5068e 8 = .ok (.ireturn, 1) := by decide +kernel
theorem dJ11_lowSurrogate_5068e_0 : decode cJ11_lowSurrogate_5068e 0 = .ok (.iload_n 0, 1) := by decide +kernel
theorem dJ11_lowSurrogate_5068e_1 : decode cJ11_lowSurrogate_5068e 1 = .ok (.sipush 1023, 3) := by decide +kernel
theorem dJ11_lowSurrogate_5068e_4 : decode cJ11_lowSurrogate_5068e 4 = .ok (.iand, 1) := by decide +kernel
theorem dJ11_lowSurrogate_5068e_5 : decode cJ11_lowSurrogate_5068e 5 = .ok (.ldc 76, 2) := by decide +kernel
theorem dJ11_lowSurrogate_5068e_7 : decode cJ11_lowSurrogate_5068e 7 = .ok (.iadd, 1) := by decide +kernel
theorem dJ11_lowSurrogate_5068e_8 : decode cJ11_lowSurrogate_5068e 8 = .ok (.i2c, 1) := by decide +kernel
theorem dJ11_lowSurrogate_5068e_9 : decode cJ11_lowSurrogate_5068e 9 = .ok (.ireturn, 1) := by decide +kernel
theorem dJ6_bitCount_0f7a4_0 : decode cJ6_bitCount_0f7a4 0 = .ok (.iload_n 0, 1) := by decide +kernel
theorem dJ6_bitCount_0f7a4_1 : decode cJ6_bitCount_0f7a4 1 = .ok (.iload_n 0, 1) := by decide +kernel
theorem dJ6_bitCount_0f7a4_2 : decode cJ6_bitCount_0f7a4 2 = .ok (.iconst 1, 1) := by decide +kernel
theorem dJ6_bitCount_0f7a4_3 : decode cJ6_bitCount_0f7a4 3 = .ok (.iushr, 1) := by decide +kernel
theorem dJ6_bitCount_0f7a4_4 : decode cJ6_bitCount_0f7a4 4 = .ok (.ldc_w 265, 3) := by decide +kernel
theorem dJ6_bitCount_0f7a4_7 : decode cJ6_bitCount_0f7a4 7 = .ok (.iand, 1) := by decide +kernel
theorem dJ6_bitCount_0f7a4_8 : decode cJ6_bitCount_0f7a4 8 = .ok (.isub, 1) := by decide +kernel
theorem dJ6_bitCount_0f7a4_9 : decode cJ6_bitCount_0f7a4 9 = .ok (.istore_n 0, 1) := by decide +kernel
theorem dJ6_bitCount_0f7a4_10 : decode cJ6_bitCount_0f7a4 10 = .ok (.iload_n 0, 1) := by decide +kernel
theorem dJ6_bitCount_0f7a4_11 : decode cJ6_bitCount_0f7a4 11 = .ok (.ldc_w 266, 3) := by decide +kernel
theorem dJ6_bitCount_0f7a4_14 : decode cJ6_bitCount_0f7a4 14 = .ok (.iand, 1) := by decide +kernel
theorem dJ6_bitCount_0f7a4_15 : decode cJ6_bitCount_0f7a4 15 = .ok (.iload_n 0, 1) := by decide +kernel
theorem dJ6_bitCount_0f7a4_16 : decode cJ6_bitCount_0f7a4 16 = .ok (.iconst 2, 1) := by decide +kernel
theorem dJ6_bitCount_0f7a4_17 : decode cJ6_bitCount_0f7a4 17 = .ok (.iushr, 1) := by decide +kernel
theorem dJ6_bitCount_0f7a4_18 : decode cJ6_bitCount_0f7a4 18 = .ok (.ldc_w 266, 3) := by decide +kernel
theorem dJ6_bitCount_0f7a4_21 : decode cJ6_bitCount_0f7a4 21 = .ok (.iand, 1) := by decide +kernel
theorem dJ6_bitCount_0f7a4_22 : decode cJ6_bitCount_0f7a4 22 = .ok (.iadd, 1) := by decide +kernel
theorem dJ6_bitCount_0f7a4_23 : decode cJ6_bitCount_0f7a4 23 = .ok (.istore_n 0, 1) := by decide +kernel
theorem dJ6_bitCount_0f7a4_24 : decode cJ6_bitCount_0f7a4 24 = .ok (.iload_n 0, 1) := by decide +kernel
theorem dJ6_bitCount_0f7a4_25 : decode cJ6_bitCount_0f7a4 25 = .ok (.iload_n 0, 1) := by decide +kernel
theorem dJ6_bitCount_0f7a4_26 : decode cJ6_bitCount_0f7a4 26 = .ok (.iconst 4, 1) := by decide +kernel
theorem dJ6_bitCount_0f7a4_27 : decode cJ6_bitCount_0f7a4 27 = .ok (.iushr, 1) := by decide +kernel
theorem dJ6_bitCount_0f7a4_28 : decode cJ6_bitCount_0f7a4 28 = .ok (.iadd, 1) := by decide +kernel
theorem dJ6_bitCount_0f7a4_29 : decode cJ6_bitCount_0f7a4 29 = .ok (.ldc_w 267, 3) := by decide +kernel
theorem dJ6_bitCount_0f7a4_32 : decode cJ6_bitCount_0f7a4 32 = .ok (.iand, 1) := by decide +kernel
theorem dJ6_bitCount_0f7a4_33 : decode cJ6_bitCount_0f7a4 33 = .ok (.istore_n 0, 1) := by decide +kernel
theorem dJ6_bitCount_0f7a4_34 : decode cJ6_bitCount_0f7a4 34 = .ok (.iload_n 0, 1) := by decide +kernel
theorem dJ6_bitCount_0f7a4_35 : decode cJ6_bitCount_0f7a4 35 = .ok (.iload_n 0, 1) := by decide +kernel
theorem dJ6_bitCount_0f7a4_36 : decode cJ6_bitCount_0f7a4 36 = .ok (.bipush 8, 2) := by decide +kernel
theorem dJ6_bitCount_0f7a4_38 : decode cJ6_bitCount_0f7a4 38 = .ok (.iushr, 1) := by decide +kernel
theorem dJ6_bitCount_0f7a4_39 : decode cJ6_bitCount_0f7a4 39 = .ok (.iadd, 1) := by decide +kernel
theorem dJ6_bitCount_0f7a4_40 : decode cJ6_bitCount_0f7a4 40 = .ok (.istore_n 0, 1) := by decide +kernel
theorem dJ6_bitCount_0f7a4_41 : decode cJ6_bitCount_0f7a4 41 = .ok (.iload_n 0, 1) := by decide +kernel
theorem dJ6_bitCount_0f7a4_42 : decode cJ6_bitCount_0f7a4 42 = .ok (.iload_n 0, 1) := by decide +kernel
theorem dJ6_bitCount_0f7a4_43 : decode cJ6_bitCount_0f7a4 43 = .ok (.bipush 16, 2) := by decide +kernel
theorem dJ6_bitCount_0f7a4_45 : decode cJ6_bitCount_0f7a4 45 = .ok (.iushr, 1) := by decide +kernel
theorem dJ6_bitCount_0f7a4_46 : decode cJ6_bitCount_0f7a4 46 = .ok (.iadd, 1) := by decide +kernel
theorem dJ6_bitCount_0f7a4_47 : decode cJ6_bitCount_0f7a4 47 = .ok (.istore_n 0, 1) := by decide +kernel
theorem dJ6_bitCount_0f7a4_48 : decode cJ6_bitCount_0f7a4 48 = .ok (.iload_n 0, 1) := by decide +kernel
theorem dJ6_bitCount_0f7a4_49 : decode cJ6_bitCount_0f7a4 49 = .ok (.bipush 63, 2) := by decide +kernel
theorem dJ6_bitCount_0f7a4_51 : decode cJ6_bitCount_0f7a4 51 = .ok (.iand, 1) := by decide +kernel
theorem dJ6_bitCount_0f7a4_52 : decode cJ6_bitCount_0f7a4 52 = .ok (.ireturn, 1) := by decide +kernel
theorem dJ9_max_7cf53_0 : decode cJ9_max_7cf53 0 = .ok (.iload_n 0, 1) := by decide +kernel
theorem dJ9_max_7cf53_1 : decode cJ9_max_7cf53 1 = .ok (.iload_n 1, 1) := by decide +kernel
theorem dJ9_max_7cf53_2 : decode cJ9_max_7cf53 2 = .ok (.if_icmp .lt 7, 3) := by decide +kernel
theorem dJ9_max_7cf53_5 : decode cJ9_max_7cf53 5 = .ok (.iload_n 0, 1) := by decide +kernel
theorem dJ9_max_7cf53_6 : decode cJ9_max_7cf53 6 = .ok (.goto 4, 3) := by decide +kernel
theorem dJ9_max_7cf53_9 : decode cJ9_max_7cf53 9 = .ok (.iload_n 1, 1) := by decide +kernel
theorem dJ9_max_7cf53_10 : decode cJ9_max_7cf53 10 = .ok (.ireturn, 1) := by decide +kernel
theorem dJ9_min_7cf53_0 : decode cJ9_min_7cf53 0 = .ok (.iload_n 0, 1) := by decide +kernel
theorem dJ9_min_7cf53_1 : decode cJ9_min_7cf53 1 = .ok (.iload_n 1, 1) := by decide +kernel
theorem dJ9_min_7cf53_2 : decode cJ9_min_7cf53 2 = .ok (.if_icmp .gt 7, 3) := by decide +kernel
theorem dJ9_min_7cf53_5 : decode cJ9_min_7cf53 5 = .ok (.iload_n 0, 1) := by decide +kernel
theorem dJ9_min_7cf53_6 : decode cJ9_min_7cf53 6 = .ok (.goto 4, 3) := by decide +kernel
theorem dJ9_min_7cf53_9 : decode cJ9_min_7cf53 9 = .ok (.iload_n 1, 1) := by decide +kernel
theorem dJ9_min_7cf53_10 : decode cJ9_min_7cf53 10 = .ok (.ireturn, 1) := by decide +kernel
theorem dJ0_length_8abf5_0 : decode cJ0_length_8abf5 0 = .ok (.aload_n 0, 1) := by decide +kernel
theorem dJ0_length_8abf5_1 : decode cJ0_length_8abf5 1 = .ok (.getfield 9, 3) := by decide +kernel
theorem dJ0_length_8abf5_4 : decode cJ0_length_8abf5 4 = .ok (.arraylength, 1) := by decide +kernel
theorem dJ0_length_8abf5_5 : decode cJ0_length_8abf5 5 = .ok (.aload_n 0, 1) := by decide +kernel
theorem dJ0_length_8abf5_6 : decode cJ0_length_8abf5 6 = .ok (.invokevirtual 335, 3) := by decide +kernel
theorem dJ0_length_8abf5_9 : decode cJ0_length_8abf5 9 = .ok (.ishr, 1) := by decide +kernel
theorem dJ0_length_8abf5_10 : decode cJ0_length_8abf5 10 = .ok (.ireturn, 1) := by decide +kernel
theorem dJ0_indexOf_0f7a4_0 : decode cJ0_indexOf_0f7a4 0 = .ok (.aload_n 0, 1) := by decide +kernel
theorem dJ0_indexOf_0f7a4_1 : decode cJ0_indexOf_0f7a4 1 = .ok (.iload_n 1, 1) := by decide +kernel
theorem dJ0_indexOf_0f7a4_2 : decode cJ0_indexOf_0f7a4 2 = .ok (.iconst 0, 1) := by decide +kernel
theorem dJ0_indexOf_0f7a4_3 : decode cJ0_indexOf_0f7a4 3 = .ok (.invokevirtual 633, 3) := by decide +kernel
theorem dJ0_indexOf_0f7a4_6 : decode cJ0_indexOf_0f7a4 6 = .ok (.ireturn, 1) := by decide +kernel
theorem dJ0_indexOf_7cf53_0 : decode cJ0_indexOf_7cf53 0 = .ok (.aload_n 0, 1) := by decide +kernel
theorem dJ0_indexOf_7cf53_1 : decode cJ0_indexOf_7cf53 1 = .ok (.invokevirtual 492, 3) := by decide +kernel
theorem dJ0_indexOf_7cf53_4 : decode cJ0_indexOf_7cf53 4 = .ok (.ifCond .eq 19, 3) := by decide +kernel
theorem dJ0_indexOf_7cf53_7 : decode cJ0_indexOf_7cf53 7 = .ok (.aload_n 0, 1) := by decide +kernel
theorem dJ0_indexOf_7cf53_8 : decode cJ0_indexOf_7cf53 8 = .ok (.getfield 9, 3) := by decide +kernel
theorem dJ0_indexOf_7cf53_11 : decode cJ0_indexOf_7cf53 11 = .ok (.iload_n 1, 1) := by decide +kernel
theorem dJ0_indexOf_7cf53_12 : decode cJ0_indexOf_7cf53 12 = .ok (.iload_n 2, 1) := by decide +kernel
theorem dJ0_indexOf_7cf53_13 : decode cJ0_indexOf_7cf53 13 = .ok (.aload_n 0, 1) := by decide +kernel
theorem dJ0_indexOf_7cf53_14 : decode cJ0_indexOf_7cf53 14 = .ok (.invokevirtual 505, 3) := by decide +kernel
theorem dJ0_indexOf_7cf53_17 : decode cJ0_indexOf_7cf53 17 = .ok (.invokestatic 637, 3) := by decide +kernel
theorem dJ0_indexOf_7cf53_20 : decode cJ0_indexOf_7cf53 20 = .ok (.goto 16, 3) := by decide +kernel
theorem dJ0_indexOf_7cf53_23 : decode cJ0_indexOf_7cf53 23 = .ok (.aload_n 0, 1) := by decide +kernel
theorem dJ0_indexOf_7cf53_24 : decode cJ0_indexOf_7cf53 24 = .ok (.getfield 9, 3) := by decide +kernel
theorem dJ0_indexOf_7cf53_27 : decode cJ0_indexOf_7cf53 27 = .ok (.iload_n 1, 1) := by decide +kernel
theorem dJ0_indexOf_7cf53_28 : decode cJ0_indexOf_7cf53 28 = .ok (.iload_n 2, 1) := by decide +kernel
theorem dJ0_indexOf_7cf53_29 : decode cJ0_indexOf_7cf53 29 = .ok (.aload_n 0, 1) := by decide +kernel
theorem dJ0_indexOf_7cf53_30 : decode cJ0_indexOf_7cf53 30 = .ok (.invokevirtual 505, 3) := by decide +kernel
theorem dJ0_indexOf_7cf53_33 : decode cJ0_indexOf_7cf53 33 = .ok (.invokestatic 640, 3) := by decide +kernel
theorem dJ0_indexOf_7cf53_36 : decode cJ0_indexOf_7cf53 36 = .ok (.ireturn, 1) := by decide +kernel
theorem dJ0_coder_7d493_0 : decode cJ0_coder_7d493 0 = .ok (.getstatic 38, 3) := by decide +kernel
theorem dJ0_coder_7d493_3 : decode cJ0_coder_7d493 3 = .ok (.ifCond .eq 10, 3) := by decide +kernel
theorem dJ0_coder_7d493_6 : decode cJ0_coder_7d493 6 = .ok (.aload_n 0, 1) := by decide +kernel
theorem dJ0_coder_7d493_7 : decode cJ0_coder_7d493 7 = .ok (.getfield 15, 3) := by decide +kernel
theorem dJ0_coder_7d493_10 : decode cJ0_coder_7d493 10 = .ok (.goto 4, 3) := by decide +kernel
theorem dJ0_coder_7d493_13 : decode cJ0_coder_7d493 13 = .ok (.iconst 1, 1) := by decide +kernel
theorem dJ0_coder_7d493_14 : decode cJ0_coder_7d493 14 = .ok (.ireturn, 1) := by decide +kernel
theorem dJ0_isLatin1_aae02_0 : decode cJ0_isLatin1_aae02 0 = .ok (.getstatic 38, 3) := by decide +kernel
theorem dJ0_isLatin1_aae02_3 : decode cJ0_isLatin1_aae02 3 = .ok (.ifCond .eq 14, 3) := by decide +kernel
theorem dJ0_isLatin1_aae02_6 : decode cJ0_isLatin1_aae02 6 = .ok (.aload_n 0, 1) := by decide +kernel
theorem dJ0_isLatin1_aae02_7 : decode cJ0_isLatin1_aae02 7 = .ok (.getfield 15, 3) := by decide +kernel
theorem dJ0_isLatin1_aae02_10 : decode cJ0_isLatin1_aae02 10 = .ok (.ifCond .ne 7, 3) := by decide +kernel
theorem dJ0_isLatin1_aae02_13 : decode cJ0_isLatin1_aae02 13 = .ok (.iconst 1, 1) := by decide +kernel
theorem dJ0_isLatin1_aae02_14 : decode cJ0_isLatin1_aae02 14 = .ok (.goto 4, 3) := by decide +kernel
theorem dJ0_isLatin1_aae02_17 : decode cJ0_isLatin1_aae02 17 = .ok (.iconst 0, 1) := by decide +kernel
theorem dJ0_isLatin1_aae02_18 : decode cJ0_isLatin1_aae02 18 = .ok (.ireturn, 1) := by decide +kernel
theorem dJ0_checkBoundsBeginEnd_23922_0 : decode cJ0_checkBoundsBeginEnd_23922 0 = .ok (.iload_n 0, 1) := by decide +kernel
theorem dJ0_checkBoundsBeginEnd_23922_1 : decode cJ0_checkBoundsBeginEnd_23922 1 = .ok (.iload_n 1, 1) := by decide +kernel
theorem dJ0_checkBoundsBeginEnd_23922_2 : decode cJ0_checkBoundsBeginEnd_23922 2 = .ok (.iload_n 2, 1) := by decide +kernel
theorem dJ0_checkBoundsBeginEnd_23922_3 : decode cJ0_checkBoundsBeginEnd_23922 3 = .ok (.getstatic 1053, 3) := by decide +kernel
theorem dJ0_checkBoundsBeginEnd_23922_6 : decode cJ0_checkBoundsBeginEnd_23922 6 = .ok (.invokestatic 1062, 3) := by decide +kernel
theorem dJ0_checkBoundsBeginEnd_23922_9 : decode cJ0_checkBoundsBeginEnd_23922 9 = .ok (.pop, 1) := by decide +kernel
theorem dJ0_checkBoundsBeginEnd_23922_10 : decode cJ0_checkBoundsBeginEnd_23922 10 = .ok (.return_, 1) := by decide +kernel
theorem dJ1_canEncode_9a6ad_0 : decode cJ1_canEncode_9a6ad 0 = .ok (.iload_n 0, 1) := by decide +kernel
theorem dJ1_canEncode_9a6ad_1 : decode cJ1_canEncode_9a6ad 1 = .ok (.ifCond .lt 14, 3) := by decide +kernel
theorem dJ1_canEncode_9a6ad_4 : decode cJ1_canEncode_9a6ad 4 = .ok (.iload_n 0, 1) := by decide +kernel
theorem dJ1_canEncode_9a6ad_5 : decode cJ1_canEncode_9a6ad 5 = .ok (.sipush 255, 3) := by decide +kernel
theorem dJ1_canEncode_9a6ad_8 : decode cJ1_canEncode_9a6ad 8 = .ok (.if_icmp .gt 7, 3) := by decide +kernel
theorem dJ1_canEncode_9a6ad_11 : decode cJ1_canEncode_9a6ad 11 = .ok (.iconst 1, 1) := by decide +kernel
theorem dJ1_canEncode_9a6ad_12 : decode cJ1_canEncode_9a6ad 12 = .ok (.goto 4, 3) := by decide +kernel
theorem dJ1_canEncode_9a6ad_15 : decode cJ1_canEncode_9a6ad 15 = .ok (.iconst 0, 1) := by decide +kernel
theorem dJ1_canEncode_9a6ad_16 : decode cJ1_canEncode_9a6ad 16 = .ok (.ireturn, 1) := by decide +kernel
theorem dJ1_indexOf_4cfef_0 : decode cJ1_indexOf_4cfef 0 = .ok (.iload_n 1, 1) := by decide +kernel
theorem dJ1_indexOf_4cfef_1 : decode cJ1_indexOf_4cfef 1 = .ok (.invokestatic 88, 3) := by decide +kernel
theorem dJ1_indexOf_4cfef_4 : decode cJ1_indexOf_4cfef 4 = .ok (.ifCond .ne 5, 3) := by decide +kernel
theorem dJ1_indexOf_4cfef_7 : decode cJ1_indexOf_4cfef 7 = .ok (.iconst (-1), 1) := by decide +kernel
theorem dJ1_indexOf_4cfef_8 : decode cJ1_indexOf_4cfef 8 = .ok (.ireturn, 1) := by decide +kernel
theorem dJ1_indexOf_4cfef_9 : decode cJ1_indexOf_4cfef 9 = .ok (.iload_n 2, 1) := by decide +kernel
theorem dJ1_indexOf_4cfef_10 : decode cJ1_indexOf_4cfef 10 = .ok (.iconst 0, 1) := by decide +kernel
theorem dJ1_indexOf_4cfef_11 : decode cJ1_indexOf_4cfef 11 = .ok (.invokestatic 92, 3) := by decide +kernel
theorem dJ1_indexOf_4cfef_14 : decode cJ1_indexOf_4cfef 14 = .ok (.istore_n 2, 1) := by decide +kernel
theorem dJ1_indexOf_4cfef_15 : decode cJ1_indexOf_4cfef 15 = .ok (.iload_n 3, 1) := by decide +kernel
theorem dJ1_indexOf_4cfef_16 : decode cJ1_indexOf_4cfef 16 = .ok (.aload_n 0, 1) := by decide +kernel
theorem dJ1_indexOf_4cfef_17 : decode cJ1_indexOf_4cfef 17 = .ok (.arraylength, 1) := by decide +kernel
theorem dJ1_indexOf_4cfef_18 : decode cJ1_indexOf_4cfef 18 = .ok (.invokestatic 38, 3) := by decide +kernel
theorem dJ1_indexOf_4cfef_21 : decode cJ1_indexOf_4cfef 21 = .ok (.istore_n 3, 1) := by decide +kernel
theorem dJ1_indexOf_4cfef_22 : decode cJ1_indexOf_4cfef 22 = .ok (.iload_n 2, 1) := by decide +kernel
theorem dJ1_indexOf_4cfef_23 : decode cJ1_indexOf_4cfef 23 = .ok (.iload_n 3, 1) := by decide +kernel
theorem dJ1_indexOf_4cfef_24 : decode cJ1_indexOf_4cfef 24 = .ok (.if_icmp .lt 5, 3) := by decide +kernel
theorem dJ1_indexOf_4cfef_27 : decode cJ1_indexOf_4cfef 27 = .ok (.iconst (-1), 1) := by decide +kernel
theorem dJ1_indexOf_4cfef_28 : decode cJ1_indexOf_4cfef 28 = .ok (.ireturn, 1) := by decide +kernel
theorem dJ1_indexOf_4cfef_29 : decode cJ1_indexOf_4cfef 29 = .ok (.aload_n 0, 1) := by decide +kernel
theorem dJ1_indexOf_4cfef_30 : decode cJ1_indexOf_4cfef 30 = .ok (.iload_n 1, 1) := by decide +kernel
theorem dJ1_indexOf_4cfef_31 : decode cJ1_indexOf_4cfef 31 = .ok (.iload_n 2, 1) := by decide +kernel
theorem dJ1_indexOf_4cfef_32 : decode cJ1_indexOf_4cfef 32 = .ok (.iload_n 3, 1) := by decide +kernel
theorem dJ1_indexOf_4cfef_33 : decode cJ1_indexOf_4cfef 33 = .ok (.invokestatic 95, 3) := by decide +kernel
theorem dJ1_indexOf_4cfef_36 : decode cJ1_indexOf_4cfef 36 = .ok (.ireturn, 1) := by decide +kernel
theorem dJ1_indexOfChar_4cfef_0 : decode cJ1_indexOfChar_4cfef 0 = .ok (.iload_n 1, 1) := by decide +kernel
theorem dJ1_indexOfChar_4cfef_1 : decode cJ1_indexOfChar_4cfef 1 = .ok (.i2b, 1) := by decide +kernel
theorem dJ1_indexOfChar_4cfef_2 : decode cJ1_indexOfChar_4cfef 2 = .ok (.istore 4, 2) := by decide +kernel
theorem dJ1_indexOfChar_4cfef_4 : decode cJ1_indexOfChar_4cfef 4 = .ok (.iload_n 2, 1) := by decide +kernel
theorem dJ1_indexOfChar_4cfef_5 : decode cJ1_indexOfChar_4cfef 5 = .ok (.istore 5, 2) := by decide +kernel
theorem dJ1_indexOfChar_4cfef_7 : decode cJ1_indexOfChar_4cfef 7 = .ok (.iload 5, 2) := by decide +kernel
theorem dJ1_indexOfChar_4cfef_9 : decode cJ1_indexOfChar_4cfef 9 = .ok (.iload_n 3, 1) := by decide +kernel
theorem dJ1_indexOfChar_4cfef_10 : decode cJ1_indexOfChar_4cfef 10 = .ok (.if_icmp .ge 21, 3) := by decide +kernel
theorem dJ1_indexOfChar_4cfef_13 : decode cJ1_indexOfChar_4cfef 13 = .ok (.aload_n 0, 1) := by decide +kernel
theorem dJ1_indexOfChar_4cfef_14 : decode cJ1_indexOfChar_4cfef 14 = .ok (.iload 5, 2) := by decide +kernel
theorem dJ1_indexOfChar_4cfef_16 : decode cJ1_indexOfChar_4cfef 16 = .ok (.baload, 1) := by decide +kernel
theorem dJ1_indexOfChar_4cfef_17 : decode cJ1_indexOfChar_4cfef 17 = .ok (.iload 4, 2) := by decide +kernel
theorem dJ1_indexOfChar_4cfef_19 : decode cJ1_indexOfChar_4cfef 19 = .ok (.if_icmp .ne 6, 3) := by decide +kernel
theorem dJ1_indexOfChar_4cfef_22 : decode cJ1_indexOfChar_4cfef 22 = .ok (.iload 5, 2) := by decide +kernel
theorem dJ1_indexOfChar_4cfef_24 : decode cJ1_indexOfChar_4cfef 24 = .ok (.ireturn, 1) := by decide +kernel
theorem dJ1_indexOfChar_4cfef_25 : decode cJ1_indexOfChar_4cfef 25 = .ok (.iinc 5 1, 3) := by decide +kernel
theorem dJ1_indexOfChar_4cfef_28 : decode cJ1_indexOfChar_4cfef 28 = .ok (.goto (-21), 3) := by decide +kernel
theorem dJ1_indexOfChar_4cfef_31 : decode cJ1_indexOfChar_4cfef 31 = .ok (.iconst (-1), 1) := by decide +kernel
theorem dJ1_indexOfChar_4cfef_32 : decode cJ1_indexOfChar_4cfef 32 = .ok (.ireturn, 1) := by decide +kernel
theorem dJ2_getChar_3b067_0 : decode cJ2_getChar_3b067 0 = .ok (.getstatic 44, 3) := by decide +kernel
theorem dJ2_getChar_3b067_3 : decode cJ2_getChar_3b067 3 = .ok (.ifCond .ne 25, 3) := by decide +kernel
theorem dJ2_getChar_3b067_6 : decode cJ2_getChar_3b067 6 = .ok (.iload_n 1, 1) := by decide +kernel
theorem dJ2_getChar_3b067_7 : decode cJ2_getChar_3b067 7 = .ok (.ifCond .lt 11, 3) := by decide +kernel
theorem dJ2_getChar_3b067_10 : decode cJ2_getChar_3b067 10 = .ok (.iload_n 1, 1) := by decide +kernel
theorem dJ2_getChar_3b067_11 : decode cJ2_getChar_3b067 11 = .ok (.aload_n 0, 1) := by decide +kernel
theorem dJ2_getChar_3b067_12 : decode cJ2_getChar_3b067 12 = .ok (.invokestatic 48, 3) := by decide +kernel
theorem dJ2_getChar_3b067_15 : decode cJ2_getChar_3b067 15 = .ok (.if_icmp .lt 13, 3) := by decide +kernel
theorem dJ2_getChar_3b067_18 : decode cJ2_getChar_3b067 18 = .ok (.new 52, 3) := by decide +kernel
theorem dJ2_getChar_3b067_21 : decode cJ2_getChar_3b067 21 = .ok (.dup, 1) := by decide +kernel
theorem dJ2_getChar_3b067_22 : decode cJ2_getChar_3b067 22 = .ok (.ldc 54, 2) := by decide +kernel
theorem dJ2_getChar_3b067_24 : decode cJ2_getChar_3b067 24 = .ok (.invokespecial 56, 3) := by decide +kernel
theorem dJ2_getChar_3b067_27 : decode cJ2_getChar_3b067 27 = .ok (.athrow, 1) := by decide +kernel
theorem dJ2_getChar_3b067_28 : decode cJ2_getChar_3b067 28 = .ok (.iload_n 1, 1) := by decide +kernel
theorem dJ2_getChar_3b067_29 : decode cJ2_getChar_3b067 29 = .ok (.iconst 1, 1) := by decide +kernel
theorem dJ2_getChar_3b067_30 : decode cJ2_getChar_3b067 30 = .ok (.ishl, 1) := by decide +kernel
theorem dJ2_getChar_3b067_31 : decode cJ2_getChar_3b067 31 = .ok (.istore_n 1, 1) := by decide +kernel
theorem dJ2_getChar_3b067_32 : decode cJ2_getChar_3b067 32 = .ok (.aload_n 0, 1) := by decide +kernel
theorem dJ2_getChar_3b067_33 : decode cJ2_getChar_3b067 33 = .ok (.iload_n 1, 1) := by decide +kernel
theorem dJ2_getChar_3b067_34 : decode cJ2_getChar_3b067 34 = .ok (.iinc 1 1, 3) := by decide +kernel
theorem dJ2_getChar_3b067_37 : decode cJ2_getChar_3b067 37 = .ok (.baload, 1) := by decide +kernel
theorem dJ2_getChar_3b067_38 : decode cJ2_getChar_3b067 38 = .ok (.sipush 255, 3) := by decide +kernel
theorem dJ2_getChar_3b067_41 : decode cJ2_getChar_3b067 41 = .ok (.iand, 1) := by decide +kernel
theorem dJ2_getChar_3b067_42 : decode cJ2_getChar_3b067 42 = .ok (.getstatic 59, 3) := by decide +kernel
theorem dJ2_getChar_3b067_45 : decode cJ2_getChar_3b067 45 = .ok (.ishl, 1) := by decide +kernel
theorem dJ2_getChar_3b067_46 : decode cJ2_getChar_3b067 46 = .ok (.aload_n 0, 1) := by decide +kernel
theorem dJ2_getChar_3b067_47 : decode cJ2_getChar_3b067 47 = .ok (.iload_n 1, 1) := by decide +kernel
theorem dJ2_getChar_3b067_48 : decode cJ2_getChar_3b067 48 = .ok (.baload, 1) := by decide +kernel
theorem dJ2_getChar_3b067_49 : decode cJ2_getChar_3b067 49 = .ok (.sipush 255, 3) := by decide +kernel
theorem dJ2_getChar_3b067_52 : decode cJ2_getChar_3b067 52 = .ok (.iand, 1) := by decide +kernel
theorem dJ2_getChar_3b067_53 : decode cJ2_getChar_3b067 53 = .ok (.getstatic 63, 3) := by decide +kernel
theorem dJ2_getChar_3b067_56 : decode cJ2_getChar_3b067 56 = .ok (.ishl, 1) := by decide +kernel
theorem dJ2_getChar_3b067_57 : decode cJ2_getChar_3b067 57 = .ok (.ior, 1) := by decide +kernel
theorem dJ2_getChar_3b067_58 : decode cJ2_getChar_3b067 58 = .ok (.i2c, 1) := by decide +kernel
theorem dJ2_getChar_3b067_59 : decode cJ2_getChar_3b067 59 = .ok (.ireturn, 1) := by decide +kernel
theorem dJ2_length_9d52b_0 : decode cJ2_length_9d52b 0 = .ok (.aload_n 0, 1) := by decide +kernel
theorem dJ2_length_9d52b_1 : decode cJ2_length_9d52b 1 = .ok (.arraylength, 1) := by decide +kernel
theorem dJ2_length_9d52b_2 : decode cJ2_length_9d52b 2 = .ok (.iconst 1, 1) := by decide +kernel
theorem dJ2_length_9d52b_3 : decode cJ2_length_9d52b 3 = .ok (.ishr, 1) := by decide +kernel
theorem dJ2_length_9d52b_4 : decode cJ2_length_9d52b 4 = .ok (.ireturn, 1) := by decide +kernel
theorem dJ2_indexOf_4cfef_0 : decode cJ2_indexOf_4cfef 0 = .ok (.iload_n 2, 1) := by decide +kernel
theorem dJ2_indexOf_4cfef_1 : decode cJ2_indexOf_4cfef 1 = .ok (.iconst 0, 1) := by decide +kernel
theorem dJ2_indexOf_4cfef_2 : decode cJ2_indexOf_4cfef 2 = .ok (.invokestatic 224, 3) := by decide +kernel
theorem dJ2_indexOf_4cfef_5 : decode cJ2_indexOf_4cfef 5 = .ok (.istore_n 2, 1) := by decide +kernel
theorem dJ2_indexOf_4cfef_6 : decode cJ2_indexOf_4cfef 6 = .ok (.iload_n 3, 1) := by decide +kernel
theorem dJ2_indexOf_4cfef_7 : decode cJ2_indexOf_4cfef 7 = .ok (.aload_n 0, 1) := by decide +kernel
theorem dJ2_indexOf_4cfef_8 : decode cJ2_indexOf_4cfef 8 = .ok (.arraylength, 1) := by decide +kernel
theorem dJ2_indexOf_4cfef_9 : decode cJ2_indexOf_4cfef 9 = .ok (.iconst 1, 1) := by decide +kernel
theorem dJ2_indexOf_4cfef_10 : decode cJ2_indexOf_4cfef 10 = .ok (.ishr, 1) := by decide +kernel
theorem dJ2_indexOf_4cfef_11 : decode cJ2_indexOf_4cfef 11 = .ok (.invokestatic 183, 3) := by decide +kernel
theorem dJ2_indexOf_4cfef_14 : decode cJ2_indexOf_4cfef 14 = .ok (.istore_n 3, 1) := by decide +kernel
theorem dJ2_indexOf_4cfef_15 : decode cJ2_indexOf_4cfef 15 = .ok (.iload_n 2, 1) := by decide +kernel
theorem dJ2_indexOf_4cfef_16 : decode cJ2_indexOf_4cfef 16 = .ok (.iload_n 3, 1) := by decide +kernel
theorem dJ2_indexOf_4cfef_17 : decode cJ2_indexOf_4cfef 17 = .ok (.if_icmp .lt 5, 3) := by decide +kernel
theorem dJ2_indexOf_4cfef_20 : decode cJ2_indexOf_4cfef 20 = .ok (.iconst (-1), 1) := by decide +kernel
theorem dJ2_indexOf_4cfef_21 : decode cJ2_indexOf_4cfef 21 = .ok (.ireturn, 1) := by decide +kernel
theorem dJ2_indexOf_4cfef_22 : decode cJ2_indexOf_4cfef 22 = .ok (.iload_n 1, 1) := by decide +kernel
theorem dJ2_indexOf_4cfef_23 : decode cJ2_indexOf_4cfef 23 = .ok (.ldc 227, 2) := by decide +kernel
theorem dJ2_indexOf_4cfef_25 : decode cJ2_indexOf_4cfef 25 = .ok (.if_icmp .ge 11, 3) := by decide +kernel
theorem dJ2_indexOf_4cfef_28 : decode cJ2_indexOf_4cfef 28 = .ok (.aload_n 0, 1) := by decide +kernel
theorem dJ2_indexOf_4cfef_29 : decode cJ2_indexOf_4cfef 29 = .ok (.iload_n 1, 1) := by decide +kernel
theorem dJ2_indexOf_4cfef_30 : decode cJ2_indexOf_4cfef 30 = .ok (.iload_n 2, 1) := by decide +kernel
theorem dJ2_indexOf_4cfef_31 : decode cJ2_indexOf_4cfef 31 = .ok (.iload_n 3, 1) := by decide +kernel
theorem dJ2_indexOf_4cfef_32 : decode cJ2_indexOf_4cfef 32 = .ok (.invokestatic 228, 3) := by decide +kernel
theorem dJ2_indexOf_4cfef_35 : decode cJ2_indexOf_4cfef 35 = .ok (.ireturn, 1) := by decide +kernel
theorem dJ2_indexOf_4cfef_36 : decode cJ2_indexOf_4cfef 36 = .ok (.aload_n 0, 1) := by decide +kernel
theorem dJ2_indexOf_4cfef_37 : decode cJ2_indexOf_4cfef 37 = .ok (.iload_n 1, 1) := by decide +kernel
theorem dJ2_indexOf_4cfef_38 : decode cJ2_indexOf_4cfef 38 = .ok (.iload_n 2, 1) := by decide +kernel
theorem dJ2_indexOf_4cfef_39 : decode cJ2_indexOf_4cfef 39 = .ok (.iload_n 3, 1) := by decide +kernel
theorem dJ2_indexOf_4cfef_40 : decode cJ2_indexOf_4cfef 40 = .ok (.invokestatic 232, 3) := by decide +kernel
theorem dJ2_indexOf_4cfef_43 : decode cJ2_indexOf_4cfef 43 = .ok (.ireturn, 1) := by decide +kernel
theorem dJ2_indexOfChar_4cfef_0 : decode cJ2_indexOfChar_4cfef 0 = .ok (.iload_n 2, 1) := by decide +kernel
theorem dJ2_indexOfChar_4cfef_1 : decode cJ2_indexOfChar_4cfef 1 = .ok (.iload_n 3, 1) := by decide +kernel
theorem dJ2_indexOfChar_4cfef_2 : decode cJ2_indexOfChar_4cfef 2 = .ok (.aload_n 0, 1) := by decide +kernel
theorem dJ2_indexOfChar_4cfef_3 : decode cJ2_indexOfChar_4cfef 3 = .ok (.invokestatic 96, 3) := by decide +kernel
theorem dJ2_indexOfChar_4cfef_6 : decode cJ2_indexOfChar_4cfef 6 = .ok (.aload_n 0, 1) := by decide +kernel
theorem dJ2_indexOfChar_4cfef_7 : decode cJ2_indexOfChar_4cfef 7 = .ok (.iload_n 1, 1) := by decide +kernel
theorem dJ2_indexOfChar_4cfef_8 : decode cJ2_indexOfChar_4cfef 8 = .ok (.iload_n 2, 1) := by decide +kernel
theorem dJ2_indexOfChar_4cfef_9 : decode cJ2_indexOfChar_4cfef 9 = .ok (.iload_n 3, 1) := by decide +kernel
theorem dJ2_indexOfChar_4cfef_10 : decode cJ2_indexOfChar_4cfef 10 = .ok (.invokestatic 244, 3) := by decide +kernel
theorem dJ2_indexOfChar_4cfef_13 : decode cJ2_indexOfChar_4cfef 13 = .ok (.ireturn, 1) := by decide +kernel
theorem dJ2_indexOfCharUnsafe_4cfef_0 : decode cJ2_indexOfCharUnsafe_4cfef 0 = .ok (.iload_n 2, 1) := by decide +kernel
theorem dJ2_indexOfCharUnsafe_4cfef_1 : decode cJ2_indexOfCharUnsafe_4cfef 1 = .ok (.istore 4, 2) := by decide +kernel
theorem dJ2_indexOfCharUnsafe_4cfef_3 : decode cJ2_indexOfCharUnsafe_4cfef 3 = .ok (.iload 4, 2) := by decide +kernel
theorem dJ2_indexOfCharUnsafe_4cfef_5 : decode cJ2_indexOfCharUnsafe_4cfef 5 = .ok (.iload_n 3, 1) := by decide +kernel
theorem dJ2_indexOfCharUnsafe_4cfef_6 : decode cJ2_indexOfCharUnsafe_4cfef 6 = .ok (.if_icmp .ge 22, 3) := by decide +kernel
theorem dJ2_indexOfCharUnsafe_4cfef_9 : decode cJ2_indexOfCharUnsafe_4cfef 9 = .ok (.aload_n 0, 1) := by decide +kernel
theorem dJ2_indexOfCharUnsafe_4cfef_10 : decode cJ2_indexOfCharUnsafe_4cfef 10 = .ok (.iload 4, 2) := by decide +kernel
theorem dJ2_indexOfCharUnsafe_4cfef_12 : decode cJ2_indexOfCharUnsafe_4cfef 12 = .ok (.invokestatic 71, 3) := by decide +kernel
theorem dJ2_indexOfCharUnsafe_4cfef_15 : decode cJ2_indexOfCharUnsafe_4cfef 15 = .ok (.iload_n 1, 1) := by decide +kernel
theorem dJ2_indexOfCharUnsafe_4cfef_16 : decode cJ2_indexOfCharUnsafe_4cfef 16 = .ok (.if_icmp .ne 6, 3) := by decide +kernel
theorem dJ2_indexOfCharUnsafe_4cfef_19 : decode cJ2_indexOfCharUnsafe_4cfef 19 = .ok (.iload 4, 2) := by decide +kernel
theorem dJ2_indexOfCharUnsafe_4cfef_21 : decode cJ2_indexOfCharUnsafe_4cfef 21 = .ok (.ireturn, 1) := by decide +kernel
theorem dJ2_indexOfCharUnsafe_4cfef_22 : decode cJ2_indexOfCharUnsafe_4cfef 22 = .ok (.iinc 4 1, 3) := by decide +kernel
theorem dJ2_indexOfCharUnsafe_4cfef_25 : decode cJ2_indexOfCharUnsafe_4cfef 25 = .ok (.goto (-22), 3) := by decide +kernel
theorem dJ2_indexOfCharUnsafe_4cfef_28 : decode cJ2_indexOfCharUnsafe_4cfef 28 = .ok (.iconst (-1), 1) := by decide +kernel
theorem dJ2_indexOfCharUnsafe_4cfef_29 : decode cJ2_indexOfCharUnsafe_4cfef 29 = .ok (.ireturn, 1) := by decide +kernel
theorem dJ2_indexOfSupplementary_4cfef_0 : decode cJ2_indexOfSupplementary_4cfef 0 = .ok (.iload_n 1, 1) := by decide +kernel
theorem dJ2_indexOfSupplementary_4cfef_1 : decode cJ2_indexOfSupplementary_4cfef 1 = .ok (.invokestatic 164, 3) := by decide +kernel
theorem dJ2_indexOfSupplementary_4cfef_4 : decode cJ2_indexOfSupplementary_4cfef 4 = .ok (.ifCond .eq 65, 3) := by decide +kernel
theorem dJ2_indexOfSupplementary_4cfef_7 : decode cJ2_indexOfSupplementary_4cfef 7 = .ok (.iload_n 1, 1) := by decide +kernel
theorem dJ2_indexOfSupplementary_4cfef_8 : decode cJ2_indexOfSupplementary_4cfef 8 = .ok (.invokestatic 157, 3) := by decide +kernel
theorem dJ2_indexOfSupplementary_4cfef_11 : decode cJ2_indexOfSupplementary_4cfef 11 = .ok (.istore 4, 2) := by decide +kernel
theorem dJ2_indexOfSupplementary_4cfef_13 : decode cJ2_indexOfSupplementary_4cfef 13 = .ok (.iload_n 1, 1) := by decide +kernel
theorem dJ2_indexOfSupplementary_4cfef_14 : decode cJ2_indexOfSupplementary_4cfef 14 = .ok (.invokestatic 161, 3) := by decide +kernel
theorem dJ2_indexOfSupplementary_4cfef_17 : decode cJ2_indexOfSupplementary_4cfef 17 = .ok (.istore 5, 2) := by decide +kernel
theorem dJ2_indexOfSupplementary_4cfef_19 : decode cJ2_indexOfSupplementary_4cfef 19 = .ok (.iload_n 2, 1) := by decide +kernel
theorem dJ2_indexOfSupplementary_4cfef_20 : decode cJ2_indexOfSupplementary_4cfef 20 = .ok (.iload_n 3, 1) := by decide +kernel
theorem dJ2_indexOfSupplementary_4cfef_21 : decode cJ2_indexOfSupplementary_4cfef 21 = .ok (.aload_n 0, 1) := by decide +kernel
theorem dJ2_indexOfSupplementary_4cfef_22 : decode cJ2_indexOfSupplementary_4cfef 22 = .ok (.invokestatic 96, 3) := by decide +kernel
theorem dJ2_indexOfSupplementary_4cfef_25 : decode cJ2_indexOfSupplementary_4cfef 25 = .ok (.iload_n 2, 1) := by decide +kernel
theorem dJ2_indexOfSupplementary_4cfef_26 : decode cJ2_indexOfSupplementary_4cfef 26 = .ok (.istore 6, 2) := by decide +kernel
theorem dJ2_indexOfSupplementary_4cfef_28 : decode cJ2_indexOfSupplementary_4cfef 28 = .ok (.iload 6, 2) := by decide +kernel
theorem dJ2_indexOfSupplementary_4cfef_30 : decode cJ2_indexOfSupplementary_4cfef 30 = .ok (.iload_n 3, 1) := by decide +kernel
theorem dJ2_indexOfSupplementary_4cfef_31 : decode cJ2_indexOfSupplementary_4cfef 31 = .ok (.iconst 1, 1) := by decide +kernel
theorem dJ2_indexOfSupplementary_4cfef_32 : decode cJ2_indexOfSupplementary_4cfef 32 = .ok (.isub, 1) := by decide +kernel
theorem dJ2_indexOfSupplementary_4cfef_33 : decode cJ2_indexOfSupplementary_4cfef 33 = .ok (.if_icmp .ge 36, 3) := by decide +kernel
theorem dJ2_indexOfSupplementary_4cfef_36 : decode cJ2_indexOfSupplementary_4cfef 36 = .ok (.aload_n 0, 1) := by decide +kernel
theorem dJ2_indexOfSupplementary_4cfef_37 : decode cJ2_indexOfSupplementary_4cfef 37 = .ok (.iload 6, 2) := by decide +kernel
theorem dJ2_indexOfSupplementary_4cfef_39 : decode cJ2_indexOfSupplementary_4cfef 39 = .ok (.invokestatic 71, 3) := by decide +kernel
theorem dJ2_indexOfSupplementary_4cfef_42 : decode cJ2_indexOfSupplementary_4cfef 42 = .ok (.iload 4, 2) := by decide +kernel
theorem dJ2_indexOfSupplementary_4cfef_44 : decode cJ2_indexOfSupplementary_4cfef 44 = .ok (.if_icmp .ne 19, 3) := by decide +kernel
theorem dJ2_indexOfSupplementary_4cfef_47 : decode cJ2_indexOfSupplementary_4cfef 47 = .ok (.aload_n 0, 1) := by decide +kernel
theorem dJ2_indexOfSupplementary_4cfef_48 : decode cJ2_indexOfSupplementary_4cfef 48 = .ok (.iload 6, 2) := by decide +kernel
theorem dJ2_indexOfSupplementary_4cfef_50 : decode cJ2_indexOfSupplementary_4cfef 50 = .ok (.iconst 1, 1) := by decide +kernel
theorem dJ2_indexOfSupplementary_4cfef_51 : decode cJ2_indexOfSupplementary_4cfef 51 = .ok (.iadd, 1) := by decide +kernel
theorem dJ2_indexOfSupplementary_4cfef_52 : decode cJ2_indexOfSupplementary_4cfef 52 = .ok (.invokestatic 71, 3) := by decide +kernel
theorem dJ2_indexOfSupplementary_4cfef_55 : decode cJ2_indexOfSupplementary_4cfef 55 = .ok (.iload 5, 2) := by decide +kernel
theorem dJ2_indexOfSupplementary_4cfef_57 : decode cJ2_indexOfSupplementary_4cfef 57 = .ok (.if_icmp .ne 6, 3) := by decide +kernel
theorem dJ2_indexOfSupplementary_4cfef_60 : decode cJ2_indexOfSupplementary_4cfef 60 = .ok (.iload 6, 2) := by decide +kernel
theorem dJ2_indexOfSupplementary_4cfef_62 : decode cJ2_indexOfSupplementary_4cfef 62 = .ok (.ireturn, 1) := by decide +kernel
theorem dJ2_indexOfSupplementary_4cfef_63 : decode cJ2_indexOfSupplementary_4cfef 63 = .ok (.iinc 6 1, 3) := by decide +kernel
theorem dJ2_indexOfSupplementary_4cfef_66 : decode cJ2_indexOfSupplementary_4cfef 66 = .ok (.goto (-38), 3) := by decide +kernel
theorem dJ2_indexOfSupplementary_4cfef_69 : decode cJ2_indexOfSupplementary_4cfef 69 = .ok (.iconst (-1), 1) := by decide +kernel
theorem dJ2_indexOfSupplementary_4cfef_70 : decode cJ2_indexOfSupplementary_4cfef 70 = .ok (.ireturn, 1) := by decide +kernel
theorem dJ2_checkBoundsBeginEnd_d044e_0 : decode cJ2_checkBoundsBeginEnd_d044e 0 = .ok (.iload_n 0, 1) := by decide +kernel
theorem dJ2_checkBoundsBeginEnd_d044e_1 : decode cJ2_checkBoundsBeginEnd_d044e 1 = .ok (.iload_n 1, 1) := by decide +kernel
theorem dJ2_checkBoundsBeginEnd_d044e_2 : decode cJ2_checkBoundsBeginEnd_d044e 2 = .ok (.aload_n 2, 1) := by decide +kernel
theorem dJ2_checkBoundsBeginEnd_d044e_3 : decode cJ2_checkBoundsBeginEnd_d044e 3 = .ok (.invokestatic 48, 3) := by decide +kernel
theorem dJ2_checkBoundsBeginEnd_d044e_6 : decode cJ2_checkBoundsBeginEnd_d044e 6 = .ok (.invokestatic 241, 3) := by decide +kernel
theorem dJ2_checkBoundsBeginEnd_d044e_9 : decode cJ2_checkBoundsBeginEnd_d044e 9 = .ok (.return_, 1) := by decide +kernel
theorem dJ3_checkFromToIndex_8c36e_0 : decode cJ3_checkFromToIndex_8c36e 0 = .ok (.iload_n 0, 1) := by decide +kernel
theorem dJ3_checkFromToIndex_8c36e_1 : decode cJ3_checkFromToIndex_8c36e 1 = .ok (.ifCond .lt 13, 3) := by decide +kernel
theorem dJ3_checkFromToIndex_8c36e_4 : decode cJ3_checkFromToIndex_8c36e 4 = .ok (.iload_n 0, 1) := by decide +kernel
theorem dJ3_checkFromToIndex_8c36e_5 : decode cJ3_checkFromToIndex_8c36e 5 = .ok (.iload_n 1, 1) := by decide +kernel
theorem dJ3_checkFromToIndex_8c36e_6 : decode cJ3_checkFromToIndex_8c36e 6 = .ok (.if_icmp .gt 8, 3) := by decide +kernel
theorem dJ3_checkFromToIndex_8c36e_9 : decode cJ3_checkFromToIndex_8c36e 9 = .ok (.iload_n 1, 1) := by decide +kernel
theorem dJ3_checkFromToIndex_8c36e_10 : decode cJ3_checkFromToIndex_8c36e 10 = .ok (.iload_n 2, 1) := by decide +kernel
theorem dJ3_checkFromToIndex_8c36e_11 : decode cJ3_checkFromToIndex_8c36e 11 = .ok (.if_icmp .le 11, 3) := by decide +kernel
theorem dJ3_checkFromToIndex_8c36e_14 : decode cJ3_checkFromToIndex_8c36e 14 = .ok (.aload_n 3, 1) := by decide +kernel
theorem dJ3_checkFromToIndex_8c36e_15 : decode cJ3_checkFromToIndex_8c36e 15 = .ok (.iload_n 0, 1) := by decide +kernel
theorem dJ3_checkFromToIndex_8c36e_16 : decode cJ3_checkFromToIndex_8c36e 16 = .ok (.iload_n 1, 1) := by decide +kernel
theorem dJ3_checkFromToIndex_8c36e_17 : decode cJ3_checkFromToIndex_8c36e 17 = .ok (.iload_n 2, 1) := by decide +kernel
theorem dJ3_checkFromToIndex_8c36e_18 : decode cJ3_checkFromToIndex_8c36e 18 = .ok (.invokestatic 99, 3) := by decide +kernel
theorem dJ3_checkFromToIndex_8c36e_21 : decode cJ3_checkFromToIndex_8c36e 21 = .ok (.athrow, 1) := by decide +kernel
theorem dJ3_checkFromToIndex_8c36e_22 : decode cJ3_checkFromToIndex_8c36e 22 = .ok (.iload_n 0, 1) := by decide +kernel
theorem dJ3_checkFromToIndex_8c36e_23 : decode cJ3_checkFromToIndex_8c36e 23 = .ok (.ireturn, 1) := by decide +kernel
theorem dL_accuses_0 : decode cL_accuses 0 = .ok (.aload_n 0, 1) := by decide +kernel
theorem dL_accuses_1 : decode cL_accuses 1 = .ok (.iload_n 1, 1) := by decide +kernel
theorem dL_accuses_2 : decode cL_accuses 2 = .ok (.iload_n 2, 1) := by decide +kernel
theorem dL_accuses_3 : decode cL_accuses 3 = .ok (.invokevirtual 7, 3) := by decide +kernel
theorem dL_accuses_6 : decode cL_accuses 6 = .ok (.ireturn, 1) := by decide +kernel
theorem dL_accuses_7 : decode cL_accuses 7 = .ok (.astore_n 3, 1) := by decide +kernel
theorem dL_accuses_8 : decode cL_accuses 8 = .ok (.ldc 15, 2) := by decide +kernel
theorem dL_accuses_10 : decode cL_accuses 10 = .ok (.ireturn, 1) := by decide +kernel
theorem dL_doScript_0 : decode cL_doScript 0 = .ok (.aload_n 0, 1) := by decide +kernel
theorem dL_doScript_1 : decode cL_doScript 1 = .ok (.iload_n 1, 1) := by decide +kernel
theorem dL_doScript_2 : decode cL_doScript 2 = .ok (.lload_n 2, 1) := by decide +kernel
theorem dL_doScript_3 : decode cL_doScript 3 = .ok (.invokevirtual 16, 3) := by decide +kernel
theorem dL_doScript_6 : decode cL_doScript 6 = .ok (.ireturn, 1) := by decide +kernel
theorem dL_doScript_7 : decode cL_doScript 7 = .ok (.astore 4, 2) := by decide +kernel
theorem dL_doScript_9 : decode cL_doScript 9 = .ok (.ldc 22, 2) := by decide +kernel
theorem dL_doScript_11 : decode cL_doScript 11 = .ok (.ireturn, 1) := by decide +kernel
theorem dL_doSimulate_0 : decode cL_doSimulate 0 = .ok (.aload_n 0, 1) := by decide +kernel
theorem dL_doSimulate_1 : decode cL_doSimulate 1 = .ok (.lload_n 1, 1) := by decide +kernel
theorem dL_doSimulate_2 : decode cL_doSimulate 2 = .ok (.iload_n 3, 1) := by decide +kernel
theorem dL_doSimulate_3 : decode cL_doSimulate 3 = .ok (.invokevirtual 23, 3) := by decide +kernel
theorem dL_doSimulate_6 : decode cL_doSimulate 6 = .ok (.ireturn, 1) := by decide +kernel
theorem dL_doSimulate_7 : decode cL_doSimulate 7 = .ok (.astore 4, 2) := by decide +kernel
theorem dL_doSimulate_9 : decode cL_doSimulate 9 = .ok (.ldc 22, 2) := by decide +kernel
theorem dL_doSimulate_11 : decode cL_doSimulate 11 = .ok (.ireturn, 1) := by decide +kernel
theorem dL_tryAppend_0 : decode cL_tryAppend 0 = .ok (.aload_n 0, 1) := by decide +kernel
theorem dL_tryAppend_1 : decode cL_tryAppend 1 = .ok (.iload_n 1, 1) := by decide +kernel
theorem dL_tryAppend_2 : decode cL_tryAppend 2 = .ok (.invokevirtual 27, 3) := by decide +kernel
theorem dL_tryAppend_5 : decode cL_tryAppend 5 = .ok (.ireturn, 1) := by decide +kernel
theorem dL_tryAppend_6 : decode cL_tryAppend 6 = .ok (.astore_n 2, 1) := by decide +kernel
theorem dL_tryAppend_7 : decode cL_tryAppend 7 = .ok (.ldc 22, 2) := by decide +kernel
theorem dL_tryAppend_9 : decode cL_tryAppend 9 = .ok (.ireturn, 1) := by decide +kernel
theorem dL_tryAppend_10 : decode cL_tryAppend 10 = .ok (.astore_n 2, 1) := by decide +kernel
theorem dL_tryAppend_11 : decode cL_tryAppend 11 = .ok (.ldc 33, 2) := by decide +kernel
theorem dL_tryAppend_13 : decode cL_tryAppend 13 = .ok (.ireturn, 1) := by decide +kernel
theorem dL_tryLoad_0 : decode cL_tryLoad 0 = .ok (.aload_n 0, 1) := by decide +kernel
theorem dL_tryLoad_1 : decode cL_tryLoad 1 = .ok (.invokevirtual 34, 3) := by decide +kernel
theorem dL_tryLoad_4 : decode cL_tryLoad 4 = .ok (.ireturn, 1) := by decide +kernel
theorem dL_tryLoad_5 : decode cL_tryLoad 5 = .ok (.astore_n 1, 1) := by decide +kernel
theorem dL_tryLoad_6 : decode cL_tryLoad 6 = .ok (.ldc 33, 2) := by decide +kernel
theorem dL_tryLoad_8 : decode cL_tryLoad 8 = .ok (.ireturn, 1) := by decide +kernel
theorem dL_tryAbout_0 : decode cL_tryAbout 0 = .ok (.aload_n 0, 1) := by decide +kernel
theorem dL_tryAbout_1 : decode cL_tryAbout 1 = .ok (.iload_n 1, 1) := by decide +kernel
theorem dL_tryAbout_2 : decode cL_tryAbout 2 = .ok (.invokevirtual 38, 3) := by decide +kernel
theorem dL_tryAbout_5 : decode cL_tryAbout 5 = .ok (.ireturn, 1) := by decide +kernel
theorem dL_tryAbout_6 : decode cL_tryAbout 6 = .ok (.astore_n 2, 1) := by decide +kernel
theorem dL_tryAbout_7 : decode cL_tryAbout 7 = .ok (.ldc 22, 2) := by decide +kernel
theorem dL_tryAbout_9 : decode cL_tryAbout 9 = .ok (.ireturn, 1) := by decide +kernel
theorem dL_tryCoin_0 : decode cL_tryCoin 0 = .ok (.aload_n 0, 1) := by decide +kernel
theorem dL_tryCoin_1 : decode cL_tryCoin 1 = .ok (.iload_n 1, 1) := by decide +kernel
theorem dL_tryCoin_2 : decode cL_tryCoin 2 = .ok (.invokevirtual 41, 3) := by decide +kernel
theorem dL_tryCoin_5 : decode cL_tryCoin 5 = .ok (.ireturn, 1) := by decide +kernel
theorem dL_tryCoin_6 : decode cL_tryCoin 6 = .ok (.astore_n 2, 1) := by decide +kernel
theorem dL_tryCoin_7 : decode cL_tryCoin 7 = .ok (.ldc 15, 2) := by decide +kernel
theorem dL_tryCoin_9 : decode cL_tryCoin 9 = .ok (.ireturn, 1) := by decide +kernel
theorem dL_tryIs_0 : decode cL_tryIs 0 = .ok (.aload_n 0, 1) := by decide +kernel
theorem dL_tryIs_1 : decode cL_tryIs 1 = .ok (.iload_n 1, 1) := by decide +kernel
theorem dL_tryIs_2 : decode cL_tryIs 2 = .ok (.invokevirtual 44, 3) := by decide +kernel
theorem dL_tryIs_5 : decode cL_tryIs 5 = .ok (.ireturn, 1) := by decide +kernel
theorem dL_tryIs_6 : decode cL_tryIs 6 = .ok (.astore_n 2, 1) := by decide +kernel
theorem dL_tryIs_7 : decode cL_tryIs 7 = .ok (.ldc 15, 2) := by decide +kernel
theorem dL_tryIs_9 : decode cL_tryIs 9 = .ok (.ireturn, 1) := by decide +kernel
theorem dL_tryTold_0 : decode cL_tryTold 0 = .ok (.aload_n 0, 1) := by decide +kernel
theorem dL_tryTold_1 : decode cL_tryTold 1 = .ok (.iload_n 1, 1) := by decide +kernel
theorem dL_tryTold_2 : decode cL_tryTold 2 = .ok (.iload_n 2, 1) := by decide +kernel
theorem dL_tryTold_3 : decode cL_tryTold 3 = .ok (.invokevirtual 47, 3) := by decide +kernel
theorem dL_tryTold_6 : decode cL_tryTold 6 = .ok (.ireturn, 1) := by decide +kernel
theorem dL_tryTold_7 : decode cL_tryTold 7 = .ok (.astore_n 3, 1) := by decide +kernel
theorem dL_tryTold_8 : decode cL_tryTold 8 = .ok (.ldc 15, 2) := by decide +kernel
theorem dL_tryTold_10 : decode cL_tryTold 10 = .ok (.ireturn, 1) := by decide +kernel
theorem dL_tryTold_11 : decode cL_tryTold 11 = .ok (.astore_n 3, 1) := by decide +kernel
theorem dL_tryTold_12 : decode cL_tryTold 12 = .ok (.ldc 22, 2) := by decide +kernel
theorem dL_tryTold_14 : decode cL_tryTold 14 = .ok (.ireturn, 1) := by decide +kernel
theorem dL_tryHide_0 : decode cL_tryHide 0 = .ok (.aload_n 0, 1) := by decide +kernel
theorem dL_tryHide_1 : decode cL_tryHide 1 = .ok (.iload_n 1, 1) := by decide +kernel
theorem dL_tryHide_2 : decode cL_tryHide 2 = .ok (.iload_n 2, 1) := by decide +kernel
theorem dL_tryHide_3 : decode cL_tryHide 3 = .ok (.invokevirtual 51, 3) := by decide +kernel
theorem dL_tryHide_6 : decode cL_tryHide 6 = .ok (.ireturn, 1) := by decide +kernel
theorem dL_tryHide_7 : decode cL_tryHide 7 = .ok (.astore_n 3, 1) := by decide +kernel
theorem dL_tryHide_8 : decode cL_tryHide 8 = .ok (.ldc 15, 2) := by decide +kernel
theorem dL_tryHide_10 : decode cL_tryHide 10 = .ok (.ireturn, 1) := by decide +kernel
theorem dL_tryHide_11 : decode cL_tryHide 11 = .ok (.astore_n 3, 1) := by decide +kernel
theorem dL_tryHide_12 : decode cL_tryHide 12 = .ok (.ldc 22, 2) := by decide +kernel
theorem dL_tryHide_14 : decode cL_tryHide 14 = .ok (.ireturn, 1) := by decide +kernel
theorem dL_tryArms_0 : decode cL_tryArms 0 = .ok (.aload_n 0, 1) := by decide +kernel
theorem dL_tryArms_1 : decode cL_tryArms 1 = .ok (.iload_n 1, 1) := by decide +kernel
theorem dL_tryArms_2 : decode cL_tryArms 2 = .ok (.iload_n 2, 1) := by decide +kernel
theorem dL_tryArms_3 : decode cL_tryArms 3 = .ok (.invokevirtual 54, 3) := by decide +kernel
theorem dL_tryArms_6 : decode cL_tryArms 6 = .ok (.ireturn, 1) := by decide +kernel
theorem dL_tryArms_7 : decode cL_tryArms 7 = .ok (.astore_n 3, 1) := by decide +kernel
theorem dL_tryArms_8 : decode cL_tryArms 8 = .ok (.ldc 22, 2) := by decide +kernel
theorem dL_tryArms_10 : decode cL_tryArms 10 = .ok (.ireturn, 1) := by decide +kernel
theorem dL_tryWeigh_0 : decode cL_tryWeigh 0 = .ok (.aload_n 0, 1) := by decide +kernel
theorem dL_tryWeigh_1 : decode cL_tryWeigh 1 = .ok (.iload_n 1, 1) := by decide +kernel
theorem dL_tryWeigh_2 : decode cL_tryWeigh 2 = .ok (.iload_n 2, 1) := by decide +kernel
theorem dL_tryWeigh_3 : decode cL_tryWeigh 3 = .ok (.invokevirtual 57, 3) := by decide +kernel
theorem dL_tryWeigh_6 : decode cL_tryWeigh 6 = .ok (.ireturn, 1) := by decide +kernel
theorem dL_tryWeigh_7 : decode cL_tryWeigh 7 = .ok (.astore_n 3, 1) := by decide +kernel
theorem dL_tryWeigh_8 : decode cL_tryWeigh 8 = .ok (.ldc 22, 2) := by decide +kernel
theorem dL_tryWeigh_10 : decode cL_tryWeigh 10 = .ok (.ireturn, 1) := by decide +kernel
theorem dL_tryWeigh_11 : decode cL_tryWeigh 11 = .ok (.astore_n 3, 1) := by decide +kernel
theorem dL_tryWeigh_12 : decode cL_tryWeigh 12 = .ok (.ldc 33, 2) := by decide +kernel
theorem dL_tryWeigh_14 : decode cL_tryWeigh 14 = .ok (.ireturn, 1) := by decide +kernel
theorem dL_tryPan_0 : decode cL_tryPan 0 = .ok (.aload_n 0, 1) := by decide +kernel
theorem dL_tryPan_1 : decode cL_tryPan 1 = .ok (.iload_n 1, 1) := by decide +kernel
theorem dL_tryPan_2 : decode cL_tryPan 2 = .ok (.invokevirtual 60, 3) := by decide +kernel
theorem dL_tryPan_5 : decode cL_tryPan 5 = .ok (.ireturn, 1) := by decide +kernel
theorem dL_tryPan_6 : decode cL_tryPan 6 = .ok (.astore_n 2, 1) := by decide +kernel
theorem dL_tryPan_7 : decode cL_tryPan 7 = .ok (.ldc 22, 2) := by decide +kernel
theorem dL_tryPan_9 : decode cL_tryPan 9 = .ok (.ireturn, 1) := by decide +kernel
theorem dL_tryForget_0 : decode cL_tryForget 0 = .ok (.aload_n 0, 1) := by decide +kernel
theorem dL_tryForget_1 : decode cL_tryForget 1 = .ok (.invokevirtual 63, 3) := by decide +kernel
theorem dL_tryForget_4 : decode cL_tryForget 4 = .ok (.ireturn, 1) := by decide +kernel
theorem dL_tryForget_5 : decode cL_tryForget 5 = .ok (.astore_n 1, 1) := by decide +kernel
theorem dL_tryForget_6 : decode cL_tryForget 6 = .ok (.ldc 33, 2) := by decide +kernel
theorem dL_tryForget_8 : decode cL_tryForget 8 = .ok (.ireturn, 1) := by decide +kernel
theorem dL_tryUndo_0 : decode cL_tryUndo 0 = .ok (.aload_n 0, 1) := by decide +kernel
theorem dL_tryUndo_1 : decode cL_tryUndo 1 = .ok (.invokevirtual 66, 3) := by decide +kernel
theorem dL_tryUndo_4 : decode cL_tryUndo 4 = .ok (.ireturn, 1) := by decide +kernel
theorem dL_tryUndo_5 : decode cL_tryUndo 5 = .ok (.astore_n 1, 1) := by decide +kernel
theorem dL_tryUndo_6 : decode cL_tryUndo 6 = .ok (.ldc 33, 2) := by decide +kernel
theorem dL_tryUndo_8 : decode cL_tryUndo 8 = .ok (.ireturn, 1) := by decide +kernel
theorem dL_tryLeaves_0 : decode cL_tryLeaves 0 = .ok (.aload_n 0, 1) := by decide +kernel
theorem dL_tryLeaves_1 : decode cL_tryLeaves 1 = .ok (.iload_n 1, 1) := by decide +kernel
theorem dL_tryLeaves_2 : decode cL_tryLeaves 2 = .ok (.iload_n 2, 1) := by decide +kernel
theorem dL_tryLeaves_3 : decode cL_tryLeaves 3 = .ok (.iload_n 3, 1) := by decide +kernel
theorem dL_tryLeaves_4 : decode cL_tryLeaves 4 = .ok (.invokevirtual 69, 3) := by decide +kernel
theorem dL_tryLeaves_7 : decode cL_tryLeaves 7 = .ok (.ireturn, 1) := by decide +kernel
theorem dL_tryLeaves_8 : decode cL_tryLeaves 8 = .ok (.astore 4, 2) := by decide +kernel
theorem dL_tryLeaves_10 : decode cL_tryLeaves 10 = .ok (.ldc 15, 2) := by decide +kernel
theorem dL_tryLeaves_12 : decode cL_tryLeaves 12 = .ok (.ireturn, 1) := by decide +kernel
theorem dL_tryLeaves_13 : decode cL_tryLeaves 13 = .ok (.astore 4, 2) := by decide +kernel
theorem dL_tryLeaves_15 : decode cL_tryLeaves 15 = .ok (.ldc 22, 2) := by decide +kernel
theorem dL_tryLeaves_17 : decode cL_tryLeaves 17 = .ok (.ireturn, 1) := by decide +kernel
theorem dL_tryBest_0 : decode cL_tryBest 0 = .ok (.aload_n 0, 1) := by decide +kernel
theorem dL_tryBest_1 : decode cL_tryBest 1 = .ok (.iload_n 1, 1) := by decide +kernel
theorem dL_tryBest_2 : decode cL_tryBest 2 = .ok (.iload_n 2, 1) := by decide +kernel
theorem dL_tryBest_3 : decode cL_tryBest 3 = .ok (.invokevirtual 73, 3) := by decide +kernel
theorem dL_tryBest_6 : decode cL_tryBest 6 = .ok (.ireturn, 1) := by decide +kernel
theorem dL_tryBest_7 : decode cL_tryBest 7 = .ok (.astore_n 3, 1) := by decide +kernel
theorem dL_tryBest_8 : decode cL_tryBest 8 = .ok (.ldc 22, 2) := by decide +kernel
theorem dL_tryBest_10 : decode cL_tryBest 10 = .ok (.ireturn, 1) := by decide +kernel
theorem dL_tryTry_0 : decode cL_tryTry 0 = .ok (.aload_n 0, 1) := by decide +kernel
theorem dL_tryTry_1 : decode cL_tryTry 1 = .ok (.iload_n 1, 1) := by decide +kernel
theorem dL_tryTry_2 : decode cL_tryTry 2 = .ok (.iload_n 2, 1) := by decide +kernel
theorem dL_tryTry_3 : decode cL_tryTry 3 = .ok (.invokevirtual 76, 3) := by decide +kernel
theorem dL_tryTry_6 : decode cL_tryTry 6 = .ok (.ireturn, 1) := by decide +kernel
theorem dL_tryTry_7 : decode cL_tryTry 7 = .ok (.astore_n 3, 1) := by decide +kernel
theorem dL_tryTry_8 : decode cL_tryTry 8 = .ok (.ldc 22, 2) := by decide +kernel
theorem dL_tryTry_10 : decode cL_tryTry 10 = .ok (.ireturn, 1) := by decide +kernel
theorem dL_tryKeep_0 : decode cL_tryKeep 0 = .ok (.aload_n 0, 1) := by decide +kernel
theorem dL_tryKeep_1 : decode cL_tryKeep 1 = .ok (.iload_n 1, 1) := by decide +kernel
theorem dL_tryKeep_2 : decode cL_tryKeep 2 = .ok (.invokevirtual 79, 3) := by decide +kernel
theorem dL_tryKeep_5 : decode cL_tryKeep 5 = .ok (.ireturn, 1) := by decide +kernel
theorem dL_tryKeep_6 : decode cL_tryKeep 6 = .ok (.astore_n 2, 1) := by decide +kernel
theorem dL_tryKeep_7 : decode cL_tryKeep 7 = .ok (.ldc 15, 2) := by decide +kernel
theorem dL_tryKeep_9 : decode cL_tryKeep 9 = .ok (.ireturn, 1) := by decide +kernel
