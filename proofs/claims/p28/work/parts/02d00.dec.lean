theorem dX0_init_0 : decode cX0_init 0 = .ok (.aload_n 0, 1) := by decide +kernel
theorem dX0_init_1 : decode cX0_init 1 = .ok (.invokespecial 3, 3) := by decide +kernel
theorem dX0_init_4 : decode cX0_init 4 = .ok (.aload_n 0, 1) := by decide +kernel
theorem dX0_init_5 : decode cX0_init 5 = .ok (.bipush 14, 2) := by decide +kernel
theorem dX0_init_7 : decode cX0_init 7 = .ok (.anewarray 9, 3) := by decide +kernel
theorem dX0_init_10 : decode cX0_init 10 = .ok (.putfield 11, 3) := by decide +kernel
theorem dX0_init_13 : decode cX0_init 13 = .ok (.iconst 0, 1) := by decide +kernel
theorem dX0_init_14 : decode cX0_init 14 = .ok (.istore_n 1, 1) := by decide +kernel
theorem dX0_init_15 : decode cX0_init 15 = .ok (.iload_n 1, 1) := by decide +kernel
theorem dX0_init_16 : decode cX0_init 16 = .ok (.aload_n 0, 1) := by decide +kernel
theorem dX0_init_17 : decode cX0_init 17 = .ok (.getfield 11, 3) := by decide +kernel
theorem dX0_init_20 : decode cX0_init 20 = .ok (.arraylength, 1) := by decide +kernel
theorem dX0_init_21 : decode cX0_init 21 = .ok (.if_icmp .ge 22, 3) := by decide +kernel
theorem dX0_init_24 : decode cX0_init 24 = .ok (.aload_n 0, 1) := by decide +kernel
theorem dX0_init_25 : decode cX0_init 25 = .ok (.getfield 11, 3) := by decide +kernel
theorem dX0_init_28 : decode cX0_init 28 = .ok (.iload_n 1, 1) := by decide +kernel
theorem dX0_init_29 : decode cX0_init 29 = .ok (.new 9, 3) := by decide +kernel
theorem dX0_init_32 : decode cX0_init 32 = .ok (.dup, 1) := by decide +kernel
theorem dX0_init_33 : decode cX0_init 33 = .ok (.invokespecial 17, 3) := by decide +kernel
theorem dX0_init_36 : decode cX0_init 36 = .ok (.aastore, 1) := by decide +kernel
theorem dX0_init_37 : decode cX0_init 37 = .ok (.iinc 1 1, 3) := by decide +kernel
theorem dX0_init_40 : decode cX0_init 40 = .ok (.goto (-25), 3) := by decide +kernel
theorem dX0_init_43 : decode cX0_init 43 = .ok (.return_, 1) := by decide +kernel
theorem dX0_clear_0 : decode cX0_clear 0 = .ok (.aload_n 0, 1) := by decide +kernel
theorem dX0_clear_1 : decode cX0_clear 1 = .ok (.iconst 0, 1) := by decide +kernel
theorem dX0_clear_2 : decode cX0_clear 2 = .ok (.putfield 18, 3) := by decide +kernel
theorem dX0_clear_5 : decode cX0_clear 5 = .ok (.aload_n 0, 1) := by decide +kernel
theorem dX0_clear_6 : decode cX0_clear 6 = .ok (.iconst 0, 1) := by decide +kernel
theorem dX0_clear_7 : decode cX0_clear 7 = .ok (.putfield 22, 3) := by decide +kernel
theorem dX0_clear_10 : decode cX0_clear 10 = .ok (.return_, 1) := by decide +kernel
theorem dX0_remember_0 : decode cX0_remember 0 = .ok (.aload_n 0, 1) := by decide +kernel
theorem dX0_remember_1 : decode cX0_remember 1 = .ok (.aload_n 0, 1) := by decide +kernel
theorem dX0_remember_2 : decode cX0_remember 2 = .ok (.getfield 18, 3) := by decide +kernel
theorem dX0_remember_5 : decode cX0_remember 5 = .ok (.invokevirtual 25, 3) := by decide +kernel
theorem dX0_remember_8 : decode cX0_remember 8 = .ok (.astore_n 2, 1) := by decide +kernel
theorem dX0_remember_9 : decode cX0_remember 9 = .ok (.aload_n 2, 1) := by decide +kernel
theorem dX0_remember_10 : decode cX0_remember 10 = .ok (.ifnonnull 4, 3) := by decide +kernel
theorem dX0_remember_13 : decode cX0_remember 13 = .ok (.return_, 1) := by decide +kernel
theorem dX0_remember_14 : decode cX0_remember 14 = .ok (.aload_n 2, 1) := by decide +kernel
theorem dX0_remember_15 : decode cX0_remember 15 = .ok (.aload_n 1, 1) := by decide +kernel
theorem dX0_remember_16 : decode cX0_remember 16 = .ok (.invokevirtual 29, 3) := by decide +kernel
theorem dX0_remember_19 : decode cX0_remember 19 = .ok (.aload_n 0, 1) := by decide +kernel
theorem dX0_remember_20 : decode cX0_remember 20 = .ok (.aload_n 0, 1) := by decide +kernel
theorem dX0_remember_21 : decode cX0_remember 21 = .ok (.getfield 18, 3) := by decide +kernel
theorem dX0_remember_24 : decode cX0_remember 24 = .ok (.iconst 1, 1) := by decide +kernel
theorem dX0_remember_25 : decode cX0_remember 25 = .ok (.iadd, 1) := by decide +kernel
theorem dX0_remember_26 : decode cX0_remember 26 = .ok (.bipush 14, 2) := by decide +kernel
theorem dX0_remember_28 : decode cX0_remember 28 = .ok (.irem, 1) := by decide +kernel
theorem dX0_remember_29 : decode cX0_remember 29 = .ok (.putfield 18, 3) := by decide +kernel
theorem dX0_remember_32 : decode cX0_remember 32 = .ok (.aload_n 0, 1) := by decide +kernel
theorem dX0_remember_33 : decode cX0_remember 33 = .ok (.aload_n 0, 1) := by decide +kernel
theorem dX0_remember_34 : decode cX0_remember 34 = .ok (.getfield 22, 3) := by decide +kernel
theorem dX0_remember_37 : decode cX0_remember 37 = .ok (.iconst 1, 1) := by decide +kernel
theorem dX0_remember_38 : decode cX0_remember 38 = .ok (.iadd, 1) := by decide +kernel
theorem dX0_remember_39 : decode cX0_remember 39 = .ok (.bipush 14, 2) := by decide +kernel
theorem dX0_remember_41 : decode cX0_remember 41 = .ok (.invokestatic 33, 3) := by decide +kernel
theorem dX0_remember_44 : decode cX0_remember 44 = .ok (.putfield 22, 3) := by decide +kernel
theorem dX0_remember_47 : decode cX0_remember 47 = .ok (.return_, 1) := by decide +kernel
theorem dX0_takeBack_0 : decode cX0_takeBack 0 = .ok (.aload_n 0, 1) := by decide +kernel
theorem dX0_takeBack_1 : decode cX0_takeBack 1 = .ok (.getfield 18, 3) := by decide +kernel
theorem dX0_takeBack_4 : decode cX0_takeBack 4 = .ok (.bipush 14, 2) := by decide +kernel
theorem dX0_takeBack_6 : decode cX0_takeBack 6 = .ok (.iadd, 1) := by decide +kernel
theorem dX0_takeBack_7 : decode cX0_takeBack 7 = .ok (.iconst 1, 1) := by decide +kernel
theorem dX0_takeBack_8 : decode cX0_takeBack 8 = .ok (.isub, 1) := by decide +kernel
theorem dX0_takeBack_9 : decode cX0_takeBack 9 = .ok (.bipush 14, 2) := by decide +kernel
theorem dX0_takeBack_11 : decode cX0_takeBack 11 = .ok (.irem, 1) := by decide +kernel
theorem dX0_takeBack_12 : decode cX0_takeBack 12 = .ok (.istore_n 2, 1) := by decide +kernel
theorem dX0_takeBack_13 : decode cX0_takeBack 13 = .ok (.aload_n 0, 1) := by decide +kernel
theorem dX0_takeBack_14 : decode cX0_takeBack 14 = .ok (.iload_n 2, 1) := by decide +kernel
theorem dX0_takeBack_15 : decode cX0_takeBack 15 = .ok (.invokevirtual 25, 3) := by decide +kernel
theorem dX0_takeBack_18 : decode cX0_takeBack 18 = .ok (.astore_n 3, 1) := by decide +kernel
theorem dX0_takeBack_19 : decode cX0_takeBack 19 = .ok (.aload_n 3, 1) := by decide +kernel
theorem dX0_takeBack_20 : decode cX0_takeBack 20 = .ok (.ifnull 10, 3) := by decide +kernel
theorem dX0_takeBack_23 : decode cX0_takeBack 23 = .ok (.aload_n 0, 1) := by decide +kernel
theorem dX0_takeBack_24 : decode cX0_takeBack 24 = .ok (.getfield 22, 3) := by decide +kernel
theorem dX0_takeBack_27 : decode cX0_takeBack 27 = .ok (.ifCond .gt 4, 3) := by decide +kernel
theorem dX0_takeBack_30 : decode cX0_takeBack 30 = .ok (.return_, 1) := by decide +kernel
theorem dX0_takeBack_31 : decode cX0_takeBack 31 = .ok (.aload_n 1, 1) := by decide +kernel
theorem dX0_takeBack_32 : decode cX0_takeBack 32 = .ok (.aload_n 3, 1) := by decide +kernel
theorem dX0_takeBack_33 : decode cX0_takeBack 33 = .ok (.invokevirtual 29, 3) := by decide +kernel
theorem dX0_takeBack_36 : decode cX0_takeBack 36 = .ok (.aload_n 0, 1) := by decide +kernel
theorem dX0_takeBack_37 : decode cX0_takeBack 37 = .ok (.iload_n 2, 1) := by decide +kernel
theorem dX0_takeBack_38 : decode cX0_takeBack 38 = .ok (.putfield 18, 3) := by decide +kernel
theorem dX0_takeBack_41 : decode cX0_takeBack 41 = .ok (.aload_n 0, 1) := by decide +kernel
theorem dX0_takeBack_42 : decode cX0_takeBack 42 = .ok (.dup, 1) := by decide +kernel
theorem dX0_takeBack_43 : decode cX0_takeBack 43 = .ok (.getfield 22, 3) := by decide +kernel
theorem dX0_takeBack_46 : decode cX0_takeBack 46 = .ok (.iconst 1, 1) := by decide +kernel
theorem dX0_takeBack_47 : decode cX0_takeBack 47 = .ok (.isub, 1) := by decide +kernel
theorem dX0_takeBack_48 : decode cX0_takeBack 48 = .ok (.putfield 22, 3) := by decide +kernel
theorem dX0_takeBack_51 : decode cX0_takeBack 51 = .ok (.return_, 1) := by decide +kernel
theorem dX0_placeAt_0 : decode cX0_placeAt 0 = .ok (.iload_n 1, 1) := by decide +kernel
theorem dX0_placeAt_1 : decode cX0_placeAt 1 = .ok (.ifCond .lt 21, 3) := by decide +kernel
theorem dX0_placeAt_4 : decode cX0_placeAt 4 = .ok (.iload_n 1, 1) := by decide +kernel
theorem dX0_placeAt_5 : decode cX0_placeAt 5 = .ok (.aload_n 0, 1) := by decide +kernel
theorem dX0_placeAt_6 : decode cX0_placeAt 6 = .ok (.getfield 11, 3) := by decide +kernel
theorem dX0_placeAt_9 : decode cX0_placeAt 9 = .ok (.arraylength, 1) := by decide +kernel
theorem dX0_placeAt_10 : decode cX0_placeAt 10 = .ok (.if_icmp .ge 12, 3) := by decide +kernel
theorem dX0_placeAt_13 : decode cX0_placeAt 13 = .ok (.aload_n 0, 1) := by decide +kernel
theorem dX0_placeAt_14 : decode cX0_placeAt 14 = .ok (.getfield 11, 3) := by decide +kernel
theorem dX0_placeAt_17 : decode cX0_placeAt 17 = .ok (.iload_n 1, 1) := by decide +kernel
theorem dX0_placeAt_18 : decode cX0_placeAt 18 = .ok (.aaload, 1) := by decide +kernel
theorem dX0_placeAt_19 : decode cX0_placeAt 19 = .ok (.goto 4, 3) := by decide +kernel
theorem dX0_placeAt_22 : decode cX0_placeAt 22 = .ok (.aconst_null, 1) := by decide +kernel
theorem dX0_placeAt_23 : decode cX0_placeAt 23 = .ok (.areturn, 1) := by decide +kernel
theorem dX1_init_0 : decode cX1_init 0 = .ok (.aload_n 0, 1) := by decide +kernel
theorem dX1_init_1 : decode cX1_init 1 = .ok (.invokespecial 3, 3) := by decide +kernel
theorem dX1_init_4 : decode cX1_init 4 = .ok (.return_, 1) := by decide +kernel
theorem dX1_set_0 : decode cX1_set 0 = .ok (.aload_n 0, 1) := by decide +kernel
theorem dX1_set_1 : decode cX1_set 1 = .ok (.iload_n 1, 1) := by decide +kernel
theorem dX1_set_2 : decode cX1_set 2 = .ok (.putfield 9, 3) := by decide +kernel
theorem dX1_set_5 : decode cX1_set 5 = .ok (.aload_n 0, 1) := by decide +kernel
theorem dX1_set_6 : decode cX1_set 6 = .ok (.iload_n 2, 1) := by decide +kernel
theorem dX1_set_7 : decode cX1_set 7 = .ok (.putfield 15, 3) := by decide +kernel
theorem dX1_set_10 : decode cX1_set 10 = .ok (.aload_n 0, 1) := by decide +kernel
theorem dX1_set_11 : decode cX1_set 11 = .ok (.iload_n 3, 1) := by decide +kernel
theorem dX1_set_12 : decode cX1_set 12 = .ok (.putfield 18, 3) := by decide +kernel
theorem dX1_set_15 : decode cX1_set 15 = .ok (.aload_n 0, 1) := by decide +kernel
theorem dX1_set_16 : decode cX1_set 16 = .ok (.iload 4, 2) := by decide +kernel
theorem dX1_set_18 : decode cX1_set 18 = .ok (.putfield 21, 3) := by decide +kernel
theorem dX1_set_21 : decode cX1_set 21 = .ok (.aload_n 0, 1) := by decide +kernel
theorem dX1_set_22 : decode cX1_set 22 = .ok (.bipush 10, 2) := by decide +kernel
theorem dX1_set_24 : decode cX1_set 24 = .ok (.iload_n 1, 1) := by decide +kernel
theorem dX1_set_25 : decode cX1_set 25 = .ok (.invokestatic 24, 3) := by decide +kernel
theorem dX1_set_28 : decode cX1_set 28 = .ok (.imul, 1) := by decide +kernel
theorem dX1_set_29 : decode cX1_set 29 = .ok (.putfield 30, 3) := by decide +kernel
theorem dX1_set_32 : decode cX1_set 32 = .ok (.aload_n 0, 1) := by decide +kernel
theorem dX1_set_33 : decode cX1_set 33 = .ok (.bipush 10, 2) := by decide +kernel
theorem dX1_set_35 : decode cX1_set 35 = .ok (.iload_n 2, 1) := by decide +kernel
theorem dX1_set_36 : decode cX1_set 36 = .ok (.invokestatic 24, 3) := by decide +kernel
theorem dX1_set_39 : decode cX1_set 39 = .ok (.imul, 1) := by decide +kernel
theorem dX1_set_40 : decode cX1_set 40 = .ok (.putfield 33, 3) := by decide +kernel
theorem dX1_set_43 : decode cX1_set 43 = .ok (.return_, 1) := by decide +kernel
theorem dX1_outcome_0 : decode cX1_outcome 0 = .ok (.aload_n 0, 1) := by decide +kernel
theorem dX1_outcome_1 : decode cX1_outcome 1 = .ok (.getfield 18, 3) := by decide +kernel
theorem dX1_outcome_4 : decode cX1_outcome 4 = .ok (.aload_n 0, 1) := by decide +kernel
theorem dX1_outcome_5 : decode cX1_outcome 5 = .ok (.getfield 30, 3) := by decide +kernel
theorem dX1_outcome_8 : decode cX1_outcome 8 = .ok (.iload_n 2, 1) := by decide +kernel
theorem dX1_outcome_9 : decode cX1_outcome 9 = .ok (.iadd, 1) := by decide +kernel
theorem dX1_outcome_10 : decode cX1_outcome 10 = .ok (.iload_n 1, 1) := by decide +kernel
theorem dX1_outcome_11 : decode cX1_outcome 11 = .ok (.iconst 1, 1) := by decide +kernel
theorem dX1_outcome_12 : decode cX1_outcome 12 = .ok (.if_icmp .ne 7, 3) := by decide +kernel
theorem dX1_outcome_15 : decode cX1_outcome 15 = .ok (.iconst 1, 1) := by decide +kernel
theorem dX1_outcome_16 : decode cX1_outcome 16 = .ok (.goto 4, 3) := by decide +kernel
theorem dX1_outcome_19 : decode cX1_outcome 19 = .ok (.iconst 0, 1) := by decide +kernel
theorem dX1_outcome_20 : decode cX1_outcome 20 = .ok (.iadd, 1) := by decide +kernel
theorem dX1_outcome_21 : decode cX1_outcome 21 = .ok (.imul, 1) := by decide +kernel
theorem dX1_outcome_22 : decode cX1_outcome 22 = .ok (.istore 4, 2) := by decide +kernel
theorem dX1_outcome_24 : decode cX1_outcome 24 = .ok (.aload_n 0, 1) := by decide +kernel
theorem dX1_outcome_25 : decode cX1_outcome 25 = .ok (.getfield 21, 3) := by decide +kernel
theorem dX1_outcome_28 : decode cX1_outcome 28 = .ok (.aload_n 0, 1) := by decide +kernel
theorem dX1_outcome_29 : decode cX1_outcome 29 = .ok (.getfield 33, 3) := by decide +kernel
theorem dX1_outcome_32 : decode cX1_outcome 32 = .ok (.iload_n 3, 1) := by decide +kernel
theorem dX1_outcome_33 : decode cX1_outcome 33 = .ok (.iadd, 1) := by decide +kernel
theorem dX1_outcome_34 : decode cX1_outcome 34 = .ok (.iload_n 1, 1) := by decide +kernel
theorem dX1_outcome_35 : decode cX1_outcome 35 = .ok (.iconst 2, 1) := by decide +kernel
theorem dX1_outcome_36 : decode cX1_outcome 36 = .ok (.if_icmp .ne 7, 3) := by decide +kernel
theorem dX1_outcome_39 : decode cX1_outcome 39 = .ok (.iconst 1, 1) := by decide +kernel
theorem dX1_outcome_40 : decode cX1_outcome 40 = .ok (.goto 4, 3) := by decide +kernel
theorem dX1_outcome_43 : decode cX1_outcome 43 = .ok (.iconst 0, 1) := by decide +kernel
theorem dX1_outcome_44 : decode cX1_outcome 44 = .ok (.iadd, 1) := by decide +kernel
theorem dX1_outcome_45 : decode cX1_outcome 45 = .ok (.imul, 1) := by decide +kernel
theorem dX1_outcome_46 : decode cX1_outcome 46 = .ok (.istore 5, 2) := by decide +kernel
theorem dX1_outcome_48 : decode cX1_outcome 48 = .ok (.iload 4, 2) := by decide +kernel
theorem dX1_outcome_50 : decode cX1_outcome 50 = .ok (.iload 5, 2) := by decide +kernel
theorem dX1_outcome_52 : decode cX1_outcome 52 = .ok (.if_icmp .le 7, 3) := by decide +kernel
theorem dX1_outcome_55 : decode cX1_outcome 55 = .ok (.iconst 1, 1) := by decide +kernel
theorem dX1_outcome_56 : decode cX1_outcome 56 = .ok (.goto 15, 3) := by decide +kernel
theorem dX1_outcome_59 : decode cX1_outcome 59 = .ok (.iload 4, 2) := by decide +kernel
theorem dX1_outcome_61 : decode cX1_outcome 61 = .ok (.iload 5, 2) := by decide +kernel
theorem dX1_outcome_63 : decode cX1_outcome 63 = .ok (.if_icmp .ge 7, 3) := by decide +kernel
theorem dX1_outcome_66 : decode cX1_outcome 66 = .ok (.iconst 2, 1) := by decide +kernel
theorem dX1_outcome_67 : decode cX1_outcome 67 = .ok (.goto 4, 3) := by decide +kernel
theorem dX1_outcome_70 : decode cX1_outcome 70 = .ok (.iconst 0, 1) := by decide +kernel
theorem dX1_outcome_71 : decode cX1_outcome 71 = .ok (.ireturn, 1) := by decide +kernel
theorem dX1_outcomeInCase_0 : decode cX1_outcomeInCase 0 = .ok (.iload_n 1, 1) := by decide +kernel
theorem dX1_outcomeInCase_1 : decode cX1_outcomeInCase 1 = .ok (.iconst 3, 1) := by decide +kernel
theorem dX1_outcomeInCase_2 : decode cX1_outcomeInCase 2 = .ok (.idiv, 1) := by decide +kernel
theorem dX1_outcomeInCase_3 : decode cX1_outcomeInCase 3 = .ok (.istore_n 2, 1) := by decide +kernel
theorem dX1_outcomeInCase_4 : decode cX1_outcomeInCase 4 = .ok (.iload_n 2, 1) := by decide +kernel
theorem dX1_outcomeInCase_5 : decode cX1_outcomeInCase 5 = .ok (.iconst 2, 1) := by decide +kernel
theorem dX1_outcomeInCase_6 : decode cX1_outcomeInCase 6 = .ok (.irem, 1) := by decide +kernel
theorem dX1_outcomeInCase_7 : decode cX1_outcomeInCase 7 = .ok (.ifCond .ne 7, 3) := by decide +kernel
theorem dX1_outcomeInCase_10 : decode cX1_outcomeInCase 10 = .ok (.iconst (-1), 1) := by decide +kernel
theorem dX1_outcomeInCase_11 : decode cX1_outcomeInCase 11 = .ok (.goto 4, 3) := by decide +kernel
theorem dX1_outcomeInCase_14 : decode cX1_outcomeInCase 14 = .ok (.iconst 1, 1) := by decide +kernel
theorem dX1_outcomeInCase_15 : decode cX1_outcomeInCase 15 = .ok (.istore_n 3, 1) := by decide +kernel
theorem dX1_outcomeInCase_16 : decode cX1_outcomeInCase 16 = .ok (.iconst 1, 1) := by decide +kernel
theorem dX1_outcomeInCase_17 : decode cX1_outcomeInCase 17 = .ok (.iload_n 2, 1) := by decide +kernel
theorem dX1_outcomeInCase_18 : decode cX1_outcomeInCase 18 = .ok (.iconst 2, 1) := by decide +kernel
theorem dX1_outcomeInCase_19 : decode cX1_outcomeInCase 19 = .ok (.idiv, 1) := by decide +kernel
theorem dX1_outcomeInCase_20 : decode cX1_outcomeInCase 20 = .ok (.ishl, 1) := by decide +kernel
theorem dX1_outcomeInCase_21 : decode cX1_outcomeInCase 21 = .ok (.istore 4, 2) := by decide +kernel
theorem dX1_outcomeInCase_23 : decode cX1_outcomeInCase 23 = .ok (.aload_n 0, 1) := by decide +kernel
theorem dX1_outcomeInCase_24 : decode cX1_outcomeInCase 24 = .ok (.iload_n 1, 1) := by decide +kernel
theorem dX1_outcomeInCase_25 : decode cX1_outcomeInCase 25 = .ok (.iconst 3, 1) := by decide +kernel
theorem dX1_outcomeInCase_26 : decode cX1_outcomeInCase 26 = .ok (.irem, 1) := by decide +kernel
theorem dX1_outcomeInCase_27 : decode cX1_outcomeInCase 27 = .ok (.aload_n 0, 1) := by decide +kernel
theorem dX1_outcomeInCase_28 : decode cX1_outcomeInCase 28 = .ok (.getfield 9, 3) := by decide +kernel
theorem dX1_outcomeInCase_31 : decode cX1_outcomeInCase 31 = .ok (.iload 4, 2) := by decide +kernel
theorem dX1_outcomeInCase_33 : decode cX1_outcomeInCase 33 = .ok (.iand, 1) := by decide +kernel
theorem dX1_outcomeInCase_34 : decode cX1_outcomeInCase 34 = .ok (.ifCond .eq 7, 3) := by decide +kernel
theorem dX1_outcomeInCase_37 : decode cX1_outcomeInCase 37 = .ok (.iload_n 3, 1) := by decide +kernel
theorem dX1_outcomeInCase_38 : decode cX1_outcomeInCase 38 = .ok (.goto 4, 3) := by decide +kernel
theorem dX1_outcomeInCase_41 : decode cX1_outcomeInCase 41 = .ok (.iconst 0, 1) := by decide +kernel
theorem dX1_outcomeInCase_42 : decode cX1_outcomeInCase 42 = .ok (.aload_n 0, 1) := by decide +kernel
theorem dX1_outcomeInCase_43 : decode cX1_outcomeInCase 43 = .ok (.getfield 15, 3) := by decide +kernel
theorem dX1_outcomeInCase_46 : decode cX1_outcomeInCase 46 = .ok (.iload 4, 2) := by decide +kernel
theorem dX1_outcomeInCase_48 : decode cX1_outcomeInCase 48 = .ok (.iand, 1) := by decide +kernel
theorem dX1_outcomeInCase_49 : decode cX1_outcomeInCase 49 = .ok (.ifCond .eq 7, 3) := by decide +kernel
theorem dX1_outcomeInCase_52 : decode cX1_outcomeInCase 52 = .ok (.iload_n 3, 1) := by decide +kernel
theorem dX1_outcomeInCase_53 : decode cX1_outcomeInCase 53 = .ok (.goto 4, 3) := by decide +kernel
theorem dX1_outcomeInCase_56 : decode cX1_outcomeInCase 56 = .ok (.iconst 0, 1) := by decide +kernel
theorem dX1_outcomeInCase_57 : decode cX1_outcomeInCase 57 = .ok (.invokevirtual 36, 3) := by decide +kernel
theorem dX1_outcomeInCase_60 : decode cX1_outcomeInCase 60 = .ok (.ireturn, 1) := by decide +kernel
theorem dX2_init_0 : decode cX2_init 0 = .ok (.aload_n 0, 1) := by decide +kernel
theorem dX2_init_1 : decode cX2_init 1 = .ok (.invokespecial 1, 3) := by decide +kernel
theorem dX2_init_4 : decode cX2_init 4 = .ok (.aload_n 0, 1) := by decide +kernel
theorem dX2_init_5 : decode cX2_init 5 = .ok (.new 7, 3) := by decide +kernel
theorem dX2_init_8 : decode cX2_init 8 = .ok (.dup, 1) := by decide +kernel
theorem dX2_init_9 : decode cX2_init 9 = .ok (.invokespecial 9, 3) := by decide +kernel
theorem dX2_init_12 : decode cX2_init 12 = .ok (.putfield 10, 3) := by decide +kernel
theorem dX2_init_15 : decode cX2_init 15 = .ok (.return_, 1) := by decide +kernel
theorem dX3_init_0 : decode cX3_init 0 = .ok (.aload_n 0, 1) := by decide +kernel
theorem dX3_init_1 : decode cX3_init 1 = .ok (.invokespecial 3, 3) := by decide +kernel
theorem dX3_init_4 : decode cX3_init 4 = .ok (.aload_n 0, 1) := by decide +kernel
theorem dX3_init_5 : decode cX3_init 5 = .ok (.bipush 6, 2) := by decide +kernel
theorem dX3_init_7 : decode cX3_init 7 = .ok (.newarray .int, 2) := by decide +kernel
theorem dX3_init_9 : decode cX3_init 9 = .ok (.putfield 9, 3) := by decide +kernel
theorem dX3_init_12 : decode cX3_init 12 = .ok (.return_, 1) := by decide +kernel
theorem dX3_copyFrom_0 : decode cX3_copyFrom 0 = .ok (.iconst 0, 1) := by decide +kernel
theorem dX3_copyFrom_1 : decode cX3_copyFrom 1 = .ok (.istore_n 2, 1) := by decide +kernel
theorem dX3_copyFrom_2 : decode cX3_copyFrom 2 = .ok (.iload_n 2, 1) := by decide +kernel
theorem dX3_copyFrom_3 : decode cX3_copyFrom 3 = .ok (.aload_n 0, 1) := by decide +kernel
theorem dX3_copyFrom_4 : decode cX3_copyFrom 4 = .ok (.getfield 9, 3) := by decide +kernel
theorem dX3_copyFrom_7 : decode cX3_copyFrom 7 = .ok (.arraylength, 1) := by decide +kernel
theorem dX3_copyFrom_8 : decode cX3_copyFrom 8 = .ok (.if_icmp .ge 30, 3) := by decide +kernel
theorem dX3_copyFrom_11 : decode cX3_copyFrom 11 = .ok (.iload_n 2, 1) := by decide +kernel
theorem dX3_copyFrom_12 : decode cX3_copyFrom 12 = .ok (.aload_n 1, 1) := by decide +kernel
theorem dX3_copyFrom_13 : decode cX3_copyFrom 13 = .ok (.getfield 9, 3) := by decide +kernel
theorem dX3_copyFrom_16 : decode cX3_copyFrom 16 = .ok (.arraylength, 1) := by decide +kernel
theorem dX3_copyFrom_17 : decode cX3_copyFrom 17 = .ok (.if_icmp .ge 21, 3) := by decide +kernel
theorem dX3_copyFrom_20 : decode cX3_copyFrom 20 = .ok (.aload_n 0, 1) := by decide +kernel
theorem dX3_copyFrom_21 : decode cX3_copyFrom 21 = .ok (.getfield 9, 3) := by decide +kernel
theorem dX3_copyFrom_24 : decode cX3_copyFrom 24 = .ok (.iload_n 2, 1) := by decide +kernel
theorem dX3_copyFrom_25 : decode cX3_copyFrom 25 = .ok (.aload_n 1, 1) := by decide +kernel
theorem dX3_copyFrom_26 : decode cX3_copyFrom 26 = .ok (.getfield 9, 3) := by decide +kernel
theorem dX3_copyFrom_29 : decode cX3_copyFrom 29 = .ok (.iload_n 2, 1) := by decide +kernel
theorem dX3_copyFrom_30 : decode cX3_copyFrom 30 = .ok (.iaload, 1) := by decide +kernel
theorem dX3_copyFrom_31 : decode cX3_copyFrom 31 = .ok (.iastore, 1) := by decide +kernel
theorem dX3_copyFrom_32 : decode cX3_copyFrom 32 = .ok (.iinc 2 1, 3) := by decide +kernel
theorem dX3_copyFrom_35 : decode cX3_copyFrom 35 = .ok (.goto (-33), 3) := by decide +kernel
theorem dX3_copyFrom_38 : decode cX3_copyFrom 38 = .ok (.return_, 1) := by decide +kernel
theorem dX3_suspectAll_0 : decode cX3_suspectAll 0 = .ok (.iconst 1, 1) := by decide +kernel
theorem dX3_suspectAll_1 : decode cX3_suspectAll 1 = .ok (.iload_n 1, 1) := by decide +kernel
theorem dX3_suspectAll_2 : decode cX3_suspectAll 2 = .ok (.ishl, 1) := by decide +kernel
theorem dX3_suspectAll_3 : decode cX3_suspectAll 3 = .ok (.iconst 1, 1) := by decide +kernel
theorem dX3_suspectAll_4 : decode cX3_suspectAll 4 = .ok (.isub, 1) := by decide +kernel
theorem dX3_suspectAll_5 : decode cX3_suspectAll 5 = .ok (.istore_n 2, 1) := by decide +kernel
theorem dX3_suspectAll_6 : decode cX3_suspectAll 6 = .ok (.iconst 0, 1) := by decide +kernel
theorem dX3_suspectAll_7 : decode cX3_suspectAll 7 = .ok (.istore_n 3, 1) := by decide +kernel
theorem dX3_suspectAll_8 : decode cX3_suspectAll 8 = .ok (.iload_n 3, 1) := by decide +kernel
theorem dX3_suspectAll_9 : decode cX3_suspectAll 9 = .ok (.aload_n 0, 1) := by decide +kernel
theorem dX3_suspectAll_10 : decode cX3_suspectAll 10 = .ok (.getfield 9, 3) := by decide +kernel
theorem dX3_suspectAll_13 : decode cX3_suspectAll 13 = .ok (.arraylength, 1) := by decide +kernel
theorem dX3_suspectAll_14 : decode cX3_suspectAll 14 = .ok (.if_icmp .ge 30, 3) := by decide +kernel
theorem dX3_suspectAll_17 : decode cX3_suspectAll 17 = .ok (.aload_n 0, 1) := by decide +kernel
theorem dX3_suspectAll_18 : decode cX3_suspectAll 18 = .ok (.getfield 9, 3) := by decide +kernel
theorem dX3_suspectAll_21 : decode cX3_suspectAll 21 = .ok (.iload_n 3, 1) := by decide +kernel
theorem dX3_suspectAll_22 : decode cX3_suspectAll 22 = .ok (.iload_n 3, 1) := by decide +kernel
theorem dX3_suspectAll_23 : decode cX3_suspectAll 23 = .ok (.iconst 2, 1) := by decide +kernel
theorem dX3_suspectAll_24 : decode cX3_suspectAll 24 = .ok (.irem, 1) := by decide +kernel
theorem dX3_suspectAll_25 : decode cX3_suspectAll 25 = .ok (.ifCond .ne 11, 3) := by decide +kernel
theorem dX3_suspectAll_28 : decode cX3_suspectAll 28 = .ok (.iload_n 2, 1) := by decide +kernel
theorem dX3_suspectAll_29 : decode cX3_suspectAll 29 = .ok (.iconst 1, 1) := by decide +kernel
theorem dX3_suspectAll_30 : decode cX3_suspectAll 30 = .ok (.iload_n 1, 1) := by decide +kernel
theorem dX3_suspectAll_31 : decode cX3_suspectAll 31 = .ok (.ishl, 1) := by decide +kernel
theorem dX3_suspectAll_32 : decode cX3_suspectAll 32 = .ok (.ior, 1) := by decide +kernel
theorem dX3_suspectAll_33 : decode cX3_suspectAll 33 = .ok (.goto 4, 3) := by decide +kernel
theorem dX3_suspectAll_36 : decode cX3_suspectAll 36 = .ok (.iload_n 2, 1) := by decide +kernel
theorem dX3_suspectAll_37 : decode cX3_suspectAll 37 = .ok (.iastore, 1) := by decide +kernel
theorem dX3_suspectAll_38 : decode cX3_suspectAll 38 = .ok (.iinc 3 1, 3) := by decide +kernel
theorem dX3_suspectAll_41 : decode cX3_suspectAll 41 = .ok (.goto (-33), 3) := by decide +kernel
theorem dX3_suspectAll_44 : decode cX3_suspectAll 44 = .ok (.return_, 1) := by decide +kernel
theorem dX3_has_0 : decode cX3_has 0 = .ok (.iload_n 1, 1) := by decide +kernel
theorem dX3_has_1 : decode cX3_has 1 = .ok (.iconst 3, 1) := by decide +kernel
theorem dX3_has_2 : decode cX3_has 2 = .ok (.idiv, 1) := by decide +kernel
theorem dX3_has_3 : decode cX3_has 3 = .ok (.istore_n 2, 1) := by decide +kernel
theorem dX3_has_4 : decode cX3_has 4 = .ok (.iconst 2, 1) := by decide +kernel
theorem dX3_has_5 : decode cX3_has 5 = .ok (.iload_n 1, 1) := by decide +kernel
theorem dX3_has_6 : decode cX3_has 6 = .ok (.iconst 3, 1) := by decide +kernel
theorem dX3_has_7 : decode cX3_has 7 = .ok (.irem, 1) := by decide +kernel
theorem dX3_has_8 : decode cX3_has 8 = .ok (.imul, 1) := by decide +kernel
theorem dX3_has_9 : decode cX3_has 9 = .ok (.iload_n 2, 1) := by decide +kernel
theorem dX3_has_10 : decode cX3_has 10 = .ok (.iconst 2, 1) := by decide +kernel
theorem dX3_has_11 : decode cX3_has 11 = .ok (.irem, 1) := by decide +kernel
theorem dX3_has_12 : decode cX3_has 12 = .ok (.iadd, 1) := by decide +kernel
theorem dX3_has_13 : decode cX3_has 13 = .ok (.istore_n 3, 1) := by decide +kernel
theorem dX3_has_14 : decode cX3_has 14 = .ok (.iload_n 3, 1) := by decide +kernel
theorem dX3_has_15 : decode cX3_has 15 = .ok (.ifCond .lt 32, 3) := by decide +kernel
theorem dX3_has_18 : decode cX3_has 18 = .ok (.iload_n 3, 1) := by decide +kernel
theorem dX3_has_19 : decode cX3_has 19 = .ok (.aload_n 0, 1) := by decide +kernel
theorem dX3_has_20 : decode cX3_has 20 = .ok (.getfield 9, 3) := by decide +kernel
theorem dX3_has_23 : decode cX3_has 23 = .ok (.arraylength, 1) := by decide +kernel
theorem dX3_has_24 : decode cX3_has 24 = .ok (.if_icmp .ge 23, 3) := by decide +kernel
theorem dX3_has_27 : decode cX3_has 27 = .ok (.aload_n 0, 1) := by decide +kernel
theorem dX3_has_28 : decode cX3_has 28 = .ok (.getfield 9, 3) := by decide +kernel
theorem dX3_has_31 : decode cX3_has 31 = .ok (.iload_n 3, 1) := by decide +kernel
theorem dX3_has_32 : decode cX3_has 32 = .ok (.iaload, 1) := by decide +kernel
theorem dX3_has_33 : decode cX3_has 33 = .ok (.iload_n 2, 1) := by decide +kernel
theorem dX3_has_34 : decode cX3_has 34 = .ok (.iconst 2, 1) := by decide +kernel
theorem dX3_has_35 : decode cX3_has 35 = .ok (.idiv, 1) := by decide +kernel
theorem dX3_has_36 : decode cX3_has 36 = .ok (.ishr, 1) := by decide +kernel
theorem dX3_has_37 : decode cX3_has 37 = .ok (.iconst 1, 1) := by decide +kernel
theorem dX3_has_38 : decode cX3_has 38 = .ok (.iand, 1) := by decide +kernel
theorem dX3_has_39 : decode cX3_has 39 = .ok (.iconst 1, 1) := by decide +kernel
theorem dX3_has_40 : decode cX3_has 40 = .ok (.if_icmp .ne 7, 3) := by decide +kernel
theorem dX3_has_43 : decode cX3_has 43 = .ok (.iconst 1, 1) := by decide +kernel
theorem dX3_has_44 : decode cX3_has 44 = .ok (.goto 4, 3) := by decide +kernel
theorem dX3_has_47 : decode cX3_has 47 = .ok (.iconst 0, 1) := by decide +kernel
theorem dX3_has_48 : decode cX3_has 48 = .ok (.ireturn, 1) := by decide +kernel
theorem dX3_count_0 : decode cX3_count 0 = .ok (.iconst 0, 1) := by decide +kernel
theorem dX3_count_1 : decode cX3_count 1 = .ok (.istore_n 1, 1) := by decide +kernel
theorem dX3_count_2 : decode cX3_count 2 = .ok (.iconst 0, 1) := by decide +kernel
theorem dX3_count_3 : decode cX3_count 3 = .ok (.istore_n 2, 1) := by decide +kernel
theorem dX3_count_4 : decode cX3_count 4 = .ok (.iload_n 2, 1) := by decide +kernel
theorem dX3_count_5 : decode cX3_count 5 = .ok (.aload_n 0, 1) := by decide +kernel
theorem dX3_count_6 : decode cX3_count 6 = .ok (.getfield 9, 3) := by decide +kernel
theorem dX3_count_9 : decode cX3_count 9 = .ok (.arraylength, 1) := by decide +kernel
theorem dX3_count_10 : decode cX3_count 10 = .ok (.if_icmp .ge 21, 3) := by decide +kernel
theorem dX3_count_13 : decode cX3_count 13 = .ok (.iload_n 1, 1) := by decide +kernel
theorem dX3_count_14 : decode cX3_count 14 = .ok (.aload_n 0, 1) := by decide +kernel
theorem dX3_count_15 : decode cX3_count 15 = .ok (.getfield 9, 3) := by decide +kernel
theorem dX3_count_18 : decode cX3_count 18 = .ok (.iload_n 2, 1) := by decide +kernel
theorem dX3_count_19 : decode cX3_count 19 = .ok (.iaload, 1) := by decide +kernel
theorem dX3_count_20 : decode cX3_count 20 = .ok (.invokestatic 15, 3) := by decide +kernel
theorem dX3_count_23 : decode cX3_count 23 = .ok (.iadd, 1) := by decide +kernel
theorem dX3_count_24 : decode cX3_count 24 = .ok (.istore_n 1, 1) := by decide +kernel
theorem dX3_count_25 : decode cX3_count 25 = .ok (.iinc 2 1, 3) := by decide +kernel
theorem dX3_count_28 : decode cX3_count 28 = .ok (.goto (-24), 3) := by decide +kernel
theorem dX3_count_31 : decode cX3_count 31 = .ok (.iload_n 1, 1) := by decide +kernel
theorem dX3_count_32 : decode cX3_count 32 = .ok (.ireturn, 1) := by decide +kernel
theorem dX3_coinMayBe_0 : decode cX3_coinMayBe 0 = .ok (.iconst 0, 1) := by decide +kernel
theorem dX3_coinMayBe_1 : decode cX3_coinMayBe 1 = .ok (.istore_n 2, 1) := by decide +kernel
theorem dX3_coinMayBe_2 : decode cX3_coinMayBe 2 = .ok (.iconst 0, 1) := by decide +kernel
theorem dX3_coinMayBe_3 : decode cX3_coinMayBe 3 = .ok (.istore_n 3, 1) := by decide +kernel
theorem dX3_coinMayBe_4 : decode cX3_coinMayBe 4 = .ok (.iload_n 3, 1) := by decide +kernel
theorem dX3_coinMayBe_5 : decode cX3_coinMayBe 5 = .ok (.aload_n 0, 1) := by decide +kernel
theorem dX3_coinMayBe_6 : decode cX3_coinMayBe 6 = .ok (.getfield 9, 3) := by decide +kernel
theorem dX3_coinMayBe_9 : decode cX3_coinMayBe 9 = .ok (.arraylength, 1) := by decide +kernel
theorem dX3_coinMayBe_10 : decode cX3_coinMayBe 10 = .ok (.if_icmp .ge 55, 3) := by decide +kernel
theorem dX3_coinMayBe_13 : decode cX3_coinMayBe 13 = .ok (.aload_n 0, 1) := by decide +kernel
theorem dX3_coinMayBe_14 : decode cX3_coinMayBe 14 = .ok (.getfield 9, 3) := by decide +kernel
theorem dX3_coinMayBe_17 : decode cX3_coinMayBe 17 = .ok (.iload_n 3, 1) := by decide +kernel
theorem dX3_coinMayBe_18 : decode cX3_coinMayBe 18 = .ok (.iaload, 1) := by decide +kernel
theorem dX3_coinMayBe_19 : decode cX3_coinMayBe 19 = .ok (.iconst 1, 1) := by decide +kernel
theorem dX3_coinMayBe_20 : decode cX3_coinMayBe 20 = .ok (.iload_n 1, 1) := by decide +kernel
theorem dX3_coinMayBe_21 : decode cX3_coinMayBe 21 = .ok (.ishl, 1) := by decide +kernel
theorem dX3_coinMayBe_22 : decode cX3_coinMayBe 22 = .ok (.iand, 1) := by decide +kernel
theorem dX3_coinMayBe_23 : decode cX3_coinMayBe 23 = .ok (.ifCond .eq 17, 3) := by decide +kernel
theorem dX3_coinMayBe_26 : decode cX3_coinMayBe 26 = .ok (.iload_n 2, 1) := by decide +kernel
theorem dX3_coinMayBe_27 : decode cX3_coinMayBe 27 = .ok (.iload_n 3, 1) := by decide +kernel
theorem dX3_coinMayBe_28 : decode cX3_coinMayBe 28 = .ok (.iconst 2, 1) := by decide +kernel
theorem dX3_coinMayBe_29 : decode cX3_coinMayBe 29 = .ok (.irem, 1) := by decide +kernel
theorem dX3_coinMayBe_30 : decode cX3_coinMayBe 30 = .ok (.ifCond .ne 7, 3) := by decide +kernel
theorem dX3_coinMayBe_33 : decode cX3_coinMayBe 33 = .ok (.iconst 1, 1) := by decide +kernel
theorem dX3_coinMayBe_34 : decode cX3_coinMayBe 34 = .ok (.goto 4, 3) := by decide +kernel
theorem dX3_coinMayBe_37 : decode cX3_coinMayBe 37 = .ok (.iconst 2, 1) := by decide +kernel
theorem dX3_coinMayBe_38 : decode cX3_coinMayBe 38 = .ok (.ior, 1) := by decide +kernel
theorem dX3_coinMayBe_39 : decode cX3_coinMayBe 39 = .ok (.istore_n 2, 1) := by decide +kernel
theorem dX3_coinMayBe_40 : decode cX3_coinMayBe 40 = .ok (.aload_n 0, 1) := by decide +kernel
theorem dX3_coinMayBe_41 : decode cX3_coinMayBe 41 = .ok (.getfield 9, 3) := by decide +kernel
theorem dX3_coinMayBe_44 : decode cX3_coinMayBe 44 = .ok (.iload_n 3, 1) := by decide +kernel
theorem dX3_coinMayBe_45 : decode cX3_coinMayBe 45 = .ok (.iaload, 1) := by decide +kernel
theorem dX3_coinMayBe_46 : decode cX3_coinMayBe 46 = .ok (.iconst 1, 1) := by decide +kernel
theorem dX3_coinMayBe_47 : decode cX3_coinMayBe 47 = .ok (.iload_n 1, 1) := by decide +kernel
theorem dX3_coinMayBe_48 : decode cX3_coinMayBe 48 = .ok (.ishl, 1) := by decide +kernel
theorem dX3_coinMayBe_49 : decode cX3_coinMayBe 49 = .ok (.iconst (-1), 1) := by decide +kernel
theorem dX3_coinMayBe_50 : decode cX3_coinMayBe 50 = .ok (.ixor, 1) := by decide +kernel
theorem dX3_coinMayBe_51 : decode cX3_coinMayBe 51 = .ok (.iand, 1) := by decide +kernel
theorem dX3_coinMayBe_52 : decode cX3_coinMayBe 52 = .ok (.ifCond .eq 7, 3) := by decide +kernel
theorem dX3_coinMayBe_55 : decode cX3_coinMayBe 55 = .ok (.iload_n 2, 1) := by decide +kernel
theorem dX3_coinMayBe_56 : decode cX3_coinMayBe 56 = .ok (.iconst 4, 1) := by decide +kernel
theorem dX3_coinMayBe_57 : decode cX3_coinMayBe 57 = .ok (.ior, 1) := by decide +kernel
theorem dX3_coinMayBe_58 : decode cX3_coinMayBe 58 = .ok (.istore_n 2, 1) := by decide +kernel
theorem dX3_coinMayBe_59 : decode cX3_coinMayBe 59 = .ok (.iinc 3 1, 3) := by decide +kernel
theorem dX3_coinMayBe_62 : decode cX3_coinMayBe 62 = .ok (.goto (-58), 3) := by decide +kernel
theorem dX3_coinMayBe_65 : decode cX3_coinMayBe 65 = .ok (.iload_n 2, 1) := by decide +kernel
theorem dX3_coinMayBe_66 : decode cX3_coinMayBe 66 = .ok (.ireturn, 1) := by decide +kernel
theorem dX3_pansMayBe_0 : decode cX3_pansMayBe 0 = .ok (.iconst 0, 1) := by decide +kernel
theorem dX3_pansMayBe_1 : decode cX3_pansMayBe 1 = .ok (.istore_n 1, 1) := by decide +kernel
theorem dX3_pansMayBe_2 : decode cX3_pansMayBe 2 = .ok (.iconst 0, 1) := by decide +kernel
theorem dX3_pansMayBe_3 : decode cX3_pansMayBe 3 = .ok (.istore_n 2, 1) := by decide +kernel
theorem dX3_pansMayBe_4 : decode cX3_pansMayBe 4 = .ok (.iload_n 2, 1) := by decide +kernel
theorem dX3_pansMayBe_5 : decode cX3_pansMayBe 5 = .ok (.aload_n 0, 1) := by decide +kernel
theorem dX3_pansMayBe_6 : decode cX3_pansMayBe 6 = .ok (.getfield 9, 3) := by decide +kernel
theorem dX3_pansMayBe_9 : decode cX3_pansMayBe 9 = .ok (.arraylength, 1) := by decide +kernel
theorem dX3_pansMayBe_10 : decode cX3_pansMayBe 10 = .ok (.if_icmp .ge 26, 3) := by decide +kernel
theorem dX3_pansMayBe_13 : decode cX3_pansMayBe 13 = .ok (.aload_n 0, 1) := by decide +kernel
theorem dX3_pansMayBe_14 : decode cX3_pansMayBe 14 = .ok (.getfield 9, 3) := by decide +kernel
theorem dX3_pansMayBe_17 : decode cX3_pansMayBe 17 = .ok (.iload_n 2, 1) := by decide +kernel
theorem dX3_pansMayBe_18 : decode cX3_pansMayBe 18 = .ok (.iaload, 1) := by decide +kernel
theorem dX3_pansMayBe_19 : decode cX3_pansMayBe 19 = .ok (.ifCond .eq 11, 3) := by decide +kernel
theorem dX3_pansMayBe_22 : decode cX3_pansMayBe 22 = .ok (.iload_n 1, 1) := by decide +kernel
theorem dX3_pansMayBe_23 : decode cX3_pansMayBe 23 = .ok (.iconst 1, 1) := by decide +kernel
theorem dX3_pansMayBe_24 : decode cX3_pansMayBe 24 = .ok (.iload_n 2, 1) := by decide +kernel
theorem dX3_pansMayBe_25 : decode cX3_pansMayBe 25 = .ok (.iconst 2, 1) := by decide +kernel
theorem dX3_pansMayBe_26 : decode cX3_pansMayBe 26 = .ok (.idiv, 1) := by decide +kernel
theorem dX3_pansMayBe_27 : decode cX3_pansMayBe 27 = .ok (.ishl, 1) := by decide +kernel
theorem dX3_pansMayBe_28 : decode cX3_pansMayBe 28 = .ok (.ior, 1) := by decide +kernel
theorem dX3_pansMayBe_29 : decode cX3_pansMayBe 29 = .ok (.istore_n 1, 1) := by decide +kernel
theorem dX3_pansMayBe_30 : decode cX3_pansMayBe 30 = .ok (.iinc 2 1, 3) := by decide +kernel
theorem dX3_pansMayBe_33 : decode cX3_pansMayBe 33 = .ok (.goto (-29), 3) := by decide +kernel
theorem dX3_pansMayBe_36 : decode cX3_pansMayBe 36 = .ok (.iload_n 1, 1) := by decide +kernel
theorem dX3_pansMayBe_37 : decode cX3_pansMayBe 37 = .ok (.ireturn, 1) := by decide +kernel
theorem dX3_keep_0 : decode cX3_keep 0 = .ok (.iconst 0, 1) := by decide +kernel
theorem dX3_keep_1 : decode cX3_keep 1 = .ok (.istore_n 3, 1) := by decide +kernel
theorem dX3_keep_2 : decode cX3_keep 2 = .ok (.iload_n 3, 1) := by decide +kernel
theorem dX3_keep_3 : decode cX3_keep 3 = .ok (.aload_n 0, 1) := by decide +kernel
theorem dX3_keep_4 : decode cX3_keep 4 = .ok (.getfield 9, 3) := by decide +kernel
theorem dX3_keep_7 : decode cX3_keep 7 = .ok (.arraylength, 1) := by decide +kernel
theorem dX3_keep_8 : decode cX3_keep 8 = .ok (.if_icmp .ge 111, 3) := by decide +kernel
theorem dX3_keep_11 : decode cX3_keep 11 = .ok (.iload_n 3, 1) := by decide +kernel
theorem dX3_keep_12 : decode cX3_keep 12 = .ok (.iconst 2, 1) := by decide +kernel
theorem dX3_keep_13 : decode cX3_keep 13 = .ok (.irem, 1) := by decide +kernel
theorem dX3_keep_14 : decode cX3_keep 14 = .ok (.ifCond .ne 7, 3) := by decide +kernel
theorem dX3_keep_17 : decode cX3_keep 17 = .ok (.iconst (-1), 1) := by decide +kernel
theorem dX3_keep_18 : decode cX3_keep 18 = .ok (.goto 4, 3) := by decide +kernel
theorem dX3_keep_21 : decode cX3_keep 21 = .ok (.iconst 1, 1) := by decide +kernel
theorem dX3_keep_22 : decode cX3_keep 22 = .ok (.istore 4, 2) := by decide +kernel
theorem dX3_keep_24 : decode cX3_keep 24 = .ok (.iconst 0, 1) := by decide +kernel
theorem dX3_keep_25 : decode cX3_keep 25 = .ok (.istore 5, 2) := by decide +kernel
theorem dX3_keep_27 : decode cX3_keep 27 = .ok (.aload_n 1, 1) := by decide +kernel
theorem dX3_keep_28 : decode cX3_keep 28 = .ok (.iload_n 3, 1) := by decide +kernel
theorem dX3_keep_29 : decode cX3_keep 29 = .ok (.iconst 2, 1) := by decide +kernel
theorem dX3_keep_30 : decode cX3_keep 30 = .ok (.idiv, 1) := by decide +kernel
theorem dX3_keep_31 : decode cX3_keep 31 = .ok (.iload 4, 2) := by decide +kernel
theorem dX3_keep_33 : decode cX3_keep 33 = .ok (.iconst 0, 1) := by decide +kernel
theorem dX3_keep_34 : decode cX3_keep 34 = .ok (.invokevirtual 21, 3) := by decide +kernel
theorem dX3_keep_37 : decode cX3_keep 37 = .ok (.iload_n 2, 1) := by decide +kernel
theorem dX3_keep_38 : decode cX3_keep 38 = .ok (.if_icmp .ne 12, 3) := by decide +kernel
theorem dX3_keep_41 : decode cX3_keep 41 = .ok (.iload 5, 2) := by decide +kernel
theorem dX3_keep_43 : decode cX3_keep 43 = .ok (.aload_n 1, 1) := by decide +kernel
theorem dX3_keep_44 : decode cX3_keep 44 = .ok (.getfield 27, 3) := by decide +kernel
theorem dX3_keep_47 : decode cX3_keep 47 = .ok (.ior, 1) := by decide +kernel
theorem dX3_keep_48 : decode cX3_keep 48 = .ok (.istore 5, 2) := by decide +kernel
theorem dX3_keep_50 : decode cX3_keep 50 = .ok (.aload_n 1, 1) := by decide +kernel
theorem dX3_keep_51 : decode cX3_keep 51 = .ok (.iload_n 3, 1) := by decide +kernel
theorem dX3_keep_52 : decode cX3_keep 52 = .ok (.iconst 2, 1) := by decide +kernel
theorem dX3_keep_53 : decode cX3_keep 53 = .ok (.idiv, 1) := by decide +kernel
theorem dX3_keep_54 : decode cX3_keep 54 = .ok (.iconst 0, 1) := by decide +kernel
theorem dX3_keep_55 : decode cX3_keep 55 = .ok (.iload 4, 2) := by decide +kernel
theorem dX3_keep_57 : decode cX3_keep 57 = .ok (.invokevirtual 21, 3) := by decide +kernel
theorem dX3_keep_60 : decode cX3_keep 60 = .ok (.iload_n 2, 1) := by decide +kernel
theorem dX3_keep_61 : decode cX3_keep 61 = .ok (.if_icmp .ne 12, 3) := by decide +kernel
theorem dX3_keep_64 : decode cX3_keep 64 = .ok (.iload 5, 2) := by decide +kernel
theorem dX3_keep_66 : decode cX3_keep 66 = .ok (.aload_n 1, 1) := by decide +kernel
theorem dX3_keep_67 : decode cX3_keep 67 = .ok (.getfield 31, 3) := by decide +kernel
theorem dX3_keep_70 : decode cX3_keep 70 = .ok (.ior, 1) := by decide +kernel
theorem dX3_keep_71 : decode cX3_keep 71 = .ok (.istore 5, 2) := by decide +kernel
theorem dX3_keep_73 : decode cX3_keep 73 = .ok (.aload_n 1, 1) := by decide +kernel
theorem dX3_keep_74 : decode cX3_keep 74 = .ok (.iload_n 3, 1) := by decide +kernel
theorem dX3_keep_75 : decode cX3_keep 75 = .ok (.iconst 2, 1) := by decide +kernel
theorem dX3_keep_76 : decode cX3_keep 76 = .ok (.idiv, 1) := by decide +kernel
theorem dX3_keep_77 : decode cX3_keep 77 = .ok (.iconst 0, 1) := by decide +kernel
theorem dX3_keep_78 : decode cX3_keep 78 = .ok (.iconst 0, 1) := by decide +kernel
theorem dX3_keep_79 : decode cX3_keep 79 = .ok (.invokevirtual 21, 3) := by decide +kernel
theorem dX3_keep_82 : decode cX3_keep 82 = .ok (.iload_n 2, 1) := by decide +kernel
theorem dX3_keep_83 : decode cX3_keep 83 = .ok (.if_icmp .ne 19, 3) := by decide +kernel
theorem dX3_keep_86 : decode cX3_keep 86 = .ok (.iload 5, 2) := by decide +kernel
theorem dX3_keep_88 : decode cX3_keep 88 = .ok (.aload_n 1, 1) := by decide +kernel
theorem dX3_keep_89 : decode cX3_keep 89 = .ok (.getfield 27, 3) := by decide +kernel
theorem dX3_keep_92 : decode cX3_keep 92 = .ok (.aload_n 1, 1) := by decide +kernel
theorem dX3_keep_93 : decode cX3_keep 93 = .ok (.getfield 31, 3) := by decide +kernel
theorem dX3_keep_96 : decode cX3_keep 96 = .ok (.ior, 1) := by decide +kernel
theorem dX3_keep_97 : decode cX3_keep 97 = .ok (.iconst (-1), 1) := by decide +kernel
theorem dX3_keep_98 : decode cX3_keep 98 = .ok (.ixor, 1) := by decide +kernel
theorem dX3_keep_99 : decode cX3_keep 99 = .ok (.ior, 1) := by decide +kernel
theorem dX3_keep_100 : decode cX3_keep 100 = .ok (.istore 5, 2) := by decide +kernel
theorem dX3_keep_102 : decode cX3_keep 102 = .ok (.aload_n 0, 1) := by decide +kernel
theorem dX3_keep_103 : decode cX3_keep 103 = .ok (.getfield 9, 3) := by decide +kernel
theorem dX3_keep_106 : decode cX3_keep 106 = .ok (.iload_n 3, 1) := by decide +kernel
theorem dX3_keep_107 : decode cX3_keep 107 = .ok (.dup2, 1) := by decide +kernel
theorem dX3_keep_108 : decode cX3_keep 108 = .ok (.iaload, 1) := by decide +kernel
theorem dX3_keep_109 : decode cX3_keep 109 = .ok (.iload 5, 2) := by decide +kernel
theorem dX3_keep_111 : decode cX3_keep 111 = .ok (.iand, 1) := by decide +kernel
theorem dX3_keep_112 : decode cX3_keep 112 = .ok (.iastore, 1) := by decide +kernel
theorem dX3_keep_113 : decode cX3_keep 113 = .ok (.iinc 3 1, 3) := by decide +kernel
theorem dX3_keep_116 : decode cX3_keep 116 = .ok (.goto (-114), 3) := by decide +kernel
theorem dX3_keep_119 : decode cX3_keep 119 = .ok (.return_, 1) := by decide +kernel
theorem dX3_sort_0 : decode cX3_sort 0 = .ok (.aload_n 2, 1) := by decide +kernel
theorem dX3_sort_1 : decode cX3_sort 1 = .ok (.invokevirtual 34, 3) := by decide +kernel
theorem dX3_sort_4 : decode cX3_sort 4 = .ok (.iconst 0, 1) := by decide +kernel
theorem dX3_sort_5 : decode cX3_sort 5 = .ok (.istore_n 3, 1) := by decide +kernel
theorem dX3_sort_6 : decode cX3_sort 6 = .ok (.iload_n 3, 1) := by decide +kernel
theorem dX3_sort_7 : decode cX3_sort 7 = .ok (.aload_n 0, 1) := by decide +kernel
theorem dX3_sort_8 : decode cX3_sort 8 = .ok (.getfield 9, 3) := by decide +kernel
theorem dX3_sort_11 : decode cX3_sort 11 = .ok (.arraylength, 1) := by decide +kernel
theorem dX3_sort_12 : decode cX3_sort 12 = .ok (.if_icmp .ge 124, 3) := by decide +kernel
theorem dX3_sort_15 : decode cX3_sort 15 = .ok (.iload_n 3, 1) := by decide +kernel
theorem dX3_sort_16 : decode cX3_sort 16 = .ok (.iconst 2, 1) := by decide +kernel
theorem dX3_sort_17 : decode cX3_sort 17 = .ok (.irem, 1) := by decide +kernel
theorem dX3_sort_18 : decode cX3_sort 18 = .ok (.ifCond .ne 7, 3) := by decide +kernel
theorem dX3_sort_21 : decode cX3_sort 21 = .ok (.iconst (-1), 1) := by decide +kernel
theorem dX3_sort_22 : decode cX3_sort 22 = .ok (.goto 4, 3) := by decide +kernel
theorem dX3_sort_25 : decode cX3_sort 25 = .ok (.iconst 1, 1) := by decide +kernel
theorem dX3_sort_26 : decode cX3_sort 26 = .ok (.istore 4, 2) := by decide +kernel
theorem dX3_sort_28 : decode cX3_sort 28 = .ok (.aload_n 0, 1) := by decide +kernel
theorem dX3_sort_29 : decode cX3_sort 29 = .ok (.getfield 9, 3) := by decide +kernel
theorem dX3_sort_32 : decode cX3_sort 32 = .ok (.iload_n 3, 1) := by decide +kernel
theorem dX3_sort_33 : decode cX3_sort 33 = .ok (.iaload, 1) := by decide +kernel
theorem dX3_sort_34 : decode cX3_sort 34 = .ok (.aload_n 1, 1) := by decide +kernel
theorem dX3_sort_35 : decode cX3_sort 35 = .ok (.getfield 27, 3) := by decide +kernel
theorem dX3_sort_38 : decode cX3_sort 38 = .ok (.iand, 1) := by decide +kernel
theorem dX3_sort_39 : decode cX3_sort 39 = .ok (.istore 5, 2) := by decide +kernel
theorem dX3_sort_41 : decode cX3_sort 41 = .ok (.aload_n 0, 1) := by decide +kernel
theorem dX3_sort_42 : decode cX3_sort 42 = .ok (.getfield 9, 3) := by decide +kernel
theorem dX3_sort_45 : decode cX3_sort 45 = .ok (.iload_n 3, 1) := by decide +kernel
theorem dX3_sort_46 : decode cX3_sort 46 = .ok (.iaload, 1) := by decide +kernel
theorem dX3_sort_47 : decode cX3_sort 47 = .ok (.aload_n 1, 1) := by decide +kernel
theorem dX3_sort_48 : decode cX3_sort 48 = .ok (.getfield 31, 3) := by decide +kernel
theorem dX3_sort_51 : decode cX3_sort 51 = .ok (.iand, 1) := by decide +kernel
theorem dX3_sort_52 : decode cX3_sort 52 = .ok (.istore 6, 2) := by decide +kernel
theorem dX3_sort_54 : decode cX3_sort 54 = .ok (.aload_n 0, 1) := by decide +kernel
theorem dX3_sort_55 : decode cX3_sort 55 = .ok (.getfield 9, 3) := by decide +kernel
theorem dX3_sort_58 : decode cX3_sort 58 = .ok (.iload_n 3, 1) := by decide +kernel
theorem dX3_sort_59 : decode cX3_sort 59 = .ok (.iaload, 1) := by decide +kernel
theorem dX3_sort_60 : decode cX3_sort 60 = .ok (.aload_n 1, 1) := by decide +kernel
theorem dX3_sort_61 : decode cX3_sort 61 = .ok (.getfield 27, 3) := by decide +kernel
theorem dX3_sort_64 : decode cX3_sort 64 = .ok (.aload_n 1, 1) := by decide +kernel
theorem dX3_sort_65 : decode cX3_sort 65 = .ok (.getfield 31, 3) := by decide +kernel
theorem dX3_sort_68 : decode cX3_sort 68 = .ok (.ior, 1) := by decide +kernel
theorem dX3_sort_69 : decode cX3_sort 69 = .ok (.iconst (-1), 1) := by decide +kernel
theorem dX3_sort_70 : decode cX3_sort 70 = .ok (.ixor, 1) := by decide +kernel
theorem dX3_sort_71 : decode cX3_sort 71 = .ok (.iand, 1) := by decide +kernel
theorem dX3_sort_72 : decode cX3_sort 72 = .ok (.istore 7, 2) := by decide +kernel
theorem dX3_sort_74 : decode cX3_sort 74 = .ok (.aload_n 2, 1) := by decide +kernel
theorem dX3_sort_75 : decode cX3_sort 75 = .ok (.aload_n 1, 1) := by decide +kernel
theorem dX3_sort_76 : decode cX3_sort 76 = .ok (.iload_n 3, 1) := by decide +kernel
theorem dX3_sort_77 : decode cX3_sort 77 = .ok (.iconst 2, 1) := by decide +kernel
theorem dX3_sort_78 : decode cX3_sort 78 = .ok (.idiv, 1) := by decide +kernel
theorem dX3_sort_79 : decode cX3_sort 79 = .ok (.iload 4, 2) := by decide +kernel
theorem dX3_sort_81 : decode cX3_sort 81 = .ok (.iconst 0, 1) := by decide +kernel
theorem dX3_sort_82 : decode cX3_sort 82 = .ok (.invokevirtual 21, 3) := by decide +kernel
theorem dX3_sort_85 : decode cX3_sort 85 = .ok (.iload 5, 2) := by decide +kernel
theorem dX3_sort_87 : decode cX3_sort 87 = .ok (.invokestatic 15, 3) := by decide +kernel
theorem dX3_sort_90 : decode cX3_sort 90 = .ok (.invokevirtual 39, 3) := by decide +kernel
theorem dX3_sort_93 : decode cX3_sort 93 = .ok (.aload_n 2, 1) := by decide +kernel
theorem dX3_sort_94 : decode cX3_sort 94 = .ok (.aload_n 1, 1) := by decide +kernel
theorem dX3_sort_95 : decode cX3_sort 95 = .ok (.iload_n 3, 1) := by decide +kernel
theorem dX3_sort_96 : decode cX3_sort 96 = .ok (.iconst 2, 1) := by decide +kernel
theorem dX3_sort_97 : decode cX3_sort 97 = .ok (.idiv, 1) := by decide +kernel
theorem dX3_sort_98 : decode cX3_sort 98 = .ok (.iconst 0, 1) := by decide +kernel
theorem dX3_sort_99 : decode cX3_sort 99 = .ok (.iload 4, 2) := by decide +kernel
theorem dX3_sort_101 : decode cX3_sort 101 = .ok (.invokevirtual 21, 3) := by decide +kernel
theorem dX3_sort_104 : decode cX3_sort 104 = .ok (.iload 6, 2) := by decide +kernel
theorem dX3_sort_106 : decode cX3_sort 106 = .ok (.invokestatic 15, 3) := by decide +kernel
theorem dX3_sort_109 : decode cX3_sort 109 = .ok (.invokevirtual 39, 3) := by decide +kernel
theorem dX3_sort_112 : decode cX3_sort 112 = .ok (.aload_n 2, 1) := by decide +kernel
theorem dX3_sort_113 : decode cX3_sort 113 = .ok (.aload_n 1, 1) := by decide +kernel
theorem dX3_sort_114 : decode cX3_sort 114 = .ok (.iload_n 3, 1) := by decide +kernel
theorem dX3_sort_115 : decode cX3_sort 115 = .ok (.iconst 2, 1) := by decide +kernel
theorem dX3_sort_116 : decode cX3_sort 116 = .ok (.idiv, 1) := by decide +kernel
theorem dX3_sort_117 : decode cX3_sort 117 = .ok (.iconst 0, 1) := by decide +kernel
theorem dX3_sort_118 : decode cX3_sort 118 = .ok (.iconst 0, 1) := by decide +kernel
theorem dX3_sort_119 : decode cX3_sort 119 = .ok (.invokevirtual 21, 3) := by decide +kernel
theorem dX3_sort_122 : decode cX3_sort 122 = .ok (.iload 7, 2) := by decide +kernel
theorem dX3_sort_124 : decode cX3_sort 124 = .ok (.invokestatic 15, 3) := by decide +kernel
theorem dX3_sort_127 : decode cX3_sort 127 = .ok (.invokevirtual 39, 3) := by decide +kernel
theorem dX3_sort_130 : decode cX3_sort 130 = .ok (.iinc 3 1, 3) := by decide +kernel
theorem dX3_sort_133 : decode cX3_sort 133 = .ok (.goto (-127), 3) := by decide +kernel
theorem dX3_sort_136 : decode cX3_sort 136 = .ok (.return_, 1) := by decide +kernel
theorem dX4_init_0 : decode cX4_init 0 = .ok (.aload_n 0, 1) := by decide +kernel
theorem dX4_init_1 : decode cX4_init 1 = .ok (.invokespecial 3, 3) := by decide +kernel
theorem dX4_init_4 : decode cX4_init 4 = .ok (.aload_n 0, 1) := by decide +kernel
theorem dX4_init_5 : decode cX4_init 5 = .ok (.bipush 120, 2) := by decide +kernel
theorem dX4_init_7 : decode cX4_init 7 = .ok (.newarray .int, 2) := by decide +kernel
theorem dX4_init_9 : decode cX4_init 9 = .ok (.putfield 9, 3) := by decide +kernel
theorem dX4_init_12 : decode cX4_init 12 = .ok (.aload_n 0, 1) := by decide +kernel
theorem dX4_init_13 : decode cX4_init 13 = .ok (.new 15, 3) := by decide +kernel
theorem dX4_init_16 : decode cX4_init 16 = .ok (.dup, 1) := by decide +kernel
theorem dX4_init_17 : decode cX4_init 17 = .ok (.invokespecial 17, 3) := by decide +kernel
theorem dX4_init_20 : decode cX4_init 20 = .ok (.putfield 18, 3) := by decide +kernel
theorem dX4_init_23 : decode cX4_init 23 = .ok (.aload_n 0, 1) := by decide +kernel
theorem dX4_init_24 : decode cX4_init 24 = .ok (.new 22, 3) := by decide +kernel
theorem dX4_init_27 : decode cX4_init 27 = .ok (.dup, 1) := by decide +kernel
theorem dX4_init_28 : decode cX4_init 28 = .ok (.invokespecial 24, 3) := by decide +kernel
theorem dX4_init_31 : decode cX4_init 31 = .ok (.putfield 25, 3) := by decide +kernel
theorem dX4_init_34 : decode cX4_init 34 = .ok (.return_, 1) := by decide +kernel
theorem dX4_reset_0 : decode cX4_reset 0 = .ok (.aload_n 0, 1) := by decide +kernel
theorem dX4_reset_1 : decode cX4_reset 1 = .ok (.bipush 9, 2) := by decide +kernel
theorem dX4_reset_3 : decode cX4_reset 3 = .ok (.iconst 0, 1) := by decide +kernel
theorem dX4_reset_4 : decode cX4_reset 4 = .ok (.invokevirtual 29, 3) := by decide +kernel
theorem dX4_reset_7 : decode cX4_reset 7 = .ok (.aload_n 0, 1) := by decide +kernel
theorem dX4_reset_8 : decode cX4_reset 8 = .ok (.bipush 10, 2) := by decide +kernel
theorem dX4_reset_10 : decode cX4_reset 10 = .ok (.putfield 33, 3) := by decide +kernel
theorem dX4_reset_13 : decode cX4_reset 13 = .ok (.aload_n 0, 1) := by decide +kernel
theorem dX4_reset_14 : decode cX4_reset 14 = .ok (.bipush 10, 2) := by decide +kernel
theorem dX4_reset_16 : decode cX4_reset 16 = .ok (.putfield 37, 3) := by decide +kernel
theorem dX4_reset_19 : decode cX4_reset 19 = .ok (.aload_n 0, 1) := by decide +kernel
theorem dX4_reset_20 : decode cX4_reset 20 = .ok (.iconst 0, 1) := by decide +kernel
theorem dX4_reset_21 : decode cX4_reset 21 = .ok (.putfield 40, 3) := by decide +kernel
theorem dX4_reset_24 : decode cX4_reset 24 = .ok (.aload_n 0, 1) := by decide +kernel
theorem dX4_reset_25 : decode cX4_reset 25 = .ok (.iconst 0, 1) := by decide +kernel
theorem dX4_reset_26 : decode cX4_reset 26 = .ok (.putfield 43, 3) := by decide +kernel
theorem dX4_reset_29 : decode cX4_reset 29 = .ok (.return_, 1) := by decide +kernel
theorem dX4_copyFrom_0 : decode cX4_copyFrom 0 = .ok (.aload_n 0, 1) := by decide +kernel
theorem dX4_copyFrom_1 : decode cX4_copyFrom 1 = .ok (.aload_n 1, 1) := by decide +kernel
theorem dX4_copyFrom_2 : decode cX4_copyFrom 2 = .ok (.getfield 46, 3) := by decide +kernel
theorem dX4_copyFrom_5 : decode cX4_copyFrom 5 = .ok (.putfield 46, 3) := by decide +kernel
theorem dX4_copyFrom_8 : decode cX4_copyFrom 8 = .ok (.aload_n 0, 1) := by decide +kernel
theorem dX4_copyFrom_9 : decode cX4_copyFrom 9 = .ok (.aload_n 1, 1) := by decide +kernel
theorem dX4_copyFrom_10 : decode cX4_copyFrom 10 = .ok (.getfield 49, 3) := by decide +kernel
theorem dX4_copyFrom_13 : decode cX4_copyFrom 13 = .ok (.putfield 49, 3) := by decide +kernel
theorem dX4_copyFrom_16 : decode cX4_copyFrom 16 = .ok (.aload_n 0, 1) := by decide +kernel
theorem dX4_copyFrom_17 : decode cX4_copyFrom 17 = .ok (.aload_n 1, 1) := by decide +kernel
theorem dX4_copyFrom_18 : decode cX4_copyFrom 18 = .ok (.getfield 33, 3) := by decide +kernel
theorem dX4_copyFrom_21 : decode cX4_copyFrom 21 = .ok (.putfield 33, 3) := by decide +kernel
theorem dX4_copyFrom_24 : decode cX4_copyFrom 24 = .ok (.aload_n 0, 1) := by decide +kernel
theorem dX4_copyFrom_25 : decode cX4_copyFrom 25 = .ok (.aload_n 1, 1) := by decide +kernel
theorem dX4_copyFrom_26 : decode cX4_copyFrom 26 = .ok (.getfield 37, 3) := by decide +kernel
theorem dX4_copyFrom_29 : decode cX4_copyFrom 29 = .ok (.putfield 37, 3) := by decide +kernel
theorem dX4_copyFrom_32 : decode cX4_copyFrom 32 = .ok (.aload_n 0, 1) := by decide +kernel
theorem dX4_copyFrom_33 : decode cX4_copyFrom 33 = .ok (.aload_n 1, 1) := by decide +kernel
theorem dX4_copyFrom_34 : decode cX4_copyFrom 34 = .ok (.getfield 40, 3) := by decide +kernel
theorem dX4_copyFrom_37 : decode cX4_copyFrom 37 = .ok (.putfield 40, 3) := by decide +kernel
theorem dX4_copyFrom_40 : decode cX4_copyFrom 40 = .ok (.aload_n 0, 1) := by decide +kernel
theorem dX4_copyFrom_41 : decode cX4_copyFrom 41 = .ok (.aload_n 1, 1) := by decide +kernel
theorem dX4_copyFrom_42 : decode cX4_copyFrom 42 = .ok (.getfield 43, 3) := by decide +kernel
theorem dX4_copyFrom_45 : decode cX4_copyFrom 45 = .ok (.putfield 43, 3) := by decide +kernel
theorem dX4_copyFrom_48 : decode cX4_copyFrom 48 = .ok (.aload_n 0, 1) := by decide +kernel
theorem dX4_copyFrom_49 : decode cX4_copyFrom 49 = .ok (.aload_n 1, 1) := by decide +kernel
theorem dX4_copyFrom_50 : decode cX4_copyFrom 50 = .ok (.getfield 52, 3) := by decide +kernel
theorem dX4_copyFrom_53 : decode cX4_copyFrom 53 = .ok (.putfield 52, 3) := by decide +kernel
theorem dX4_copyFrom_56 : decode cX4_copyFrom 56 = .ok (.iconst 0, 1) := by decide +kernel
theorem dX4_copyFrom_57 : decode cX4_copyFrom 57 = .ok (.istore_n 2, 1) := by decide +kernel
theorem dX4_copyFrom_58 : decode cX4_copyFrom 58 = .ok (.iload_n 2, 1) := by decide +kernel
theorem dX4_copyFrom_59 : decode cX4_copyFrom 59 = .ok (.aload_n 0, 1) := by decide +kernel
theorem dX4_copyFrom_60 : decode cX4_copyFrom 60 = .ok (.getfield 9, 3) := by decide +kernel
theorem dX4_copyFrom_63 : decode cX4_copyFrom 63 = .ok (.arraylength, 1) := by decide +kernel
theorem dX4_copyFrom_64 : decode cX4_copyFrom 64 = .ok (.if_icmp .ge 30, 3) := by decide +kernel
theorem dX4_copyFrom_67 : decode cX4_copyFrom 67 = .ok (.iload_n 2, 1) := by decide +kernel
theorem dX4_copyFrom_68 : decode cX4_copyFrom 68 = .ok (.aload_n 1, 1) := by decide +kernel
theorem dX4_copyFrom_69 : decode cX4_copyFrom 69 = .ok (.getfield 9, 3) := by decide +kernel
theorem dX4_copyFrom_72 : decode cX4_copyFrom 72 = .ok (.arraylength, 1) := by decide +kernel
theorem dX4_copyFrom_73 : decode cX4_copyFrom 73 = .ok (.if_icmp .ge 21, 3) := by decide +kernel
theorem dX4_copyFrom_76 : decode cX4_copyFrom 76 = .ok (.aload_n 0, 1) := by decide +kernel
theorem dX4_copyFrom_77 : decode cX4_copyFrom 77 = .ok (.getfield 9, 3) := by decide +kernel
theorem dX4_copyFrom_80 : decode cX4_copyFrom 80 = .ok (.iload_n 2, 1) := by decide +kernel
theorem dX4_copyFrom_81 : decode cX4_copyFrom 81 = .ok (.aload_n 1, 1) := by decide +kernel
theorem dX4_copyFrom_82 : decode cX4_copyFrom 82 = .ok (.getfield 9, 3) := by decide +kernel
theorem dX4_copyFrom_85 : decode cX4_copyFrom 85 = .ok (.iload_n 2, 1) := by decide +kernel
theorem dX4_copyFrom_86 : decode cX4_copyFrom 86 = .ok (.iaload, 1) := by decide +kernel
theorem dX4_copyFrom_87 : decode cX4_copyFrom 87 = .ok (.iastore, 1) := by decide +kernel
theorem dX4_copyFrom_88 : decode cX4_copyFrom 88 = .ok (.iinc 2 1, 3) := by decide +kernel
theorem dX4_copyFrom_91 : decode cX4_copyFrom 91 = .ok (.goto (-33), 3) := by decide +kernel
theorem dX4_copyFrom_94 : decode cX4_copyFrom 94 = .ok (.aload_n 0, 1) := by decide +kernel
theorem dX4_copyFrom_95 : decode cX4_copyFrom 95 = .ok (.getfield 18, 3) := by decide +kernel
theorem dX4_copyFrom_98 : decode cX4_copyFrom 98 = .ok (.aload_n 1, 1) := by decide +kernel
theorem dX4_copyFrom_99 : decode cX4_copyFrom 99 = .ok (.getfield 18, 3) := by decide +kernel
theorem dX4_copyFrom_102 : decode cX4_copyFrom 102 = .ok (.invokevirtual 55, 3) := by decide +kernel
theorem dX4_copyFrom_105 : decode cX4_copyFrom 105 = .ok (.return_, 1) := by decide +kernel
theorem dX4_layOut_0 : decode cX4_layOut 0 = .ok (.aload_n 0, 1) := by decide +kernel
theorem dX4_layOut_1 : decode cX4_layOut 1 = .ok (.iload_n 1, 1) := by decide +kernel
theorem dX4_layOut_2 : decode cX4_layOut 2 = .ok (.putfield 46, 3) := by decide +kernel
theorem dX4_layOut_5 : decode cX4_layOut 5 = .ok (.aload_n 0, 1) := by decide +kernel
theorem dX4_layOut_6 : decode cX4_layOut 6 = .ok (.iload_n 2, 1) := by decide +kernel
theorem dX4_layOut_7 : decode cX4_layOut 7 = .ok (.putfield 49, 3) := by decide +kernel
theorem dX4_layOut_10 : decode cX4_layOut 10 = .ok (.aload_n 0, 1) := by decide +kernel
theorem dX4_layOut_11 : decode cX4_layOut 11 = .ok (.iconst 0, 1) := by decide +kernel
theorem dX4_layOut_12 : decode cX4_layOut 12 = .ok (.putfield 52, 3) := by decide +kernel
theorem dX4_layOut_15 : decode cX4_layOut 15 = .ok (.aload_n 0, 1) := by decide +kernel
theorem dX4_layOut_16 : decode cX4_layOut 16 = .ok (.getfield 18, 3) := by decide +kernel
theorem dX4_layOut_19 : decode cX4_layOut 19 = .ok (.iload_n 1, 1) := by decide +kernel
theorem dX4_layOut_20 : decode cX4_layOut 20 = .ok (.invokevirtual 59, 3) := by decide +kernel
theorem dX4_layOut_23 : decode cX4_layOut 23 = .ok (.return_, 1) := by decide +kernel
theorem dX4_allCases_0 : decode cX4_allCases 0 = .ok (.aload_n 0, 1) := by decide +kernel
theorem dX4_allCases_1 : decode cX4_allCases 1 = .ok (.getfield 46, 3) := by decide +kernel
theorem dX4_allCases_4 : decode cX4_allCases 4 = .ok (.invokestatic 63, 3) := by decide +kernel
theorem dX4_allCases_7 : decode cX4_allCases 7 = .ok (.ireturn, 1) := by decide +kernel
theorem dX4_hasCoin_0 : decode cX4_hasCoin 0 = .ok (.iload_n 1, 1) := by decide +kernel
theorem dX4_hasCoin_1 : decode cX4_hasCoin 1 = .ok (.ifCond .lt 15, 3) := by decide +kernel
theorem dX4_hasCoin_4 : decode cX4_hasCoin 4 = .ok (.iload_n 1, 1) := by decide +kernel
theorem dX4_hasCoin_5 : decode cX4_hasCoin 5 = .ok (.aload_n 0, 1) := by decide +kernel
theorem dX4_hasCoin_6 : decode cX4_hasCoin 6 = .ok (.getfield 46, 3) := by decide +kernel
theorem dX4_hasCoin_9 : decode cX4_hasCoin 9 = .ok (.if_icmp .ge 7, 3) := by decide +kernel
theorem dX4_hasCoin_12 : decode cX4_hasCoin 12 = .ok (.iconst 1, 1) := by decide +kernel
theorem dX4_hasCoin_13 : decode cX4_hasCoin 13 = .ok (.goto 4, 3) := by decide +kernel
theorem dX4_hasCoin_16 : decode cX4_hasCoin 16 = .ok (.iconst 0, 1) := by decide +kernel
theorem dX4_hasCoin_17 : decode cX4_hasCoin 17 = .ok (.ireturn, 1) := by decide +kernel
theorem dX4_isFull_0 : decode cX4_isFull 0 = .ok (.aload_n 0, 1) := by decide +kernel
theorem dX4_isFull_1 : decode cX4_isFull 1 = .ok (.getfield 52, 3) := by decide +kernel
theorem dX4_isFull_4 : decode cX4_isFull 4 = .ok (.bipush 20, 2) := by decide +kernel
theorem dX4_isFull_6 : decode cX4_isFull 6 = .ok (.if_icmp .lt 7, 3) := by decide +kernel
theorem dX4_isFull_9 : decode cX4_isFull 9 = .ok (.iconst 1, 1) := by decide +kernel
theorem dX4_isFull_10 : decode cX4_isFull 10 = .ok (.goto 4, 3) := by decide +kernel
theorem dX4_isFull_13 : decode cX4_isFull 13 = .ok (.iconst 0, 1) := by decide +kernel
theorem dX4_isFull_14 : decode cX4_isFull 14 = .ok (.ireturn, 1) := by decide +kernel
theorem dX4_canWeigh_0 : decode cX4_canWeigh 0 = .ok (.iconst 1, 1) := by decide +kernel
theorem dX4_canWeigh_1 : decode cX4_canWeigh 1 = .ok (.aload_n 0, 1) := by decide +kernel
theorem dX4_canWeigh_2 : decode cX4_canWeigh 2 = .ok (.getfield 46, 3) := by decide +kernel
theorem dX4_canWeigh_5 : decode cX4_canWeigh 5 = .ok (.ishl, 1) := by decide +kernel
theorem dX4_canWeigh_6 : decode cX4_canWeigh 6 = .ok (.iconst 1, 1) := by decide +kernel
theorem dX4_canWeigh_7 : decode cX4_canWeigh 7 = .ok (.isub, 1) := by decide +kernel
theorem dX4_canWeigh_8 : decode cX4_canWeigh 8 = .ok (.iconst (-1), 1) := by decide +kernel
theorem dX4_canWeigh_9 : decode cX4_canWeigh 9 = .ok (.ixor, 1) := by decide +kernel
theorem dX4_canWeigh_10 : decode cX4_canWeigh 10 = .ok (.istore_n 3, 1) := by decide +kernel
theorem dX4_canWeigh_11 : decode cX4_canWeigh 11 = .ok (.iload_n 1, 1) := by decide +kernel
theorem dX4_canWeigh_12 : decode cX4_canWeigh 12 = .ok (.iload_n 2, 1) := by decide +kernel
theorem dX4_canWeigh_13 : decode cX4_canWeigh 13 = .ok (.ior, 1) := by decide +kernel
theorem dX4_canWeigh_14 : decode cX4_canWeigh 14 = .ok (.iload_n 3, 1) := by decide +kernel
theorem dX4_canWeigh_15 : decode cX4_canWeigh 15 = .ok (.iand, 1) := by decide +kernel
theorem dX4_canWeigh_16 : decode cX4_canWeigh 16 = .ok (.ifCond .ne 19, 3) := by decide +kernel
theorem dX4_canWeigh_19 : decode cX4_canWeigh 19 = .ok (.iload_n 1, 1) := by decide +kernel
theorem dX4_canWeigh_20 : decode cX4_canWeigh 20 = .ok (.iload_n 2, 1) := by decide +kernel
theorem dX4_canWeigh_21 : decode cX4_canWeigh 21 = .ok (.iand, 1) := by decide +kernel
theorem dX4_canWeigh_22 : decode cX4_canWeigh 22 = .ok (.ifCond .ne 13, 3) := by decide +kernel
theorem dX4_canWeigh_25 : decode cX4_canWeigh 25 = .ok (.iload_n 1, 1) := by decide +kernel
theorem dX4_canWeigh_26 : decode cX4_canWeigh 26 = .ok (.iload_n 2, 1) := by decide +kernel
theorem dX4_canWeigh_27 : decode cX4_canWeigh 27 = .ok (.ior, 1) := by decide +kernel
theorem dX4_canWeigh_28 : decode cX4_canWeigh 28 = .ok (.ifCond .eq 7, 3) := by decide +kernel
theorem dX4_canWeigh_31 : decode cX4_canWeigh 31 = .ok (.iconst 1, 1) := by decide +kernel
theorem dX4_canWeigh_32 : decode cX4_canWeigh 32 = .ok (.goto 4, 3) := by decide +kernel
theorem dX4_canWeigh_35 : decode cX4_canWeigh 35 = .ok (.iconst 0, 1) := by decide +kernel
theorem dX4_canWeigh_36 : decode cX4_canWeigh 36 = .ok (.ireturn, 1) := by decide +kernel
theorem dX4_tryArms_0 : decode cX4_tryArms 0 = .ok (.iload_n 1, 1) := by decide +kernel
theorem dX4_tryArms_1 : decode cX4_tryArms 1 = .ok (.invokestatic 67, 3) := by decide +kernel
theorem dX4_tryArms_4 : decode cX4_tryArms 4 = .ok (.ifCond .eq 10, 3) := by decide +kernel
theorem dX4_tryArms_7 : decode cX4_tryArms 7 = .ok (.iload_n 2, 1) := by decide +kernel
theorem dX4_tryArms_8 : decode cX4_tryArms 8 = .ok (.invokestatic 67, 3) := by decide +kernel
theorem dX4_tryArms_11 : decode cX4_tryArms 11 = .ok (.ifCond .ne 5, 3) := by decide +kernel
theorem dX4_tryArms_14 : decode cX4_tryArms 14 = .ok (.iconst 0, 1) := by decide +kernel
theorem dX4_tryArms_15 : decode cX4_tryArms 15 = .ok (.ireturn, 1) := by decide +kernel
theorem dX4_tryArms_16 : decode cX4_tryArms 16 = .ok (.aload_n 0, 1) := by decide +kernel
theorem dX4_tryArms_17 : decode cX4_tryArms 17 = .ok (.iload_n 1, 1) := by decide +kernel
theorem dX4_tryArms_18 : decode cX4_tryArms 18 = .ok (.putfield 33, 3) := by decide +kernel
theorem dX4_tryArms_21 : decode cX4_tryArms 21 = .ok (.aload_n 0, 1) := by decide +kernel
theorem dX4_tryArms_22 : decode cX4_tryArms 22 = .ok (.iload_n 2, 1) := by decide +kernel
theorem dX4_tryArms_23 : decode cX4_tryArms 23 = .ok (.putfield 37, 3) := by decide +kernel
theorem dX4_tryArms_26 : decode cX4_tryArms 26 = .ok (.iconst 1, 1) := by decide +kernel
theorem dX4_tryArms_27 : decode cX4_tryArms 27 = .ok (.ireturn, 1) := by decide +kernel
theorem dX4_tryWeighing_0 : decode cX4_tryWeighing 0 = .ok (.aload_n 0, 1) := by decide +kernel
theorem dX4_tryWeighing_1 : decode cX4_tryWeighing 1 = .ok (.iload_n 1, 1) := by decide +kernel
theorem dX4_tryWeighing_2 : decode cX4_tryWeighing 2 = .ok (.iload_n 2, 1) := by decide +kernel
theorem dX4_tryWeighing_3 : decode cX4_tryWeighing 3 = .ok (.invokevirtual 71, 3) := by decide +kernel
theorem dX4_tryWeighing_6 : decode cX4_tryWeighing 6 = .ok (.ifCond .eq 10, 3) := by decide +kernel
theorem dX4_tryWeighing_9 : decode cX4_tryWeighing 9 = .ok (.aload_n 0, 1) := by decide +kernel
theorem dX4_tryWeighing_10 : decode cX4_tryWeighing 10 = .ok (.invokevirtual 75, 3) := by decide +kernel
theorem dX4_tryWeighing_13 : decode cX4_tryWeighing 13 = .ok (.ifCond .eq 5, 3) := by decide +kernel
theorem dX4_tryWeighing_16 : decode cX4_tryWeighing 16 = .ok (.iconst 0, 1) := by decide +kernel
theorem dX4_tryWeighing_17 : decode cX4_tryWeighing 17 = .ok (.ireturn, 1) := by decide +kernel
theorem dX4_tryWeighing_18 : decode cX4_tryWeighing 18 = .ok (.aload_n 0, 1) := by decide +kernel
theorem dX4_tryWeighing_19 : decode cX4_tryWeighing 19 = .ok (.getfield 25, 3) := by decide +kernel
theorem dX4_tryWeighing_22 : decode cX4_tryWeighing 22 = .ok (.iload_n 1, 1) := by decide +kernel
theorem dX4_tryWeighing_23 : decode cX4_tryWeighing 23 = .ok (.iload_n 2, 1) := by decide +kernel
theorem dX4_tryWeighing_24 : decode cX4_tryWeighing 24 = .ok (.aload_n 0, 1) := by decide +kernel
theorem dX4_tryWeighing_25 : decode cX4_tryWeighing 25 = .ok (.getfield 33, 3) := by decide +kernel
theorem dX4_tryWeighing_28 : decode cX4_tryWeighing 28 = .ok (.aload_n 0, 1) := by decide +kernel
theorem dX4_tryWeighing_29 : decode cX4_tryWeighing 29 = .ok (.getfield 37, 3) := by decide +kernel
theorem dX4_tryWeighing_32 : decode cX4_tryWeighing 32 = .ok (.invokevirtual 79, 3) := by decide +kernel
theorem dX4_tryWeighing_35 : decode cX4_tryWeighing 35 = .ok (.aload_n 0, 1) := by decide +kernel
theorem dX4_tryWeighing_36 : decode cX4_tryWeighing 36 = .ok (.getfield 25, 3) := by decide +kernel
theorem dX4_tryWeighing_39 : decode cX4_tryWeighing 39 = .ok (.aload_n 0, 1) := by decide +kernel
theorem dX4_tryWeighing_40 : decode cX4_tryWeighing 40 = .ok (.getfield 49, 3) := by decide +kernel
theorem dX4_tryWeighing_43 : decode cX4_tryWeighing 43 = .ok (.invokevirtual 83, 3) := by decide +kernel
theorem dX4_tryWeighing_46 : decode cX4_tryWeighing 46 = .ok (.istore_n 3, 1) := by decide +kernel
theorem dX4_tryWeighing_47 : decode cX4_tryWeighing 47 = .ok (.aload_n 0, 1) := by decide +kernel
theorem dX4_tryWeighing_48 : decode cX4_tryWeighing 48 = .ok (.getfield 18, 3) := by decide +kernel
theorem dX4_tryWeighing_51 : decode cX4_tryWeighing 51 = .ok (.aload_n 0, 1) := by decide +kernel
theorem dX4_tryWeighing_52 : decode cX4_tryWeighing 52 = .ok (.getfield 25, 3) := by decide +kernel
theorem dX4_tryWeighing_55 : decode cX4_tryWeighing 55 = .ok (.iload_n 3, 1) := by decide +kernel
theorem dX4_tryWeighing_56 : decode cX4_tryWeighing 56 = .ok (.invokevirtual 86, 3) := by decide +kernel
theorem dX4_tryWeighing_59 : decode cX4_tryWeighing 59 = .ok (.aload_n 0, 1) := by decide +kernel
theorem dX4_tryWeighing_60 : decode cX4_tryWeighing 60 = .ok (.getfield 52, 3) := by decide +kernel
theorem dX4_tryWeighing_63 : decode cX4_tryWeighing 63 = .ok (.istore 4, 2) := by decide +kernel
theorem dX4_tryWeighing_65 : decode cX4_tryWeighing 65 = .ok (.aload_n 0, 1) := by decide +kernel
theorem dX4_tryWeighing_66 : decode cX4_tryWeighing 66 = .ok (.dup, 1) := by decide +kernel
theorem dX4_tryWeighing_67 : decode cX4_tryWeighing 67 = .ok (.getfield 52, 3) := by decide +kernel
theorem dX4_tryWeighing_70 : decode cX4_tryWeighing 70 = .ok (.iconst 1, 1) := by decide +kernel
theorem dX4_tryWeighing_71 : decode cX4_tryWeighing 71 = .ok (.iadd, 1) := by decide +kernel
theorem dX4_tryWeighing_72 : decode cX4_tryWeighing 72 = .ok (.putfield 52, 3) := by decide +kernel
theorem dX4_tryWeighing_75 : decode cX4_tryWeighing 75 = .ok (.aload_n 0, 1) := by decide +kernel
theorem dX4_tryWeighing_76 : decode cX4_tryWeighing 76 = .ok (.iload 4, 2) := by decide +kernel
theorem dX4_tryWeighing_78 : decode cX4_tryWeighing 78 = .ok (.iconst 0, 1) := by decide +kernel
theorem dX4_tryWeighing_79 : decode cX4_tryWeighing 79 = .ok (.iload_n 1, 1) := by decide +kernel
theorem dX4_tryWeighing_80 : decode cX4_tryWeighing 80 = .ok (.invokevirtual 90, 3) := by decide +kernel
theorem dX4_tryWeighing_83 : decode cX4_tryWeighing 83 = .ok (.aload_n 0, 1) := by decide +kernel
theorem dX4_tryWeighing_84 : decode cX4_tryWeighing 84 = .ok (.iload 4, 2) := by decide +kernel
theorem dX4_tryWeighing_86 : decode cX4_tryWeighing 86 = .ok (.iconst 1, 1) := by decide +kernel
theorem dX4_tryWeighing_87 : decode cX4_tryWeighing 87 = .ok (.iload_n 2, 1) := by decide +kernel
theorem dX4_tryWeighing_88 : decode cX4_tryWeighing 88 = .ok (.invokevirtual 90, 3) := by decide +kernel
theorem dX4_tryWeighing_91 : decode cX4_tryWeighing 91 = .ok (.aload_n 0, 1) := by decide +kernel
theorem dX4_tryWeighing_92 : decode cX4_tryWeighing 92 = .ok (.iload 4, 2) := by decide +kernel
theorem dX4_tryWeighing_94 : decode cX4_tryWeighing 94 = .ok (.iconst 2, 1) := by decide +kernel
theorem dX4_tryWeighing_95 : decode cX4_tryWeighing 95 = .ok (.iload_n 3, 1) := by decide +kernel
theorem dX4_tryWeighing_96 : decode cX4_tryWeighing 96 = .ok (.invokevirtual 90, 3) := by decide +kernel
theorem dX4_tryWeighing_99 : decode cX4_tryWeighing 99 = .ok (.aload_n 0, 1) := by decide +kernel
theorem dX4_tryWeighing_100 : decode cX4_tryWeighing 100 = .ok (.iload 4, 2) := by decide +kernel
theorem dX4_tryWeighing_102 : decode cX4_tryWeighing 102 = .ok (.iconst 3, 1) := by decide +kernel
theorem dX4_tryWeighing_103 : decode cX4_tryWeighing 103 = .ok (.aload_n 0, 1) := by decide +kernel
theorem dX4_tryWeighing_104 : decode cX4_tryWeighing 104 = .ok (.getfield 33, 3) := by decide +kernel
theorem dX4_tryWeighing_107 : decode cX4_tryWeighing 107 = .ok (.invokevirtual 90, 3) := by decide +kernel
theorem dX4_tryWeighing_110 : decode cX4_tryWeighing 110 = .ok (.aload_n 0, 1) := by decide +kernel
theorem dX4_tryWeighing_111 : decode cX4_tryWeighing 111 = .ok (.iload 4, 2) := by decide +kernel
theorem dX4_tryWeighing_113 : decode cX4_tryWeighing 113 = .ok (.iconst 4, 1) := by decide +kernel
theorem dX4_tryWeighing_114 : decode cX4_tryWeighing 114 = .ok (.aload_n 0, 1) := by decide +kernel
theorem dX4_tryWeighing_115 : decode cX4_tryWeighing 115 = .ok (.getfield 37, 3) := by decide +kernel
theorem dX4_tryWeighing_118 : decode cX4_tryWeighing 118 = .ok (.invokevirtual 90, 3) := by decide +kernel
theorem dX4_tryWeighing_121 : decode cX4_tryWeighing 121 = .ok (.aload_n 0, 1) := by decide +kernel
theorem dX4_tryWeighing_122 : decode cX4_tryWeighing 122 = .ok (.iload 4, 2) := by decide +kernel
theorem dX4_tryWeighing_124 : decode cX4_tryWeighing 124 = .ok (.iconst 5, 1) := by decide +kernel
theorem dX4_tryWeighing_125 : decode cX4_tryWeighing 125 = .ok (.aload_n 0, 1) := by decide +kernel
theorem dX4_tryWeighing_126 : decode cX4_tryWeighing 126 = .ok (.getfield 18, 3) := by decide +kernel
theorem dX4_tryWeighing_129 : decode cX4_tryWeighing 129 = .ok (.invokevirtual 94, 3) := by decide +kernel
theorem dX4_tryWeighing_132 : decode cX4_tryWeighing 132 = .ok (.invokevirtual 90, 3) := by decide +kernel
theorem dX4_tryWeighing_135 : decode cX4_tryWeighing 135 = .ok (.iconst 1, 1) := by decide +kernel
theorem dX4_tryWeighing_136 : decode cX4_tryWeighing 136 = .ok (.ireturn, 1) := by decide +kernel
theorem dX4_lastOutcome_0 : decode cX4_lastOutcome 0 = .ok (.aload_n 0, 1) := by decide +kernel
theorem dX4_lastOutcome_1 : decode cX4_lastOutcome 1 = .ok (.aload_n 0, 1) := by decide +kernel
theorem dX4_lastOutcome_2 : decode cX4_lastOutcome 2 = .ok (.getfield 52, 3) := by decide +kernel
theorem dX4_lastOutcome_5 : decode cX4_lastOutcome 5 = .ok (.iconst 1, 1) := by decide +kernel
theorem dX4_lastOutcome_6 : decode cX4_lastOutcome 6 = .ok (.isub, 1) := by decide +kernel
theorem dX4_lastOutcome_7 : decode cX4_lastOutcome 7 = .ok (.iconst 2, 1) := by decide +kernel
theorem dX4_lastOutcome_8 : decode cX4_lastOutcome 8 = .ok (.invokevirtual 98, 3) := by decide +kernel
theorem dX4_lastOutcome_11 : decode cX4_lastOutcome 11 = .ok (.ireturn, 1) := by decide +kernel
theorem dX4_tryForgetting_0 : decode cX4_tryForgetting 0 = .ok (.aload_n 0, 1) := by decide +kernel
theorem dX4_tryForgetting_1 : decode cX4_tryForgetting 1 = .ok (.getfield 52, 3) := by decide +kernel
theorem dX4_tryForgetting_4 : decode cX4_tryForgetting 4 = .ok (.ifCond .gt 5, 3) := by decide +kernel
theorem dX4_tryForgetting_7 : decode cX4_tryForgetting 7 = .ok (.iconst 0, 1) := by decide +kernel
theorem dX4_tryForgetting_8 : decode cX4_tryForgetting 8 = .ok (.ireturn, 1) := by decide +kernel
theorem dX4_tryForgetting_9 : decode cX4_tryForgetting 9 = .ok (.aload_n 0, 1) := by decide +kernel
theorem dX4_tryForgetting_10 : decode cX4_tryForgetting 10 = .ok (.dup, 1) := by decide +kernel
theorem dX4_tryForgetting_11 : decode cX4_tryForgetting 11 = .ok (.getfield 52, 3) := by decide +kernel
theorem dX4_tryForgetting_14 : decode cX4_tryForgetting 14 = .ok (.iconst 1, 1) := by decide +kernel
theorem dX4_tryForgetting_15 : decode cX4_tryForgetting 15 = .ok (.isub, 1) := by decide +kernel
theorem dX4_tryForgetting_16 : decode cX4_tryForgetting 16 = .ok (.putfield 52, 3) := by decide +kernel
theorem dX4_tryForgetting_19 : decode cX4_tryForgetting 19 = .ok (.aload_n 0, 1) := by decide +kernel
theorem dX4_tryForgetting_20 : decode cX4_tryForgetting 20 = .ok (.getfield 18, 3) := by decide +kernel
theorem dX4_tryForgetting_23 : decode cX4_tryForgetting 23 = .ok (.aload_n 0, 1) := by decide +kernel
theorem dX4_tryForgetting_24 : decode cX4_tryForgetting 24 = .ok (.getfield 46, 3) := by decide +kernel
theorem dX4_tryForgetting_27 : decode cX4_tryForgetting 27 = .ok (.invokevirtual 59, 3) := by decide +kernel
theorem dX4_tryForgetting_30 : decode cX4_tryForgetting 30 = .ok (.iconst 0, 1) := by decide +kernel
theorem dX4_tryForgetting_31 : decode cX4_tryForgetting 31 = .ok (.istore_n 1, 1) := by decide +kernel
theorem dX4_tryForgetting_32 : decode cX4_tryForgetting 32 = .ok (.iload_n 1, 1) := by decide +kernel
theorem dX4_tryForgetting_33 : decode cX4_tryForgetting 33 = .ok (.aload_n 0, 1) := by decide +kernel
theorem dX4_tryForgetting_34 : decode cX4_tryForgetting 34 = .ok (.getfield 52, 3) := by decide +kernel
theorem dX4_tryForgetting_37 : decode cX4_tryForgetting 37 = .ok (.if_icmp .ge 57, 3) := by decide +kernel
theorem dX4_tryForgetting_40 : decode cX4_tryForgetting 40 = .ok (.aload_n 0, 1) := by decide +kernel
theorem dX4_tryForgetting_41 : decode cX4_tryForgetting 41 = .ok (.getfield 25, 3) := by decide +kernel
theorem dX4_tryForgetting_44 : decode cX4_tryForgetting 44 = .ok (.aload_n 0, 1) := by decide +kernel
theorem dX4_tryForgetting_45 : decode cX4_tryForgetting 45 = .ok (.iload_n 1, 1) := by decide +kernel
theorem dX4_tryForgetting_46 : decode cX4_tryForgetting 46 = .ok (.iconst 0, 1) := by decide +kernel
theorem dX4_tryForgetting_47 : decode cX4_tryForgetting 47 = .ok (.invokevirtual 98, 3) := by decide +kernel
theorem dX4_tryForgetting_50 : decode cX4_tryForgetting 50 = .ok (.aload_n 0, 1) := by decide +kernel
theorem dX4_tryForgetting_51 : decode cX4_tryForgetting 51 = .ok (.iload_n 1, 1) := by decide +kernel
theorem dX4_tryForgetting_52 : decode cX4_tryForgetting 52 = .ok (.iconst 1, 1) := by decide +kernel
theorem dX4_tryForgetting_53 : decode cX4_tryForgetting 53 = .ok (.invokevirtual 98, 3) := by decide +kernel
theorem dX4_tryForgetting_56 : decode cX4_tryForgetting 56 = .ok (.aload_n 0, 1) := by decide +kernel
theorem dX4_tryForgetting_57 : decode cX4_tryForgetting 57 = .ok (.iload_n 1, 1) := by decide +kernel
theorem dX4_tryForgetting_58 : decode cX4_tryForgetting 58 = .ok (.iconst 3, 1) := by decide +kernel
theorem dX4_tryForgetting_59 : decode cX4_tryForgetting 59 = .ok (.invokevirtual 98, 3) := by decide +kernel
theorem dX4_tryForgetting_62 : decode cX4_tryForgetting 62 = .ok (.aload_n 0, 1) := by decide +kernel
theorem dX4_tryForgetting_63 : decode cX4_tryForgetting 63 = .ok (.iload_n 1, 1) := by decide +kernel
theorem dX4_tryForgetting_64 : decode cX4_tryForgetting 64 = .ok (.iconst 4, 1) := by decide +kernel
theorem dX4_tryForgetting_65 : decode cX4_tryForgetting 65 = .ok (.invokevirtual 98, 3) := by decide +kernel
theorem dX4_tryForgetting_68 : decode cX4_tryForgetting 68 = .ok (.invokevirtual 79, 3) := by decide +kernel
theorem dX4_tryForgetting_71 : decode cX4_tryForgetting 71 = .ok (.aload_n 0, 1) := by decide +kernel
theorem dX4_tryForgetting_72 : decode cX4_tryForgetting 72 = .ok (.getfield 18, 3) := by decide +kernel
theorem dX4_tryForgetting_75 : decode cX4_tryForgetting 75 = .ok (.aload_n 0, 1) := by decide +kernel
theorem dX4_tryForgetting_76 : decode cX4_tryForgetting 76 = .ok (.getfield 25, 3) := by decide +kernel
theorem dX4_tryForgetting_79 : decode cX4_tryForgetting 79 = .ok (.aload_n 0, 1) := by decide +kernel
theorem dX4_tryForgetting_80 : decode cX4_tryForgetting 80 = .ok (.iload_n 1, 1) := by decide +kernel
theorem dX4_tryForgetting_81 : decode cX4_tryForgetting 81 = .ok (.iconst 2, 1) := by decide +kernel
theorem dX4_tryForgetting_82 : decode cX4_tryForgetting 82 = .ok (.invokevirtual 98, 3) := by decide +kernel
theorem dX4_tryForgetting_85 : decode cX4_tryForgetting 85 = .ok (.invokevirtual 86, 3) := by decide +kernel
theorem dX4_tryForgetting_88 : decode cX4_tryForgetting 88 = .ok (.iinc 1 1, 3) := by decide +kernel
theorem dX4_tryForgetting_91 : decode cX4_tryForgetting 91 = .ok (.goto (-59), 3) := by decide +kernel
theorem dX4_tryForgetting_94 : decode cX4_tryForgetting 94 = .ok (.iconst 1, 1) := by decide +kernel
theorem dX4_tryForgetting_95 : decode cX4_tryForgetting 95 = .ok (.ireturn, 1) := by decide +kernel
theorem dX4_blameCoin_0 : decode cX4_blameCoin 0 = .ok (.aload_n 0, 1) := by decide +kernel
theorem dX4_blameCoin_1 : decode cX4_blameCoin 1 = .ok (.aload_n 0, 1) := by decide +kernel
theorem dX4_blameCoin_2 : decode cX4_blameCoin 2 = .ok (.getfield 49, 3) := by decide +kernel
theorem dX4_blameCoin_5 : decode cX4_blameCoin 5 = .ok (.iconst 3, 1) := by decide +kernel
theorem dX4_blameCoin_6 : decode cX4_blameCoin 6 = .ok (.idiv, 1) := by decide +kernel
theorem dX4_blameCoin_7 : decode cX4_blameCoin 7 = .ok (.iconst 2, 1) := by decide +kernel
theorem dX4_blameCoin_8 : decode cX4_blameCoin 8 = .ok (.iload_n 1, 1) := by decide +kernel
theorem dX4_blameCoin_9 : decode cX4_blameCoin 9 = .ok (.imul, 1) := by decide +kernel
theorem dX4_blameCoin_10 : decode cX4_blameCoin 10 = .ok (.iload_n 2, 1) := by decide +kernel
theorem dX4_blameCoin_11 : decode cX4_blameCoin 11 = .ok (.ifCond .eq 7, 3) := by decide +kernel
theorem dX4_blameCoin_14 : decode cX4_blameCoin 14 = .ok (.iconst 1, 1) := by decide +kernel
theorem dX4_blameCoin_15 : decode cX4_blameCoin 15 = .ok (.goto 4, 3) := by decide +kernel
theorem dX4_blameCoin_18 : decode cX4_blameCoin 18 = .ok (.iconst 0, 1) := by decide +kernel
theorem dX4_blameCoin_19 : decode cX4_blameCoin 19 = .ok (.iadd, 1) := by decide +kernel
theorem dX4_blameCoin_20 : decode cX4_blameCoin 20 = .ok (.if_icmp .ne 7, 3) := by decide +kernel
theorem dX4_blameCoin_23 : decode cX4_blameCoin 23 = .ok (.iconst 1, 1) := by decide +kernel
theorem dX4_blameCoin_24 : decode cX4_blameCoin 24 = .ok (.goto 4, 3) := by decide +kernel
theorem dX4_blameCoin_27 : decode cX4_blameCoin 27 = .ok (.iconst 0, 1) := by decide +kernel
theorem dX4_blameCoin_28 : decode cX4_blameCoin 28 = .ok (.invokevirtual 102, 3) := by decide +kernel
theorem dX4_blameCoin_31 : decode cX4_blameCoin 31 = .ok (.ireturn, 1) := by decide +kernel
theorem dX4_blamePan_0 : decode cX4_blamePan 0 = .ok (.aload_n 0, 1) := by decide +kernel
theorem dX4_blamePan_1 : decode cX4_blamePan 1 = .ok (.aload_n 0, 1) := by decide +kernel
theorem dX4_blamePan_2 : decode cX4_blamePan 2 = .ok (.getfield 49, 3) := by decide +kernel
theorem dX4_blamePan_5 : decode cX4_blamePan 5 = .ok (.iconst 3, 1) := by decide +kernel
theorem dX4_blamePan_6 : decode cX4_blamePan 6 = .ok (.irem, 1) := by decide +kernel
theorem dX4_blamePan_7 : decode cX4_blamePan 7 = .ok (.iload_n 1, 1) := by decide +kernel
theorem dX4_blamePan_8 : decode cX4_blamePan 8 = .ok (.if_icmp .ne 7, 3) := by decide +kernel
theorem dX4_blamePan_11 : decode cX4_blamePan 11 = .ok (.iconst 1, 1) := by decide +kernel
theorem dX4_blamePan_12 : decode cX4_blamePan 12 = .ok (.goto 4, 3) := by decide +kernel
theorem dX4_blamePan_15 : decode cX4_blamePan 15 = .ok (.iconst 0, 1) := by decide +kernel
theorem dX4_blamePan_16 : decode cX4_blamePan 16 = .ok (.invokevirtual 102, 3) := by decide +kernel
theorem dX4_blamePan_19 : decode cX4_blamePan 19 = .ok (.ireturn, 1) := by decide +kernel
theorem dX4_noteBlame_0 : decode cX4_noteBlame 0 = .ok (.iload_n 1, 1) := by decide +kernel
theorem dX4_noteBlame_1 : decode cX4_noteBlame 1 = .ok (.ifCond .eq 16, 3) := by decide +kernel
theorem dX4_noteBlame_4 : decode cX4_noteBlame 4 = .ok (.aload_n 0, 1) := by decide +kernel
theorem dX4_noteBlame_5 : decode cX4_noteBlame 5 = .ok (.dup, 1) := by decide +kernel
theorem dX4_noteBlame_6 : decode cX4_noteBlame 6 = .ok (.getfield 40, 3) := by decide +kernel
theorem dX4_noteBlame_9 : decode cX4_noteBlame 9 = .ok (.iconst 1, 1) := by decide +kernel
theorem dX4_noteBlame_10 : decode cX4_noteBlame 10 = .ok (.iadd, 1) := by decide +kernel
theorem dX4_noteBlame_11 : decode cX4_noteBlame 11 = .ok (.putfield 40, 3) := by decide +kernel
theorem dX4_noteBlame_14 : decode cX4_noteBlame 14 = .ok (.goto 13, 3) := by decide +kernel
theorem dX4_noteBlame_17 : decode cX4_noteBlame 17 = .ok (.aload_n 0, 1) := by decide +kernel
theorem dX4_noteBlame_18 : decode cX4_noteBlame 18 = .ok (.dup, 1) := by decide +kernel
theorem dX4_noteBlame_19 : decode cX4_noteBlame 19 = .ok (.getfield 43, 3) := by decide +kernel
theorem dX4_noteBlame_22 : decode cX4_noteBlame 22 = .ok (.iconst 1, 1) := by decide +kernel
theorem dX4_noteBlame_23 : decode cX4_noteBlame 23 = .ok (.iadd, 1) := by decide +kernel
theorem dX4_noteBlame_24 : decode cX4_noteBlame 24 = .ok (.putfield 43, 3) := by decide +kernel
theorem dX4_noteBlame_27 : decode cX4_noteBlame 27 = .ok (.iload_n 1, 1) := by decide +kernel
theorem dX4_noteBlame_28 : decode cX4_noteBlame 28 = .ok (.ireturn, 1) := by decide +kernel
theorem dX4_idleWeighings_0 : decode cX4_idleWeighings 0 = .ok (.iconst 0, 1) := by decide +kernel
theorem dX4_idleWeighings_1 : decode cX4_idleWeighings 1 = .ok (.istore_n 1, 1) := by decide +kernel
theorem dX4_idleWeighings_2 : decode cX4_idleWeighings 2 = .ok (.aload_n 0, 1) := by decide +kernel
theorem dX4_idleWeighings_3 : decode cX4_idleWeighings 3 = .ok (.invokevirtual 106, 3) := by decide +kernel
theorem dX4_idleWeighings_6 : decode cX4_idleWeighings 6 = .ok (.istore_n 2, 1) := by decide +kernel
theorem dX4_idleWeighings_7 : decode cX4_idleWeighings 7 = .ok (.iconst 0, 1) := by decide +kernel
theorem dX4_idleWeighings_8 : decode cX4_idleWeighings 8 = .ok (.istore_n 3, 1) := by decide +kernel
theorem dX4_idleWeighings_9 : decode cX4_idleWeighings 9 = .ok (.iload_n 3, 1) := by decide +kernel
theorem dX4_idleWeighings_10 : decode cX4_idleWeighings 10 = .ok (.aload_n 0, 1) := by decide +kernel
theorem dX4_idleWeighings_11 : decode cX4_idleWeighings 11 = .ok (.getfield 52, 3) := by decide +kernel
theorem dX4_idleWeighings_14 : decode cX4_idleWeighings 14 = .ok (.if_icmp .ge 29, 3) := by decide +kernel
theorem dX4_idleWeighings_17 : decode cX4_idleWeighings 17 = .ok (.aload_n 0, 1) := by decide +kernel
theorem dX4_idleWeighings_18 : decode cX4_idleWeighings 18 = .ok (.iload_n 3, 1) := by decide +kernel
theorem dX4_idleWeighings_19 : decode cX4_idleWeighings 19 = .ok (.iconst 5, 1) := by decide +kernel
theorem dX4_idleWeighings_20 : decode cX4_idleWeighings 20 = .ok (.invokevirtual 98, 3) := by decide +kernel
theorem dX4_idleWeighings_23 : decode cX4_idleWeighings 23 = .ok (.istore 4, 2) := by decide +kernel
theorem dX4_idleWeighings_25 : decode cX4_idleWeighings 25 = .ok (.iload 4, 2) := by decide +kernel
theorem dX4_idleWeighings_27 : decode cX4_idleWeighings 27 = .ok (.iload_n 2, 1) := by decide +kernel
theorem dX4_idleWeighings_28 : decode cX4_idleWeighings 28 = .ok (.if_icmp .ne 6, 3) := by decide +kernel
theorem dX4_idleWeighings_31 : decode cX4_idleWeighings 31 = .ok (.iinc 1 1, 3) := by decide +kernel
theorem dX4_idleWeighings_34 : decode cX4_idleWeighings 34 = .ok (.iload 4, 2) := by decide +kernel
theorem dX4_idleWeighings_36 : decode cX4_idleWeighings 36 = .ok (.istore_n 2, 1) := by decide +kernel
theorem dX4_idleWeighings_37 : decode cX4_idleWeighings 37 = .ok (.iinc 3 1, 3) := by decide +kernel
theorem dX4_idleWeighings_40 : decode cX4_idleWeighings 40 = .ok (.goto (-31), 3) := by decide +kernel
theorem dX4_idleWeighings_43 : decode cX4_idleWeighings 43 = .ok (.iload_n 1, 1) := by decide +kernel
theorem dX4_idleWeighings_44 : decode cX4_idleWeighings 44 = .ok (.ireturn, 1) := by decide +kernel
theorem dX4_foresee_0 : decode cX4_foresee 0 = .ok (.aload_n 0, 1) := by decide +kernel
theorem dX4_foresee_1 : decode cX4_foresee 1 = .ok (.iload_n 1, 1) := by decide +kernel
theorem dX4_foresee_2 : decode cX4_foresee 2 = .ok (.iload_n 2, 1) := by decide +kernel
theorem dX4_foresee_3 : decode cX4_foresee 3 = .ok (.aload_n 0, 1) := by decide +kernel
theorem dX4_foresee_4 : decode cX4_foresee 4 = .ok (.getfield 33, 3) := by decide +kernel
theorem dX4_foresee_7 : decode cX4_foresee 7 = .ok (.aload_n 0, 1) := by decide +kernel
theorem dX4_foresee_8 : decode cX4_foresee 8 = .ok (.getfield 37, 3) := by decide +kernel
theorem dX4_foresee_11 : decode cX4_foresee 11 = .ok (.aload_n 3, 1) := by decide +kernel
theorem dX4_foresee_12 : decode cX4_foresee 12 = .ok (.invokevirtual 109, 3) := by decide +kernel
theorem dX4_foresee_15 : decode cX4_foresee 15 = .ok (.return_, 1) := by decide +kernel
theorem dX4_foreseeWith_0 : decode cX4_foreseeWith 0 = .ok (.aload_n 0, 1) := by decide +kernel
theorem dX4_foreseeWith_1 : decode cX4_foreseeWith 1 = .ok (.getfield 25, 3) := by decide +kernel
theorem dX4_foreseeWith_4 : decode cX4_foreseeWith 4 = .ok (.iload_n 1, 1) := by decide +kernel
theorem dX4_foreseeWith_5 : decode cX4_foreseeWith 5 = .ok (.iload_n 2, 1) := by decide +kernel
theorem dX4_foreseeWith_6 : decode cX4_foreseeWith 6 = .ok (.iload_n 3, 1) := by decide +kernel
theorem dX4_foreseeWith_7 : decode cX4_foreseeWith 7 = .ok (.iload 4, 2) := by decide +kernel
theorem dX4_foreseeWith_9 : decode cX4_foreseeWith 9 = .ok (.invokevirtual 79, 3) := by decide +kernel
theorem dX4_foreseeWith_12 : decode cX4_foreseeWith 12 = .ok (.aload_n 0, 1) := by decide +kernel
theorem dX4_foreseeWith_13 : decode cX4_foreseeWith 13 = .ok (.getfield 18, 3) := by decide +kernel
theorem dX4_foreseeWith_16 : decode cX4_foreseeWith 16 = .ok (.aload_n 0, 1) := by decide +kernel
theorem dX4_foreseeWith_17 : decode cX4_foreseeWith 17 = .ok (.getfield 25, 3) := by decide +kernel
theorem dX4_foreseeWith_20 : decode cX4_foreseeWith 20 = .ok (.aload 5, 2) := by decide +kernel
theorem dX4_foreseeWith_22 : decode cX4_foreseeWith 22 = .ok (.invokevirtual 113, 3) := by decide +kernel
theorem dX4_foreseeWith_25 : decode cX4_foreseeWith 25 = .ok (.return_, 1) := by decide +kernel
theorem dX4_kept_0 : decode cX4_kept 0 = .ok (.bipush 6, 2) := by decide +kernel
theorem dX4_kept_2 : decode cX4_kept 2 = .ok (.iload_n 1, 1) := by decide +kernel
theorem dX4_kept_3 : decode cX4_kept 3 = .ok (.imul, 1) := by decide +kernel
theorem dX4_kept_4 : decode cX4_kept 4 = .ok (.iload_n 2, 1) := by decide +kernel
theorem dX4_kept_5 : decode cX4_kept 5 = .ok (.iadd, 1) := by decide +kernel
theorem dX4_kept_6 : decode cX4_kept 6 = .ok (.istore_n 3, 1) := by decide +kernel
theorem dX4_kept_7 : decode cX4_kept 7 = .ok (.iload_n 3, 1) := by decide +kernel
theorem dX4_kept_8 : decode cX4_kept 8 = .ok (.ifCond .lt 21, 3) := by decide +kernel
theorem dX4_kept_11 : decode cX4_kept 11 = .ok (.iload_n 3, 1) := by decide +kernel
theorem dX4_kept_12 : decode cX4_kept 12 = .ok (.aload_n 0, 1) := by decide +kernel
theorem dX4_kept_13 : decode cX4_kept 13 = .ok (.getfield 9, 3) := by decide +kernel
theorem dX4_kept_16 : decode cX4_kept 16 = .ok (.arraylength, 1) := by decide +kernel
theorem dX4_kept_17 : decode cX4_kept 17 = .ok (.if_icmp .ge 12, 3) := by decide +kernel
theorem dX4_kept_20 : decode cX4_kept 20 = .ok (.aload_n 0, 1) := by decide +kernel
theorem dX4_kept_21 : decode cX4_kept 21 = .ok (.getfield 9, 3) := by decide +kernel
theorem dX4_kept_24 : decode cX4_kept 24 = .ok (.iload_n 3, 1) := by decide +kernel
theorem dX4_kept_25 : decode cX4_kept 25 = .ok (.iaload, 1) := by decide +kernel
theorem dX4_kept_26 : decode cX4_kept 26 = .ok (.goto 4, 3) := by decide +kernel
theorem dX4_kept_29 : decode cX4_kept 29 = .ok (.iconst 0, 1) := by decide +kernel
theorem dX4_kept_30 : decode cX4_kept 30 = .ok (.ireturn, 1) := by decide +kernel
theorem dX4_write_0 : decode cX4_write 0 = .ok (.bipush 6, 2) := by decide +kernel
theorem dX4_write_2 : decode cX4_write 2 = .ok (.iload_n 1, 1) := by decide +kernel
theorem dX4_write_3 : decode cX4_write 3 = .ok (.imul, 1) := by decide +kernel
theorem dX4_write_4 : decode cX4_write 4 = .ok (.iload_n 2, 1) := by decide +kernel
theorem dX4_write_5 : decode cX4_write 5 = .ok (.iadd, 1) := by decide +kernel
theorem dX4_write_6 : decode cX4_write 6 = .ok (.istore 4, 2) := by decide +kernel
theorem dX4_write_8 : decode cX4_write 8 = .ok (.iload 4, 2) := by decide +kernel
theorem dX4_write_10 : decode cX4_write 10 = .ok (.ifCond .lt 21, 3) := by decide +kernel
theorem dX4_write_13 : decode cX4_write 13 = .ok (.iload 4, 2) := by decide +kernel
theorem dX4_write_15 : decode cX4_write 15 = .ok (.aload_n 0, 1) := by decide +kernel
theorem dX4_write_16 : decode cX4_write 16 = .ok (.getfield 9, 3) := by decide +kernel
theorem dX4_write_19 : decode cX4_write 19 = .ok (.arraylength, 1) := by decide +kernel
theorem dX4_write_20 : decode cX4_write 20 = .ok (.if_icmp .ge 11, 3) := by decide +kernel
theorem dX4_write_23 : decode cX4_write 23 = .ok (.aload_n 0, 1) := by decide +kernel
theorem dX4_write_24 : decode cX4_write 24 = .ok (.getfield 9, 3) := by decide +kernel
theorem dX4_write_27 : decode cX4_write 27 = .ok (.iload 4, 2) := by decide +kernel
theorem dX4_write_29 : decode cX4_write 29 = .ok (.iload_n 3, 1) := by decide +kernel
theorem dX4_write_30 : decode cX4_write 30 = .ok (.iastore, 1) := by decide +kernel
theorem dX4_write_31 : decode cX4_write 31 = .ok (.return_, 1) := by decide +kernel
theorem dX5_init_0 : decode cX5_init 0 = .ok (.aload_n 0, 1) := by decide +kernel
theorem dX5_init_1 : decode cX5_init 1 = .ok (.invokespecial 1, 3) := by decide +kernel
theorem dX5_init_4 : decode cX5_init 4 = .ok (.return_, 1) := by decide +kernel
theorem dX5_clear_0 : decode cX5_clear 0 = .ok (.aload_n 0, 1) := by decide +kernel
theorem dX5_clear_1 : decode cX5_clear 1 = .ok (.iconst 0, 1) := by decide +kernel
theorem dX5_clear_2 : decode cX5_clear 2 = .ok (.putfield 7, 3) := by decide +kernel
theorem dX5_clear_5 : decode cX5_clear 5 = .ok (.aload_n 0, 1) := by decide +kernel
theorem dX5_clear_6 : decode cX5_clear 6 = .ok (.iconst 0, 1) := by decide +kernel
theorem dX5_clear_7 : decode cX5_clear 7 = .ok (.putfield 13, 3) := by decide +kernel
theorem dX5_clear_10 : decode cX5_clear 10 = .ok (.aload_n 0, 1) := by decide +kernel
theorem dX5_clear_11 : decode cX5_clear 11 = .ok (.iconst 0, 1) := by decide +kernel
theorem dX5_clear_12 : decode cX5_clear 12 = .ok (.putfield 16, 3) := by decide +kernel
theorem dX5_clear_15 : decode cX5_clear 15 = .ok (.return_, 1) := by decide +kernel
theorem dX5_add_0 : decode cX5_add 0 = .ok (.iload_n 1, 1) := by decide +kernel
theorem dX5_add_1 : decode cX5_add 1 = .ok (.ifCond .ne 16, 3) := by decide +kernel
theorem dX5_add_4 : decode cX5_add 4 = .ok (.aload_n 0, 1) := by decide +kernel
theorem dX5_add_5 : decode cX5_add 5 = .ok (.dup, 1) := by decide +kernel
theorem dX5_add_6 : decode cX5_add 6 = .ok (.getfield 7, 3) := by decide +kernel
theorem dX5_add_9 : decode cX5_add 9 = .ok (.iload_n 2, 1) := by decide +kernel
theorem dX5_add_10 : decode cX5_add 10 = .ok (.iadd, 1) := by decide +kernel
theorem dX5_add_11 : decode cX5_add 11 = .ok (.putfield 7, 3) := by decide +kernel
theorem dX5_add_14 : decode cX5_add 14 = .ok (.goto 31, 3) := by decide +kernel
theorem dX5_add_17 : decode cX5_add 17 = .ok (.iload_n 1, 1) := by decide +kernel
theorem dX5_add_18 : decode cX5_add 18 = .ok (.iconst 1, 1) := by decide +kernel
theorem dX5_add_19 : decode cX5_add 19 = .ok (.if_icmp .ne 16, 3) := by decide +kernel
theorem dX5_add_22 : decode cX5_add 22 = .ok (.aload_n 0, 1) := by decide +kernel
theorem dX5_add_23 : decode cX5_add 23 = .ok (.dup, 1) := by decide +kernel
theorem dX5_add_24 : decode cX5_add 24 = .ok (.getfield 13, 3) := by decide +kernel
theorem dX5_add_27 : decode cX5_add 27 = .ok (.iload_n 2, 1) := by decide +kernel
theorem dX5_add_28 : decode cX5_add 28 = .ok (.iadd, 1) := by decide +kernel
theorem dX5_add_29 : decode cX5_add 29 = .ok (.putfield 13, 3) := by decide +kernel
theorem dX5_add_32 : decode cX5_add 32 = .ok (.goto 13, 3) := by decide +kernel
theorem dX5_add_35 : decode cX5_add 35 = .ok (.aload_n 0, 1) := by decide +kernel
theorem dX5_add_36 : decode cX5_add 36 = .ok (.dup, 1) := by decide +kernel
theorem dX5_add_37 : decode cX5_add 37 = .ok (.getfield 16, 3) := by decide +kernel
theorem dX5_add_40 : decode cX5_add 40 = .ok (.iload_n 2, 1) := by decide +kernel
theorem dX5_add_41 : decode cX5_add 41 = .ok (.iadd, 1) := by decide +kernel
theorem dX5_add_42 : decode cX5_add 42 = .ok (.putfield 16, 3) := by decide +kernel
theorem dX5_add_45 : decode cX5_add 45 = .ok (.return_, 1) := by decide +kernel
theorem dX5_of_0 : decode cX5_of 0 = .ok (.iload_n 1, 1) := by decide +kernel
theorem dX5_of_1 : decode cX5_of 1 = .ok (.ifCond .ne 10, 3) := by decide +kernel
theorem dX5_of_4 : decode cX5_of 4 = .ok (.aload_n 0, 1) := by decide +kernel
theorem dX5_of_5 : decode cX5_of 5 = .ok (.getfield 7, 3) := by decide +kernel
theorem dX5_of_8 : decode cX5_of 8 = .ok (.goto 19, 3) := by decide +kernel
theorem dX5_of_11 : decode cX5_of 11 = .ok (.iload_n 1, 1) := by decide +kernel
theorem dX5_of_12 : decode cX5_of 12 = .ok (.iconst 1, 1) := by decide +kernel
theorem dX5_of_13 : decode cX5_of 13 = .ok (.if_icmp .ne 10, 3) := by decide +kernel
theorem dX5_of_16 : decode cX5_of 16 = .ok (.aload_n 0, 1) := by decide +kernel
theorem dX5_of_17 : decode cX5_of 17 = .ok (.getfield 13, 3) := by decide +kernel
theorem dX5_of_20 : decode cX5_of 20 = .ok (.goto 7, 3) := by decide +kernel
theorem dX5_of_23 : decode cX5_of 23 = .ok (.aload_n 0, 1) := by decide +kernel
theorem dX5_of_24 : decode cX5_of 24 = .ok (.getfield 16, 3) := by decide +kernel
theorem dX5_of_27 : decode cX5_of 27 = .ok (.ireturn, 1) := by decide +kernel
theorem dX5_worst_0 : decode cX5_worst 0 = .ok (.aload_n 0, 1) := by decide +kernel
theorem dX5_worst_1 : decode cX5_worst 1 = .ok (.getfield 7, 3) := by decide +kernel
theorem dX5_worst_4 : decode cX5_worst 4 = .ok (.aload_n 0, 1) := by decide +kernel
theorem dX5_worst_5 : decode cX5_worst 5 = .ok (.getfield 13, 3) := by decide +kernel
theorem dX5_worst_8 : decode cX5_worst 8 = .ok (.aload_n 0, 1) := by decide +kernel
theorem dX5_worst_9 : decode cX5_worst 9 = .ok (.getfield 16, 3) := by decide +kernel
theorem dX5_worst_12 : decode cX5_worst 12 = .ok (.invokestatic 19, 3) := by decide +kernel
theorem dX5_worst_15 : decode cX5_worst 15 = .ok (.invokestatic 19, 3) := by decide +kernel
theorem dX5_worst_18 : decode cX5_worst 18 = .ok (.ireturn, 1) := by decide +kernel
theorem dX5_unlikePairs_0 : decode cX5_unlikePairs 0 = .ok (.aload_n 0, 1) := by decide +kernel
theorem dX5_unlikePairs_1 : decode cX5_unlikePairs 1 = .ok (.getfield 7, 3) := by decide +kernel
theorem dX5_unlikePairs_4 : decode cX5_unlikePairs 4 = .ok (.aload_n 0, 1) := by decide +kernel
theorem dX5_unlikePairs_5 : decode cX5_unlikePairs 5 = .ok (.getfield 13, 3) := by decide +kernel
theorem dX5_unlikePairs_8 : decode cX5_unlikePairs 8 = .ok (.imul, 1) := by decide +kernel
theorem dX5_unlikePairs_9 : decode cX5_unlikePairs 9 = .ok (.aload_n 0, 1) := by decide +kernel
theorem dX5_unlikePairs_10 : decode cX5_unlikePairs 10 = .ok (.getfield 7, 3) := by decide +kernel
theorem dX5_unlikePairs_13 : decode cX5_unlikePairs 13 = .ok (.aload_n 0, 1) := by decide +kernel
theorem dX5_unlikePairs_14 : decode cX5_unlikePairs 14 = .ok (.getfield 16, 3) := by decide +kernel
theorem dX5_unlikePairs_17 : decode cX5_unlikePairs 17 = .ok (.imul, 1) := by decide +kernel
theorem dX5_unlikePairs_18 : decode cX5_unlikePairs 18 = .ok (.iadd, 1) := by decide +kernel
theorem dX5_unlikePairs_19 : decode cX5_unlikePairs 19 = .ok (.aload_n 0, 1) := by decide +kernel
theorem dX5_unlikePairs_20 : decode cX5_unlikePairs 20 = .ok (.getfield 13, 3) := by decide +kernel
theorem dX5_unlikePairs_23 : decode cX5_unlikePairs 23 = .ok (.aload_n 0, 1) := by decide +kernel
theorem dX5_unlikePairs_24 : decode cX5_unlikePairs 24 = .ok (.getfield 16, 3) := by decide +kernel
theorem dX5_unlikePairs_27 : decode cX5_unlikePairs 27 = .ok (.imul, 1) := by decide +kernel
theorem dX5_unlikePairs_28 : decode cX5_unlikePairs 28 = .ok (.iadd, 1) := by decide +kernel
theorem dX5_unlikePairs_29 : decode cX5_unlikePairs 29 = .ok (.ireturn, 1) := by decide +kernel
theorem dX6_init_0 : decode cX6_init 0 = .ok (.aload_n 0, 1) := by decide +kernel
theorem dX6_init_1 : decode cX6_init 1 = .ok (.invokespecial 3, 3) := by decide +kernel
theorem dX6_init_4 : decode cX6_init 4 = .ok (.aload_n 0, 1) := by decide +kernel
theorem dX6_init_5 : decode cX6_init 5 = .ok (.bipush 120, 2) := by decide +kernel
theorem dX6_init_7 : decode cX6_init 7 = .ok (.newarray .char, 2) := by decide +kernel
theorem dX6_init_9 : decode cX6_init 9 = .ok (.putfield 9, 3) := by decide +kernel
theorem dX6_init_12 : decode cX6_init 12 = .ok (.return_, 1) := by decide +kernel
theorem dX6_add_0 : decode cX6_add 0 = .ok (.aload_n 0, 1) := by decide +kernel
theorem dX6_add_1 : decode cX6_add 1 = .ok (.getfield 15, 3) := by decide +kernel
theorem dX6_add_4 : decode cX6_add 4 = .ok (.ifCond .lt 35, 3) := by decide +kernel
theorem dX6_add_7 : decode cX6_add 7 = .ok (.aload_n 0, 1) := by decide +kernel
theorem dX6_add_8 : decode cX6_add 8 = .ok (.getfield 15, 3) := by decide +kernel
theorem dX6_add_11 : decode cX6_add 11 = .ok (.aload_n 0, 1) := by decide +kernel
theorem dX6_add_12 : decode cX6_add 12 = .ok (.getfield 9, 3) := by decide +kernel
theorem dX6_add_15 : decode cX6_add 15 = .ok (.arraylength, 1) := by decide +kernel
theorem dX6_add_16 : decode cX6_add 16 = .ok (.if_icmp .ge 23, 3) := by decide +kernel
theorem dX6_add_19 : decode cX6_add 19 = .ok (.aload_n 0, 1) := by decide +kernel
theorem dX6_add_20 : decode cX6_add 20 = .ok (.getfield 9, 3) := by decide +kernel
theorem dX6_add_23 : decode cX6_add 23 = .ok (.aload_n 0, 1) := by decide +kernel
theorem dX6_add_24 : decode cX6_add 24 = .ok (.getfield 15, 3) := by decide +kernel
theorem dX6_add_27 : decode cX6_add 27 = .ok (.iload_n 1, 1) := by decide +kernel
theorem dX6_add_28 : decode cX6_add 28 = .ok (.castore, 1) := by decide +kernel
theorem dX6_add_29 : decode cX6_add 29 = .ok (.aload_n 0, 1) := by decide +kernel
theorem dX6_add_30 : decode cX6_add 30 = .ok (.dup, 1) := by decide +kernel
theorem dX6_add_31 : decode cX6_add 31 = .ok (.getfield 15, 3) := by decide +kernel
theorem dX6_add_34 : decode cX6_add 34 = .ok (.iconst 1, 1) := by decide +kernel
theorem dX6_add_35 : decode cX6_add 35 = .ok (.iadd, 1) := by decide +kernel
theorem dX6_add_36 : decode cX6_add 36 = .ok (.putfield 15, 3) := by decide +kernel
theorem dX6_add_39 : decode cX6_add 39 = .ok (.return_, 1) := by decide +kernel
theorem dX6_hasMore_0 : decode cX6_hasMore 0 = .ok (.aload_n 0, 1) := by decide +kernel
theorem dX6_hasMore_1 : decode cX6_hasMore 1 = .ok (.getfield 19, 3) := by decide +kernel
theorem dX6_hasMore_4 : decode cX6_hasMore 4 = .ok (.ifCond .ne 18, 3) := by decide +kernel
theorem dX6_hasMore_7 : decode cX6_hasMore 7 = .ok (.aload_n 0, 1) := by decide +kernel
theorem dX6_hasMore_8 : decode cX6_hasMore 8 = .ok (.getfield 23, 3) := by decide +kernel
theorem dX6_hasMore_11 : decode cX6_hasMore 11 = .ok (.aload_n 0, 1) := by decide +kernel
theorem dX6_hasMore_12 : decode cX6_hasMore 12 = .ok (.getfield 15, 3) := by decide +kernel
theorem dX6_hasMore_15 : decode cX6_hasMore 15 = .ok (.if_icmp .ge 7, 3) := by decide +kernel
theorem dX6_hasMore_18 : decode cX6_hasMore 18 = .ok (.iconst 1, 1) := by decide +kernel
theorem dX6_hasMore_19 : decode cX6_hasMore 19 = .ok (.goto 4, 3) := by decide +kernel
theorem dX6_hasMore_22 : decode cX6_hasMore 22 = .ok (.iconst 0, 1) := by decide +kernel
theorem dX6_hasMore_23 : decode cX6_hasMore 23 = .ok (.ireturn, 1) := by decide +kernel
theorem dX6_readHead_0 : decode cX6_readHead 0 = .ok (.aload_n 0, 1) := by decide +kernel
theorem dX6_readHead_1 : decode cX6_readHead 1 = .ok (.iconst 0, 1) := by decide +kernel
theorem dX6_readHead_2 : decode cX6_readHead 2 = .ok (.putfield 23, 3) := by decide +kernel
theorem dX6_readHead_5 : decode cX6_readHead 5 = .ok (.aload_n 0, 1) := by decide +kernel
theorem dX6_readHead_6 : decode cX6_readHead 6 = .ok (.iconst 0, 1) := by decide +kernel
theorem dX6_readHead_7 : decode cX6_readHead 7 = .ok (.putfield 19, 3) := by decide +kernel
theorem dX6_readHead_10 : decode cX6_readHead 10 = .ok (.aload_n 0, 1) := by decide +kernel
theorem dX6_readHead_11 : decode cX6_readHead 11 = .ok (.ldc 26, 2) := by decide +kernel
theorem dX6_readHead_13 : decode cX6_readHead 13 = .ok (.invokevirtual 28, 3) := by decide +kernel
theorem dX6_readHead_16 : decode cX6_readHead 16 = .ok (.pop, 1) := by decide +kernel
theorem dX6_readHead_17 : decode cX6_readHead 17 = .ok (.aload_n 0, 1) := by decide +kernel
theorem dX6_readHead_18 : decode cX6_readHead 18 = .ok (.aload_n 0, 1) := by decide +kernel
theorem dX6_readHead_19 : decode cX6_readHead 19 = .ok (.iconst 3, 1) := by decide +kernel
theorem dX6_readHead_20 : decode cX6_readHead 20 = .ok (.bipush 12, 2) := by decide +kernel
theorem dX6_readHead_22 : decode cX6_readHead 22 = .ok (.invokevirtual 32, 3) := by decide +kernel
theorem dX6_readHead_25 : decode cX6_readHead 25 = .ok (.putfield 36, 3) := by decide +kernel
theorem dX6_readHead_28 : decode cX6_readHead 28 = .ok (.aload_n 0, 1) := by decide +kernel
theorem dX6_readHead_29 : decode cX6_readHead 29 = .ok (.iconst 0, 1) := by decide +kernel
theorem dX6_readHead_30 : decode cX6_readHead 30 = .ok (.bipush 11, 2) := by decide +kernel
theorem dX6_readHead_32 : decode cX6_readHead 32 = .ok (.invokevirtual 32, 3) := by decide +kernel
theorem dX6_readHead_35 : decode cX6_readHead 35 = .ok (.istore_n 1, 1) := by decide +kernel
theorem dX6_readHead_36 : decode cX6_readHead 36 = .ok (.aload_n 0, 1) := by decide +kernel
theorem dX6_readHead_37 : decode cX6_readHead 37 = .ok (.ldc 39, 2) := by decide +kernel
theorem dX6_readHead_39 : decode cX6_readHead 39 = .ok (.invokevirtual 28, 3) := by decide +kernel
theorem dX6_readHead_42 : decode cX6_readHead 42 = .ok (.istore_n 2, 1) := by decide +kernel
theorem dX6_readHead_43 : decode cX6_readHead 43 = .ok (.aload_n 0, 1) := by decide +kernel
theorem dX6_readHead_44 : decode cX6_readHead 44 = .ok (.iconst 0, 1) := by decide +kernel
theorem dX6_readHead_45 : decode cX6_readHead 45 = .ok (.iconst 2, 1) := by decide +kernel
theorem dX6_readHead_46 : decode cX6_readHead 46 = .ok (.invokevirtual 41, 3) := by decide +kernel
theorem dX6_readHead_49 : decode cX6_readHead 49 = .ok (.istore_n 3, 1) := by decide +kernel
theorem dX6_readHead_50 : decode cX6_readHead 50 = .ok (.iload_n 2, 1) := by decide +kernel
theorem dX6_readHead_51 : decode cX6_readHead 51 = .ok (.iconst 2, 1) := by decide +kernel
theorem dX6_readHead_52 : decode cX6_readHead 52 = .ok (.if_icmp .eq 11, 3) := by decide +kernel
theorem dX6_readHead_55 : decode cX6_readHead 55 = .ok (.iload_n 1, 1) := by decide +kernel
theorem dX6_readHead_56 : decode cX6_readHead 56 = .ok (.aload_n 0, 1) := by decide +kernel
theorem dX6_readHead_57 : decode cX6_readHead 57 = .ok (.getfield 36, 3) := by decide +kernel
theorem dX6_readHead_60 : decode cX6_readHead 60 = .ok (.if_icmp .lt 7, 3) := by decide +kernel
theorem dX6_readHead_63 : decode cX6_readHead 63 = .ok (.iconst 1, 1) := by decide +kernel
theorem dX6_readHead_64 : decode cX6_readHead 64 = .ok (.goto 4, 3) := by decide +kernel
theorem dX6_readHead_67 : decode cX6_readHead 67 = .ok (.iconst 0, 1) := by decide +kernel
theorem dX6_readHead_68 : decode cX6_readHead 68 = .ok (.istore 4, 2) := by decide +kernel
theorem dX6_readHead_70 : decode cX6_readHead 70 = .ok (.aload_n 0, 1) := by decide +kernel
theorem dX6_readHead_71 : decode cX6_readHead 71 = .ok (.iconst 3, 1) := by decide +kernel
theorem dX6_readHead_72 : decode cX6_readHead 72 = .ok (.iload 4, 2) := by decide +kernel
theorem dX6_readHead_74 : decode cX6_readHead 74 = .ok (.ifCond .eq 12, 3) := by decide +kernel
theorem dX6_readHead_77 : decode cX6_readHead 77 = .ok (.iconst 2, 1) := by decide +kernel
theorem dX6_readHead_78 : decode cX6_readHead 78 = .ok (.aload_n 0, 1) := by decide +kernel
theorem dX6_readHead_79 : decode cX6_readHead 79 = .ok (.getfield 36, 3) := by decide +kernel
theorem dX6_readHead_82 : decode cX6_readHead 82 = .ok (.imul, 1) := by decide +kernel
theorem dX6_readHead_83 : decode cX6_readHead 83 = .ok (.goto 8, 3) := by decide +kernel
theorem dX6_readHead_86 : decode cX6_readHead 86 = .ok (.iconst 2, 1) := by decide +kernel
theorem dX6_readHead_87 : decode cX6_readHead 87 = .ok (.iload_n 1, 1) := by decide +kernel
theorem dX6_readHead_88 : decode cX6_readHead 88 = .ok (.imul, 1) := by decide +kernel
theorem dX6_readHead_89 : decode cX6_readHead 89 = .ok (.iload_n 2, 1) := by decide +kernel
theorem dX6_readHead_90 : decode cX6_readHead 90 = .ok (.iadd, 1) := by decide +kernel
theorem dX6_readHead_91 : decode cX6_readHead 91 = .ok (.imul, 1) := by decide +kernel
theorem dX6_readHead_92 : decode cX6_readHead 92 = .ok (.iload_n 3, 1) := by decide +kernel
theorem dX6_readHead_93 : decode cX6_readHead 93 = .ok (.iadd, 1) := by decide +kernel
theorem dX6_readHead_94 : decode cX6_readHead 94 = .ok (.putfield 44, 3) := by decide +kernel
theorem dX6_readHead_97 : decode cX6_readHead 97 = .ok (.return_, 1) := by decide +kernel
theorem dX6_readCommand_0 : decode cX6_readCommand 0 = .ok (.aload_n 0, 1) := by decide +kernel
theorem dX6_readCommand_1 : decode cX6_readCommand 1 = .ok (.aload_n 0, 1) := by decide +kernel
theorem dX6_readCommand_2 : decode cX6_readCommand 2 = .ok (.ldc 47, 2) := by decide +kernel
theorem dX6_readCommand_4 : decode cX6_readCommand 4 = .ok (.invokevirtual 28, 3) := by decide +kernel
theorem dX6_readCommand_7 : decode cX6_readCommand 7 = .ok (.putfield 49, 3) := by decide +kernel
theorem dX6_readCommand_10 : decode cX6_readCommand 10 = .ok (.aload_n 0, 1) := by decide +kernel
theorem dX6_readCommand_11 : decode cX6_readCommand 11 = .ok (.getfield 49, 3) := by decide +kernel
theorem dX6_readCommand_14 : decode cX6_readCommand 14 = .ok (.ifCond .ne 36, 3) := by decide +kernel
theorem dX6_readCommand_17 : decode cX6_readCommand 17 = .ok (.aload_n 0, 1) := by decide +kernel
theorem dX6_readCommand_18 : decode cX6_readCommand 18 = .ok (.aload_n 0, 1) := by decide +kernel
theorem dX6_readCommand_19 : decode cX6_readCommand 19 = .ok (.invokevirtual 52, 3) := by decide +kernel
theorem dX6_readCommand_22 : decode cX6_readCommand 22 = .ok (.putfield 56, 3) := by decide +kernel
theorem dX6_readCommand_25 : decode cX6_readCommand 25 = .ok (.aload_n 0, 1) := by decide +kernel
theorem dX6_readCommand_26 : decode cX6_readCommand 26 = .ok (.ldc 59, 2) := by decide +kernel
theorem dX6_readCommand_28 : decode cX6_readCommand 28 = .ok (.invokevirtual 28, 3) := by decide +kernel
theorem dX6_readCommand_31 : decode cX6_readCommand 31 = .ok (.pop, 1) := by decide +kernel
theorem dX6_readCommand_32 : decode cX6_readCommand 32 = .ok (.aload_n 0, 1) := by decide +kernel
theorem dX6_readCommand_33 : decode cX6_readCommand 33 = .ok (.aload_n 0, 1) := by decide +kernel
theorem dX6_readCommand_34 : decode cX6_readCommand 34 = .ok (.invokevirtual 52, 3) := by decide +kernel
theorem dX6_readCommand_37 : decode cX6_readCommand 37 = .ok (.putfield 61, 3) := by decide +kernel
theorem dX6_readCommand_40 : decode cX6_readCommand 40 = .ok (.aload_n 0, 1) := by decide +kernel
theorem dX6_readCommand_41 : decode cX6_readCommand 41 = .ok (.ldc 64, 2) := by decide +kernel
theorem dX6_readCommand_43 : decode cX6_readCommand 43 = .ok (.invokevirtual 28, 3) := by decide +kernel
theorem dX6_readCommand_46 : decode cX6_readCommand 46 = .ok (.pop, 1) := by decide +kernel
theorem dX6_readCommand_47 : decode cX6_readCommand 47 = .ok (.goto 25, 3) := by decide +kernel
theorem dX6_readCommand_50 : decode cX6_readCommand 50 = .ok (.aload_n 0, 1) := by decide +kernel
theorem dX6_readCommand_51 : decode cX6_readCommand 51 = .ok (.aload_n 0, 1) := by decide +kernel
theorem dX6_readCommand_52 : decode cX6_readCommand 52 = .ok (.iconst 1, 1) := by decide +kernel
theorem dX6_readCommand_53 : decode cX6_readCommand 53 = .ok (.bipush 20, 2) := by decide +kernel
theorem dX6_readCommand_55 : decode cX6_readCommand 55 = .ok (.invokevirtual 32, 3) := by decide +kernel
theorem dX6_readCommand_58 : decode cX6_readCommand 58 = .ok (.putfield 56, 3) := by decide +kernel
theorem dX6_readCommand_61 : decode cX6_readCommand 61 = .ok (.aload_n 0, 1) := by decide +kernel
theorem dX6_readCommand_62 : decode cX6_readCommand 62 = .ok (.aload_n 0, 1) := by decide +kernel
theorem dX6_readCommand_63 : decode cX6_readCommand 63 = .ok (.iconst 1, 1) := by decide +kernel
theorem dX6_readCommand_64 : decode cX6_readCommand 64 = .ok (.bipush 20, 2) := by decide +kernel
theorem dX6_readCommand_66 : decode cX6_readCommand 66 = .ok (.invokevirtual 32, 3) := by decide +kernel
theorem dX6_readCommand_69 : decode cX6_readCommand 69 = .ok (.putfield 61, 3) := by decide +kernel
theorem dX6_readCommand_72 : decode cX6_readCommand 72 = .ok (.return_, 1) := by decide +kernel
theorem dX6_nextSign_0 : decode cX6_nextSign 0 = .ok (.aload_n 0, 1) := by decide +kernel
theorem dX6_nextSign_1 : decode cX6_nextSign 1 = .ok (.invokevirtual 66, 3) := by decide +kernel
theorem dX6_nextSign_4 : decode cX6_nextSign 4 = .ok (.ifCond .eq 34, 3) := by decide +kernel
theorem dX6_nextSign_7 : decode cX6_nextSign 7 = .ok (.aload_n 0, 1) := by decide +kernel
theorem dX6_nextSign_8 : decode cX6_nextSign 8 = .ok (.getfield 23, 3) := by decide +kernel
theorem dX6_nextSign_11 : decode cX6_nextSign 11 = .ok (.ifCond .lt 27, 3) := by decide +kernel
theorem dX6_nextSign_14 : decode cX6_nextSign 14 = .ok (.aload_n 0, 1) := by decide +kernel
theorem dX6_nextSign_15 : decode cX6_nextSign 15 = .ok (.getfield 23, 3) := by decide +kernel
theorem dX6_nextSign_18 : decode cX6_nextSign 18 = .ok (.aload_n 0, 1) := by decide +kernel
theorem dX6_nextSign_19 : decode cX6_nextSign 19 = .ok (.getfield 9, 3) := by decide +kernel
theorem dX6_nextSign_22 : decode cX6_nextSign 22 = .ok (.arraylength, 1) := by decide +kernel
theorem dX6_nextSign_23 : decode cX6_nextSign 23 = .ok (.if_icmp .ge 15, 3) := by decide +kernel
theorem dX6_nextSign_26 : decode cX6_nextSign 26 = .ok (.aload_n 0, 1) := by decide +kernel
theorem dX6_nextSign_27 : decode cX6_nextSign 27 = .ok (.getfield 9, 3) := by decide +kernel
theorem dX6_nextSign_30 : decode cX6_nextSign 30 = .ok (.aload_n 0, 1) := by decide +kernel
theorem dX6_nextSign_31 : decode cX6_nextSign 31 = .ok (.getfield 23, 3) := by decide +kernel
theorem dX6_nextSign_34 : decode cX6_nextSign 34 = .ok (.caload, 1) := by decide +kernel
theorem dX6_nextSign_35 : decode cX6_nextSign 35 = .ok (.goto 4, 3) := by decide +kernel
theorem dX6_nextSign_38 : decode cX6_nextSign 38 = .ok (.iconst (-1), 1) := by decide +kernel
theorem dX6_nextSign_39 : decode cX6_nextSign 39 = .ok (.ireturn, 1) := by decide +kernel
theorem dX6_readOneOf_0 : decode cX6_readOneOf 0 = .ok (.aload_n 0, 1) := by decide +kernel
theorem dX6_readOneOf_1 : decode cX6_readOneOf 1 = .ok (.invokevirtual 70, 3) := by decide +kernel
theorem dX6_readOneOf_4 : decode cX6_readOneOf 4 = .ok (.istore_n 2, 1) := by decide +kernel
theorem dX6_readOneOf_5 : decode cX6_readOneOf 5 = .ok (.iload_n 2, 1) := by decide +kernel
theorem dX6_readOneOf_6 : decode cX6_readOneOf 6 = .ok (.iconst (-1), 1) := by decide +kernel
theorem dX6_readOneOf_7 : decode cX6_readOneOf 7 = .ok (.if_icmp .ne 7, 3) := by decide +kernel
theorem dX6_readOneOf_10 : decode cX6_readOneOf 10 = .ok (.iconst (-1), 1) := by decide +kernel
theorem dX6_readOneOf_11 : decode cX6_readOneOf 11 = .ok (.goto 9, 3) := by decide +kernel
theorem dX6_readOneOf_14 : decode cX6_readOneOf 14 = .ok (.aload_n 1, 1) := by decide +kernel
theorem dX6_readOneOf_15 : decode cX6_readOneOf 15 = .ok (.iload_n 2, 1) := by decide +kernel
theorem dX6_readOneOf_16 : decode cX6_readOneOf 16 = .ok (.i2c, 1) := by decide +kernel
theorem dX6_readOneOf_17 : decode cX6_readOneOf 17 = .ok (.invokevirtual 73, 3) := by decide +kernel
theorem dX6_readOneOf_20 : decode cX6_readOneOf 20 = .ok (.istore_n 3, 1) := by decide +kernel
theorem dX6_readOneOf_21 : decode cX6_readOneOf 21 = .ok (.iload_n 3, 1) := by decide +kernel
theorem dX6_readOneOf_22 : decode cX6_readOneOf 22 = .ok (.ifCond .ge 10, 3) := by decide +kernel
theorem dX6_readOneOf_25 : decode cX6_readOneOf 25 = .ok (.aload_n 0, 1) := by decide +kernel
theorem dX6_readOneOf_26 : decode cX6_readOneOf 26 = .ok (.iconst 1, 1) := by decide +kernel
theorem dX6_readOneOf_27 : decode cX6_readOneOf 27 = .ok (.putfield 19, 3) := by decide +kernel
theorem dX6_readOneOf_30 : decode cX6_readOneOf 30 = .ok (.iconst 0, 1) := by decide +kernel
theorem dX6_readOneOf_31 : decode cX6_readOneOf 31 = .ok (.ireturn, 1) := by decide +kernel
theorem dX6_readOneOf_32 : decode cX6_readOneOf 32 = .ok (.aload_n 0, 1) := by decide +kernel
theorem dX6_readOneOf_33 : decode cX6_readOneOf 33 = .ok (.dup, 1) := by decide +kernel
theorem dX6_readOneOf_34 : decode cX6_readOneOf 34 = .ok (.getfield 23, 3) := by decide +kernel
theorem dX6_readOneOf_37 : decode cX6_readOneOf 37 = .ok (.iconst 1, 1) := by decide +kernel
theorem dX6_readOneOf_38 : decode cX6_readOneOf 38 = .ok (.iadd, 1) := by decide +kernel
theorem dX6_readOneOf_39 : decode cX6_readOneOf 39 = .ok (.putfield 23, 3) := by decide +kernel
theorem dX6_readOneOf_42 : decode cX6_readOneOf 42 = .ok (.iload_n 3, 1) := by decide +kernel
theorem dX6_readOneOf_43 : decode cX6_readOneOf 43 = .ok (.ireturn, 1) := by decide +kernel
theorem dX6_readDigit_0 : decode cX6_readDigit 0 = .ok (.aload_n 0, 1) := by decide +kernel
theorem dX6_readDigit_1 : decode cX6_readDigit 1 = .ok (.invokevirtual 70, 3) := by decide +kernel
theorem dX6_readDigit_4 : decode cX6_readDigit 4 = .ok (.bipush 48, 2) := by decide +kernel
theorem dX6_readDigit_6 : decode cX6_readDigit 6 = .ok (.isub, 1) := by decide +kernel
theorem dX6_readDigit_7 : decode cX6_readDigit 7 = .ok (.istore_n 3, 1) := by decide +kernel
theorem dX6_readDigit_8 : decode cX6_readDigit 8 = .ok (.iload_n 3, 1) := by decide +kernel
theorem dX6_readDigit_9 : decode cX6_readDigit 9 = .ok (.iload_n 1, 1) := by decide +kernel
theorem dX6_readDigit_10 : decode cX6_readDigit 10 = .ok (.if_icmp .lt 8, 3) := by decide +kernel
theorem dX6_readDigit_13 : decode cX6_readDigit 13 = .ok (.iload_n 3, 1) := by decide +kernel
theorem dX6_readDigit_14 : decode cX6_readDigit 14 = .ok (.iload_n 2, 1) := by decide +kernel
theorem dX6_readDigit_15 : decode cX6_readDigit 15 = .ok (.if_icmp .le 10, 3) := by decide +kernel
theorem dX6_readDigit_18 : decode cX6_readDigit 18 = .ok (.aload_n 0, 1) := by decide +kernel
theorem dX6_readDigit_19 : decode cX6_readDigit 19 = .ok (.iconst 1, 1) := by decide +kernel
theorem dX6_readDigit_20 : decode cX6_readDigit 20 = .ok (.putfield 19, 3) := by decide +kernel
theorem dX6_readDigit_23 : decode cX6_readDigit 23 = .ok (.iload_n 1, 1) := by decide +kernel
theorem dX6_readDigit_24 : decode cX6_readDigit 24 = .ok (.ireturn, 1) := by decide +kernel
theorem dX6_readDigit_25 : decode cX6_readDigit 25 = .ok (.aload_n 0, 1) := by decide +kernel
theorem dX6_readDigit_26 : decode cX6_readDigit 26 = .ok (.dup, 1) := by decide +kernel
theorem dX6_readDigit_27 : decode cX6_readDigit 27 = .ok (.getfield 23, 3) := by decide +kernel
theorem dX6_readDigit_30 : decode cX6_readDigit 30 = .ok (.iconst 1, 1) := by decide +kernel
theorem dX6_readDigit_31 : decode cX6_readDigit 31 = .ok (.iadd, 1) := by decide +kernel
theorem dX6_readDigit_32 : decode cX6_readDigit 32 = .ok (.putfield 23, 3) := by decide +kernel
theorem dX6_readDigit_35 : decode cX6_readDigit 35 = .ok (.iload_n 3, 1) := by decide +kernel
theorem dX6_readDigit_36 : decode cX6_readDigit 36 = .ok (.ireturn, 1) := by decide +kernel
theorem dX6_readNumber_0 : decode cX6_readNumber 0 = .ok (.aload_n 0, 1) := by decide +kernel
theorem dX6_readNumber_1 : decode cX6_readNumber 1 = .ok (.iload_n 1, 1) := by decide +kernel
theorem dX6_readNumber_2 : decode cX6_readNumber 2 = .ok (.bipush 10, 2) := by decide +kernel
theorem dX6_readNumber_4 : decode cX6_readNumber 4 = .ok (.idiv, 1) := by decide +kernel
theorem dX6_readNumber_5 : decode cX6_readNumber 5 = .ok (.iload_n 2, 1) := by decide +kernel
theorem dX6_readNumber_6 : decode cX6_readNumber 6 = .ok (.bipush 10, 2) := by decide +kernel
theorem dX6_readNumber_8 : decode cX6_readNumber 8 = .ok (.idiv, 1) := by decide +kernel
theorem dX6_readNumber_9 : decode cX6_readNumber 9 = .ok (.invokevirtual 41, 3) := by decide +kernel
theorem dX6_readNumber_12 : decode cX6_readNumber 12 = .ok (.istore_n 3, 1) := by decide +kernel
theorem dX6_readNumber_13 : decode cX6_readNumber 13 = .ok (.aload_n 0, 1) := by decide +kernel
theorem dX6_readNumber_14 : decode cX6_readNumber 14 = .ok (.iconst 0, 1) := by decide +kernel
theorem dX6_readNumber_15 : decode cX6_readNumber 15 = .ok (.iload_n 1, 1) := by decide +kernel
theorem dX6_readNumber_16 : decode cX6_readNumber 16 = .ok (.bipush 10, 2) := by decide +kernel
theorem dX6_readNumber_18 : decode cX6_readNumber 18 = .ok (.iload_n 3, 1) := by decide +kernel
theorem dX6_readNumber_19 : decode cX6_readNumber 19 = .ok (.imul, 1) := by decide +kernel
theorem dX6_readNumber_20 : decode cX6_readNumber 20 = .ok (.isub, 1) := by decide +kernel
theorem dX6_readNumber_21 : decode cX6_readNumber 21 = .ok (.invokestatic 79, 3) := by decide +kernel
theorem dX6_readNumber_24 : decode cX6_readNumber 24 = .ok (.bipush 9, 2) := by decide +kernel
theorem dX6_readNumber_26 : decode cX6_readNumber 26 = .ok (.iload_n 2, 1) := by decide +kernel
theorem dX6_readNumber_27 : decode cX6_readNumber 27 = .ok (.bipush 10, 2) := by decide +kernel
theorem dX6_readNumber_29 : decode cX6_readNumber 29 = .ok (.iload_n 3, 1) := by decide +kernel
theorem dX6_readNumber_30 : decode cX6_readNumber 30 = .ok (.imul, 1) := by decide +kernel
theorem dX6_readNumber_31 : decode cX6_readNumber 31 = .ok (.isub, 1) := by decide +kernel
theorem dX6_readNumber_32 : decode cX6_readNumber 32 = .ok (.invokestatic 84, 3) := by decide +kernel
theorem dX6_readNumber_35 : decode cX6_readNumber 35 = .ok (.invokevirtual 41, 3) := by decide +kernel
theorem dX6_readNumber_38 : decode cX6_readNumber 38 = .ok (.istore 4, 2) := by decide +kernel
theorem dX6_readNumber_40 : decode cX6_readNumber 40 = .ok (.bipush 10, 2) := by decide +kernel
theorem dX6_readNumber_42 : decode cX6_readNumber 42 = .ok (.iload_n 3, 1) := by decide +kernel
theorem dX6_readNumber_43 : decode cX6_readNumber 43 = .ok (.imul, 1) := by decide +kernel
theorem dX6_readNumber_44 : decode cX6_readNumber 44 = .ok (.iload 4, 2) := by decide +kernel
theorem dX6_readNumber_46 : decode cX6_readNumber 46 = .ok (.iadd, 1) := by decide +kernel
theorem dX6_readNumber_47 : decode cX6_readNumber 47 = .ok (.ireturn, 1) := by decide +kernel
theorem dX6_readCoins_0 : decode cX6_readCoins 0 = .ok (.iconst 0, 1) := by decide +kernel
theorem dX6_readCoins_1 : decode cX6_readCoins 1 = .ok (.istore_n 1, 1) := by decide +kernel
theorem dX6_readCoins_2 : decode cX6_readCoins 2 = .ok (.iconst 0, 1) := by decide +kernel
theorem dX6_readCoins_3 : decode cX6_readCoins 3 = .ok (.istore_n 2, 1) := by decide +kernel
theorem dX6_readCoins_4 : decode cX6_readCoins 4 = .ok (.iload_n 2, 1) := by decide +kernel
theorem dX6_readCoins_5 : decode cX6_readCoins 5 = .ok (.bipush 12, 2) := by decide +kernel
theorem dX6_readCoins_7 : decode cX6_readCoins 7 = .ok (.if_icmp .ge 36, 3) := by decide +kernel
theorem dX6_readCoins_10 : decode cX6_readCoins 10 = .ok (.aload_n 0, 1) := by decide +kernel
theorem dX6_readCoins_11 : decode cX6_readCoins 11 = .ok (.invokevirtual 70, 3) := by decide +kernel
theorem dX6_readCoins_14 : decode cX6_readCoins 14 = .ok (.bipush 97, 2) := by decide +kernel
theorem dX6_readCoins_16 : decode cX6_readCoins 16 = .ok (.iload_n 2, 1) := by decide +kernel
theorem dX6_readCoins_17 : decode cX6_readCoins 17 = .ok (.iadd, 1) := by decide +kernel
theorem dX6_readCoins_18 : decode cX6_readCoins 18 = .ok (.if_icmp .ne 19, 3) := by decide +kernel
theorem dX6_readCoins_21 : decode cX6_readCoins 21 = .ok (.iload_n 1, 1) := by decide +kernel
theorem dX6_readCoins_22 : decode cX6_readCoins 22 = .ok (.iconst 1, 1) := by decide +kernel
theorem dX6_readCoins_23 : decode cX6_readCoins 23 = .ok (.iload_n 2, 1) := by decide +kernel
theorem dX6_readCoins_24 : decode cX6_readCoins 24 = .ok (.ishl, 1) := by decide +kernel
theorem dX6_readCoins_25 : decode cX6_readCoins 25 = .ok (.ior, 1) := by decide +kernel
theorem dX6_readCoins_26 : decode cX6_readCoins 26 = .ok (.istore_n 1, 1) := by decide +kernel
theorem dX6_readCoins_27 : decode cX6_readCoins 27 = .ok (.aload_n 0, 1) := by decide +kernel
theorem dX6_readCoins_28 : decode cX6_readCoins 28 = .ok (.dup, 1) := by decide +kernel
theorem dX6_readCoins_29 : decode cX6_readCoins 29 = .ok (.getfield 23, 3) := by decide +kernel
theorem dX6_readCoins_32 : decode cX6_readCoins 32 = .ok (.iconst 1, 1) := by decide +kernel
theorem dX6_readCoins_33 : decode cX6_readCoins 33 = .ok (.iadd, 1) := by decide +kernel
theorem dX6_readCoins_34 : decode cX6_readCoins 34 = .ok (.putfield 23, 3) := by decide +kernel
theorem dX6_readCoins_37 : decode cX6_readCoins 37 = .ok (.iinc 2 1, 3) := by decide +kernel
theorem dX6_readCoins_40 : decode cX6_readCoins 40 = .ok (.goto (-36), 3) := by decide +kernel
theorem dX6_readCoins_43 : decode cX6_readCoins 43 = .ok (.iload_n 1, 1) := by decide +kernel
theorem dX6_readCoins_44 : decode cX6_readCoins 44 = .ok (.ireturn, 1) := by decide +kernel
theorem dX7_init_0 : decode cX7_init 0 = .ok (.aload_n 0, 1) := by decide +kernel
theorem dX7_init_1 : decode cX7_init 1 = .ok (.invokespecial 1, 3) := by decide +kernel
theorem dX7_init_4 : decode cX7_init 4 = .ok (.aload_n 0, 1) := by decide +kernel
theorem dX7_init_5 : decode cX7_init 5 = .ok (.new 7, 3) := by decide +kernel
theorem dX7_init_8 : decode cX7_init 8 = .ok (.dup, 1) := by decide +kernel
theorem dX7_init_9 : decode cX7_init 9 = .ok (.invokespecial 9, 3) := by decide +kernel
theorem dX7_init_12 : decode cX7_init 12 = .ok (.putfield 10, 3) := by decide +kernel
theorem dX7_init_15 : decode cX7_init 15 = .ok (.aload_n 0, 1) := by decide +kernel
theorem dX7_init_16 : decode cX7_init 16 = .ok (.new 16, 3) := by decide +kernel
theorem dX7_init_19 : decode cX7_init 19 = .ok (.dup, 1) := by decide +kernel
theorem dX7_init_20 : decode cX7_init 20 = .ok (.invokespecial 18, 3) := by decide +kernel
theorem dX7_init_23 : decode cX7_init 23 = .ok (.putfield 19, 3) := by decide +kernel
theorem dX7_init_26 : decode cX7_init 26 = .ok (.aload_n 0, 1) := by decide +kernel
theorem dX7_init_27 : decode cX7_init 27 = .ok (.new 16, 3) := by decide +kernel
theorem dX7_init_30 : decode cX7_init 30 = .ok (.dup, 1) := by decide +kernel
theorem dX7_init_31 : decode cX7_init 31 = .ok (.invokespecial 18, 3) := by decide +kernel
theorem dX7_init_34 : decode cX7_init 34 = .ok (.putfield 23, 3) := by decide +kernel
theorem dX7_init_37 : decode cX7_init 37 = .ok (.aload_n 0, 1) := by decide +kernel
theorem dX7_init_38 : decode cX7_init 38 = .ok (.new 26, 3) := by decide +kernel
theorem dX7_init_41 : decode cX7_init 41 = .ok (.dup, 1) := by decide +kernel
theorem dX7_init_42 : decode cX7_init 42 = .ok (.invokespecial 28, 3) := by decide +kernel
theorem dX7_init_45 : decode cX7_init 45 = .ok (.putfield 29, 3) := by decide +kernel
theorem dX7_init_48 : decode cX7_init 48 = .ok (.aload_n 0, 1) := by decide +kernel
theorem dX7_init_49 : decode cX7_init 49 = .ok (.new 33, 3) := by decide +kernel
theorem dX7_init_52 : decode cX7_init 52 = .ok (.dup, 1) := by decide +kernel
theorem dX7_init_53 : decode cX7_init 53 = .ok (.invokespecial 35, 3) := by decide +kernel
theorem dX7_init_56 : decode cX7_init 56 = .ok (.putfield 36, 3) := by decide +kernel
theorem dX7_init_59 : decode cX7_init 59 = .ok (.aload_n 0, 1) := by decide +kernel
theorem dX7_init_60 : decode cX7_init 60 = .ok (.new 33, 3) := by decide +kernel
theorem dX7_init_63 : decode cX7_init 63 = .ok (.dup, 1) := by decide +kernel
theorem dX7_init_64 : decode cX7_init 64 = .ok (.invokespecial 35, 3) := by decide +kernel
theorem dX7_init_67 : decode cX7_init 67 = .ok (.putfield 40, 3) := by decide +kernel
theorem dX7_init_70 : decode cX7_init 70 = .ok (.aload_n 0, 1) := by decide +kernel
theorem dX7_init_71 : decode cX7_init 71 = .ok (.new 43, 3) := by decide +kernel
theorem dX7_init_74 : decode cX7_init 74 = .ok (.dup, 1) := by decide +kernel
theorem dX7_init_75 : decode cX7_init 75 = .ok (.invokespecial 45, 3) := by decide +kernel
theorem dX7_init_78 : decode cX7_init 78 = .ok (.putfield 46, 3) := by decide +kernel
theorem dX7_init_81 : decode cX7_init 81 = .ok (.aload_n 0, 1) := by decide +kernel
theorem dX7_init_82 : decode cX7_init 82 = .ok (.invokestatic 50, 3) := by decide +kernel
theorem dX7_init_85 : decode cX7_init 85 = .ok (.putfield 54, 3) := by decide +kernel
theorem dX7_init_88 : decode cX7_init 88 = .ok (.aload_n 0, 1) := by decide +kernel
theorem dX7_init_89 : decode cX7_init 89 = .ok (.invokestatic 58, 3) := by decide +kernel
theorem dX7_init_92 : decode cX7_init 92 = .ok (.putfield 61, 3) := by decide +kernel
theorem dX7_init_95 : decode cX7_init 95 = .ok (.aload_n 0, 1) := by decide +kernel
theorem dX7_init_96 : decode cX7_init 96 = .ok (.getfield 19, 3) := by decide +kernel
theorem dX7_init_99 : decode cX7_init 99 = .ok (.invokevirtual 64, 3) := by decide +kernel
theorem dX7_init_102 : decode cX7_init 102 = .ok (.return_, 1) := by decide +kernel
theorem dX7_append_0 : decode cX7_append 0 = .ok (.iload_n 1, 1) := by decide +kernel
theorem dX7_append_1 : decode cX7_append 1 = .ok (.ifCond .lt 10, 3) := by decide +kernel
theorem dX7_append_4 : decode cX7_append 4 = .ok (.iload_n 1, 1) := by decide +kernel
theorem dX7_append_5 : decode cX7_append 5 = .ok (.sipush 255, 3) := by decide +kernel
theorem dX7_append_8 : decode cX7_append 8 = .ok (.if_icmp .le 13, 3) := by decide +kernel
theorem dX7_append_11 : decode cX7_append 11 = .ok (.new 67, 3) := by decide +kernel
theorem dX7_append_14 : decode cX7_append 14 = .ok (.dup, 1) := by decide +kernel
theorem dX7_append_15 : decode cX7_append 15 = .ok (.ldc 69, 2) := by decide +kernel
theorem dX7_append_17 : decode cX7_append 17 = .ok (.invokespecial 71, 3) := by decide +kernel
theorem dX7_append_20 : decode cX7_append 20 = .ok (.athrow, 1) := by decide +kernel
theorem dX7_append_21 : decode cX7_append 21 = .ok (.aload_n 0, 1) := by decide +kernel
theorem dX7_append_22 : decode cX7_append 22 = .ok (.getfield 10, 3) := by decide +kernel
theorem dX7_append_25 : decode cX7_append 25 = .ok (.getfield 74, 3) := by decide +kernel
theorem dX7_append_28 : decode cX7_append 28 = .ok (.bipush 120, 2) := by decide +kernel
theorem dX7_append_30 : decode cX7_append 30 = .ok (.if_icmp .lt 13, 3) := by decide +kernel
theorem dX7_append_33 : decode cX7_append 33 = .ok (.new 78, 3) := by decide +kernel
theorem dX7_append_36 : decode cX7_append 36 = .ok (.dup, 1) := by decide +kernel
theorem dX7_append_37 : decode cX7_append 37 = .ok (.ldc 80, 2) := by decide +kernel
theorem dX7_append_39 : decode cX7_append 39 = .ok (.invokespecial 82, 3) := by decide +kernel
theorem dX7_append_42 : decode cX7_append 42 = .ok (.athrow, 1) := by decide +kernel
theorem dX7_append_43 : decode cX7_append 43 = .ok (.aload_n 0, 1) := by decide +kernel
theorem dX7_append_44 : decode cX7_append 44 = .ok (.getfield 10, 3) := by decide +kernel
theorem dX7_append_47 : decode cX7_append 47 = .ok (.iload_n 1, 1) := by decide +kernel
theorem dX7_append_48 : decode cX7_append 48 = .ok (.i2c, 1) := by decide +kernel
theorem dX7_append_49 : decode cX7_append 49 = .ok (.invokevirtual 83, 3) := by decide +kernel
theorem dX7_append_52 : decode cX7_append 52 = .ok (.aload_n 0, 1) := by decide +kernel
theorem dX7_append_53 : decode cX7_append 53 = .ok (.getfield 10, 3) := by decide +kernel
theorem dX7_append_56 : decode cX7_append 56 = .ok (.getfield 74, 3) := by decide +kernel
theorem dX7_append_59 : decode cX7_append 59 = .ok (.ireturn, 1) := by decide +kernel
theorem dX7_errorPosition_0 : decode cX7_errorPosition 0 = .ok (.aload_n 0, 1) := by decide +kernel
theorem dX7_errorPosition_1 : decode cX7_errorPosition 1 = .ok (.getfield 10, 3) := by decide +kernel
theorem dX7_errorPosition_4 : decode cX7_errorPosition 4 = .ok (.invokevirtual 87, 3) := by decide +kernel
theorem dX7_errorPosition_7 : decode cX7_errorPosition 7 = .ok (.iconst 0, 1) := by decide +kernel
theorem dX7_errorPosition_8 : decode cX7_errorPosition 8 = .ok (.istore_n 1, 1) := by decide +kernel
theorem dX7_errorPosition_9 : decode cX7_errorPosition 9 = .ok (.iload_n 1, 1) := by decide +kernel
theorem dX7_errorPosition_10 : decode cX7_errorPosition 10 = .ok (.bipush 120, 2) := by decide +kernel
theorem dX7_errorPosition_12 : decode cX7_errorPosition 12 = .ok (.if_icmp .ge 26, 3) := by decide +kernel
theorem dX7_errorPosition_15 : decode cX7_errorPosition 15 = .ok (.aload_n 0, 1) := by decide +kernel
theorem dX7_errorPosition_16 : decode cX7_errorPosition 16 = .ok (.getfield 10, 3) := by decide +kernel
theorem dX7_errorPosition_19 : decode cX7_errorPosition 19 = .ok (.invokevirtual 90, 3) := by decide +kernel
theorem dX7_errorPosition_22 : decode cX7_errorPosition 22 = .ok (.ifCond .eq 16, 3) := by decide +kernel
theorem dX7_errorPosition_25 : decode cX7_errorPosition 25 = .ok (.aload_n 0, 1) := by decide +kernel
theorem dX7_errorPosition_26 : decode cX7_errorPosition 26 = .ok (.getfield 10, 3) := by decide +kernel
theorem dX7_errorPosition_29 : decode cX7_errorPosition 29 = .ok (.invokevirtual 94, 3) := by decide +kernel
theorem dX7_errorPosition_32 : decode cX7_errorPosition 32 = .ok (.iinc 1 1, 3) := by decide +kernel
theorem dX7_errorPosition_35 : decode cX7_errorPosition 35 = .ok (.goto (-26), 3) := by decide +kernel
theorem dX7_errorPosition_38 : decode cX7_errorPosition 38 = .ok (.aload_n 0, 1) := by decide +kernel
theorem dX7_errorPosition_39 : decode cX7_errorPosition 39 = .ok (.getfield 10, 3) := by decide +kernel
theorem dX7_errorPosition_42 : decode cX7_errorPosition 42 = .ok (.getfield 97, 3) := by decide +kernel
theorem dX7_errorPosition_45 : decode cX7_errorPosition 45 = .ok (.ifCond .eq 13, 3) := by decide +kernel
theorem dX7_errorPosition_48 : decode cX7_errorPosition 48 = .ok (.aload_n 0, 1) := by decide +kernel
theorem dX7_errorPosition_49 : decode cX7_errorPosition 49 = .ok (.getfield 10, 3) := by decide +kernel
theorem dX7_errorPosition_52 : decode cX7_errorPosition 52 = .ok (.getfield 101, 3) := by decide +kernel
theorem dX7_errorPosition_55 : decode cX7_errorPosition 55 = .ok (.goto 4, 3) := by decide +kernel
theorem dX7_errorPosition_58 : decode cX7_errorPosition 58 = .ok (.iconst (-1), 1) := by decide +kernel
theorem dX7_errorPosition_59 : decode cX7_errorPosition 59 = .ok (.ireturn, 1) := by decide +kernel
theorem dX7_load_0 : decode cX7_load 0 = .ok (.aload_n 0, 1) := by decide +kernel
theorem dX7_load_1 : decode cX7_load 1 = .ok (.invokevirtual 104, 3) := by decide +kernel
theorem dX7_load_4 : decode cX7_load 4 = .ok (.iconst (-1), 1) := by decide +kernel
theorem dX7_load_5 : decode cX7_load 5 = .ok (.if_icmp .eq 13, 3) := by decide +kernel
theorem dX7_load_8 : decode cX7_load 8 = .ok (.new 78, 3) := by decide +kernel
theorem dX7_load_11 : decode cX7_load 11 = .ok (.dup, 1) := by decide +kernel
theorem dX7_load_12 : decode cX7_load 12 = .ok (.ldc 108, 2) := by decide +kernel
theorem dX7_load_14 : decode cX7_load 14 = .ok (.invokespecial 82, 3) := by decide +kernel
theorem dX7_load_17 : decode cX7_load 17 = .ok (.athrow, 1) := by decide +kernel
theorem dX7_load_18 : decode cX7_load 18 = .ok (.aload_n 0, 1) := by decide +kernel
theorem dX7_load_19 : decode cX7_load 19 = .ok (.getfield 29, 3) := by decide +kernel
theorem dX7_load_22 : decode cX7_load 22 = .ok (.invokevirtual 110, 3) := by decide +kernel
theorem dX7_load_25 : decode cX7_load 25 = .ok (.aload_n 0, 1) := by decide +kernel
theorem dX7_load_26 : decode cX7_load 26 = .ok (.getfield 36, 3) := by decide +kernel
theorem dX7_load_29 : decode cX7_load 29 = .ok (.iconst 0, 1) := by decide +kernel
theorem dX7_load_30 : decode cX7_load 30 = .ok (.putfield 113, 3) := by decide +kernel
theorem dX7_load_33 : decode cX7_load 33 = .ok (.aload_n 0, 1) := by decide +kernel
theorem dX7_load_34 : decode cX7_load 34 = .ok (.getfield 40, 3) := by decide +kernel
theorem dX7_load_37 : decode cX7_load 37 = .ok (.iconst 0, 1) := by decide +kernel
theorem dX7_load_38 : decode cX7_load 38 = .ok (.putfield 113, 3) := by decide +kernel
theorem dX7_load_41 : decode cX7_load 41 = .ok (.aload_n 0, 1) := by decide +kernel
theorem dX7_load_42 : decode cX7_load 42 = .ok (.getfield 19, 3) := by decide +kernel
theorem dX7_load_45 : decode cX7_load 45 = .ok (.invokevirtual 64, 3) := by decide +kernel
theorem dX7_load_48 : decode cX7_load 48 = .ok (.aload_n 0, 1) := by decide +kernel
theorem dX7_load_49 : decode cX7_load 49 = .ok (.getfield 10, 3) := by decide +kernel
theorem dX7_load_52 : decode cX7_load 52 = .ok (.invokevirtual 87, 3) := by decide +kernel
theorem dX7_load_55 : decode cX7_load 55 = .ok (.aload_n 0, 1) := by decide +kernel
theorem dX7_load_56 : decode cX7_load 56 = .ok (.getfield 19, 3) := by decide +kernel
theorem dX7_load_59 : decode cX7_load 59 = .ok (.aload_n 0, 1) := by decide +kernel
theorem dX7_load_60 : decode cX7_load 60 = .ok (.getfield 10, 3) := by decide +kernel
theorem dX7_load_63 : decode cX7_load 63 = .ok (.getfield 116, 3) := by decide +kernel
theorem dX7_load_66 : decode cX7_load 66 = .ok (.aload_n 0, 1) := by decide +kernel
theorem dX7_load_67 : decode cX7_load 67 = .ok (.getfield 10, 3) := by decide +kernel
theorem dX7_load_70 : decode cX7_load 70 = .ok (.getfield 119, 3) := by decide +kernel
theorem dX7_load_73 : decode cX7_load 73 = .ok (.invokevirtual 122, 3) := by decide +kernel
theorem dX7_load_76 : decode cX7_load 76 = .ok (.iconst 0, 1) := by decide +kernel
theorem dX7_load_77 : decode cX7_load 77 = .ok (.istore_n 1, 1) := by decide +kernel
theorem dX7_load_78 : decode cX7_load 78 = .ok (.iconst 0, 1) := by decide +kernel
theorem dX7_load_79 : decode cX7_load 79 = .ok (.istore_n 2, 1) := by decide +kernel
theorem dX7_load_80 : decode cX7_load 80 = .ok (.iload_n 2, 1) := by decide +kernel
theorem dX7_load_81 : decode cX7_load 81 = .ok (.bipush 120, 2) := by decide +kernel
theorem dX7_load_83 : decode cX7_load 83 = .ok (.if_icmp .ge 36, 3) := by decide +kernel
theorem dX7_load_86 : decode cX7_load 86 = .ok (.aload_n 0, 1) := by decide +kernel
theorem dX7_load_87 : decode cX7_load 87 = .ok (.getfield 10, 3) := by decide +kernel
theorem dX7_load_90 : decode cX7_load 90 = .ok (.invokevirtual 90, 3) := by decide +kernel
theorem dX7_load_93 : decode cX7_load 93 = .ok (.ifCond .eq 26, 3) := by decide +kernel
theorem dX7_load_96 : decode cX7_load 96 = .ok (.aload_n 0, 1) := by decide +kernel
theorem dX7_load_97 : decode cX7_load 97 = .ok (.getfield 10, 3) := by decide +kernel
theorem dX7_load_100 : decode cX7_load 100 = .ok (.invokevirtual 94, 3) := by decide +kernel
theorem dX7_load_103 : decode cX7_load 103 = .ok (.aload_n 0, 1) := by decide +kernel
theorem dX7_load_104 : decode cX7_load 104 = .ok (.invokevirtual 126, 3) := by decide +kernel
theorem dX7_load_107 : decode cX7_load 107 = .ok (.ifCond .ne 6, 3) := by decide +kernel
theorem dX7_load_110 : decode cX7_load 110 = .ok (.iinc 1 1, 3) := by decide +kernel
theorem dX7_load_113 : decode cX7_load 113 = .ok (.iinc 2 1, 3) := by decide +kernel
theorem dX7_load_116 : decode cX7_load 116 = .ok (.goto (-36), 3) := by decide +kernel
theorem dX7_load_119 : decode cX7_load 119 = .ok (.iload_n 1, 1) := by decide +kernel
theorem dX7_load_120 : decode cX7_load 120 = .ok (.ireturn, 1) := by decide +kernel
theorem dX7_obeyText_0 : decode cX7_obeyText 0 = .ok (.aload_n 0, 1) := by decide +kernel
theorem dX7_obeyText_1 : decode cX7_obeyText 1 = .ok (.getfield 10, 3) := by decide +kernel
theorem dX7_obeyText_4 : decode cX7_obeyText 4 = .ok (.getfield 129, 3) := by decide +kernel
theorem dX7_obeyText_7 : decode cX7_obeyText 7 = .ok (.iconst 1, 1) := by decide +kernel
theorem dX7_obeyText_8 : decode cX7_obeyText 8 = .ok (.if_icmp .ne 25, 3) := by decide +kernel
theorem dX7_obeyText_11 : decode cX7_obeyText 11 = .ok (.aload_n 0, 1) := by decide +kernel
theorem dX7_obeyText_12 : decode cX7_obeyText 12 = .ok (.getfield 19, 3) := by decide +kernel
theorem dX7_obeyText_15 : decode cX7_obeyText 15 = .ok (.aload_n 0, 1) := by decide +kernel
theorem dX7_obeyText_16 : decode cX7_obeyText 16 = .ok (.getfield 10, 3) := by decide +kernel
theorem dX7_obeyText_19 : decode cX7_obeyText 19 = .ok (.getfield 132, 3) := by decide +kernel
theorem dX7_obeyText_22 : decode cX7_obeyText 22 = .ok (.aload_n 0, 1) := by decide +kernel
theorem dX7_obeyText_23 : decode cX7_obeyText 23 = .ok (.getfield 10, 3) := by decide +kernel
theorem dX7_obeyText_26 : decode cX7_obeyText 26 = .ok (.getfield 135, 3) := by decide +kernel
theorem dX7_obeyText_29 : decode cX7_obeyText 29 = .ok (.invokevirtual 138, 3) := by decide +kernel
theorem dX7_obeyText_32 : decode cX7_obeyText 32 = .ok (.ireturn, 1) := by decide +kernel
theorem dX7_obeyText_33 : decode cX7_obeyText 33 = .ok (.aload_n 0, 1) := by decide +kernel
theorem dX7_obeyText_34 : decode cX7_obeyText 34 = .ok (.getfield 19, 3) := by decide +kernel
theorem dX7_obeyText_37 : decode cX7_obeyText 37 = .ok (.aload_n 0, 1) := by decide +kernel
theorem dX7_obeyText_38 : decode cX7_obeyText 38 = .ok (.getfield 10, 3) := by decide +kernel
theorem dX7_obeyText_41 : decode cX7_obeyText 41 = .ok (.getfield 132, 3) := by decide +kernel
theorem dX7_obeyText_44 : decode cX7_obeyText 44 = .ok (.aload_n 0, 1) := by decide +kernel
theorem dX7_obeyText_45 : decode cX7_obeyText 45 = .ok (.getfield 10, 3) := by decide +kernel
theorem dX7_obeyText_48 : decode cX7_obeyText 48 = .ok (.getfield 135, 3) := by decide +kernel
theorem dX7_obeyText_51 : decode cX7_obeyText 51 = .ok (.invokevirtual 142, 3) := by decide +kernel
theorem dX7_obeyText_54 : decode cX7_obeyText 54 = .ok (.ireturn, 1) := by decide +kernel
theorem dX7_about_0 : decode cX7_about 0 = .ok (.iload_n 1, 1) := by decide +kernel
theorem dX7_about_1 : decode cX7_about 1 = .ok (.tableswitch 126 0 8 #[51, 59, 67, 78, 86, 94, 102, 110, 118], 51) := by decide +kernel
theorem dX7_about_52 : decode cX7_about 52 = .ok (.aload_n 0, 1) := by decide +kernel
theorem dX7_about_53 : decode cX7_about 53 = .ok (.getfield 19, 3) := by decide +kernel
theorem dX7_about_56 : decode cX7_about 56 = .ok (.getfield 145, 3) := by decide +kernel
theorem dX7_about_59 : decode cX7_about 59 = .ok (.ireturn, 1) := by decide +kernel
theorem dX7_about_60 : decode cX7_about 60 = .ok (.aload_n 0, 1) := by decide +kernel
theorem dX7_about_61 : decode cX7_about 61 = .ok (.getfield 19, 3) := by decide +kernel
theorem dX7_about_64 : decode cX7_about 64 = .ok (.invokevirtual 146, 3) := by decide +kernel
theorem dX7_about_67 : decode cX7_about 67 = .ok (.ireturn, 1) := by decide +kernel
theorem dX7_about_68 : decode cX7_about 68 = .ok (.aload_n 0, 1) := by decide +kernel
theorem dX7_about_69 : decode cX7_about 69 = .ok (.getfield 19, 3) := by decide +kernel
theorem dX7_about_72 : decode cX7_about 72 = .ok (.getfield 149, 3) := by decide +kernel
theorem dX7_about_75 : decode cX7_about 75 = .ok (.invokevirtual 153, 3) := by decide +kernel
theorem dX7_about_78 : decode cX7_about 78 = .ok (.ireturn, 1) := by decide +kernel
theorem dX7_about_79 : decode cX7_about 79 = .ok (.aload_n 0, 1) := by decide +kernel
theorem dX7_about_80 : decode cX7_about 80 = .ok (.getfield 19, 3) := by decide +kernel
theorem dX7_about_83 : decode cX7_about 83 = .ok (.getfield 158, 3) := by decide +kernel
theorem dX7_about_86 : decode cX7_about 86 = .ok (.ireturn, 1) := by decide +kernel
theorem dX7_about_87 : decode cX7_about 87 = .ok (.aload_n 0, 1) := by decide +kernel
theorem dX7_about_88 : decode cX7_about 88 = .ok (.getfield 19, 3) := by decide +kernel
theorem dX7_about_91 : decode cX7_about 91 = .ok (.getfield 161, 3) := by decide +kernel
theorem dX7_about_94 : decode cX7_about 94 = .ok (.ireturn, 1) := by decide +kernel
theorem dX7_about_95 : decode cX7_about 95 = .ok (.aload_n 0, 1) := by decide +kernel
theorem dX7_about_96 : decode cX7_about 96 = .ok (.getfield 19, 3) := by decide +kernel
theorem dX7_about_99 : decode cX7_about 99 = .ok (.getfield 164, 3) := by decide +kernel
theorem dX7_about_102 : decode cX7_about 102 = .ok (.ireturn, 1) := by decide +kernel
theorem dX7_about_103 : decode cX7_about 103 = .ok (.aload_n 0, 1) := by decide +kernel
theorem dX7_about_104 : decode cX7_about 104 = .ok (.getfield 19, 3) := by decide +kernel
theorem dX7_about_107 : decode cX7_about 107 = .ok (.invokevirtual 167, 3) := by decide +kernel
theorem dX7_about_110 : decode cX7_about 110 = .ok (.ireturn, 1) := by decide +kernel
theorem dX7_about_111 : decode cX7_about 111 = .ok (.aload_n 0, 1) := by decide +kernel
theorem dX7_about_112 : decode cX7_about 112 = .ok (.getfield 19, 3) := by decide +kernel
theorem dX7_about_115 : decode cX7_about 115 = .ok (.getfield 170, 3) := by decide +kernel
theorem dX7_about_118 : decode cX7_about 118 = .ok (.ireturn, 1) := by decide +kernel
theorem dX7_about_119 : decode cX7_about 119 = .ok (.aload_n 0, 1) := by decide +kernel
theorem dX7_about_120 : decode cX7_about 120 = .ok (.getfield 19, 3) := by decide +kernel
theorem dX7_about_123 : decode cX7_about 123 = .ok (.getfield 173, 3) := by decide +kernel
theorem dX7_about_126 : decode cX7_about 126 = .ok (.ireturn, 1) := by decide +kernel
theorem dX7_about_127 : decode cX7_about 127 = .ok (.new 67, 3) := by decide +kernel
theorem dX7_about_130 : decode cX7_about 130 = .ok (.dup, 1) := by decide +kernel
theorem dX7_about_131 : decode cX7_about 131 = .ok (.ldc 176, 2) := by decide +kernel
theorem dX7_about_133 : decode cX7_about 133 = .ok (.invokespecial 71, 3) := by decide +kernel
theorem dX7_about_136 : decode cX7_about 136 = .ok (.athrow, 1) := by decide +kernel
theorem dX7_coin_0 : decode cX7_coin 0 = .ok (.aload_n 0, 1) := by decide +kernel
theorem dX7_coin_1 : decode cX7_coin 1 = .ok (.getfield 19, 3) := by decide +kernel
theorem dX7_coin_4 : decode cX7_coin 4 = .ok (.iload_n 1, 1) := by decide +kernel
