theorem d_X_price_59 : decode b_X_price 59 = .ok (.lload_n 1, 1) := by decide +kernel
theorem d_X_price_60 : decode b_X_price 60 = .ok (.l2i, 1) := by decide +kernel
theorem d_X_price_61 : decode b_X_price 61 = .ok (.lload_n 3, 1) := by decide +kernel
theorem d_X_price_62 : decode b_X_price 62 = .ok (.l2i, 1) := by decide +kernel
theorem d_X_price_63 : decode b_X_price 63 = .ok (.lload 5, 2) := by decide +kernel
theorem d_X_price_65 : decode b_X_price 65 = .ok (.l2i, 1) := by decide +kernel
theorem d_X_price_66 : decode b_X_price 66 = .ok (.invokevirtual 119, 3) := by decide +kernel
theorem d_X_price_69 : decode b_X_price 69 = .ok (.ireturn, 1) := by decide +kernel
theorem d_X_planned_0 : decode b_X_planned 0 = .ok (.aload_n 0, 1) := by decide +kernel
theorem d_X_planned_1 : decode b_X_planned 1 = .ok (.getfield 33, 3) := by decide +kernel
theorem d_X_planned_4 : decode b_X_planned 4 = .ok (.lload_n 1, 1) := by decide +kernel
theorem d_X_planned_5 : decode b_X_planned 5 = .ok (.invokevirtual 123, 3) := by decide +kernel
theorem d_X_planned_8 : decode b_X_planned 8 = .ok (.i2l, 1) := by decide +kernel
theorem d_X_planned_9 : decode b_X_planned 9 = .ok (.lreturn, 1) := by decide +kernel
theorem d_X_stop_0 : decode b_X_stop 0 = .ok (.iload_n 1, 1) := by decide +kernel
theorem d_X_stop_1 : decode b_X_stop 1 = .ok (.ifCond .eq 10, 3) := by decide +kernel
theorem d_X_stop_4 : decode b_X_stop 4 = .ok (.iload_n 1, 1) := by decide +kernel
theorem d_X_stop_5 : decode b_X_stop 5 = .ok (.iconst 1, 1) := by decide +kernel
theorem d_X_stop_6 : decode b_X_stop 6 = .ok (.if_icmp .eq 5, 3) := by decide +kernel
theorem d_X_stop_9 : decode b_X_stop 9 = .ok (.iconst (-1), 1) := by decide +kernel
theorem d_X_stop_10 : decode b_X_stop 10 = .ok (.ireturn, 1) := by decide +kernel
theorem d_X_stop_11 : decode b_X_stop 11 = .ok (.aload_n 0, 1) := by decide +kernel
theorem d_X_stop_12 : decode b_X_stop 12 = .ok (.getfield 10, 3) := by decide +kernel
theorem d_X_stop_15 : decode b_X_stop 15 = .ok (.lload_n 2, 1) := by decide +kernel
theorem d_X_stop_16 : decode b_X_stop 16 = .ok (.invokevirtual 71, 3) := by decide +kernel
theorem d_X_stop_19 : decode b_X_stop 19 = .ok (.ifCond .ne 6, 3) := by decide +kernel
theorem d_X_stop_22 : decode b_X_stop 22 = .ok (.bipush (-2), 2) := by decide +kernel
theorem d_X_stop_24 : decode b_X_stop 24 = .ok (.ireturn, 1) := by decide +kernel
theorem d_X_stop_25 : decode b_X_stop 25 = .ok (.aload_n 0, 1) := by decide +kernel
theorem d_X_stop_26 : decode b_X_stop 26 = .ok (.getfield 26, 3) := by decide +kernel
theorem d_X_stop_29 : decode b_X_stop 29 = .ok (.invokevirtual 127, 3) := by decide +kernel
theorem d_X_stop_32 : decode b_X_stop 32 = .ok (.ifCond .ne 6, 3) := by decide +kernel
theorem d_X_stop_35 : decode b_X_stop 35 = .ok (.bipush (-3), 2) := by decide +kernel
theorem d_X_stop_37 : decode b_X_stop 37 = .ok (.ireturn, 1) := by decide +kernel
theorem d_X_stop_38 : decode b_X_stop 38 = .ok (.aload_n 0, 1) := by decide +kernel
theorem d_X_stop_39 : decode b_X_stop 39 = .ok (.getfield 10, 3) := by decide +kernel
theorem d_X_stop_42 : decode b_X_stop 42 = .ok (.lload_n 2, 1) := by decide +kernel
theorem d_X_stop_43 : decode b_X_stop 43 = .ok (.invokevirtual 75, 3) := by decide +kernel
theorem d_X_stop_46 : decode b_X_stop 46 = .ok (.iload_n 1, 1) := by decide +kernel
theorem d_X_stop_47 : decode b_X_stop 47 = .ok (.iconst 1, 1) := by decide +kernel
theorem d_X_stop_48 : decode b_X_stop 48 = .ok (.if_icmp .ne 13, 3) := by decide +kernel
theorem d_X_stop_51 : decode b_X_stop 51 = .ok (.aload_n 0, 1) := by decide +kernel
theorem d_X_stop_52 : decode b_X_stop 52 = .ok (.getfield 26, 3) := by decide +kernel
theorem d_X_stop_55 : decode b_X_stop 55 = .ok (.invokevirtual 130, 3) := by decide +kernel
theorem d_X_stop_58 : decode b_X_stop 58 = .ok (.goto 10, 3) := by decide +kernel
theorem d_X_stop_61 : decode b_X_stop 61 = .ok (.aload_n 0, 1) := by decide +kernel
theorem d_X_stop_62 : decode b_X_stop 62 = .ok (.getfield 26, 3) := by decide +kernel
theorem d_X_stop_65 : decode b_X_stop 65 = .ok (.invokevirtual 133, 3) := by decide +kernel
theorem d_X_stop_68 : decode b_X_stop 68 = .ok (.ireturn, 1) := by decide +kernel
theorem d_X_lost_0 : decode b_X_lost 0 = .ok (.aload_n 0, 1) := by decide +kernel
theorem d_X_lost_1 : decode b_X_lost 1 = .ok (.getfield 10, 3) := by decide +kernel
theorem d_X_lost_4 : decode b_X_lost 4 = .ok (.lload_n 1, 1) := by decide +kernel
theorem d_X_lost_5 : decode b_X_lost 5 = .ok (.invokevirtual 71, 3) := by decide +kernel
theorem d_X_lost_8 : decode b_X_lost 8 = .ok (.ifCond .ne 6, 3) := by decide +kernel
theorem d_X_lost_11 : decode b_X_lost 11 = .ok (.bipush (-2), 2) := by decide +kernel
theorem d_X_lost_13 : decode b_X_lost 13 = .ok (.ireturn, 1) := by decide +kernel
theorem d_X_lost_14 : decode b_X_lost 14 = .ok (.aload_n 0, 1) := by decide +kernel
theorem d_X_lost_15 : decode b_X_lost 15 = .ok (.getfield 10, 3) := by decide +kernel
theorem d_X_lost_18 : decode b_X_lost 18 = .ok (.lload_n 1, 1) := by decide +kernel
theorem d_X_lost_19 : decode b_X_lost 19 = .ok (.invokevirtual 75, 3) := by decide +kernel
theorem d_X_lost_22 : decode b_X_lost 22 = .ok (.aload_n 0, 1) := by decide +kernel
theorem d_X_lost_23 : decode b_X_lost 23 = .ok (.getfield 26, 3) := by decide +kernel
theorem d_X_lost_26 : decode b_X_lost 26 = .ok (.getfield 86, 3) := by decide +kernel
theorem d_X_lost_29 : decode b_X_lost 29 = .ok (.istore_n 3, 1) := by decide +kernel
theorem d_X_lost_30 : decode b_X_lost 30 = .ok (.aload_n 0, 1) := by decide +kernel
theorem d_X_lost_31 : decode b_X_lost 31 = .ok (.getfield 26, 3) := by decide +kernel
theorem d_X_lost_34 : decode b_X_lost 34 = .ok (.invokevirtual 56, 3) := by decide +kernel
theorem d_X_lost_37 : decode b_X_lost 37 = .ok (.iload_n 3, 1) := by decide +kernel
theorem d_X_lost_38 : decode b_X_lost 38 = .ok (.ireturn, 1) := by decide +kernel
theorem d_X_state_0 : decode b_X_state 0 = .ok (.aload_n 0, 1) := by decide +kernel
theorem d_X_state_1 : decode b_X_state 1 = .ok (.getfield 26, 3) := by decide +kernel
theorem d_X_state_4 : decode b_X_state 4 = .ok (.getfield 86, 3) := by decide +kernel
theorem d_X_state_7 : decode b_X_state 7 = .ok (.ireturn, 1) := by decide +kernel
theorem d_X_car_0 : decode b_X_car 0 = .ok (.iload_n 1, 1) := by decide +kernel
theorem d_X_car_1 : decode b_X_car 1 = .ok (.i2l, 1) := by decide +kernel
theorem d_X_car_2 : decode b_X_car 2 = .ok (.lconst 0, 1) := by decide +kernel
theorem d_X_car_3 : decode b_X_car 3 = .ok (.ldc2_w 114, 3) := by decide +kernel
theorem d_X_car_6 : decode b_X_car 6 = .ok (.invokestatic 67, 3) := by decide +kernel
theorem d_X_car_9 : decode b_X_car 9 = .ok (.ifCond .ne 6, 3) := by decide +kernel
theorem d_X_car_12 : decode b_X_car 12 = .ok (.bipush (-2), 2) := by decide +kernel
theorem d_X_car_14 : decode b_X_car 14 = .ok (.ireturn, 1) := by decide +kernel
theorem d_X_car_15 : decode b_X_car 15 = .ok (.aload_n 0, 1) := by decide +kernel
theorem d_X_car_16 : decode b_X_car 16 = .ok (.getfield 40, 3) := by decide +kernel
theorem d_X_car_19 : decode b_X_car 19 = .ok (.invokevirtual 136, 3) := by decide +kernel
theorem d_X_car_22 : decode b_X_car 22 = .ok (.ifCond .eq 6, 3) := by decide +kernel
theorem d_X_car_25 : decode b_X_car 25 = .ok (.bipush (-4), 2) := by decide +kernel
theorem d_X_car_27 : decode b_X_car 27 = .ok (.ireturn, 1) := by decide +kernel
theorem d_X_car_28 : decode b_X_car 28 = .ok (.aload_n 0, 1) := by decide +kernel
theorem d_X_car_29 : decode b_X_car 29 = .ok (.getfield 40, 3) := by decide +kernel
theorem d_X_car_32 : decode b_X_car 32 = .ok (.iload_n 1, 1) := by decide +kernel
theorem d_X_car_33 : decode b_X_car 33 = .ok (.invokevirtual 137, 3) := by decide +kernel
theorem d_X_car_36 : decode b_X_car 36 = .ok (.ireturn, 1) := by decide +kernel
theorem d_X_commonFactor_0 : decode b_X_commonFactor 0 = .ok (.lload_n 0, 1) := by decide +kernel
theorem d_X_commonFactor_1 : decode b_X_commonFactor 1 = .ok (.lstore 4, 2) := by decide +kernel
theorem d_X_commonFactor_3 : decode b_X_commonFactor 3 = .ok (.lload_n 2, 1) := by decide +kernel
theorem d_X_commonFactor_4 : decode b_X_commonFactor 4 = .ok (.lstore 6, 2) := by decide +kernel
theorem d_X_commonFactor_6 : decode b_X_commonFactor 6 = .ok (.iconst 0, 1) := by decide +kernel
theorem d_X_commonFactor_7 : decode b_X_commonFactor 7 = .ok (.istore 8, 2) := by decide +kernel
theorem d_X_commonFactor_9 : decode b_X_commonFactor 9 = .ok (.iload 8, 2) := by decide +kernel
theorem d_X_commonFactor_11 : decode b_X_commonFactor 11 = .ok (.sipush 200, 3) := by decide +kernel
theorem d_X_commonFactor_14 : decode b_X_commonFactor 14 = .ok (.if_icmp .ge 31, 3) := by decide +kernel
theorem d_X_commonFactor_17 : decode b_X_commonFactor 17 = .ok (.lload 6, 2) := by decide +kernel
theorem d_X_commonFactor_19 : decode b_X_commonFactor 19 = .ok (.lconst 0, 1) := by decide +kernel
theorem d_X_commonFactor_20 : decode b_X_commonFactor 20 = .ok (.lcmp, 1) := by decide +kernel
theorem d_X_commonFactor_21 : decode b_X_commonFactor 21 = .ok (.ifCond .eq 24, 3) := by decide +kernel
theorem d_X_commonFactor_24 : decode b_X_commonFactor 24 = .ok (.lload 4, 2) := by decide +kernel
theorem d_X_commonFactor_26 : decode b_X_commonFactor 26 = .ok (.lload 6, 2) := by decide +kernel
theorem d_X_commonFactor_28 : decode b_X_commonFactor 28 = .ok (.lrem, 1) := by decide +kernel
theorem d_X_commonFactor_29 : decode b_X_commonFactor 29 = .ok (.lstore 9, 2) := by decide +kernel
theorem d_X_commonFactor_31 : decode b_X_commonFactor 31 = .ok (.lload 6, 2) := by decide +kernel
theorem d_X_commonFactor_33 : decode b_X_commonFactor 33 = .ok (.lstore 4, 2) := by decide +kernel
theorem d_X_commonFactor_35 : decode b_X_commonFactor 35 = .ok (.lload 9, 2) := by decide +kernel
theorem d_X_commonFactor_37 : decode b_X_commonFactor 37 = .ok (.lstore 6, 2) := by decide +kernel
theorem d_X_commonFactor_39 : decode b_X_commonFactor 39 = .ok (.iinc 8 1, 3) := by decide +kernel
theorem d_X_commonFactor_42 : decode b_X_commonFactor 42 = .ok (.goto (-33), 3) := by decide +kernel
theorem d_X_commonFactor_45 : decode b_X_commonFactor 45 = .ok (.lload 4, 2) := by decide +kernel
theorem d_X_commonFactor_47 : decode b_X_commonFactor 47 = .ok (.lreturn, 1) := by decide +kernel
theorem d_X_share_0 : decode b_X_share 0 = .ok (.aload_n 0, 1) := by decide +kernel
theorem d_X_share_1 : decode b_X_share 1 = .ok (.getfield 40, 3) := by decide +kernel
theorem d_X_share_4 : decode b_X_share 4 = .ok (.iload_n 1, 1) := by decide +kernel
theorem d_X_share_5 : decode b_X_share 5 = .ok (.invokevirtual 141, 3) := by decide +kernel
theorem d_X_share_8 : decode b_X_share 8 = .ok (.ifCond .ne 7, 3) := by decide +kernel
theorem d_X_share_11 : decode b_X_share 11 = .ok (.ldc2_w 145, 3) := by decide +kernel
theorem d_X_share_14 : decode b_X_share 14 = .ok (.lreturn, 1) := by decide +kernel
theorem d_X_share_15 : decode b_X_share 15 = .ok (.lload_n 2, 1) := by decide +kernel
theorem d_X_share_16 : decode b_X_share 16 = .ok (.lconst 0, 1) := by decide +kernel
theorem d_X_share_17 : decode b_X_share 17 = .ok (.ldc2_w 147, 3) := by decide +kernel
theorem d_X_share_20 : decode b_X_share 20 = .ok (.invokestatic 67, 3) := by decide +kernel
theorem d_X_share_23 : decode b_X_share 23 = .ok (.ifCond .ne 7, 3) := by decide +kernel
theorem d_X_share_26 : decode b_X_share 26 = .ok (.ldc2_w 149, 3) := by decide +kernel
theorem d_X_share_29 : decode b_X_share 29 = .ok (.lreturn, 1) := by decide +kernel
theorem d_X_share_30 : decode b_X_share 30 = .ok (.aload_n 0, 1) := by decide +kernel
theorem d_X_share_31 : decode b_X_share 31 = .ok (.getfield 40, 3) := by decide +kernel
theorem d_X_share_34 : decode b_X_share 34 = .ok (.getfield 151, 3) := by decide +kernel
theorem d_X_share_37 : decode b_X_share 37 = .ok (.lconst 0, 1) := by decide +kernel
theorem d_X_share_38 : decode b_X_share 38 = .ok (.lcmp, 1) := by decide +kernel
theorem d_X_share_39 : decode b_X_share 39 = .ok (.ifCond .ne 13, 3) := by decide +kernel
theorem d_X_share_42 : decode b_X_share 42 = .ok (.new 154, 3) := by decide +kernel
theorem d_X_share_45 : decode b_X_share 45 = .ok (.dup, 1) := by decide +kernel
theorem d_X_share_46 : decode b_X_share 46 = .ok (.ldc 156, 2) := by decide +kernel
theorem d_X_share_48 : decode b_X_share 48 = .ok (.invokespecial 158, 3) := by decide +kernel
theorem d_X_share_51 : decode b_X_share 51 = .ok (.athrow, 1) := by decide +kernel
theorem d_X_share_52 : decode b_X_share 52 = .ok (.lload_n 2, 1) := by decide +kernel
theorem d_X_share_53 : decode b_X_share 53 = .ok (.aload_n 0, 1) := by decide +kernel
theorem d_X_share_54 : decode b_X_share 54 = .ok (.getfield 40, 3) := by decide +kernel
theorem d_X_share_57 : decode b_X_share 57 = .ok (.iload_n 1, 1) := by decide +kernel
theorem d_X_share_58 : decode b_X_share 58 = .ok (.invokevirtual 161, 3) := by decide +kernel
theorem d_X_share_61 : decode b_X_share 61 = .ok (.i2l, 1) := by decide +kernel
theorem d_X_share_62 : decode b_X_share 62 = .ok (.lmul, 1) := by decide +kernel
theorem d_X_share_63 : decode b_X_share 63 = .ok (.lstore 5, 2) := by decide +kernel
theorem d_X_share_65 : decode b_X_share 65 = .ok (.aload_n 0, 1) := by decide +kernel
theorem d_X_share_66 : decode b_X_share 66 = .ok (.getfield 40, 3) := by decide +kernel
theorem d_X_share_69 : decode b_X_share 69 = .ok (.getfield 151, 3) := by decide +kernel
theorem d_X_share_72 : decode b_X_share 72 = .ok (.lstore 7, 2) := by decide +kernel
theorem d_X_share_74 : decode b_X_share 74 = .ok (.lconst 1, 1) := by decide +kernel
theorem d_X_share_75 : decode b_X_share 75 = .ok (.lload 5, 2) := by decide +kernel
theorem d_X_share_77 : decode b_X_share 77 = .ok (.lload 7, 2) := by decide +kernel
theorem d_X_share_79 : decode b_X_share 79 = .ok (.invokestatic 164, 3) := by decide +kernel
theorem d_X_share_82 : decode b_X_share 82 = .ok (.invokestatic 168, 3) := by decide +kernel
theorem d_X_share_85 : decode b_X_share 85 = .ok (.lstore 9, 2) := by decide +kernel
