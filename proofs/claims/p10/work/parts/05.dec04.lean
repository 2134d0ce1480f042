theorem d_Tf_spread_72 : decode b_Tf_spread 72 = .ok (.goto (-70), 3) := by decide +kernel
theorem d_Tf_spread_75 : decode b_Tf_spread 75 = .ok (.return_, 1) := by decide +kernel
theorem d_Tf_makePlan_0 : decode b_Tf_makePlan 0 = .ok (.aload_n 0, 1) := by decide +kernel
theorem d_Tf_makePlan_1 : decode b_Tf_makePlan 1 = .ok (.iload_n 3, 1) := by decide +kernel
theorem d_Tf_makePlan_2 : decode b_Tf_makePlan 2 = .ok (.iload 4, 2) := by decide +kernel
theorem d_Tf_makePlan_4 : decode b_Tf_makePlan 4 = .ok (.invokevirtual 36, 3) := by decide +kernel
theorem d_Tf_makePlan_7 : decode b_Tf_makePlan 7 = .ok (.aload_n 0, 1) := by decide +kernel
theorem d_Tf_makePlan_8 : decode b_Tf_makePlan 8 = .ok (.lload_n 1, 1) := by decide +kernel
theorem d_Tf_makePlan_9 : decode b_Tf_makePlan 9 = .ok (.invokevirtual 40, 3) := by decide +kernel
theorem d_Tf_makePlan_12 : decode b_Tf_makePlan 12 = .ok (.lstore 5, 2) := by decide +kernel
theorem d_Tf_makePlan_14 : decode b_Tf_makePlan 14 = .ok (.aload_n 0, 1) := by decide +kernel
theorem d_Tf_makePlan_15 : decode b_Tf_makePlan 15 = .ok (.iload_n 3, 1) := by decide +kernel
theorem d_Tf_makePlan_16 : decode b_Tf_makePlan 16 = .ok (.iload 4, 2) := by decide +kernel
theorem d_Tf_makePlan_18 : decode b_Tf_makePlan 18 = .ok (.invokevirtual 44, 3) := by decide +kernel
theorem d_Tf_makePlan_21 : decode b_Tf_makePlan 21 = .ok (.lload 5, 2) := by decide +kernel
theorem d_Tf_makePlan_23 : decode b_Tf_makePlan 23 = .ok (.lreturn, 1) := by decide +kernel
theorem d_Tf_init_0 : decode b_Tf_init 0 = .ok (.aload_n 0, 1) := by decide +kernel
theorem d_Tf_init_1 : decode b_Tf_init 1 = .ok (.invokespecial 1, 3) := by decide +kernel
theorem d_Tf_init_4 : decode b_Tf_init 4 = .ok (.aload_n 0, 1) := by decide +kernel
theorem d_Tf_init_5 : decode b_Tf_init 5 = .ok (.sipush 1440, 3) := by decide +kernel
theorem d_Tf_init_8 : decode b_Tf_init 8 = .ok (.newarray .int, 2) := by decide +kernel
theorem d_Tf_init_10 : decode b_Tf_init 10 = .ok (.putfield 9, 3) := by decide +kernel
theorem d_Tf_init_13 : decode b_Tf_init 13 = .ok (.aload_n 0, 1) := by decide +kernel
theorem d_Tf_init_14 : decode b_Tf_init 14 = .ok (.sipush 1440, 3) := by decide +kernel
theorem d_Tf_init_17 : decode b_Tf_init 17 = .ok (.newarray .int, 2) := by decide +kernel
theorem d_Tf_init_19 : decode b_Tf_init 19 = .ok (.putfield 13, 3) := by decide +kernel
theorem d_Tf_init_22 : decode b_Tf_init 22 = .ok (.aload_n 0, 1) := by decide +kernel
theorem d_Tf_init_23 : decode b_Tf_init 23 = .ok (.sipush 1001, 3) := by decide +kernel
theorem d_Tf_init_26 : decode b_Tf_init 26 = .ok (.newarray .long, 2) := by decide +kernel
theorem d_Tf_init_28 : decode b_Tf_init 28 = .ok (.putfield 16, 3) := by decide +kernel
theorem d_Tf_init_31 : decode b_Tf_init 31 = .ok (.aload_n 0, 1) := by decide +kernel
theorem d_Tf_init_32 : decode b_Tf_init 32 = .ok (.iconst 0, 1) := by decide +kernel
theorem d_Tf_init_33 : decode b_Tf_init 33 = .ok (.putfield 20, 3) := by decide +kernel
theorem d_Tf_init_36 : decode b_Tf_init 36 = .ok (.aload_n 0, 1) := by decide +kernel
theorem d_Tf_init_37 : decode b_Tf_init 37 = .ok (.lconst 0, 1) := by decide +kernel
theorem d_Tf_init_38 : decode b_Tf_init 38 = .ok (.putfield 24, 3) := by decide +kernel
theorem d_Tf_init_41 : decode b_Tf_init 41 = .ok (.iconst 0, 1) := by decide +kernel
theorem d_Tf_init_42 : decode b_Tf_init 42 = .ok (.istore_n 1, 1) := by decide +kernel
theorem d_Tf_init_43 : decode b_Tf_init 43 = .ok (.iload_n 1, 1) := by decide +kernel
theorem d_Tf_init_44 : decode b_Tf_init 44 = .ok (.sipush 1440, 3) := by decide +kernel
theorem d_Tf_init_47 : decode b_Tf_init 47 = .ok (.if_icmp .ge 16, 3) := by decide +kernel
theorem d_Tf_init_50 : decode b_Tf_init 50 = .ok (.aload_n 0, 1) := by decide +kernel
theorem d_Tf_init_51 : decode b_Tf_init 51 = .ok (.getfield 9, 3) := by decide +kernel
theorem d_Tf_init_54 : decode b_Tf_init 54 = .ok (.iload_n 1, 1) := by decide +kernel
theorem d_Tf_init_55 : decode b_Tf_init 55 = .ok (.iconst (-1), 1) := by decide +kernel
theorem d_Tf_init_56 : decode b_Tf_init 56 = .ok (.iastore, 1) := by decide +kernel
theorem d_Tf_init_57 : decode b_Tf_init 57 = .ok (.iinc 1 1, 3) := by decide +kernel
theorem d_Tf_init_60 : decode b_Tf_init 60 = .ok (.goto (-17), 3) := by decide +kernel
theorem d_Tf_init_63 : decode b_Tf_init 63 = .ok (.return_, 1) := by decide +kernel
theorem d_Li_init_0 : decode b_Li_init 0 = .ok (.aload_n 0, 1) := by decide +kernel
theorem d_Li_init_1 : decode b_Li_init 1 = .ok (.invokespecial 1, 3) := by decide +kernel
theorem d_Li_init_4 : decode b_Li_init 4 = .ok (.aload_n 0, 1) := by decide +kernel
theorem d_Li_init_5 : decode b_Li_init 5 = .ok (.bipush 10, 2) := by decide +kernel
theorem d_Li_init_7 : decode b_Li_init 7 = .ok (.newarray .int, 2) := by decide +kernel
theorem d_Li_init_9 : decode b_Li_init 9 = .ok (.putfield 9, 3) := by decide +kernel
theorem d_Li_init_12 : decode b_Li_init 12 = .ok (.aload_n 0, 1) := by decide +kernel
theorem d_Li_init_13 : decode b_Li_init 13 = .ok (.iconst 0, 1) := by decide +kernel
theorem d_Li_init_14 : decode b_Li_init 14 = .ok (.putfield 13, 3) := by decide +kernel
theorem d_Li_init_17 : decode b_Li_init 17 = .ok (.aload_n 0, 1) := by decide +kernel
theorem d_Li_init_18 : decode b_Li_init 18 = .ok (.lconst 0, 1) := by decide +kernel
theorem d_Li_init_19 : decode b_Li_init 19 = .ok (.putfield 17, 3) := by decide +kernel
theorem d_Li_init_22 : decode b_Li_init 22 = .ok (.return_, 1) := by decide +kernel
theorem d_Li_isFull_0 : decode b_Li_isFull 0 = .ok (.aload_n 0, 1) := by decide +kernel
theorem d_Li_isFull_1 : decode b_Li_isFull 1 = .ok (.getfield 13, 3) := by decide +kernel
theorem d_Li_isFull_4 : decode b_Li_isFull 4 = .ok (.bipush 10, 2) := by decide +kernel
theorem d_Li_isFull_6 : decode b_Li_isFull 6 = .ok (.if_icmp .lt 7, 3) := by decide +kernel
theorem d_Li_isFull_9 : decode b_Li_isFull 9 = .ok (.iconst 1, 1) := by decide +kernel
theorem d_Li_isFull_10 : decode b_Li_isFull 10 = .ok (.goto 4, 3) := by decide +kernel
theorem d_Li_isFull_13 : decode b_Li_isFull 13 = .ok (.iconst 0, 1) := by decide +kernel
theorem d_Li_isFull_14 : decode b_Li_isFull 14 = .ok (.ireturn, 1) := by decide +kernel
theorem d_Li_has_0 : decode b_Li_has 0 = .ok (.iload_n 1, 1) := by decide +kernel
theorem d_Li_has_1 : decode b_Li_has 1 = .ok (.iconst 1, 1) := by decide +kernel
theorem d_Li_has_2 : decode b_Li_has 2 = .ok (.if_icmp .lt 15, 3) := by decide +kernel
theorem d_Li_has_5 : decode b_Li_has 5 = .ok (.iload_n 1, 1) := by decide +kernel
theorem d_Li_has_6 : decode b_Li_has 6 = .ok (.aload_n 0, 1) := by decide +kernel
theorem d_Li_has_7 : decode b_Li_has 7 = .ok (.getfield 13, 3) := by decide +kernel
theorem d_Li_has_10 : decode b_Li_has 10 = .ok (.if_icmp .gt 7, 3) := by decide +kernel
theorem d_Li_has_13 : decode b_Li_has 13 = .ok (.iconst 1, 1) := by decide +kernel
theorem d_Li_has_14 : decode b_Li_has 14 = .ok (.goto 4, 3) := by decide +kernel
theorem d_Li_has_17 : decode b_Li_has 17 = .ok (.iconst 0, 1) := by decide +kernel
theorem d_Li_has_18 : decode b_Li_has 18 = .ok (.ireturn, 1) := by decide +kernel
theorem d_Li_add_0 : decode b_Li_add 0 = .ok (.aload_n 0, 1) := by decide +kernel
theorem d_Li_add_1 : decode b_Li_add 1 = .ok (.getfield 13, 3) := by decide +kernel
theorem d_Li_add_4 : decode b_Li_add 4 = .ok (.bipush 10, 2) := by decide +kernel
theorem d_Li_add_6 : decode b_Li_add 6 = .ok (.if_icmp .ge 34, 3) := by decide +kernel
theorem d_Li_add_9 : decode b_Li_add 9 = .ok (.aload_n 0, 1) := by decide +kernel
theorem d_Li_add_10 : decode b_Li_add 10 = .ok (.getfield 9, 3) := by decide +kernel
theorem d_Li_add_13 : decode b_Li_add 13 = .ok (.aload_n 0, 1) := by decide +kernel
theorem d_Li_add_14 : decode b_Li_add 14 = .ok (.getfield 13, 3) := by decide +kernel
theorem d_Li_add_17 : decode b_Li_add 17 = .ok (.iload_n 1, 1) := by decide +kernel
theorem d_Li_add_18 : decode b_Li_add 18 = .ok (.iastore, 1) := by decide +kernel
theorem d_Li_add_19 : decode b_Li_add 19 = .ok (.aload_n 0, 1) := by decide +kernel
theorem d_Li_add_20 : decode b_Li_add 20 = .ok (.dup, 1) := by decide +kernel
theorem d_Li_add_21 : decode b_Li_add 21 = .ok (.getfield 17, 3) := by decide +kernel
theorem d_Li_add_24 : decode b_Li_add 24 = .ok (.iload_n 1, 1) := by decide +kernel
theorem d_Li_add_25 : decode b_Li_add 25 = .ok (.i2l, 1) := by decide +kernel
theorem d_Li_add_26 : decode b_Li_add 26 = .ok (.ladd, 1) := by decide +kernel
theorem d_Li_add_27 : decode b_Li_add 27 = .ok (.putfield 17, 3) := by decide +kernel
theorem d_Li_add_30 : decode b_Li_add 30 = .ok (.aload_n 0, 1) := by decide +kernel
theorem d_Li_add_31 : decode b_Li_add 31 = .ok (.dup, 1) := by decide +kernel
theorem d_Li_add_32 : decode b_Li_add 32 = .ok (.getfield 13, 3) := by decide +kernel
theorem d_Li_add_35 : decode b_Li_add 35 = .ok (.iconst 1, 1) := by decide +kernel
theorem d_Li_add_36 : decode b_Li_add 36 = .ok (.iadd, 1) := by decide +kernel
theorem d_Li_add_37 : decode b_Li_add 37 = .ok (.putfield 13, 3) := by decide +kernel
theorem d_Li_add_40 : decode b_Li_add 40 = .ok (.aload_n 0, 1) := by decide +kernel
theorem d_Li_add_41 : decode b_Li_add 41 = .ok (.getfield 13, 3) := by decide +kernel
theorem d_Li_add_44 : decode b_Li_add 44 = .ok (.ireturn, 1) := by decide +kernel
theorem d_Li_weightOf_0 : decode b_Li_weightOf 0 = .ok (.iload_n 1, 1) := by decide +kernel
theorem d_Li_weightOf_1 : decode b_Li_weightOf 1 = .ok (.iconst 1, 1) := by decide +kernel
theorem d_Li_weightOf_2 : decode b_Li_weightOf 2 = .ok (.if_icmp .lt 20, 3) := by decide +kernel
theorem d_Li_weightOf_5 : decode b_Li_weightOf 5 = .ok (.iload_n 1, 1) := by decide +kernel
theorem d_Li_weightOf_6 : decode b_Li_weightOf 6 = .ok (.bipush 10, 2) := by decide +kernel
theorem d_Li_weightOf_8 : decode b_Li_weightOf 8 = .ok (.if_icmp .gt 14, 3) := by decide +kernel
theorem d_Li_weightOf_11 : decode b_Li_weightOf 11 = .ok (.aload_n 0, 1) := by decide +kernel
theorem d_Li_weightOf_12 : decode b_Li_weightOf 12 = .ok (.getfield 9, 3) := by decide +kernel
theorem d_Li_weightOf_15 : decode b_Li_weightOf 15 = .ok (.iload_n 1, 1) := by decide +kernel
theorem d_Li_weightOf_16 : decode b_Li_weightOf 16 = .ok (.iconst 1, 1) := by decide +kernel
theorem d_Li_weightOf_17 : decode b_Li_weightOf 17 = .ok (.isub, 1) := by decide +kernel
theorem d_Li_weightOf_18 : decode b_Li_weightOf 18 = .ok (.iaload, 1) := by decide +kernel
theorem d_Li_weightOf_19 : decode b_Li_weightOf 19 = .ok (.goto 4, 3) := by decide +kernel
theorem d_Li_weightOf_22 : decode b_Li_weightOf 22 = .ok (.iconst 0, 1) := by decide +kernel
theorem d_Li_weightOf_23 : decode b_Li_weightOf 23 = .ok (.ireturn, 1) := by decide +kernel
theorem d_X_init_0 : decode b_X_init 0 = .ok (.aload_n 0, 1) := by decide +kernel
theorem d_X_init_1 : decode b_X_init 1 = .ok (.invokespecial 1, 3) := by decide +kernel
theorem d_X_init_4 : decode b_X_init 4 = .ok (.aload_n 0, 1) := by decide +kernel
theorem d_X_init_5 : decode b_X_init 5 = .ok (.new 7, 3) := by decide +kernel
theorem d_X_init_8 : decode b_X_init 8 = .ok (.dup, 1) := by decide +kernel
theorem d_X_init_9 : decode b_X_init 9 = .ok (.invokespecial 9, 3) := by decide +kernel
theorem d_X_init_12 : decode b_X_init 12 = .ok (.putfield 10, 3) := by decide +kernel
theorem d_X_init_15 : decode b_X_init 15 = .ok (.aload_n 0, 1) := by decide +kernel
theorem d_X_init_16 : decode b_X_init 16 = .ok (.new 16, 3) := by decide +kernel
theorem d_X_init_19 : decode b_X_init 19 = .ok (.dup, 1) := by decide +kernel
theorem d_X_init_20 : decode b_X_init 20 = .ok (.invokespecial 18, 3) := by decide +kernel
theorem d_X_init_23 : decode b_X_init 23 = .ok (.putfield 19, 3) := by decide +kernel
theorem d_X_init_26 : decode b_X_init 26 = .ok (.aload_n 0, 1) := by decide +kernel
theorem d_X_init_27 : decode b_X_init 27 = .ok (.new 23, 3) := by decide +kernel
theorem d_X_init_30 : decode b_X_init 30 = .ok (.dup, 1) := by decide +kernel
theorem d_X_init_31 : decode b_X_init 31 = .ok (.invokespecial 25, 3) := by decide +kernel
theorem d_X_init_34 : decode b_X_init 34 = .ok (.putfield 26, 3) := by decide +kernel
theorem d_X_init_37 : decode b_X_init 37 = .ok (.aload_n 0, 1) := by decide +kernel
theorem d_X_init_38 : decode b_X_init 38 = .ok (.new 30, 3) := by decide +kernel
theorem d_X_init_41 : decode b_X_init 41 = .ok (.dup, 1) := by decide +kernel
theorem d_X_init_42 : decode b_X_init 42 = .ok (.invokespecial 32, 3) := by decide +kernel
theorem d_X_init_45 : decode b_X_init 45 = .ok (.putfield 33, 3) := by decide +kernel
theorem d_X_init_48 : decode b_X_init 48 = .ok (.aload_n 0, 1) := by decide +kernel
theorem d_X_init_49 : decode b_X_init 49 = .ok (.new 37, 3) := by decide +kernel
theorem d_X_init_52 : decode b_X_init 52 = .ok (.dup, 1) := by decide +kernel
theorem d_X_init_53 : decode b_X_init 53 = .ok (.invokespecial 39, 3) := by decide +kernel
theorem d_X_init_56 : decode b_X_init 56 = .ok (.putfield 40, 3) := by decide +kernel
theorem d_X_init_59 : decode b_X_init 59 = .ok (.aload_n 0, 1) := by decide +kernel
theorem d_X_init_60 : decode b_X_init 60 = .ok (.iconst 0, 1) := by decide +kernel
theorem d_X_init_61 : decode b_X_init 61 = .ok (.putfield 44, 3) := by decide +kernel
theorem d_X_init_64 : decode b_X_init 64 = .ok (.return_, 1) := by decide +kernel
theorem d_X_pilot_0 : decode b_X_pilot 0 = .ok (.aload_n 0, 1) := by decide +kernel
theorem d_X_pilot_1 : decode b_X_pilot 1 = .ok (.getfield 19, 3) := by decide +kernel
theorem d_X_pilot_4 : decode b_X_pilot 4 = .ok (.lload_n 1, 1) := by decide +kernel
theorem d_X_pilot_5 : decode b_X_pilot 5 = .ok (.lload_n 3, 1) := by decide +kernel
theorem d_X_pilot_6 : decode b_X_pilot 6 = .ok (.invokevirtual 48, 3) := by decide +kernel
theorem d_X_pilot_9 : decode b_X_pilot 9 = .ok (.aload_n 0, 1) := by decide +kernel
theorem d_X_pilot_10 : decode b_X_pilot 10 = .ok (.getfield 19, 3) := by decide +kernel
