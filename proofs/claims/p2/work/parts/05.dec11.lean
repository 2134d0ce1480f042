theorem d_Mo_price_15 : decode b_Mo_price 15 = .ok (.lcmp, 1) := by decide +kernel
theorem d_Mo_price_16 : decode b_Mo_price 16 = .ok (.ifCond .gt 33, 3) := by decide +kernel
theorem d_Mo_price_19 : decode b_Mo_price 19 = .ok (.lload_n 3, 1) := by decide +kernel
theorem d_Mo_price_20 : decode b_Mo_price 20 = .ok (.lload_n 1, 1) := by decide +kernel
theorem d_Mo_price_21 : decode b_Mo_price 21 = .ok (.lcmp, 1) := by decide +kernel
theorem d_Mo_price_22 : decode b_Mo_price 22 = .ok (.ifCond .le 27, 3) := by decide +kernel
theorem d_Mo_price_25 : decode b_Mo_price 25 = .ok (.lload_n 3, 1) := by decide +kernel
theorem d_Mo_price_26 : decode b_Mo_price 26 = .ok (.ldc2_w 111, 3) := by decide +kernel
theorem d_Mo_price_29 : decode b_Mo_price 29 = .ok (.lcmp, 1) := by decide +kernel
theorem d_Mo_price_30 : decode b_Mo_price 30 = .ok (.ifCond .gt 19, 3) := by decide +kernel
theorem d_Mo_price_33 : decode b_Mo_price 33 = .ok (.lload 5, 2) := by decide +kernel
theorem d_Mo_price_35 : decode b_Mo_price 35 = .ok (.lconst 0, 1) := by decide +kernel
theorem d_Mo_price_36 : decode b_Mo_price 36 = .ok (.lcmp, 1) := by decide +kernel
theorem d_Mo_price_37 : decode b_Mo_price 37 = .ok (.ifCond .lt 12, 3) := by decide +kernel
theorem d_Mo_price_40 : decode b_Mo_price 40 = .ok (.lload 5, 2) := by decide +kernel
theorem d_Mo_price_42 : decode b_Mo_price 42 = .ok (.ldc2_w 33, 3) := by decide +kernel
theorem d_Mo_price_45 : decode b_Mo_price 45 = .ok (.lcmp, 1) := by decide +kernel
theorem d_Mo_price_46 : decode b_Mo_price 46 = .ok (.ifCond .le 6, 3) := by decide +kernel
theorem d_Mo_price_49 : decode b_Mo_price 49 = .ok (.bipush (-2), 2) := by decide +kernel
theorem d_Mo_price_51 : decode b_Mo_price 51 = .ok (.ireturn, 1) := by decide +kernel
theorem d_Mo_price_52 : decode b_Mo_price 52 = .ok (.aload_n 0, 1) := by decide +kernel
theorem d_Mo_price_53 : decode b_Mo_price 53 = .ok (.getfield 108, 3) := by decide +kernel
theorem d_Mo_price_56 : decode b_Mo_price 56 = .ok (.bipush 20, 2) := by decide +kernel
theorem d_Mo_price_58 : decode b_Mo_price 58 = .ok (.if_icmp .ne 6, 3) := by decide +kernel
theorem d_Mo_price_61 : decode b_Mo_price 61 = .ok (.bipush (-4), 2) := by decide +kernel
theorem d_Mo_price_63 : decode b_Mo_price 63 = .ok (.ireturn, 1) := by decide +kernel
theorem d_Mo_price_64 : decode b_Mo_price 64 = .ok (.aload_n 0, 1) := by decide +kernel
theorem d_Mo_price_65 : decode b_Mo_price 65 = .ok (.getfield 7, 3) := by decide +kernel
theorem d_Mo_price_68 : decode b_Mo_price 68 = .ok (.aload_n 0, 1) := by decide +kernel
theorem d_Mo_price_69 : decode b_Mo_price 69 = .ok (.getfield 108, 3) := by decide +kernel
theorem d_Mo_price_72 : decode b_Mo_price 72 = .ok (.lload_n 1, 1) := by decide +kernel
theorem d_Mo_price_73 : decode b_Mo_price 73 = .ok (.l2i, 1) := by decide +kernel
theorem d_Mo_price_74 : decode b_Mo_price 74 = .ok (.iastore, 1) := by decide +kernel
theorem d_Mo_price_75 : decode b_Mo_price 75 = .ok (.aload_n 0, 1) := by decide +kernel
theorem d_Mo_price_76 : decode b_Mo_price 76 = .ok (.getfield 13, 3) := by decide +kernel
theorem d_Mo_price_79 : decode b_Mo_price 79 = .ok (.aload_n 0, 1) := by decide +kernel
theorem d_Mo_price_80 : decode b_Mo_price 80 = .ok (.getfield 108, 3) := by decide +kernel
theorem d_Mo_price_83 : decode b_Mo_price 83 = .ok (.lload_n 3, 1) := by decide +kernel
theorem d_Mo_price_84 : decode b_Mo_price 84 = .ok (.l2i, 1) := by decide +kernel
theorem d_Mo_price_85 : decode b_Mo_price 85 = .ok (.iastore, 1) := by decide +kernel
theorem d_Mo_price_86 : decode b_Mo_price 86 = .ok (.aload_n 0, 1) := by decide +kernel
theorem d_Mo_price_87 : decode b_Mo_price 87 = .ok (.getfield 16, 3) := by decide +kernel
theorem d_Mo_price_90 : decode b_Mo_price 90 = .ok (.aload_n 0, 1) := by decide +kernel
theorem d_Mo_price_91 : decode b_Mo_price 91 = .ok (.getfield 108, 3) := by decide +kernel
theorem d_Mo_price_94 : decode b_Mo_price 94 = .ok (.lload 5, 2) := by decide +kernel
theorem d_Mo_price_96 : decode b_Mo_price 96 = .ok (.l2i, 1) := by decide +kernel
theorem d_Mo_price_97 : decode b_Mo_price 97 = .ok (.iastore, 1) := by decide +kernel
theorem d_Mo_price_98 : decode b_Mo_price 98 = .ok (.aload_n 0, 1) := by decide +kernel
theorem d_Mo_price_99 : decode b_Mo_price 99 = .ok (.dup, 1) := by decide +kernel
theorem d_Mo_price_100 : decode b_Mo_price 100 = .ok (.getfield 108, 3) := by decide +kernel
theorem d_Mo_price_103 : decode b_Mo_price 103 = .ok (.iconst 1, 1) := by decide +kernel
theorem d_Mo_price_104 : decode b_Mo_price 104 = .ok (.iadd, 1) := by decide +kernel
theorem d_Mo_price_105 : decode b_Mo_price 105 = .ok (.putfield 108, 3) := by decide +kernel
theorem d_Mo_price_108 : decode b_Mo_price 108 = .ok (.aload_n 0, 1) := by decide +kernel
theorem d_Mo_price_109 : decode b_Mo_price 109 = .ok (.getfield 108, 3) := by decide +kernel
theorem d_Mo_price_112 : decode b_Mo_price 112 = .ok (.ireturn, 1) := by decide +kernel
theorem d_Mo_planned_0 : decode b_Mo_planned 0 = .ok (.aload_n 0, 1) := by decide +kernel
theorem d_Mo_planned_1 : decode b_Mo_planned 1 = .ok (.iconst 0, 1) := by decide +kernel
theorem d_Mo_planned_2 : decode b_Mo_planned 2 = .ok (.putfield 26, 3) := by decide +kernel
theorem d_Mo_planned_5 : decode b_Mo_planned 5 = .ok (.lload_n 1, 1) := by decide +kernel
theorem d_Mo_planned_6 : decode b_Mo_planned 6 = .ok (.lconst 0, 1) := by decide +kernel
theorem d_Mo_planned_7 : decode b_Mo_planned 7 = .ok (.lcmp, 1) := by decide +kernel
theorem d_Mo_planned_8 : decode b_Mo_planned 8 = .ok (.ifCond .lt 11, 3) := by decide +kernel
theorem d_Mo_planned_11 : decode b_Mo_planned 11 = .ok (.lload_n 1, 1) := by decide +kernel
theorem d_Mo_planned_12 : decode b_Mo_planned 12 = .ok (.ldc2_w 120, 3) := by decide +kernel
theorem d_Mo_planned_15 : decode b_Mo_planned 15 = .ok (.lcmp, 1) := by decide +kernel
theorem d_Mo_planned_16 : decode b_Mo_planned 16 = .ok (.ifCond .le 7, 3) := by decide +kernel
theorem d_Mo_planned_19 : decode b_Mo_planned 19 = .ok (.lconst 0, 1) := by decide +kernel
theorem d_Mo_planned_20 : decode b_Mo_planned 20 = .ok (.goto 10, 3) := by decide +kernel
theorem d_Mo_planned_23 : decode b_Mo_planned 23 = .ok (.aload_n 0, 1) := by decide +kernel
theorem d_Mo_planned_24 : decode b_Mo_planned 24 = .ok (.getfield 19, 3) := by decide +kernel
theorem d_Mo_planned_27 : decode b_Mo_planned 27 = .ok (.lload_n 1, 1) := by decide +kernel
theorem d_Mo_planned_28 : decode b_Mo_planned 28 = .ok (.l2i, 1) := by decide +kernel
theorem d_Mo_planned_29 : decode b_Mo_planned 29 = .ok (.laload, 1) := by decide +kernel
theorem d_Mo_planned_30 : decode b_Mo_planned 30 = .ok (.lreturn, 1) := by decide +kernel
theorem d_Mo_stop_0 : decode b_Mo_stop 0 = .ok (.aload_n 0, 1) := by decide +kernel
theorem d_Mo_stop_1 : decode b_Mo_stop 1 = .ok (.iconst 0, 1) := by decide +kernel
theorem d_Mo_stop_2 : decode b_Mo_stop 2 = .ok (.putfield 26, 3) := by decide +kernel
theorem d_Mo_stop_5 : decode b_Mo_stop 5 = .ok (.iload_n 1, 1) := by decide +kernel
theorem d_Mo_stop_6 : decode b_Mo_stop 6 = .ok (.ifCond .lt 8, 3) := by decide +kernel
theorem d_Mo_stop_9 : decode b_Mo_stop 9 = .ok (.iload_n 1, 1) := by decide +kernel
theorem d_Mo_stop_10 : decode b_Mo_stop 10 = .ok (.iconst 1, 1) := by decide +kernel
theorem d_Mo_stop_11 : decode b_Mo_stop 11 = .ok (.if_icmp .le 5, 3) := by decide +kernel
theorem d_Mo_stop_14 : decode b_Mo_stop 14 = .ok (.iconst (-1), 1) := by decide +kernel
theorem d_Mo_stop_15 : decode b_Mo_stop 15 = .ok (.ireturn, 1) := by decide +kernel
theorem d_Mo_stop_16 : decode b_Mo_stop 16 = .ok (.aload_n 0, 1) := by decide +kernel
theorem d_Mo_stop_17 : decode b_Mo_stop 17 = .ok (.lload_n 2, 1) := by decide +kernel
theorem d_Mo_stop_18 : decode b_Mo_stop 18 = .ok (.invokevirtual 87, 3) := by decide +kernel
theorem d_Mo_stop_21 : decode b_Mo_stop 21 = .ok (.ifCond .ne 6, 3) := by decide +kernel
theorem d_Mo_stop_24 : decode b_Mo_stop 24 = .ok (.bipush (-2), 2) := by decide +kernel
theorem d_Mo_stop_26 : decode b_Mo_stop 26 = .ok (.ireturn, 1) := by decide +kernel
theorem d_Mo_stop_27 : decode b_Mo_stop 27 = .ok (.aload_n 0, 1) := by decide +kernel
theorem d_Mo_stop_28 : decode b_Mo_stop 28 = .ok (.getfield 52, 3) := by decide +kernel
theorem d_Mo_stop_31 : decode b_Mo_stop 31 = .ok (.bipush 7, 2) := by decide +kernel
theorem d_Mo_stop_33 : decode b_Mo_stop 33 = .ok (.if_icmp .eq 6, 3) := by decide +kernel
theorem d_Mo_stop_36 : decode b_Mo_stop 36 = .ok (.bipush (-3), 2) := by decide +kernel
theorem d_Mo_stop_38 : decode b_Mo_stop 38 = .ok (.ireturn, 1) := by decide +kernel
theorem d_Mo_stop_39 : decode b_Mo_stop 39 = .ok (.aload_n 0, 1) := by decide +kernel
theorem d_Mo_stop_40 : decode b_Mo_stop 40 = .ok (.lload_n 2, 1) := by decide +kernel
theorem d_Mo_stop_41 : decode b_Mo_stop 41 = .ok (.putfield 59, 3) := by decide +kernel
theorem d_Mo_stop_44 : decode b_Mo_stop 44 = .ok (.aload_n 0, 1) := by decide +kernel
theorem d_Mo_stop_45 : decode b_Mo_stop 45 = .ok (.iload_n 1, 1) := by decide +kernel
theorem d_Mo_stop_46 : decode b_Mo_stop 46 = .ok (.ifCond .ne 8, 3) := by decide +kernel
theorem d_Mo_stop_49 : decode b_Mo_stop 49 = .ok (.bipush 8, 2) := by decide +kernel
theorem d_Mo_stop_51 : decode b_Mo_stop 51 = .ok (.goto 4, 3) := by decide +kernel
theorem d_Mo_stop_54 : decode b_Mo_stop 54 = .ok (.iconst 0, 1) := by decide +kernel
theorem d_Mo_stop_55 : decode b_Mo_stop 55 = .ok (.putfield 52, 3) := by decide +kernel
theorem d_Mo_stop_58 : decode b_Mo_stop 58 = .ok (.ldc2_w 33, 3) := by decide +kernel
theorem d_Mo_stop_61 : decode b_Mo_stop 61 = .ok (.aload_n 0, 1) := by decide +kernel
theorem d_Mo_stop_62 : decode b_Mo_stop 62 = .ok (.getfield 98, 3) := by decide +kernel
theorem d_Mo_stop_65 : decode b_Mo_stop 65 = .ok (.ldc2_w 122, 3) := by decide +kernel
theorem d_Mo_stop_68 : decode b_Mo_stop 68 = .ok (.ldiv, 1) := by decide +kernel
theorem d_Mo_stop_69 : decode b_Mo_stop 69 = .ok (.lmul, 1) := by decide +kernel
theorem d_Mo_stop_70 : decode b_Mo_stop 70 = .ok (.lstore 4, 2) := by decide +kernel
theorem d_Mo_stop_72 : decode b_Mo_stop 72 = .ok (.iload_n 1, 1) := by decide +kernel
theorem d_Mo_stop_73 : decode b_Mo_stop 73 = .ok (.iconst 1, 1) := by decide +kernel
theorem d_Mo_stop_74 : decode b_Mo_stop 74 = .ok (.if_icmp .eq 12, 3) := by decide +kernel
theorem d_Mo_stop_77 : decode b_Mo_stop 77 = .ok (.lload 4, 2) := by decide +kernel
theorem d_Mo_stop_79 : decode b_Mo_stop 79 = .ok (.ldc2_w 69, 3) := by decide +kernel
theorem d_Mo_stop_82 : decode b_Mo_stop 82 = .ok (.lcmp, 1) := by decide +kernel
theorem d_Mo_stop_83 : decode b_Mo_stop 83 = .ok (.ifCond .ge 9, 3) := by decide +kernel
theorem d_Mo_stop_86 : decode b_Mo_stop 86 = .ok (.sipush 5000, 3) := by decide +kernel
theorem d_Mo_stop_89 : decode b_Mo_stop 89 = .ok (.goto 6, 3) := by decide +kernel
theorem d_Mo_stop_92 : decode b_Mo_stop 92 = .ok (.lload 4, 2) := by decide +kernel
theorem d_Mo_stop_94 : decode b_Mo_stop 94 = .ok (.l2i, 1) := by decide +kernel
theorem d_Mo_stop_95 : decode b_Mo_stop 95 = .ok (.ireturn, 1) := by decide +kernel
theorem d_Mo_car_0 : decode b_Mo_car 0 = .ok (.aload_n 0, 1) := by decide +kernel
theorem d_Mo_car_1 : decode b_Mo_car 1 = .ok (.iconst 0, 1) := by decide +kernel
theorem d_Mo_car_2 : decode b_Mo_car 2 = .ok (.putfield 26, 3) := by decide +kernel
theorem d_Mo_car_5 : decode b_Mo_car 5 = .ok (.iload_n 1, 1) := by decide +kernel
theorem d_Mo_car_6 : decode b_Mo_car 6 = .ok (.ifCond .lt 10, 3) := by decide +kernel
theorem d_Mo_car_9 : decode b_Mo_car 9 = .ok (.iload_n 1, 1) := by decide +kernel
theorem d_Mo_car_10 : decode b_Mo_car 10 = .ok (.sipush 1000, 3) := by decide +kernel
theorem d_Mo_car_13 : decode b_Mo_car 13 = .ok (.if_icmp .le 6, 3) := by decide +kernel
theorem d_Mo_car_16 : decode b_Mo_car 16 = .ok (.bipush (-2), 2) := by decide +kernel
theorem d_Mo_car_18 : decode b_Mo_car 18 = .ok (.ireturn, 1) := by decide +kernel
theorem d_Mo_car_19 : decode b_Mo_car 19 = .ok (.aload_n 0, 1) := by decide +kernel
theorem d_Mo_car_20 : decode b_Mo_car 20 = .ok (.getfield 124, 3) := by decide +kernel
theorem d_Mo_car_23 : decode b_Mo_car 23 = .ok (.bipush 10, 2) := by decide +kernel
theorem d_Mo_car_25 : decode b_Mo_car 25 = .ok (.if_icmp .ne 6, 3) := by decide +kernel
theorem d_Mo_car_28 : decode b_Mo_car 28 = .ok (.bipush (-4), 2) := by decide +kernel
theorem d_Mo_car_30 : decode b_Mo_car 30 = .ok (.ireturn, 1) := by decide +kernel
theorem d_Mo_car_31 : decode b_Mo_car 31 = .ok (.aload_n 0, 1) := by decide +kernel
theorem d_Mo_car_32 : decode b_Mo_car 32 = .ok (.dup, 1) := by decide +kernel
theorem d_Mo_car_33 : decode b_Mo_car 33 = .ok (.getfield 124, 3) := by decide +kernel
theorem d_Mo_car_36 : decode b_Mo_car 36 = .ok (.iconst 1, 1) := by decide +kernel
theorem d_Mo_car_37 : decode b_Mo_car 37 = .ok (.iadd, 1) := by decide +kernel
theorem d_Mo_car_38 : decode b_Mo_car 38 = .ok (.putfield 124, 3) := by decide +kernel
theorem d_Mo_car_41 : decode b_Mo_car 41 = .ok (.aload_n 0, 1) := by decide +kernel
theorem d_Mo_car_42 : decode b_Mo_car 42 = .ok (.getfield 23, 3) := by decide +kernel
theorem d_Mo_car_45 : decode b_Mo_car 45 = .ok (.aload_n 0, 1) := by decide +kernel
theorem d_Mo_car_46 : decode b_Mo_car 46 = .ok (.getfield 124, 3) := by decide +kernel
theorem d_Mo_car_49 : decode b_Mo_car 49 = .ok (.iload_n 1, 1) := by decide +kernel
theorem d_Mo_car_50 : decode b_Mo_car 50 = .ok (.iastore, 1) := by decide +kernel
theorem d_Mo_car_51 : decode b_Mo_car 51 = .ok (.aload_n 0, 1) := by decide +kernel
theorem d_Mo_car_52 : decode b_Mo_car 52 = .ok (.getfield 124, 3) := by decide +kernel
theorem d_Mo_car_55 : decode b_Mo_car 55 = .ok (.ireturn, 1) := by decide +kernel
theorem d_Mo_share_0 : decode b_Mo_share 0 = .ok (.aload_n 0, 1) := by decide +kernel
theorem d_Mo_share_1 : decode b_Mo_share 1 = .ok (.iconst 0, 1) := by decide +kernel
theorem d_Mo_share_2 : decode b_Mo_share 2 = .ok (.putfield 26, 3) := by decide +kernel
