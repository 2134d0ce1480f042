theorem d_X_pilot_13 : decode b_X_pilot 13 = .ok (.invokevirtual 52, 3) := by decide +kernel
theorem d_X_pilot_16 : decode b_X_pilot 16 = .ok (.ifCond .ne 10, 3) := by decide +kernel
theorem d_X_pilot_19 : decode b_X_pilot 19 = .ok (.aload_n 0, 1) := by decide +kernel
theorem d_X_pilot_20 : decode b_X_pilot 20 = .ok (.getfield 26, 3) := by decide +kernel
theorem d_X_pilot_23 : decode b_X_pilot 23 = .ok (.invokevirtual 56, 3) := by decide +kernel
theorem d_X_pilot_26 : decode b_X_pilot 26 = .ok (.aload_n 0, 1) := by decide +kernel
theorem d_X_pilot_27 : decode b_X_pilot 27 = .ok (.getfield 19, 3) := by decide +kernel
theorem d_X_pilot_30 : decode b_X_pilot 30 = .ok (.getfield 59, 3) := by decide +kernel
theorem d_X_pilot_33 : decode b_X_pilot 33 = .ok (.ireturn, 1) := by decide +kernel
theorem d_X_message_0 : decode b_X_message 0 = .ok (.iload_n 1, 1) := by decide +kernel
theorem d_X_message_1 : decode b_X_message 1 = .ok (.ifCond .lt 9, 3) := by decide +kernel
theorem d_X_message_4 : decode b_X_message 4 = .ok (.iload_n 1, 1) := by decide +kernel
theorem d_X_message_5 : decode b_X_message 5 = .ok (.bipush 10, 2) := by decide +kernel
theorem d_X_message_7 : decode b_X_message 7 = .ok (.if_icmp .le 6, 3) := by decide +kernel
theorem d_X_message_10 : decode b_X_message 10 = .ok (.bipush (-2), 2) := by decide +kernel
theorem d_X_message_12 : decode b_X_message 12 = .ok (.ireturn, 1) := by decide +kernel
theorem d_X_message_13 : decode b_X_message 13 = .ok (.lload_n 2, 1) := by decide +kernel
theorem d_X_message_14 : decode b_X_message 14 = .ok (.ldc2_w 63, 3) := by decide +kernel
theorem d_X_message_17 : decode b_X_message 17 = .ok (.ldc2_w 65, 3) := by decide +kernel
theorem d_X_message_20 : decode b_X_message 20 = .ok (.invokestatic 67, 3) := by decide +kernel
theorem d_X_message_23 : decode b_X_message 23 = .ok (.ifCond .eq 15, 3) := by decide +kernel
theorem d_X_message_26 : decode b_X_message 26 = .ok (.aload_n 0, 1) := by decide +kernel
theorem d_X_message_27 : decode b_X_message 27 = .ok (.getfield 10, 3) := by decide +kernel
theorem d_X_message_30 : decode b_X_message 30 = .ok (.lload 4, 2) := by decide +kernel
theorem d_X_message_32 : decode b_X_message 32 = .ok (.invokevirtual 71, 3) := by decide +kernel
theorem d_X_message_35 : decode b_X_message 35 = .ok (.ifCond .ne 6, 3) := by decide +kernel
theorem d_X_message_38 : decode b_X_message 38 = .ok (.bipush (-2), 2) := by decide +kernel
theorem d_X_message_40 : decode b_X_message 40 = .ok (.ireturn, 1) := by decide +kernel
theorem d_X_message_41 : decode b_X_message 41 = .ok (.aload_n 0, 1) := by decide +kernel
theorem d_X_message_42 : decode b_X_message 42 = .ok (.getfield 10, 3) := by decide +kernel
theorem d_X_message_45 : decode b_X_message 45 = .ok (.lload 4, 2) := by decide +kernel
theorem d_X_message_47 : decode b_X_message 47 = .ok (.invokevirtual 75, 3) := by decide +kernel
theorem d_X_message_50 : decode b_X_message 50 = .ok (.aload_n 0, 1) := by decide +kernel
theorem d_X_message_51 : decode b_X_message 51 = .ok (.getfield 19, 3) := by decide +kernel
theorem d_X_message_54 : decode b_X_message 54 = .ok (.invokevirtual 79, 3) := by decide +kernel
theorem d_X_message_57 : decode b_X_message 57 = .ok (.ifCond .eq 14, 3) := by decide +kernel
theorem d_X_message_60 : decode b_X_message 60 = .ok (.aload_n 0, 1) := by decide +kernel
theorem d_X_message_61 : decode b_X_message 61 = .ok (.getfield 44, 3) := by decide +kernel
theorem d_X_message_64 : decode b_X_message 64 = .ok (.ifCond .eq 7, 3) := by decide +kernel
theorem d_X_message_67 : decode b_X_message 67 = .ok (.iconst 1, 1) := by decide +kernel
theorem d_X_message_68 : decode b_X_message 68 = .ok (.goto 4, 3) := by decide +kernel
theorem d_X_message_71 : decode b_X_message 71 = .ok (.iconst 0, 1) := by decide +kernel
theorem d_X_message_72 : decode b_X_message 72 = .ok (.istore 6, 2) := by decide +kernel
theorem d_X_message_74 : decode b_X_message 74 = .ok (.aload_n 0, 1) := by decide +kernel
theorem d_X_message_75 : decode b_X_message 75 = .ok (.getfield 26, 3) := by decide +kernel
theorem d_X_message_78 : decode b_X_message 78 = .ok (.iload_n 1, 1) := by decide +kernel
theorem d_X_message_79 : decode b_X_message 79 = .ok (.lload_n 2, 1) := by decide +kernel
theorem d_X_message_80 : decode b_X_message 80 = .ok (.lload 4, 2) := by decide +kernel
theorem d_X_message_82 : decode b_X_message 82 = .ok (.iload 6, 2) := by decide +kernel
theorem d_X_message_84 : decode b_X_message 84 = .ok (.invokevirtual 82, 3) := by decide +kernel
theorem d_X_message_87 : decode b_X_message 87 = .ok (.ifCond .eq 13, 3) := by decide +kernel
theorem d_X_message_90 : decode b_X_message 90 = .ok (.aload_n 0, 1) := by decide +kernel
theorem d_X_message_91 : decode b_X_message 91 = .ok (.getfield 26, 3) := by decide +kernel
theorem d_X_message_94 : decode b_X_message 94 = .ok (.getfield 86, 3) := by decide +kernel
theorem d_X_message_97 : decode b_X_message 97 = .ok (.goto 5, 3) := by decide +kernel
theorem d_X_message_100 : decode b_X_message 100 = .ok (.bipush (-3), 2) := by decide +kernel
theorem d_X_message_102 : decode b_X_message 102 = .ok (.ireturn, 1) := by decide +kernel
theorem d_X_allowed_0 : decode b_X_allowed 0 = .ok (.aload_n 0, 1) := by decide +kernel
theorem d_X_allowed_1 : decode b_X_allowed 1 = .ok (.getfield 19, 3) := by decide +kernel
theorem d_X_allowed_4 : decode b_X_allowed 4 = .ok (.invokevirtual 89, 3) := by decide +kernel
theorem d_X_allowed_7 : decode b_X_allowed 7 = .ok (.ireturn, 1) := by decide +kernel
theorem d_X_plug_0 : decode b_X_plug 0 = .ok (.iload_n 1, 1) := by decide +kernel
theorem d_X_plug_1 : decode b_X_plug 1 = .ok (.aload_n 0, 1) := by decide +kernel
theorem d_X_plug_2 : decode b_X_plug 2 = .ok (.getfield 44, 3) := by decide +kernel
theorem d_X_plug_5 : decode b_X_plug 5 = .ok (.if_icmp .ne 5, 3) := by decide +kernel
theorem d_X_plug_8 : decode b_X_plug 8 = .ok (.iconst 0, 1) := by decide +kernel
theorem d_X_plug_9 : decode b_X_plug 9 = .ok (.ireturn, 1) := by decide +kernel
theorem d_X_plug_10 : decode b_X_plug 10 = .ok (.iload_n 1, 1) := by decide +kernel
theorem d_X_plug_11 : decode b_X_plug 11 = .ok (.ifCond .ne 16, 3) := by decide +kernel
theorem d_X_plug_14 : decode b_X_plug 14 = .ok (.aload_n 0, 1) := by decide +kernel
theorem d_X_plug_15 : decode b_X_plug 15 = .ok (.getfield 26, 3) := by decide +kernel
theorem d_X_plug_18 : decode b_X_plug 18 = .ok (.invokevirtual 93, 3) := by decide +kernel
theorem d_X_plug_21 : decode b_X_plug 21 = .ok (.ifCond .eq 6, 3) := by decide +kernel
theorem d_X_plug_24 : decode b_X_plug 24 = .ok (.bipush (-3), 2) := by decide +kernel
theorem d_X_plug_26 : decode b_X_plug 26 = .ok (.ireturn, 1) := by decide +kernel
theorem d_X_plug_27 : decode b_X_plug 27 = .ok (.aload_n 0, 1) := by decide +kernel
theorem d_X_plug_28 : decode b_X_plug 28 = .ok (.iload_n 1, 1) := by decide +kernel
theorem d_X_plug_29 : decode b_X_plug 29 = .ok (.putfield 44, 3) := by decide +kernel
theorem d_X_plug_32 : decode b_X_plug 32 = .ok (.iconst 1, 1) := by decide +kernel
theorem d_X_plug_33 : decode b_X_plug 33 = .ok (.ireturn, 1) := by decide +kernel
theorem d_X_meter_0 : decode b_X_meter 0 = .ok (.lload_n 1, 1) := by decide +kernel
theorem d_X_meter_1 : decode b_X_meter 1 = .ok (.lconst 0, 1) := by decide +kernel
theorem d_X_meter_2 : decode b_X_meter 2 = .ok (.ldc2_w 96, 3) := by decide +kernel
theorem d_X_meter_5 : decode b_X_meter 5 = .ok (.invokestatic 67, 3) := by decide +kernel
theorem d_X_meter_8 : decode b_X_meter 8 = .ok (.ifCond .ne 6, 3) := by decide +kernel
theorem d_X_meter_11 : decode b_X_meter 11 = .ok (.bipush (-2), 2) := by decide +kernel
theorem d_X_meter_13 : decode b_X_meter 13 = .ok (.ireturn, 1) := by decide +kernel
theorem d_X_meter_14 : decode b_X_meter 14 = .ok (.lload_n 1, 1) := by decide +kernel
theorem d_X_meter_15 : decode b_X_meter 15 = .ok (.aload_n 0, 1) := by decide +kernel
theorem d_X_meter_16 : decode b_X_meter 16 = .ok (.getfield 26, 3) := by decide +kernel
theorem d_X_meter_19 : decode b_X_meter 19 = .ok (.invokevirtual 98, 3) := by decide +kernel
theorem d_X_meter_22 : decode b_X_meter 22 = .ok (.lsub, 1) := by decide +kernel
theorem d_X_meter_23 : decode b_X_meter 23 = .ok (.l2i, 1) := by decide +kernel
theorem d_X_meter_24 : decode b_X_meter 24 = .ok (.ireturn, 1) := by decide +kernel
theorem d_X_plan_0 : decode b_X_plan 0 = .ok (.lload_n 1, 1) := by decide +kernel
theorem d_X_plan_1 : decode b_X_plan 1 = .ok (.lconst 0, 1) := by decide +kernel
theorem d_X_plan_2 : decode b_X_plan 2 = .ok (.ldc2_w 65, 3) := by decide +kernel
theorem d_X_plan_5 : decode b_X_plan 5 = .ok (.invokestatic 67, 3) := by decide +kernel
theorem d_X_plan_8 : decode b_X_plan 8 = .ok (.ifCond .eq 14, 3) := by decide +kernel
theorem d_X_plan_11 : decode b_X_plan 11 = .ok (.lload_n 3, 1) := by decide +kernel
theorem d_X_plan_12 : decode b_X_plan 12 = .ok (.lconst 0, 1) := by decide +kernel
theorem d_X_plan_13 : decode b_X_plan 13 = .ok (.ldc2_w 102, 3) := by decide +kernel
theorem d_X_plan_16 : decode b_X_plan 16 = .ok (.invokestatic 67, 3) := by decide +kernel
theorem d_X_plan_19 : decode b_X_plan 19 = .ok (.ifCond .ne 6, 3) := by decide +kernel
theorem d_X_plan_22 : decode b_X_plan 22 = .ok (.bipush (-2), 2) := by decide +kernel
theorem d_X_plan_24 : decode b_X_plan 24 = .ok (.ireturn, 1) := by decide +kernel
theorem d_X_plan_25 : decode b_X_plan 25 = .ok (.aload_n 0, 1) := by decide +kernel
theorem d_X_plan_26 : decode b_X_plan 26 = .ok (.getfield 33, 3) := by decide +kernel
theorem d_X_plan_29 : decode b_X_plan 29 = .ok (.lload_n 1, 1) := by decide +kernel
theorem d_X_plan_30 : decode b_X_plan 30 = .ok (.lload_n 3, 1) := by decide +kernel
theorem d_X_plan_31 : decode b_X_plan 31 = .ok (.l2i, 1) := by decide +kernel
theorem d_X_plan_32 : decode b_X_plan 32 = .ok (.aload_n 0, 1) := by decide +kernel
theorem d_X_plan_33 : decode b_X_plan 33 = .ok (.getfield 19, 3) := by decide +kernel
theorem d_X_plan_36 : decode b_X_plan 36 = .ok (.invokevirtual 89, 3) := by decide +kernel
theorem d_X_plan_39 : decode b_X_plan 39 = .ok (.invokevirtual 104, 3) := by decide +kernel
theorem d_X_plan_42 : decode b_X_plan 42 = .ok (.lstore 5, 2) := by decide +kernel
theorem d_X_plan_44 : decode b_X_plan 44 = .ok (.aload_n 0, 1) := by decide +kernel
theorem d_X_plan_45 : decode b_X_plan 45 = .ok (.getfield 33, 3) := by decide +kernel
theorem d_X_plan_48 : decode b_X_plan 48 = .ok (.getfield 108, 3) := by decide +kernel
theorem d_X_plan_51 : decode b_X_plan 51 = .ok (.lconst 0, 1) := by decide +kernel
theorem d_X_plan_52 : decode b_X_plan 52 = .ok (.lcmp, 1) := by decide +kernel
theorem d_X_plan_53 : decode b_X_plan 53 = .ok (.ifCond .le 7, 3) := by decide +kernel
theorem d_X_plan_56 : decode b_X_plan 56 = .ok (.iconst (-1), 1) := by decide +kernel
theorem d_X_plan_57 : decode b_X_plan 57 = .ok (.goto 6, 3) := by decide +kernel
theorem d_X_plan_60 : decode b_X_plan 60 = .ok (.lload 5, 2) := by decide +kernel
theorem d_X_plan_62 : decode b_X_plan 62 = .ok (.l2i, 1) := by decide +kernel
theorem d_X_plan_63 : decode b_X_plan 63 = .ok (.ireturn, 1) := by decide +kernel
theorem d_X_short0_0 : decode b_X_short0 0 = .ok (.aload_n 0, 1) := by decide +kernel
theorem d_X_short0_1 : decode b_X_short0 1 = .ok (.getfield 33, 3) := by decide +kernel
theorem d_X_short0_4 : decode b_X_short0 4 = .ok (.getfield 108, 3) := by decide +kernel
theorem d_X_short0_7 : decode b_X_short0 7 = .ok (.lreturn, 1) := by decide +kernel
theorem d_X_price_0 : decode b_X_price 0 = .ok (.lload_n 1, 1) := by decide +kernel
theorem d_X_price_1 : decode b_X_price 1 = .ok (.lconst 0, 1) := by decide +kernel
theorem d_X_price_2 : decode b_X_price 2 = .ok (.ldc2_w 112, 3) := by decide +kernel
theorem d_X_price_5 : decode b_X_price 5 = .ok (.invokestatic 67, 3) := by decide +kernel
theorem d_X_price_8 : decode b_X_price 8 = .ok (.ifCond .eq 16, 3) := by decide +kernel
theorem d_X_price_11 : decode b_X_price 11 = .ok (.lload_n 3, 1) := by decide +kernel
theorem d_X_price_12 : decode b_X_price 12 = .ok (.lload_n 1, 1) := by decide +kernel
theorem d_X_price_13 : decode b_X_price 13 = .ok (.lconst 1, 1) := by decide +kernel
theorem d_X_price_14 : decode b_X_price 14 = .ok (.ladd, 1) := by decide +kernel
theorem d_X_price_15 : decode b_X_price 15 = .ok (.ldc2_w 102, 3) := by decide +kernel
theorem d_X_price_18 : decode b_X_price 18 = .ok (.invokestatic 67, 3) := by decide +kernel
theorem d_X_price_21 : decode b_X_price 21 = .ok (.ifCond .ne 6, 3) := by decide +kernel
theorem d_X_price_24 : decode b_X_price 24 = .ok (.bipush (-2), 2) := by decide +kernel
theorem d_X_price_26 : decode b_X_price 26 = .ok (.ireturn, 1) := by decide +kernel
theorem d_X_price_27 : decode b_X_price 27 = .ok (.lload 5, 2) := by decide +kernel
theorem d_X_price_29 : decode b_X_price 29 = .ok (.lconst 0, 1) := by decide +kernel
theorem d_X_price_30 : decode b_X_price 30 = .ok (.ldc2_w 114, 3) := by decide +kernel
theorem d_X_price_33 : decode b_X_price 33 = .ok (.invokestatic 67, 3) := by decide +kernel
theorem d_X_price_36 : decode b_X_price 36 = .ok (.ifCond .ne 6, 3) := by decide +kernel
theorem d_X_price_39 : decode b_X_price 39 = .ok (.bipush (-2), 2) := by decide +kernel
theorem d_X_price_41 : decode b_X_price 41 = .ok (.ireturn, 1) := by decide +kernel
theorem d_X_price_42 : decode b_X_price 42 = .ok (.aload_n 0, 1) := by decide +kernel
theorem d_X_price_43 : decode b_X_price 43 = .ok (.getfield 33, 3) := by decide +kernel
theorem d_X_price_46 : decode b_X_price 46 = .ok (.invokevirtual 116, 3) := by decide +kernel
theorem d_X_price_49 : decode b_X_price 49 = .ok (.ifCond .eq 6, 3) := by decide +kernel
theorem d_X_price_52 : decode b_X_price 52 = .ok (.bipush (-4), 2) := by decide +kernel
theorem d_X_price_54 : decode b_X_price 54 = .ok (.ireturn, 1) := by decide +kernel
theorem d_X_price_55 : decode b_X_price 55 = .ok (.aload_n 0, 1) := by decide +kernel
theorem d_X_price_56 : decode b_X_price 56 = .ok (.getfield 33, 3) := by decide +kernel
