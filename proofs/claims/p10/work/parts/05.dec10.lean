theorem d_Mo_plug_5 : decode b_Mo_plug 5 = .ok (.iload_n 1, 1) := by decide +kernel
theorem d_Mo_plug_6 : decode b_Mo_plug 6 = .ok (.ifCond .ne 20, 3) := by decide +kernel
theorem d_Mo_plug_9 : decode b_Mo_plug 9 = .ok (.aload_n 0, 1) := by decide +kernel
theorem d_Mo_plug_10 : decode b_Mo_plug 10 = .ok (.getfield 52, 3) := by decide +kernel
theorem d_Mo_plug_13 : decode b_Mo_plug 13 = .ok (.ifCond .le 13, 3) := by decide +kernel
theorem d_Mo_plug_16 : decode b_Mo_plug 16 = .ok (.aload_n 0, 1) := by decide +kernel
theorem d_Mo_plug_17 : decode b_Mo_plug 17 = .ok (.getfield 65, 3) := by decide +kernel
theorem d_Mo_plug_20 : decode b_Mo_plug 20 = .ok (.ifCond .eq 6, 3) := by decide +kernel
theorem d_Mo_plug_23 : decode b_Mo_plug 23 = .ok (.bipush (-3), 2) := by decide +kernel
theorem d_Mo_plug_25 : decode b_Mo_plug 25 = .ok (.ireturn, 1) := by decide +kernel
theorem d_Mo_plug_26 : decode b_Mo_plug 26 = .ok (.aload_n 0, 1) := by decide +kernel
theorem d_Mo_plug_27 : decode b_Mo_plug 27 = .ok (.getfield 65, 3) := by decide +kernel
theorem d_Mo_plug_30 : decode b_Mo_plug 30 = .ok (.iload_n 1, 1) := by decide +kernel
theorem d_Mo_plug_31 : decode b_Mo_plug 31 = .ok (.if_icmp .eq 7, 3) := by decide +kernel
theorem d_Mo_plug_34 : decode b_Mo_plug 34 = .ok (.iconst 1, 1) := by decide +kernel
theorem d_Mo_plug_35 : decode b_Mo_plug 35 = .ok (.goto 4, 3) := by decide +kernel
theorem d_Mo_plug_38 : decode b_Mo_plug 38 = .ok (.iconst 0, 1) := by decide +kernel
theorem d_Mo_plug_39 : decode b_Mo_plug 39 = .ok (.istore_n 2, 1) := by decide +kernel
theorem d_Mo_plug_40 : decode b_Mo_plug 40 = .ok (.aload_n 0, 1) := by decide +kernel
theorem d_Mo_plug_41 : decode b_Mo_plug 41 = .ok (.iload_n 1, 1) := by decide +kernel
theorem d_Mo_plug_42 : decode b_Mo_plug 42 = .ok (.putfield 65, 3) := by decide +kernel
theorem d_Mo_plug_45 : decode b_Mo_plug 45 = .ok (.iload_n 2, 1) := by decide +kernel
theorem d_Mo_plug_46 : decode b_Mo_plug 46 = .ok (.ifCond .eq 7, 3) := by decide +kernel
theorem d_Mo_plug_49 : decode b_Mo_plug 49 = .ok (.iconst 1, 1) := by decide +kernel
theorem d_Mo_plug_50 : decode b_Mo_plug 50 = .ok (.goto 4, 3) := by decide +kernel
theorem d_Mo_plug_53 : decode b_Mo_plug 53 = .ok (.iconst 0, 1) := by decide +kernel
theorem d_Mo_plug_54 : decode b_Mo_plug 54 = .ok (.ireturn, 1) := by decide +kernel
theorem d_Mo_meter_0 : decode b_Mo_meter 0 = .ok (.aload_n 0, 1) := by decide +kernel
theorem d_Mo_meter_1 : decode b_Mo_meter 1 = .ok (.iconst 0, 1) := by decide +kernel
theorem d_Mo_meter_2 : decode b_Mo_meter 2 = .ok (.putfield 26, 3) := by decide +kernel
theorem d_Mo_meter_5 : decode b_Mo_meter 5 = .ok (.lload_n 1, 1) := by decide +kernel
theorem d_Mo_meter_6 : decode b_Mo_meter 6 = .ok (.lconst 0, 1) := by decide +kernel
theorem d_Mo_meter_7 : decode b_Mo_meter 7 = .ok (.lcmp, 1) := by decide +kernel
theorem d_Mo_meter_8 : decode b_Mo_meter 8 = .ok (.ifCond .lt 11, 3) := by decide +kernel
theorem d_Mo_meter_11 : decode b_Mo_meter 11 = .ok (.lload_n 1, 1) := by decide +kernel
theorem d_Mo_meter_12 : decode b_Mo_meter 12 = .ok (.ldc2_w 104, 3) := by decide +kernel
theorem d_Mo_meter_15 : decode b_Mo_meter 15 = .ok (.lcmp, 1) := by decide +kernel
theorem d_Mo_meter_16 : decode b_Mo_meter 16 = .ok (.ifCond .le 8, 3) := by decide +kernel
theorem d_Mo_meter_19 : decode b_Mo_meter 19 = .ok (.bipush (-2), 2) := by decide +kernel
theorem d_Mo_meter_21 : decode b_Mo_meter 21 = .ok (.goto 14, 3) := by decide +kernel
theorem d_Mo_meter_24 : decode b_Mo_meter 24 = .ok (.lload_n 1, 1) := by decide +kernel
theorem d_Mo_meter_25 : decode b_Mo_meter 25 = .ok (.aload_n 0, 1) := by decide +kernel
theorem d_Mo_meter_26 : decode b_Mo_meter 26 = .ok (.getfield 101, 3) := by decide +kernel
theorem d_Mo_meter_29 : decode b_Mo_meter 29 = .ok (.ldc2_w 106, 3) := by decide +kernel
theorem d_Mo_meter_32 : decode b_Mo_meter 32 = .ok (.ldiv, 1) := by decide +kernel
theorem d_Mo_meter_33 : decode b_Mo_meter 33 = .ok (.lsub, 1) := by decide +kernel
theorem d_Mo_meter_34 : decode b_Mo_meter 34 = .ok (.l2i, 1) := by decide +kernel
theorem d_Mo_meter_35 : decode b_Mo_meter 35 = .ok (.ireturn, 1) := by decide +kernel
theorem d_Mo_priceOf_0 : decode b_Mo_priceOf 0 = .ok (.aload_n 0, 1) := by decide +kernel
theorem d_Mo_priceOf_1 : decode b_Mo_priceOf 1 = .ok (.getfield 108, 3) := by decide +kernel
theorem d_Mo_priceOf_4 : decode b_Mo_priceOf 4 = .ok (.iconst 1, 1) := by decide +kernel
theorem d_Mo_priceOf_5 : decode b_Mo_priceOf 5 = .ok (.isub, 1) := by decide +kernel
theorem d_Mo_priceOf_6 : decode b_Mo_priceOf 6 = .ok (.istore_n 2, 1) := by decide +kernel
theorem d_Mo_priceOf_7 : decode b_Mo_priceOf 7 = .ok (.iload_n 2, 1) := by decide +kernel
theorem d_Mo_priceOf_8 : decode b_Mo_priceOf 8 = .ok (.ifCond .lt 36, 3) := by decide +kernel
theorem d_Mo_priceOf_11 : decode b_Mo_priceOf 11 = .ok (.iload_n 1, 1) := by decide +kernel
theorem d_Mo_priceOf_12 : decode b_Mo_priceOf 12 = .ok (.aload_n 0, 1) := by decide +kernel
theorem d_Mo_priceOf_13 : decode b_Mo_priceOf 13 = .ok (.getfield 7, 3) := by decide +kernel
theorem d_Mo_priceOf_16 : decode b_Mo_priceOf 16 = .ok (.iload_n 2, 1) := by decide +kernel
theorem d_Mo_priceOf_17 : decode b_Mo_priceOf 17 = .ok (.iaload, 1) := by decide +kernel
theorem d_Mo_priceOf_18 : decode b_Mo_priceOf 18 = .ok (.if_icmp .lt 20, 3) := by decide +kernel
theorem d_Mo_priceOf_21 : decode b_Mo_priceOf 21 = .ok (.iload_n 1, 1) := by decide +kernel
theorem d_Mo_priceOf_22 : decode b_Mo_priceOf 22 = .ok (.aload_n 0, 1) := by decide +kernel
theorem d_Mo_priceOf_23 : decode b_Mo_priceOf 23 = .ok (.getfield 13, 3) := by decide +kernel
theorem d_Mo_priceOf_26 : decode b_Mo_priceOf 26 = .ok (.iload_n 2, 1) := by decide +kernel
theorem d_Mo_priceOf_27 : decode b_Mo_priceOf 27 = .ok (.iaload, 1) := by decide +kernel
theorem d_Mo_priceOf_28 : decode b_Mo_priceOf 28 = .ok (.if_icmp .ge 10, 3) := by decide +kernel
theorem d_Mo_priceOf_31 : decode b_Mo_priceOf 31 = .ok (.aload_n 0, 1) := by decide +kernel
theorem d_Mo_priceOf_32 : decode b_Mo_priceOf 32 = .ok (.getfield 16, 3) := by decide +kernel
theorem d_Mo_priceOf_35 : decode b_Mo_priceOf 35 = .ok (.iload_n 2, 1) := by decide +kernel
theorem d_Mo_priceOf_36 : decode b_Mo_priceOf 36 = .ok (.iaload, 1) := by decide +kernel
theorem d_Mo_priceOf_37 : decode b_Mo_priceOf 37 = .ok (.ireturn, 1) := by decide +kernel
theorem d_Mo_priceOf_38 : decode b_Mo_priceOf 38 = .ok (.iinc 2 (-1), 3) := by decide +kernel
theorem d_Mo_priceOf_41 : decode b_Mo_priceOf 41 = .ok (.goto (-34), 3) := by decide +kernel
theorem d_Mo_priceOf_44 : decode b_Mo_priceOf 44 = .ok (.iconst (-1), 1) := by decide +kernel
theorem d_Mo_priceOf_45 : decode b_Mo_priceOf 45 = .ok (.ireturn, 1) := by decide +kernel
theorem d_Mo_plan_0 : decode b_Mo_plan 0 = .ok (.aload_n 0, 1) := by decide +kernel
theorem d_Mo_plan_1 : decode b_Mo_plan 1 = .ok (.iconst 0, 1) := by decide +kernel
theorem d_Mo_plan_2 : decode b_Mo_plan 2 = .ok (.putfield 26, 3) := by decide +kernel
theorem d_Mo_plan_5 : decode b_Mo_plan 5 = .ok (.lload_n 1, 1) := by decide +kernel
theorem d_Mo_plan_6 : decode b_Mo_plan 6 = .ok (.lconst 0, 1) := by decide +kernel
theorem d_Mo_plan_7 : decode b_Mo_plan 7 = .ok (.lcmp, 1) := by decide +kernel
theorem d_Mo_plan_8 : decode b_Mo_plan 8 = .ok (.ifCond .lt 25, 3) := by decide +kernel
theorem d_Mo_plan_11 : decode b_Mo_plan 11 = .ok (.lload_n 1, 1) := by decide +kernel
theorem d_Mo_plan_12 : decode b_Mo_plan 12 = .ok (.ldc2_w 85, 3) := by decide +kernel
theorem d_Mo_plan_15 : decode b_Mo_plan 15 = .ok (.lcmp, 1) := by decide +kernel
theorem d_Mo_plan_16 : decode b_Mo_plan 16 = .ok (.ifCond .gt 17, 3) := by decide +kernel
theorem d_Mo_plan_19 : decode b_Mo_plan 19 = .ok (.lload_n 3, 1) := by decide +kernel
theorem d_Mo_plan_20 : decode b_Mo_plan 20 = .ok (.lconst 0, 1) := by decide +kernel
theorem d_Mo_plan_21 : decode b_Mo_plan 21 = .ok (.lcmp, 1) := by decide +kernel
theorem d_Mo_plan_22 : decode b_Mo_plan 22 = .ok (.ifCond .lt 11, 3) := by decide +kernel
theorem d_Mo_plan_25 : decode b_Mo_plan 25 = .ok (.lload_n 3, 1) := by decide +kernel
theorem d_Mo_plan_26 : decode b_Mo_plan 26 = .ok (.ldc2_w 111, 3) := by decide +kernel
theorem d_Mo_plan_29 : decode b_Mo_plan 29 = .ok (.lcmp, 1) := by decide +kernel
theorem d_Mo_plan_30 : decode b_Mo_plan 30 = .ok (.ifCond .le 6, 3) := by decide +kernel
theorem d_Mo_plan_33 : decode b_Mo_plan 33 = .ok (.bipush (-2), 2) := by decide +kernel
theorem d_Mo_plan_35 : decode b_Mo_plan 35 = .ok (.ireturn, 1) := by decide +kernel
theorem d_Mo_plan_36 : decode b_Mo_plan 36 = .ok (.iconst 0, 1) := by decide +kernel
theorem d_Mo_plan_37 : decode b_Mo_plan 37 = .ok (.istore 5, 2) := by decide +kernel
theorem d_Mo_plan_39 : decode b_Mo_plan 39 = .ok (.iload 5, 2) := by decide +kernel
theorem d_Mo_plan_41 : decode b_Mo_plan 41 = .ok (.sipush 1440, 3) := by decide +kernel
theorem d_Mo_plan_44 : decode b_Mo_plan 44 = .ok (.if_icmp .ge 17, 3) := by decide +kernel
theorem d_Mo_plan_47 : decode b_Mo_plan 47 = .ok (.aload_n 0, 1) := by decide +kernel
theorem d_Mo_plan_48 : decode b_Mo_plan 48 = .ok (.getfield 19, 3) := by decide +kernel
theorem d_Mo_plan_51 : decode b_Mo_plan 51 = .ok (.iload 5, 2) := by decide +kernel
theorem d_Mo_plan_53 : decode b_Mo_plan 53 = .ok (.lconst 0, 1) := by decide +kernel
theorem d_Mo_plan_54 : decode b_Mo_plan 54 = .ok (.lastore, 1) := by decide +kernel
theorem d_Mo_plan_55 : decode b_Mo_plan 55 = .ok (.iinc 5 1, 3) := by decide +kernel
theorem d_Mo_plan_58 : decode b_Mo_plan 58 = .ok (.goto (-19), 3) := by decide +kernel
theorem d_Mo_plan_61 : decode b_Mo_plan 61 = .ok (.lload_n 1, 1) := by decide +kernel
theorem d_Mo_plan_62 : decode b_Mo_plan 62 = .ok (.lstore 5, 2) := by decide +kernel
theorem d_Mo_plan_64 : decode b_Mo_plan 64 = .ok (.lconst 0, 1) := by decide +kernel
theorem d_Mo_plan_65 : decode b_Mo_plan 65 = .ok (.lstore 7, 2) := by decide +kernel
theorem d_Mo_plan_67 : decode b_Mo_plan 67 = .ok (.aload_n 0, 1) := by decide +kernel
theorem d_Mo_plan_68 : decode b_Mo_plan 68 = .ok (.invokevirtual 55, 3) := by decide +kernel
theorem d_Mo_plan_71 : decode b_Mo_plan 71 = .ok (.istore 9, 2) := by decide +kernel
theorem d_Mo_plan_73 : decode b_Mo_plan 73 = .ok (.iconst 0, 1) := by decide +kernel
theorem d_Mo_plan_74 : decode b_Mo_plan 74 = .ok (.istore 10, 2) := by decide +kernel
theorem d_Mo_plan_76 : decode b_Mo_plan 76 = .ok (.iload 10, 2) := by decide +kernel
theorem d_Mo_plan_78 : decode b_Mo_plan 78 = .ok (.sipush 1000, 3) := by decide +kernel
theorem d_Mo_plan_81 : decode b_Mo_plan 81 = .ok (.if_icmp .gt 156, 3) := by decide +kernel
theorem d_Mo_plan_84 : decode b_Mo_plan 84 = .ok (.lload 5, 2) := by decide +kernel
theorem d_Mo_plan_86 : decode b_Mo_plan 86 = .ok (.lconst 0, 1) := by decide +kernel
theorem d_Mo_plan_87 : decode b_Mo_plan 87 = .ok (.lcmp, 1) := by decide +kernel
theorem d_Mo_plan_88 : decode b_Mo_plan 88 = .ok (.ifCond .le 149, 3) := by decide +kernel
theorem d_Mo_plan_91 : decode b_Mo_plan 91 = .ok (.iconst 0, 1) := by decide +kernel
theorem d_Mo_plan_92 : decode b_Mo_plan 92 = .ok (.istore 11, 2) := by decide +kernel
theorem d_Mo_plan_94 : decode b_Mo_plan 94 = .ok (.iconst 0, 1) := by decide +kernel
theorem d_Mo_plan_95 : decode b_Mo_plan 95 = .ok (.istore 12, 2) := by decide +kernel
theorem d_Mo_plan_97 : decode b_Mo_plan 97 = .ok (.iload 12, 2) := by decide +kernel
theorem d_Mo_plan_99 : decode b_Mo_plan 99 = .ok (.aload_n 0, 1) := by decide +kernel
theorem d_Mo_plan_100 : decode b_Mo_plan 100 = .ok (.getfield 108, 3) := by decide +kernel
theorem d_Mo_plan_103 : decode b_Mo_plan 103 = .ok (.if_icmp .ge 33, 3) := by decide +kernel
theorem d_Mo_plan_106 : decode b_Mo_plan 106 = .ok (.iload 11, 2) := by decide +kernel
theorem d_Mo_plan_108 : decode b_Mo_plan 108 = .ok (.ifCond .ne 15, 3) := by decide +kernel
theorem d_Mo_plan_111 : decode b_Mo_plan 111 = .ok (.aload_n 0, 1) := by decide +kernel
theorem d_Mo_plan_112 : decode b_Mo_plan 112 = .ok (.getfield 16, 3) := by decide +kernel
theorem d_Mo_plan_115 : decode b_Mo_plan 115 = .ok (.iload 12, 2) := by decide +kernel
theorem d_Mo_plan_117 : decode b_Mo_plan 117 = .ok (.iaload, 1) := by decide +kernel
theorem d_Mo_plan_118 : decode b_Mo_plan 118 = .ok (.iload 10, 2) := by decide +kernel
theorem d_Mo_plan_120 : decode b_Mo_plan 120 = .ok (.if_icmp .ne 7, 3) := by decide +kernel
theorem d_Mo_plan_123 : decode b_Mo_plan 123 = .ok (.iconst 1, 1) := by decide +kernel
theorem d_Mo_plan_124 : decode b_Mo_plan 124 = .ok (.goto 4, 3) := by decide +kernel
theorem d_Mo_plan_127 : decode b_Mo_plan 127 = .ok (.iconst 0, 1) := by decide +kernel
theorem d_Mo_plan_128 : decode b_Mo_plan 128 = .ok (.istore 11, 2) := by decide +kernel
theorem d_Mo_plan_130 : decode b_Mo_plan 130 = .ok (.iinc 12 1, 3) := by decide +kernel
theorem d_Mo_plan_133 : decode b_Mo_plan 133 = .ok (.goto (-36), 3) := by decide +kernel
theorem d_Mo_plan_136 : decode b_Mo_plan 136 = .ok (.iconst 0, 1) := by decide +kernel
theorem d_Mo_plan_137 : decode b_Mo_plan 137 = .ok (.istore 12, 2) := by decide +kernel
theorem d_Mo_plan_139 : decode b_Mo_plan 139 = .ok (.iload 12, 2) := by decide +kernel
theorem d_Mo_plan_141 : decode b_Mo_plan 141 = .ok (.i2l, 1) := by decide +kernel
theorem d_Mo_plan_142 : decode b_Mo_plan 142 = .ok (.lload_n 3, 1) := by decide +kernel
theorem d_Mo_plan_143 : decode b_Mo_plan 143 = .ok (.lcmp, 1) := by decide +kernel
theorem d_Mo_plan_144 : decode b_Mo_plan 144 = .ok (.ifCond .ge 87, 3) := by decide +kernel
theorem d_Mo_plan_147 : decode b_Mo_plan 147 = .ok (.lload 5, 2) := by decide +kernel
theorem d_Mo_plan_149 : decode b_Mo_plan 149 = .ok (.lconst 0, 1) := by decide +kernel
theorem d_Mo_plan_150 : decode b_Mo_plan 150 = .ok (.lcmp, 1) := by decide +kernel
theorem d_Mo_plan_151 : decode b_Mo_plan 151 = .ok (.ifCond .le 80, 3) := by decide +kernel
theorem d_Mo_plan_154 : decode b_Mo_plan 154 = .ok (.iload 11, 2) := by decide +kernel
theorem d_Mo_plan_156 : decode b_Mo_plan 156 = .ok (.ifCond .eq 75, 3) := by decide +kernel
