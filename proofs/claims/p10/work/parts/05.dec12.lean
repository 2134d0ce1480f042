theorem d_Mo_stop_31 : decode b_Mo_stop 31 = .ok (.bipush 7, 2) := by decide +kernel
theorem d_Mo_stop_33 : decode b_Mo_stop 33 = .ok (.if_icmp .eq 6, 3) := by decide +kernel
theorem d_Mo_stop_36 : decode b_Mo_stop 36 = .ok (.bipush (-3), 2) := by decide +kernel
theorem d_Mo_stop_38 : decode b_Mo_stop 38 = .ok (.ireturn, 1) := by decide +kernel
theorem d_Mo_stop_39 : decode b_Mo_stop 39 = .ok (.aload_n 0, 1) := by decide +kernel
theorem d_Mo_stop_40 : decode b_Mo_stop 40 = .ok (.lload_n 2, 1) := by decide +kernel
theorem d_Mo_stop_41 : decode b_Mo_stop 41 = .ok (.putfield 59, 3) := by decide +kernel
theorem d_Mo_stop_44 : decode b_Mo_stop 44 = .ok (.aload_n 0, 1) := by decide +kernel
theorem d_Mo_stop_45 : decode b_Mo_stop 45 = .ok (.iload_n 1, 1) := by decide +kernel
theorem d_Mo_stop_46 : decode b_Mo_stop 46 = .ok (.ifCond .ne 8, 3) := by decide +kernel
theorem d_Mo_stop_49 : decode b_Mo_stop 49 = .ok (.bipush 8, 2) := by decide +kernel
theorem d_Mo_stop_51 : decode b_Mo_stop 51 = .ok (.goto 4, 3) := by decide +kernel
theorem d_Mo_stop_54 : decode b_Mo_stop 54 = .ok (.iconst 0, 1) := by decide +kernel
theorem d_Mo_stop_55 : decode b_Mo_stop 55 = .ok (.putfield 52, 3) := by decide +kernel
theorem d_Mo_stop_58 : decode b_Mo_stop 58 = .ok (.ldc2_w 33, 3) := by decide +kernel
theorem d_Mo_stop_61 : decode b_Mo_stop 61 = .ok (.aload_n 0, 1) := by decide +kernel
theorem d_Mo_stop_62 : decode b_Mo_stop 62 = .ok (.getfield 98, 3) := by decide +kernel
theorem d_Mo_stop_65 : decode b_Mo_stop 65 = .ok (.ldc2_w 122, 3) := by decide +kernel
theorem d_Mo_stop_68 : decode b_Mo_stop 68 = .ok (.ldiv, 1) := by decide +kernel
theorem d_Mo_stop_69 : decode b_Mo_stop 69 = .ok (.lmul, 1) := by decide +kernel
theorem d_Mo_stop_70 : decode b_Mo_stop 70 = .ok (.lstore 4, 2) := by decide +kernel
theorem d_Mo_stop_72 : decode b_Mo_stop 72 = .ok (.iload_n 1, 1) := by decide +kernel
theorem d_Mo_stop_73 : decode b_Mo_stop 73 = .ok (.iconst 1, 1) := by decide +kernel
theorem d_Mo_stop_74 : decode b_Mo_stop 74 = .ok (.if_icmp .eq 12, 3) := by decide +kernel
theorem d_Mo_stop_77 : decode b_Mo_stop 77 = .ok (.lload 4, 2) := by decide +kernel
theorem d_Mo_stop_79 : decode b_Mo_stop 79 = .ok (.ldc2_w 69, 3) := by decide +kernel
theorem d_Mo_stop_82 : decode b_Mo_stop 82 = .ok (.lcmp, 1) := by decide +kernel
theorem d_Mo_stop_83 : decode b_Mo_stop 83 = .ok (.ifCond .ge 9, 3) := by decide +kernel
theorem d_Mo_stop_86 : decode b_Mo_stop 86 = .ok (.sipush 5000, 3) := by decide +kernel
theorem d_Mo_stop_89 : decode b_Mo_stop 89 = .ok (.goto 6, 3) := by decide +kernel
theorem d_Mo_stop_92 : decode b_Mo_stop 92 = .ok (.lload 4, 2) := by decide +kernel
theorem d_Mo_stop_94 : decode b_Mo_stop 94 = .ok (.l2i, 1) := by decide +kernel
theorem d_Mo_stop_95 : decode b_Mo_stop 95 = .ok (.ireturn, 1) := by decide +kernel
theorem d_Mo_car_0 : decode b_Mo_car 0 = .ok (.aload_n 0, 1) := by decide +kernel
theorem d_Mo_car_1 : decode b_Mo_car 1 = .ok (.iconst 0, 1) := by decide +kernel
theorem d_Mo_car_2 : decode b_Mo_car 2 = .ok (.putfield 26, 3) := by decide +kernel
theorem d_Mo_car_5 : decode b_Mo_car 5 = .ok (.iload_n 1, 1) := by decide +kernel
theorem d_Mo_car_6 : decode b_Mo_car 6 = .ok (.ifCond .lt 10, 3) := by decide +kernel
theorem d_Mo_car_9 : decode b_Mo_car 9 = .ok (.iload_n 1, 1) := by decide +kernel
theorem d_Mo_car_10 : decode b_Mo_car 10 = .ok (.sipush 1000, 3) := by decide +kernel
theorem d_Mo_car_13 : decode b_Mo_car 13 = .ok (.if_icmp .le 6, 3) := by decide +kernel
theorem d_Mo_car_16 : decode b_Mo_car 16 = .ok (.bipush (-2), 2) := by decide +kernel
theorem d_Mo_car_18 : decode b_Mo_car 18 = .ok (.ireturn, 1) := by decide +kernel
theorem d_Mo_car_19 : decode b_Mo_car 19 = .ok (.aload_n 0, 1) := by decide +kernel
theorem d_Mo_car_20 : decode b_Mo_car 20 = .ok (.getfield 124, 3) := by decide +kernel
theorem d_Mo_car_23 : decode b_Mo_car 23 = .ok (.bipush 10, 2) := by decide +kernel
theorem d_Mo_car_25 : decode b_Mo_car 25 = .ok (.if_icmp .ne 6, 3) := by decide +kernel
theorem d_Mo_car_28 : decode b_Mo_car 28 = .ok (.bipush (-4), 2) := by decide +kernel
theorem d_Mo_car_30 : decode b_Mo_car 30 = .ok (.ireturn, 1) := by decide +kernel
theorem d_Mo_car_31 : decode b_Mo_car 31 = .ok (.aload_n 0, 1) := by decide +kernel
theorem d_Mo_car_32 : decode b_Mo_car 32 = .ok (.dup, 1) := by decide +kernel
theorem d_Mo_car_33 : decode b_Mo_car 33 = .ok (.getfield 124, 3) := by decide +kernel
theorem d_Mo_car_36 : decode b_Mo_car 36 = .ok (.iconst 1, 1) := by decide +kernel
theorem d_Mo_car_37 : decode b_Mo_car 37 = .ok (.iadd, 1) := by decide +kernel
theorem d_Mo_car_38 : decode b_Mo_car 38 = .ok (.putfield 124, 3) := by decide +kernel
theorem d_Mo_car_41 : decode b_Mo_car 41 = .ok (.aload_n 0, 1) := by decide +kernel
theorem d_Mo_car_42 : decode b_Mo_car 42 = .ok (.getfield 23, 3) := by decide +kernel
theorem d_Mo_car_45 : decode b_Mo_car 45 = .ok (.aload_n 0, 1) := by decide +kernel
theorem d_Mo_car_46 : decode b_Mo_car 46 = .ok (.getfield 124, 3) := by decide +kernel
theorem d_Mo_car_49 : decode b_Mo_car 49 = .ok (.iload_n 1, 1) := by decide +kernel
theorem d_Mo_car_50 : decode b_Mo_car 50 = .ok (.iastore, 1) := by decide +kernel
theorem d_Mo_car_51 : decode b_Mo_car 51 = .ok (.aload_n 0, 1) := by decide +kernel
theorem d_Mo_car_52 : decode b_Mo_car 52 = .ok (.getfield 124, 3) := by decide +kernel
theorem d_Mo_car_55 : decode b_Mo_car 55 = .ok (.ireturn, 1) := by decide +kernel
theorem d_Mo_share_0 : decode b_Mo_share 0 = .ok (.aload_n 0, 1) := by decide +kernel
theorem d_Mo_share_1 : decode b_Mo_share 1 = .ok (.iconst 0, 1) := by decide +kernel
theorem d_Mo_share_2 : decode b_Mo_share 2 = .ok (.putfield 26, 3) := by decide +kernel
theorem d_Mo_share_5 : decode b_Mo_share 5 = .ok (.iload_n 1, 1) := by decide +kernel
theorem d_Mo_share_6 : decode b_Mo_share 6 = .ok (.iconst 1, 1) := by decide +kernel
theorem d_Mo_share_7 : decode b_Mo_share 7 = .ok (.if_icmp .lt 11, 3) := by decide +kernel
theorem d_Mo_share_10 : decode b_Mo_share 10 = .ok (.iload_n 1, 1) := by decide +kernel
theorem d_Mo_share_11 : decode b_Mo_share 11 = .ok (.aload_n 0, 1) := by decide +kernel
theorem d_Mo_share_12 : decode b_Mo_share 12 = .ok (.getfield 124, 3) := by decide +kernel
theorem d_Mo_share_15 : decode b_Mo_share 15 = .ok (.if_icmp .le 7, 3) := by decide +kernel
theorem d_Mo_share_18 : decode b_Mo_share 18 = .ok (.ldc2_w 127, 3) := by decide +kernel
theorem d_Mo_share_21 : decode b_Mo_share 21 = .ok (.lreturn, 1) := by decide +kernel
theorem d_Mo_share_22 : decode b_Mo_share 22 = .ok (.lload_n 2, 1) := by decide +kernel
theorem d_Mo_share_23 : decode b_Mo_share 23 = .ok (.lconst 0, 1) := by decide +kernel
theorem d_Mo_share_24 : decode b_Mo_share 24 = .ok (.lcmp, 1) := by decide +kernel
theorem d_Mo_share_25 : decode b_Mo_share 25 = .ok (.ifCond .lt 11, 3) := by decide +kernel
theorem d_Mo_share_28 : decode b_Mo_share 28 = .ok (.lload_n 2, 1) := by decide +kernel
theorem d_Mo_share_29 : decode b_Mo_share 29 = .ok (.ldc2_w 129, 3) := by decide +kernel
theorem d_Mo_share_32 : decode b_Mo_share 32 = .ok (.lcmp, 1) := by decide +kernel
theorem d_Mo_share_33 : decode b_Mo_share 33 = .ok (.ifCond .le 7, 3) := by decide +kernel
theorem d_Mo_share_36 : decode b_Mo_share 36 = .ok (.ldc2_w 131, 3) := by decide +kernel
theorem d_Mo_share_39 : decode b_Mo_share 39 = .ok (.lreturn, 1) := by decide +kernel
theorem d_Mo_share_40 : decode b_Mo_share 40 = .ok (.lconst 0, 1) := by decide +kernel
theorem d_Mo_share_41 : decode b_Mo_share 41 = .ok (.lstore 5, 2) := by decide +kernel
theorem d_Mo_share_43 : decode b_Mo_share 43 = .ok (.iconst 1, 1) := by decide +kernel
theorem d_Mo_share_44 : decode b_Mo_share 44 = .ok (.istore 7, 2) := by decide +kernel
theorem d_Mo_share_46 : decode b_Mo_share 46 = .ok (.iload 7, 2) := by decide +kernel
theorem d_Mo_share_48 : decode b_Mo_share 48 = .ok (.aload_n 0, 1) := by decide +kernel
theorem d_Mo_share_49 : decode b_Mo_share 49 = .ok (.getfield 124, 3) := by decide +kernel
theorem d_Mo_share_52 : decode b_Mo_share 52 = .ok (.if_icmp .gt 22, 3) := by decide +kernel
theorem d_Mo_share_55 : decode b_Mo_share 55 = .ok (.lload 5, 2) := by decide +kernel
theorem d_Mo_share_57 : decode b_Mo_share 57 = .ok (.aload_n 0, 1) := by decide +kernel
theorem d_Mo_share_58 : decode b_Mo_share 58 = .ok (.getfield 23, 3) := by decide +kernel
theorem d_Mo_share_61 : decode b_Mo_share 61 = .ok (.iload 7, 2) := by decide +kernel
theorem d_Mo_share_63 : decode b_Mo_share 63 = .ok (.iaload, 1) := by decide +kernel
theorem d_Mo_share_64 : decode b_Mo_share 64 = .ok (.i2l, 1) := by decide +kernel
theorem d_Mo_share_65 : decode b_Mo_share 65 = .ok (.ladd, 1) := by decide +kernel
theorem d_Mo_share_66 : decode b_Mo_share 66 = .ok (.lstore 5, 2) := by decide +kernel
theorem d_Mo_share_68 : decode b_Mo_share 68 = .ok (.iinc 7 1, 3) := by decide +kernel
theorem d_Mo_share_71 : decode b_Mo_share 71 = .ok (.goto (-25), 3) := by decide +kernel
theorem d_Mo_share_74 : decode b_Mo_share 74 = .ok (.aload_n 0, 1) := by decide +kernel
theorem d_Mo_share_75 : decode b_Mo_share 75 = .ok (.lload 5, 2) := by decide +kernel
theorem d_Mo_share_77 : decode b_Mo_share 77 = .ok (.lconst 0, 1) := by decide +kernel
theorem d_Mo_share_78 : decode b_Mo_share 78 = .ok (.lcmp, 1) := by decide +kernel
theorem d_Mo_share_79 : decode b_Mo_share 79 = .ok (.ifCond .ne 7, 3) := by decide +kernel
theorem d_Mo_share_82 : decode b_Mo_share 82 = .ok (.iconst 1, 1) := by decide +kernel
theorem d_Mo_share_83 : decode b_Mo_share 83 = .ok (.goto 4, 3) := by decide +kernel
theorem d_Mo_share_86 : decode b_Mo_share 86 = .ok (.iconst 0, 1) := by decide +kernel
theorem d_Mo_share_87 : decode b_Mo_share 87 = .ok (.putfield 26, 3) := by decide +kernel
theorem d_Mo_share_90 : decode b_Mo_share 90 = .ok (.aload_n 0, 1) := by decide +kernel
theorem d_Mo_share_91 : decode b_Mo_share 91 = .ok (.getfield 26, 3) := by decide +kernel
theorem d_Mo_share_94 : decode b_Mo_share 94 = .ok (.ifCond .le 5, 3) := by decide +kernel
theorem d_Mo_share_97 : decode b_Mo_share 97 = .ok (.lconst 0, 1) := by decide +kernel
theorem d_Mo_share_98 : decode b_Mo_share 98 = .ok (.lreturn, 1) := by decide +kernel
theorem d_Mo_share_99 : decode b_Mo_share 99 = .ok (.lload_n 2, 1) := by decide +kernel
theorem d_Mo_share_100 : decode b_Mo_share 100 = .ok (.aload_n 0, 1) := by decide +kernel
theorem d_Mo_share_101 : decode b_Mo_share 101 = .ok (.getfield 23, 3) := by decide +kernel
theorem d_Mo_share_104 : decode b_Mo_share 104 = .ok (.iload_n 1, 1) := by decide +kernel
theorem d_Mo_share_105 : decode b_Mo_share 105 = .ok (.iaload, 1) := by decide +kernel
theorem d_Mo_share_106 : decode b_Mo_share 106 = .ok (.i2l, 1) := by decide +kernel
theorem d_Mo_share_107 : decode b_Mo_share 107 = .ok (.lmul, 1) := by decide +kernel
theorem d_Mo_share_108 : decode b_Mo_share 108 = .ok (.lstore 7, 2) := by decide +kernel
theorem d_Mo_share_110 : decode b_Mo_share 110 = .ok (.lload 5, 2) := by decide +kernel
theorem d_Mo_share_112 : decode b_Mo_share 112 = .ok (.lstore 9, 2) := by decide +kernel
theorem d_Mo_share_114 : decode b_Mo_share 114 = .ok (.lload 7, 2) := by decide +kernel
theorem d_Mo_share_116 : decode b_Mo_share 116 = .ok (.lstore 11, 2) := by decide +kernel
theorem d_Mo_share_118 : decode b_Mo_share 118 = .ok (.lload 11, 2) := by decide +kernel
theorem d_Mo_share_120 : decode b_Mo_share 120 = .ok (.lconst 0, 1) := by decide +kernel
theorem d_Mo_share_121 : decode b_Mo_share 121 = .ok (.lcmp, 1) := by decide +kernel
theorem d_Mo_share_122 : decode b_Mo_share 122 = .ok (.ifCond .le 21, 3) := by decide +kernel
theorem d_Mo_share_125 : decode b_Mo_share 125 = .ok (.lload 9, 2) := by decide +kernel
theorem d_Mo_share_127 : decode b_Mo_share 127 = .ok (.lload 11, 2) := by decide +kernel
theorem d_Mo_share_129 : decode b_Mo_share 129 = .ok (.lrem, 1) := by decide +kernel
theorem d_Mo_share_130 : decode b_Mo_share 130 = .ok (.lstore 13, 2) := by decide +kernel
theorem d_Mo_share_132 : decode b_Mo_share 132 = .ok (.lload 11, 2) := by decide +kernel
theorem d_Mo_share_134 : decode b_Mo_share 134 = .ok (.lstore 9, 2) := by decide +kernel
theorem d_Mo_share_136 : decode b_Mo_share 136 = .ok (.lload 13, 2) := by decide +kernel
theorem d_Mo_share_138 : decode b_Mo_share 138 = .ok (.lstore 11, 2) := by decide +kernel
theorem d_Mo_share_140 : decode b_Mo_share 140 = .ok (.goto (-22), 3) := by decide +kernel
theorem d_Mo_share_143 : decode b_Mo_share 143 = .ok (.iload 4, 2) := by decide +kernel
theorem d_Mo_share_145 : decode b_Mo_share 145 = .ok (.ifCond .ne 11, 3) := by decide +kernel
theorem d_Mo_share_148 : decode b_Mo_share 148 = .ok (.lload 7, 2) := by decide +kernel
theorem d_Mo_share_150 : decode b_Mo_share 150 = .ok (.lload 9, 2) := by decide +kernel
theorem d_Mo_share_152 : decode b_Mo_share 152 = .ok (.ldiv, 1) := by decide +kernel
theorem d_Mo_share_153 : decode b_Mo_share 153 = .ok (.goto 8, 3) := by decide +kernel
theorem d_Mo_share_156 : decode b_Mo_share 156 = .ok (.lload 5, 2) := by decide +kernel
theorem d_Mo_share_158 : decode b_Mo_share 158 = .ok (.lload 9, 2) := by decide +kernel
theorem d_Mo_share_160 : decode b_Mo_share 160 = .ok (.ldiv, 1) := by decide +kernel
theorem d_Mo_share_161 : decode b_Mo_share 161 = .ok (.lreturn, 1) := by decide +kernel
theorem d_Mo_lost_0 : decode b_Mo_lost 0 = .ok (.aload_n 0, 1) := by decide +kernel
theorem d_Mo_lost_1 : decode b_Mo_lost 1 = .ok (.iconst 0, 1) := by decide +kernel
theorem d_Mo_lost_2 : decode b_Mo_lost 2 = .ok (.putfield 26, 3) := by decide +kernel
theorem d_Mo_lost_5 : decode b_Mo_lost 5 = .ok (.aload_n 0, 1) := by decide +kernel
theorem d_Mo_lost_6 : decode b_Mo_lost 6 = .ok (.lload_n 1, 1) := by decide +kernel
theorem d_Mo_lost_7 : decode b_Mo_lost 7 = .ok (.invokevirtual 87, 3) := by decide +kernel
theorem d_Mo_lost_10 : decode b_Mo_lost 10 = .ok (.ifCond .ne 6, 3) := by decide +kernel
