theorem d_Mo_pilot_15 : decode b_Mo_pilot 15 = .ok (.lcmp, 1) := by decide +kernel
theorem d_Mo_pilot_16 : decode b_Mo_pilot 16 = .ok (.ifCond .gt 7, 3) := by decide +kernel
theorem d_Mo_pilot_19 : decode b_Mo_pilot 19 = .ok (.iconst 1, 1) := by decide +kernel
theorem d_Mo_pilot_20 : decode b_Mo_pilot 20 = .ok (.goto 4, 3) := by decide +kernel
theorem d_Mo_pilot_23 : decode b_Mo_pilot 23 = .ok (.iconst 0, 1) := by decide +kernel
theorem d_Mo_pilot_24 : decode b_Mo_pilot 24 = .ok (.istore 5, 2) := by decide +kernel
theorem d_Mo_pilot_26 : decode b_Mo_pilot 26 = .ok (.aload_n 0, 1) := by decide +kernel
theorem d_Mo_pilot_27 : decode b_Mo_pilot 27 = .ok (.iload 5, 2) := by decide +kernel
theorem d_Mo_pilot_29 : decode b_Mo_pilot 29 = .ok (.ifCond .eq 8, 3) := by decide +kernel
theorem d_Mo_pilot_32 : decode b_Mo_pilot 32 = .ok (.lload_n 1, 1) := by decide +kernel
theorem d_Mo_pilot_33 : decode b_Mo_pilot 33 = .ok (.l2i, 1) := by decide +kernel
theorem d_Mo_pilot_34 : decode b_Mo_pilot 34 = .ok (.goto 4, 3) := by decide +kernel
theorem d_Mo_pilot_37 : decode b_Mo_pilot 37 = .ok (.iconst 0, 1) := by decide +kernel
theorem d_Mo_pilot_38 : decode b_Mo_pilot 38 = .ok (.putfield 35, 3) := by decide +kernel
theorem d_Mo_pilot_41 : decode b_Mo_pilot 41 = .ok (.aload_n 0, 1) := by decide +kernel
theorem d_Mo_pilot_42 : decode b_Mo_pilot 42 = .ok (.iload 5, 2) := by decide +kernel
theorem d_Mo_pilot_44 : decode b_Mo_pilot 44 = .ok (.ifCond .ne 8, 3) := by decide +kernel
theorem d_Mo_pilot_47 : decode b_Mo_pilot 47 = .ok (.bipush 6, 2) := by decide +kernel
theorem d_Mo_pilot_49 : decode b_Mo_pilot 49 = .ok (.goto 75, 3) := by decide +kernel
theorem d_Mo_pilot_52 : decode b_Mo_pilot 52 = .ok (.lload_n 3, 1) := by decide +kernel
theorem d_Mo_pilot_53 : decode b_Mo_pilot 53 = .ok (.ldc2_w 38, 3) := by decide +kernel
theorem d_Mo_pilot_56 : decode b_Mo_pilot 56 = .ok (.lcmp, 1) := by decide +kernel
theorem d_Mo_pilot_57 : decode b_Mo_pilot 57 = .ok (.ifCond .ne 7, 3) := by decide +kernel
theorem d_Mo_pilot_60 : decode b_Mo_pilot 60 = .ok (.iconst 0, 1) := by decide +kernel
theorem d_Mo_pilot_61 : decode b_Mo_pilot 61 = .ok (.goto 63, 3) := by decide +kernel
theorem d_Mo_pilot_64 : decode b_Mo_pilot 64 = .ok (.lload_n 3, 1) := by decide +kernel
theorem d_Mo_pilot_65 : decode b_Mo_pilot 65 = .ok (.ldc2_w 40, 3) := by decide +kernel
theorem d_Mo_pilot_68 : decode b_Mo_pilot 68 = .ok (.lcmp, 1) := by decide +kernel
theorem d_Mo_pilot_69 : decode b_Mo_pilot 69 = .ok (.ifCond .ne 7, 3) := by decide +kernel
theorem d_Mo_pilot_72 : decode b_Mo_pilot 72 = .ok (.iconst 1, 1) := by decide +kernel
theorem d_Mo_pilot_73 : decode b_Mo_pilot 73 = .ok (.goto 51, 3) := by decide +kernel
theorem d_Mo_pilot_76 : decode b_Mo_pilot 76 = .ok (.lload_n 3, 1) := by decide +kernel
theorem d_Mo_pilot_77 : decode b_Mo_pilot 77 = .ok (.ldc2_w 42, 3) := by decide +kernel
theorem d_Mo_pilot_80 : decode b_Mo_pilot 80 = .ok (.lcmp, 1) := by decide +kernel
theorem d_Mo_pilot_81 : decode b_Mo_pilot 81 = .ok (.ifCond .ne 7, 3) := by decide +kernel
theorem d_Mo_pilot_84 : decode b_Mo_pilot 84 = .ok (.iconst 2, 1) := by decide +kernel
theorem d_Mo_pilot_85 : decode b_Mo_pilot 85 = .ok (.goto 39, 3) := by decide +kernel
theorem d_Mo_pilot_88 : decode b_Mo_pilot 88 = .ok (.lload_n 3, 1) := by decide +kernel
theorem d_Mo_pilot_89 : decode b_Mo_pilot 89 = .ok (.ldc2_w 44, 3) := by decide +kernel
theorem d_Mo_pilot_92 : decode b_Mo_pilot 92 = .ok (.lcmp, 1) := by decide +kernel
theorem d_Mo_pilot_93 : decode b_Mo_pilot 93 = .ok (.ifCond .ne 7, 3) := by decide +kernel
theorem d_Mo_pilot_96 : decode b_Mo_pilot 96 = .ok (.iconst 3, 1) := by decide +kernel
theorem d_Mo_pilot_97 : decode b_Mo_pilot 97 = .ok (.goto 27, 3) := by decide +kernel
theorem d_Mo_pilot_100 : decode b_Mo_pilot 100 = .ok (.lload_n 3, 1) := by decide +kernel
theorem d_Mo_pilot_101 : decode b_Mo_pilot 101 = .ok (.lconst 0, 1) := by decide +kernel
theorem d_Mo_pilot_102 : decode b_Mo_pilot 102 = .ok (.lcmp, 1) := by decide +kernel
theorem d_Mo_pilot_103 : decode b_Mo_pilot 103 = .ok (.ifCond .ne 7, 3) := by decide +kernel
theorem d_Mo_pilot_106 : decode b_Mo_pilot 106 = .ok (.iconst 4, 1) := by decide +kernel
theorem d_Mo_pilot_107 : decode b_Mo_pilot 107 = .ok (.goto 17, 3) := by decide +kernel
theorem d_Mo_pilot_110 : decode b_Mo_pilot 110 = .ok (.lload_n 3, 1) := by decide +kernel
theorem d_Mo_pilot_111 : decode b_Mo_pilot 111 = .ok (.ldc2_w 46, 3) := by decide +kernel
theorem d_Mo_pilot_114 : decode b_Mo_pilot 114 = .ok (.lcmp, 1) := by decide +kernel
theorem d_Mo_pilot_115 : decode b_Mo_pilot 115 = .ok (.ifCond .ne 7, 3) := by decide +kernel
theorem d_Mo_pilot_118 : decode b_Mo_pilot 118 = .ok (.iconst 5, 1) := by decide +kernel
theorem d_Mo_pilot_119 : decode b_Mo_pilot 119 = .ok (.goto 5, 3) := by decide +kernel
theorem d_Mo_pilot_122 : decode b_Mo_pilot 122 = .ok (.bipush 6, 2) := by decide +kernel
theorem d_Mo_pilot_124 : decode b_Mo_pilot 124 = .ok (.putfield 30, 3) := by decide +kernel
theorem d_Mo_pilot_127 : decode b_Mo_pilot 127 = .ok (.aload_n 0, 1) := by decide +kernel
theorem d_Mo_pilot_128 : decode b_Mo_pilot 128 = .ok (.invokevirtual 48, 3) := by decide +kernel
theorem d_Mo_pilot_131 : decode b_Mo_pilot 131 = .ok (.ifCond .ne 8, 3) := by decide +kernel
theorem d_Mo_pilot_134 : decode b_Mo_pilot 134 = .ok (.aload_n 0, 1) := by decide +kernel
theorem d_Mo_pilot_135 : decode b_Mo_pilot 135 = .ok (.iconst 0, 1) := by decide +kernel
theorem d_Mo_pilot_136 : decode b_Mo_pilot 136 = .ok (.putfield 52, 3) := by decide +kernel
theorem d_Mo_pilot_139 : decode b_Mo_pilot 139 = .ok (.aload_n 0, 1) := by decide +kernel
theorem d_Mo_pilot_140 : decode b_Mo_pilot 140 = .ok (.getfield 30, 3) := by decide +kernel
theorem d_Mo_pilot_143 : decode b_Mo_pilot 143 = .ok (.ireturn, 1) := by decide +kernel
theorem d_Mo_allows_0 : decode b_Mo_allows 0 = .ok (.aload_n 0, 1) := by decide +kernel
theorem d_Mo_allows_1 : decode b_Mo_allows 1 = .ok (.invokevirtual 48, 3) := by decide +kernel
theorem d_Mo_allows_4 : decode b_Mo_allows 4 = .ok (.ifCond .ne 5, 3) := by decide +kernel
theorem d_Mo_allows_7 : decode b_Mo_allows 7 = .ok (.iconst 0, 1) := by decide +kernel
theorem d_Mo_allows_8 : decode b_Mo_allows 8 = .ok (.ireturn, 1) := by decide +kernel
theorem d_Mo_allows_9 : decode b_Mo_allows 9 = .ok (.aload_n 0, 1) := by decide +kernel
theorem d_Mo_allows_10 : decode b_Mo_allows 10 = .ok (.getfield 35, 3) := by decide +kernel
theorem d_Mo_allows_13 : decode b_Mo_allows 13 = .ok (.bipush 80, 2) := by decide +kernel
theorem d_Mo_allows_15 : decode b_Mo_allows 15 = .ok (.if_icmp .lt 15, 3) := by decide +kernel
theorem d_Mo_allows_18 : decode b_Mo_allows 18 = .ok (.aload_n 0, 1) := by decide +kernel
theorem d_Mo_allows_19 : decode b_Mo_allows 19 = .ok (.getfield 35, 3) := by decide +kernel
theorem d_Mo_allows_22 : decode b_Mo_allows 22 = .ok (.bipush 100, 2) := by decide +kernel
theorem d_Mo_allows_24 : decode b_Mo_allows 24 = .ok (.if_icmp .ge 6, 3) := by decide +kernel
theorem d_Mo_allows_27 : decode b_Mo_allows 27 = .ok (.bipush 60, 2) := by decide +kernel
theorem d_Mo_allows_29 : decode b_Mo_allows 29 = .ok (.ireturn, 1) := by decide +kernel
theorem d_Mo_allows_30 : decode b_Mo_allows 30 = .ok (.aload_n 0, 1) := by decide +kernel
theorem d_Mo_allows_31 : decode b_Mo_allows 31 = .ok (.getfield 35, 3) := by decide +kernel
theorem d_Mo_allows_34 : decode b_Mo_allows 34 = .ok (.bipush 100, 2) := by decide +kernel
theorem d_Mo_allows_36 : decode b_Mo_allows 36 = .ok (.if_icmp .lt 24, 3) := by decide +kernel
theorem d_Mo_allows_39 : decode b_Mo_allows 39 = .ok (.aload_n 0, 1) := by decide +kernel
theorem d_Mo_allows_40 : decode b_Mo_allows 40 = .ok (.getfield 35, 3) := by decide +kernel
theorem d_Mo_allows_43 : decode b_Mo_allows 43 = .ok (.sipush 850, 3) := by decide +kernel
theorem d_Mo_allows_46 : decode b_Mo_allows 46 = .ok (.if_icmp .gt 14, 3) := by decide +kernel
theorem d_Mo_allows_49 : decode b_Mo_allows 49 = .ok (.bipush 6, 2) := by decide +kernel
theorem d_Mo_allows_51 : decode b_Mo_allows 51 = .ok (.aload_n 0, 1) := by decide +kernel
theorem d_Mo_allows_52 : decode b_Mo_allows 52 = .ok (.getfield 35, 3) := by decide +kernel
theorem d_Mo_allows_55 : decode b_Mo_allows 55 = .ok (.imul, 1) := by decide +kernel
theorem d_Mo_allows_56 : decode b_Mo_allows 56 = .ok (.bipush 10, 2) := by decide +kernel
theorem d_Mo_allows_58 : decode b_Mo_allows 58 = .ok (.idiv, 1) := by decide +kernel
theorem d_Mo_allows_59 : decode b_Mo_allows 59 = .ok (.ireturn, 1) := by decide +kernel
theorem d_Mo_allows_60 : decode b_Mo_allows 60 = .ok (.aload_n 0, 1) := by decide +kernel
theorem d_Mo_allows_61 : decode b_Mo_allows 61 = .ok (.getfield 35, 3) := by decide +kernel
theorem d_Mo_allows_64 : decode b_Mo_allows 64 = .ok (.sipush 850, 3) := by decide +kernel
theorem d_Mo_allows_67 : decode b_Mo_allows 67 = .ok (.if_icmp .le 28, 3) := by decide +kernel
theorem d_Mo_allows_70 : decode b_Mo_allows 70 = .ok (.aload_n 0, 1) := by decide +kernel
theorem d_Mo_allows_71 : decode b_Mo_allows 71 = .ok (.getfield 35, 3) := by decide +kernel
theorem d_Mo_allows_74 : decode b_Mo_allows 74 = .ok (.sipush 960, 3) := by decide +kernel
theorem d_Mo_allows_77 : decode b_Mo_allows 77 = .ok (.if_icmp .gt 18, 3) := by decide +kernel
theorem d_Mo_allows_80 : decode b_Mo_allows 80 = .ok (.bipush 25, 2) := by decide +kernel
theorem d_Mo_allows_82 : decode b_Mo_allows 82 = .ok (.aload_n 0, 1) := by decide +kernel
theorem d_Mo_allows_83 : decode b_Mo_allows 83 = .ok (.getfield 35, 3) := by decide +kernel
theorem d_Mo_allows_86 : decode b_Mo_allows 86 = .ok (.sipush 640, 3) := by decide +kernel
theorem d_Mo_allows_89 : decode b_Mo_allows 89 = .ok (.isub, 1) := by decide +kernel
theorem d_Mo_allows_90 : decode b_Mo_allows 90 = .ok (.imul, 1) := by decide +kernel
theorem d_Mo_allows_91 : decode b_Mo_allows 91 = .ok (.bipush 10, 2) := by decide +kernel
theorem d_Mo_allows_93 : decode b_Mo_allows 93 = .ok (.idiv, 1) := by decide +kernel
theorem d_Mo_allows_94 : decode b_Mo_allows 94 = .ok (.ireturn, 1) := by decide +kernel
theorem d_Mo_allows_95 : decode b_Mo_allows 95 = .ok (.aload_n 0, 1) := by decide +kernel
theorem d_Mo_allows_96 : decode b_Mo_allows 96 = .ok (.getfield 35, 3) := by decide +kernel
theorem d_Mo_allows_99 : decode b_Mo_allows 99 = .ok (.sipush 960, 3) := by decide +kernel
theorem d_Mo_allows_102 : decode b_Mo_allows 102 = .ok (.if_icmp .le 19, 3) := by decide +kernel
theorem d_Mo_allows_105 : decode b_Mo_allows 105 = .ok (.aload_n 0, 1) := by decide +kernel
theorem d_Mo_allows_106 : decode b_Mo_allows 106 = .ok (.getfield 35, 3) := by decide +kernel
theorem d_Mo_allows_109 : decode b_Mo_allows 109 = .ok (.sipush 970, 3) := by decide +kernel
theorem d_Mo_allows_112 : decode b_Mo_allows 112 = .ok (.if_icmp .gt 9, 3) := by decide +kernel
theorem d_Mo_allows_115 : decode b_Mo_allows 115 = .ok (.sipush 800, 3) := by decide +kernel
theorem d_Mo_allows_118 : decode b_Mo_allows 118 = .ok (.goto 4, 3) := by decide +kernel
theorem d_Mo_allows_121 : decode b_Mo_allows 121 = .ok (.iconst 0, 1) := by decide +kernel
theorem d_Mo_allows_122 : decode b_Mo_allows 122 = .ok (.ireturn, 1) := by decide +kernel
theorem d_Mo_allowed_0 : decode b_Mo_allowed 0 = .ok (.aload_n 0, 1) := by decide +kernel
theorem d_Mo_allowed_1 : decode b_Mo_allowed 1 = .ok (.iconst 0, 1) := by decide +kernel
theorem d_Mo_allowed_2 : decode b_Mo_allowed 2 = .ok (.putfield 26, 3) := by decide +kernel
theorem d_Mo_allowed_5 : decode b_Mo_allowed 5 = .ok (.aload_n 0, 1) := by decide +kernel
theorem d_Mo_allowed_6 : decode b_Mo_allowed 6 = .ok (.invokevirtual 55, 3) := by decide +kernel
theorem d_Mo_allowed_9 : decode b_Mo_allowed 9 = .ok (.ireturn, 1) := by decide +kernel
theorem d_Mo_isTime_0 : decode b_Mo_isTime 0 = .ok (.lload_n 1, 1) := by decide +kernel
theorem d_Mo_isTime_1 : decode b_Mo_isTime 1 = .ok (.aload_n 0, 1) := by decide +kernel
theorem d_Mo_isTime_2 : decode b_Mo_isTime 2 = .ok (.getfield 59, 3) := by decide +kernel
theorem d_Mo_isTime_5 : decode b_Mo_isTime 5 = .ok (.lcmp, 1) := by decide +kernel
theorem d_Mo_isTime_6 : decode b_Mo_isTime 6 = .ok (.ifCond .lt 15, 3) := by decide +kernel
theorem d_Mo_isTime_9 : decode b_Mo_isTime 9 = .ok (.lload_n 1, 1) := by decide +kernel
theorem d_Mo_isTime_10 : decode b_Mo_isTime 10 = .ok (.ldc2_w 63, 3) := by decide +kernel
theorem d_Mo_isTime_13 : decode b_Mo_isTime 13 = .ok (.lcmp, 1) := by decide +kernel
theorem d_Mo_isTime_14 : decode b_Mo_isTime 14 = .ok (.ifCond .gt 7, 3) := by decide +kernel
theorem d_Mo_isTime_17 : decode b_Mo_isTime 17 = .ok (.iconst 1, 1) := by decide +kernel
theorem d_Mo_isTime_18 : decode b_Mo_isTime 18 = .ok (.goto 4, 3) := by decide +kernel
theorem d_Mo_isTime_21 : decode b_Mo_isTime 21 = .ok (.iconst 0, 1) := by decide +kernel
theorem d_Mo_isTime_22 : decode b_Mo_isTime 22 = .ok (.ireturn, 1) := by decide +kernel
theorem d_Mo_behind_0 : decode b_Mo_behind 0 = .ok (.iload_n 1, 1) := by decide +kernel
theorem d_Mo_behind_1 : decode b_Mo_behind 1 = .ok (.tableswitch 346 0 9 #[55, 100, 126, 146, 174, 203, 238, 269, 300, 330], 55) := by decide +kernel
theorem d_Mo_behind_56 : decode b_Mo_behind 56 = .ok (.aload_n 0, 1) := by decide +kernel
theorem d_Mo_behind_57 : decode b_Mo_behind 57 = .ok (.getfield 52, 3) := by decide +kernel
theorem d_Mo_behind_60 : decode b_Mo_behind 60 = .ok (.ifCond .ne 39, 3) := by decide +kernel
theorem d_Mo_behind_63 : decode b_Mo_behind 63 = .ok (.aload_n 0, 1) := by decide +kernel
theorem d_Mo_behind_64 : decode b_Mo_behind 64 = .ok (.invokevirtual 48, 3) := by decide +kernel
theorem d_Mo_behind_67 : decode b_Mo_behind 67 = .ok (.ifCond .eq 32, 3) := by decide +kernel
theorem d_Mo_behind_70 : decode b_Mo_behind 70 = .ok (.aload_n 0, 1) := by decide +kernel
theorem d_Mo_behind_71 : decode b_Mo_behind 71 = .ok (.getfield 35, 3) := by decide +kernel
theorem d_Mo_behind_74 : decode b_Mo_behind 74 = .ok (.bipush 30, 2) := by decide +kernel
theorem d_Mo_behind_76 : decode b_Mo_behind 76 = .ok (.if_icmp .lt 23, 3) := by decide +kernel
theorem d_Mo_behind_79 : decode b_Mo_behind 79 = .ok (.aload_n 0, 1) := by decide +kernel
theorem d_Mo_behind_80 : decode b_Mo_behind 80 = .ok (.getfield 35, 3) := by decide +kernel
theorem d_Mo_behind_83 : decode b_Mo_behind 83 = .ok (.bipush 70, 2) := by decide +kernel
theorem d_Mo_behind_85 : decode b_Mo_behind 85 = .ok (.if_icmp .gt 14, 3) := by decide +kernel
