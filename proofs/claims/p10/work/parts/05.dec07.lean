theorem d_X_share_87 : decode b_X_share 87 = .ok (.iload 4, 2) := by decide +kernel
theorem d_X_share_89 : decode b_X_share 89 = .ok (.ifCond .ne 11, 3) := by decide +kernel
theorem d_X_share_92 : decode b_X_share 92 = .ok (.lload 5, 2) := by decide +kernel
theorem d_X_share_94 : decode b_X_share 94 = .ok (.lload 9, 2) := by decide +kernel
theorem d_X_share_96 : decode b_X_share 96 = .ok (.ldiv, 1) := by decide +kernel
theorem d_X_share_97 : decode b_X_share 97 = .ok (.goto 8, 3) := by decide +kernel
theorem d_X_share_100 : decode b_X_share 100 = .ok (.lload 7, 2) := by decide +kernel
theorem d_X_share_102 : decode b_X_share 102 = .ok (.lload 9, 2) := by decide +kernel
theorem d_X_share_104 : decode b_X_share 104 = .ok (.ldiv, 1) := by decide +kernel
theorem d_X_share_105 : decode b_X_share 105 = .ok (.lreturn, 1) := by decide +kernel
theorem d_Law_share_0 : decode b_Law_share 0 = .ok (.aload 5, 2) := by decide +kernel
theorem d_Law_share_2 : decode b_Law_share 2 = .ok (.iconst 0, 1) := by decide +kernel
theorem d_Law_share_3 : decode b_Law_share 3 = .ok (.aload_n 0, 1) := by decide +kernel
theorem d_Law_share_4 : decode b_Law_share 4 = .ok (.iload_n 1, 1) := by decide +kernel
theorem d_Law_share_5 : decode b_Law_share 5 = .ok (.lload_n 2, 1) := by decide +kernel
theorem d_Law_share_6 : decode b_Law_share 6 = .ok (.iload 4, 2) := by decide +kernel
theorem d_Law_share_8 : decode b_Law_share 8 = .ok (.invokevirtual 7, 3) := by decide +kernel
theorem d_Law_share_11 : decode b_Law_share 11 = .ok (.lastore, 1) := by decide +kernel
theorem d_Law_share_12 : decode b_Law_share 12 = .ok (.goto 7, 3) := by decide +kernel
theorem d_Law_share_15 : decode b_Law_share 15 = .ok (.astore 6, 2) := by decide +kernel
theorem d_Law_share_17 : decode b_Law_share 17 = .ok (.iconst 1, 1) := by decide +kernel
theorem d_Law_share_18 : decode b_Law_share 18 = .ok (.ireturn, 1) := by decide +kernel
theorem d_Law_share_19 : decode b_Law_share 19 = .ok (.iconst 0, 1) := by decide +kernel
theorem d_Law_share_20 : decode b_Law_share 20 = .ok (.ireturn, 1) := by decide +kernel
theorem d_Mo_init_0 : decode b_Mo_init 0 = .ok (.aload_n 0, 1) := by decide +kernel
theorem d_Mo_init_1 : decode b_Mo_init 1 = .ok (.invokespecial 1, 3) := by decide +kernel
theorem d_Mo_init_4 : decode b_Mo_init 4 = .ok (.aload_n 0, 1) := by decide +kernel
theorem d_Mo_init_5 : decode b_Mo_init 5 = .ok (.bipush 20, 2) := by decide +kernel
theorem d_Mo_init_7 : decode b_Mo_init 7 = .ok (.newarray .int, 2) := by decide +kernel
theorem d_Mo_init_9 : decode b_Mo_init 9 = .ok (.putfield 7, 3) := by decide +kernel
theorem d_Mo_init_12 : decode b_Mo_init 12 = .ok (.aload_n 0, 1) := by decide +kernel
theorem d_Mo_init_13 : decode b_Mo_init 13 = .ok (.bipush 20, 2) := by decide +kernel
theorem d_Mo_init_15 : decode b_Mo_init 15 = .ok (.newarray .int, 2) := by decide +kernel
theorem d_Mo_init_17 : decode b_Mo_init 17 = .ok (.putfield 13, 3) := by decide +kernel
theorem d_Mo_init_20 : decode b_Mo_init 20 = .ok (.aload_n 0, 1) := by decide +kernel
theorem d_Mo_init_21 : decode b_Mo_init 21 = .ok (.bipush 20, 2) := by decide +kernel
theorem d_Mo_init_23 : decode b_Mo_init 23 = .ok (.newarray .int, 2) := by decide +kernel
theorem d_Mo_init_25 : decode b_Mo_init 25 = .ok (.putfield 16, 3) := by decide +kernel
theorem d_Mo_init_28 : decode b_Mo_init 28 = .ok (.aload_n 0, 1) := by decide +kernel
theorem d_Mo_init_29 : decode b_Mo_init 29 = .ok (.sipush 1440, 3) := by decide +kernel
theorem d_Mo_init_32 : decode b_Mo_init 32 = .ok (.newarray .long, 2) := by decide +kernel
theorem d_Mo_init_34 : decode b_Mo_init 34 = .ok (.putfield 19, 3) := by decide +kernel
theorem d_Mo_init_37 : decode b_Mo_init 37 = .ok (.aload_n 0, 1) := by decide +kernel
theorem d_Mo_init_38 : decode b_Mo_init 38 = .ok (.bipush 11, 2) := by decide +kernel
theorem d_Mo_init_40 : decode b_Mo_init 40 = .ok (.newarray .int, 2) := by decide +kernel
theorem d_Mo_init_42 : decode b_Mo_init 42 = .ok (.putfield 23, 3) := by decide +kernel
theorem d_Mo_init_45 : decode b_Mo_init 45 = .ok (.return_, 1) := by decide +kernel
theorem d_Mo_isOn_0 : decode b_Mo_isOn 0 = .ok (.aload_n 0, 1) := by decide +kernel
theorem d_Mo_isOn_1 : decode b_Mo_isOn 1 = .ok (.getfield 30, 3) := by decide +kernel
theorem d_Mo_isOn_4 : decode b_Mo_isOn 4 = .ok (.ifCond .le 15, 3) := by decide +kernel
theorem d_Mo_isOn_7 : decode b_Mo_isOn 7 = .ok (.aload_n 0, 1) := by decide +kernel
theorem d_Mo_isOn_8 : decode b_Mo_isOn 8 = .ok (.getfield 30, 3) := by decide +kernel
theorem d_Mo_isOn_11 : decode b_Mo_isOn 11 = .ok (.iconst 4, 1) := by decide +kernel
theorem d_Mo_isOn_12 : decode b_Mo_isOn 12 = .ok (.if_icmp .ge 7, 3) := by decide +kernel
theorem d_Mo_isOn_15 : decode b_Mo_isOn 15 = .ok (.iconst 1, 1) := by decide +kernel
theorem d_Mo_isOn_16 : decode b_Mo_isOn 16 = .ok (.goto 4, 3) := by decide +kernel
theorem d_Mo_isOn_19 : decode b_Mo_isOn 19 = .ok (.iconst 0, 1) := by decide +kernel
theorem d_Mo_isOn_20 : decode b_Mo_isOn 20 = .ok (.ireturn, 1) := by decide +kernel
theorem d_Mo_pilot_0 : decode b_Mo_pilot 0 = .ok (.aload_n 0, 1) := by decide +kernel
theorem d_Mo_pilot_1 : decode b_Mo_pilot 1 = .ok (.iconst 0, 1) := by decide +kernel
theorem d_Mo_pilot_2 : decode b_Mo_pilot 2 = .ok (.putfield 26, 3) := by decide +kernel
theorem d_Mo_pilot_5 : decode b_Mo_pilot 5 = .ok (.lload_n 1, 1) := by decide +kernel
theorem d_Mo_pilot_6 : decode b_Mo_pilot 6 = .ok (.lconst 0, 1) := by decide +kernel
theorem d_Mo_pilot_7 : decode b_Mo_pilot 7 = .ok (.lcmp, 1) := by decide +kernel
theorem d_Mo_pilot_8 : decode b_Mo_pilot 8 = .ok (.ifCond .lt 15, 3) := by decide +kernel
theorem d_Mo_pilot_11 : decode b_Mo_pilot 11 = .ok (.lload_n 1, 1) := by decide +kernel
theorem d_Mo_pilot_12 : decode b_Mo_pilot 12 = .ok (.ldc2_w 33, 3) := by decide +kernel
theorem d_Mo_pilot_15 : decode b_Mo_pilot 15 = .ok (.lcmp, 1) := by decide +kernel
theorem d_Mo_pilot_16 : decode b_Mo_pilot 16 = .ok (.ifCond .gt 7, 3) := by decide +kernel
theorem d_Mo_pilot_19 : decode b_Mo_pilot 19 = .ok (.iconst 1, 1) := by decide +kernel
theorem d_Mo_pilot_20 : decode b_Mo_pilot 20 = .ok (.goto 4, 3) := by decide +kernel
theorem d_Mo_pilot_23 : decode b_Mo_pilot 23 = .ok (.iconst 0, 1) := by decide +kernel
theorem d_Mo_pilot_24 : decode b_Mo_pilot 24 = .ok (.istore 5, 2) := by decide +kernel
theorem d_Mo_pilot_26 : decode b_Mo_pilot 26 = .ok (.aload_n 0, 1) := by decide +kernel
theorem d_Mo_pilot_27 : decode b_Mo_pilot 27 = .ok (.iload 5, 2) := by decide +kernel
theorem d_Mo_pilot_29 : decode b_Mo_pilot 29 = .ok (.ifCond .eq 8, 3) := by decide +kernel
theorem d_Mo_pilot_32 : decode b_Mo_pilot 32 = .ok (.lload_n 1, 1) := by decide +kernel
theorem d_Mo_pilot_33 : decode b_Mo_pilot 33 = .ok (.l2i, 1) := by decide +kernel
theorem d_Mo_pilot_34 : decode b_Mo_pilot 34 = .ok (.goto 4, 3) := by decide +kernel
theorem d_Mo_pilot_37 : decode b_Mo_pilot 37 = .ok (.iconst 0, 1) := by decide +kernel
theorem d_Mo_pilot_38 : decode b_Mo_pilot 38 = .ok (.putfield 35, 3) := by decide +kernel
theorem d_Mo_pilot_41 : decode b_Mo_pilot 41 = .ok (.aload_n 0, 1) := by decide +kernel
theorem d_Mo_pilot_42 : decode b_Mo_pilot 42 = .ok (.iload 5, 2) := by decide +kernel
theorem d_Mo_pilot_44 : decode b_Mo_pilot 44 = .ok (.ifCond .ne 8, 3) := by decide +kernel
theorem d_Mo_pilot_47 : decode b_Mo_pilot 47 = .ok (.bipush 6, 2) := by decide +kernel
theorem d_Mo_pilot_49 : decode b_Mo_pilot 49 = .ok (.goto 75, 3) := by decide +kernel
theorem d_Mo_pilot_52 : decode b_Mo_pilot 52 = .ok (.lload_n 3, 1) := by decide +kernel
theorem d_Mo_pilot_53 : decode b_Mo_pilot 53 = .ok (.ldc2_w 38, 3) := by decide +kernel
theorem d_Mo_pilot_56 : decode b_Mo_pilot 56 = .ok (.lcmp, 1) := by decide +kernel
theorem d_Mo_pilot_57 : decode b_Mo_pilot 57 = .ok (.ifCond .ne 7, 3) := by decide +kernel
theorem d_Mo_pilot_60 : decode b_Mo_pilot 60 = .ok (.iconst 0, 1) := by decide +kernel
theorem d_Mo_pilot_61 : decode b_Mo_pilot 61 = .ok (.goto 63, 3) := by decide +kernel
theorem d_Mo_pilot_64 : decode b_Mo_pilot 64 = .ok (.lload_n 3, 1) := by decide +kernel
theorem d_Mo_pilot_65 : decode b_Mo_pilot 65 = .ok (.ldc2_w 40, 3) := by decide +kernel
theorem d_Mo_pilot_68 : decode b_Mo_pilot 68 = .ok (.lcmp, 1) := by decide +kernel
theorem d_Mo_pilot_69 : decode b_Mo_pilot 69 = .ok (.ifCond .ne 7, 3) := by decide +kernel
theorem d_Mo_pilot_72 : decode b_Mo_pilot 72 = .ok (.iconst 1, 1) := by decide +kernel
theorem d_Mo_pilot_73 : decode b_Mo_pilot 73 = .ok (.goto 51, 3) := by decide +kernel
theorem d_Mo_pilot_76 : decode b_Mo_pilot 76 = .ok (.lload_n 3, 1) := by decide +kernel
theorem d_Mo_pilot_77 : decode b_Mo_pilot 77 = .ok (.ldc2_w 42, 3) := by decide +kernel
theorem d_Mo_pilot_80 : decode b_Mo_pilot 80 = .ok (.lcmp, 1) := by decide +kernel
theorem d_Mo_pilot_81 : decode b_Mo_pilot 81 = .ok (.ifCond .ne 7, 3) := by decide +kernel
theorem d_Mo_pilot_84 : decode b_Mo_pilot 84 = .ok (.iconst 2, 1) := by decide +kernel
theorem d_Mo_pilot_85 : decode b_Mo_pilot 85 = .ok (.goto 39, 3) := by decide +kernel
theorem d_Mo_pilot_88 : decode b_Mo_pilot 88 = .ok (.lload_n 3, 1) := by decide +kernel
theorem d_Mo_pilot_89 : decode b_Mo_pilot 89 = .ok (.ldc2_w 44, 3) := by decide +kernel
theorem d_Mo_pilot_92 : decode b_Mo_pilot 92 = .ok (.lcmp, 1) := by decide +kernel
theorem d_Mo_pilot_93 : decode b_Mo_pilot 93 = .ok (.ifCond .ne 7, 3) := by decide +kernel
theorem d_Mo_pilot_96 : decode b_Mo_pilot 96 = .ok (.iconst 3, 1) := by decide +kernel
theorem d_Mo_pilot_97 : decode b_Mo_pilot 97 = .ok (.goto 27, 3) := by decide +kernel
theorem d_Mo_pilot_100 : decode b_Mo_pilot 100 = .ok (.lload_n 3, 1) := by decide +kernel
theorem d_Mo_pilot_101 : decode b_Mo_pilot 101 = .ok (.lconst 0, 1) := by decide +kernel
theorem d_Mo_pilot_102 : decode b_Mo_pilot 102 = .ok (.lcmp, 1) := by decide +kernel
theorem d_Mo_pilot_103 : decode b_Mo_pilot 103 = .ok (.ifCond .ne 7, 3) := by decide +kernel
theorem d_Mo_pilot_106 : decode b_Mo_pilot 106 = .ok (.iconst 4, 1) := by decide +kernel
theorem d_Mo_pilot_107 : decode b_Mo_pilot 107 = .ok (.goto 17, 3) := by decide +kernel
theorem d_Mo_pilot_110 : decode b_Mo_pilot 110 = .ok (.lload_n 3, 1) := by decide +kernel
theorem d_Mo_pilot_111 : decode b_Mo_pilot 111 = .ok (.ldc2_w 46, 3) := by decide +kernel
theorem d_Mo_pilot_114 : decode b_Mo_pilot 114 = .ok (.lcmp, 1) := by decide +kernel
theorem d_Mo_pilot_115 : decode b_Mo_pilot 115 = .ok (.ifCond .ne 7, 3) := by decide +kernel
theorem d_Mo_pilot_118 : decode b_Mo_pilot 118 = .ok (.iconst 5, 1) := by decide +kernel
theorem d_Mo_pilot_119 : decode b_Mo_pilot 119 = .ok (.goto 5, 3) := by decide +kernel
theorem d_Mo_pilot_122 : decode b_Mo_pilot 122 = .ok (.bipush 6, 2) := by decide +kernel
theorem d_Mo_pilot_124 : decode b_Mo_pilot 124 = .ok (.putfield 30, 3) := by decide +kernel
theorem d_Mo_pilot_127 : decode b_Mo_pilot 127 = .ok (.aload_n 0, 1) := by decide +kernel
theorem d_Mo_pilot_128 : decode b_Mo_pilot 128 = .ok (.invokevirtual 48, 3) := by decide +kernel
theorem d_Mo_pilot_131 : decode b_Mo_pilot 131 = .ok (.ifCond .ne 8, 3) := by decide +kernel
theorem d_Mo_pilot_134 : decode b_Mo_pilot 134 = .ok (.aload_n 0, 1) := by decide +kernel
theorem d_Mo_pilot_135 : decode b_Mo_pilot 135 = .ok (.iconst 0, 1) := by decide +kernel
theorem d_Mo_pilot_136 : decode b_Mo_pilot 136 = .ok (.putfield 52, 3) := by decide +kernel
theorem d_Mo_pilot_139 : decode b_Mo_pilot 139 = .ok (.aload_n 0, 1) := by decide +kernel
theorem d_Mo_pilot_140 : decode b_Mo_pilot 140 = .ok (.getfield 30, 3) := by decide +kernel
theorem d_Mo_pilot_143 : decode b_Mo_pilot 143 = .ok (.ireturn, 1) := by decide +kernel
theorem d_Mo_allows_0 : decode b_Mo_allows 0 = .ok (.aload_n 0, 1) := by decide +kernel
theorem d_Mo_allows_1 : decode b_Mo_allows 1 = .ok (.invokevirtual 48, 3) := by decide +kernel
theorem d_Mo_allows_4 : decode b_Mo_allows 4 = .ok (.ifCond .ne 5, 3) := by decide +kernel
theorem d_Mo_allows_7 : decode b_Mo_allows 7 = .ok (.iconst 0, 1) := by decide +kernel
theorem d_Mo_allows_8 : decode b_Mo_allows 8 = .ok (.ireturn, 1) := by decide +kernel
theorem d_Mo_allows_9 : decode b_Mo_allows 9 = .ok (.aload_n 0, 1) := by decide +kernel
theorem d_Mo_allows_10 : decode b_Mo_allows 10 = .ok (.getfield 35, 3) := by decide +kernel
theorem d_Mo_allows_13 : decode b_Mo_allows 13 = .ok (.bipush 80, 2) := by decide +kernel
theorem d_Mo_allows_15 : decode b_Mo_allows 15 = .ok (.if_icmp .lt 15, 3) := by decide +kernel
theorem d_Mo_allows_18 : decode b_Mo_allows 18 = .ok (.aload_n 0, 1) := by decide +kernel
theorem d_Mo_allows_19 : decode b_Mo_allows 19 = .ok (.getfield 35, 3) := by decide +kernel
theorem d_Mo_allows_22 : decode b_Mo_allows 22 = .ok (.bipush 100, 2) := by decide +kernel
theorem d_Mo_allows_24 : decode b_Mo_allows 24 = .ok (.if_icmp .ge 6, 3) := by decide +kernel
theorem d_Mo_allows_27 : decode b_Mo_allows 27 = .ok (.bipush 60, 2) := by decide +kernel
theorem d_Mo_allows_29 : decode b_Mo_allows 29 = .ok (.ireturn, 1) := by decide +kernel
theorem d_Mo_allows_30 : decode b_Mo_allows 30 = .ok (.aload_n 0, 1) := by decide +kernel
theorem d_Mo_allows_31 : decode b_Mo_allows 31 = .ok (.getfield 35, 3) := by decide +kernel
theorem d_Mo_allows_34 : decode b_Mo_allows 34 = .ok (.bipush 100, 2) := by decide +kernel
theorem d_Mo_allows_36 : decode b_Mo_allows 36 = .ok (.if_icmp .lt 24, 3) := by decide +kernel
theorem d_Mo_allows_39 : decode b_Mo_allows 39 = .ok (.aload_n 0, 1) := by decide +kernel
theorem d_Mo_allows_40 : decode b_Mo_allows 40 = .ok (.getfield 35, 3) := by decide +kernel
theorem d_Mo_allows_43 : decode b_Mo_allows 43 = .ok (.sipush 850, 3) := by decide +kernel
theorem d_Mo_allows_46 : decode b_Mo_allows 46 = .ok (.if_icmp .gt 14, 3) := by decide +kernel
theorem d_Mo_allows_49 : decode b_Mo_allows 49 = .ok (.bipush 6, 2) := by decide +kernel
theorem d_Mo_allows_51 : decode b_Mo_allows 51 = .ok (.aload_n 0, 1) := by decide +kernel
theorem d_Mo_allows_52 : decode b_Mo_allows 52 = .ok (.getfield 35, 3) := by decide +kernel
theorem d_Mo_allows_55 : decode b_Mo_allows 55 = .ok (.imul, 1) := by decide +kernel
