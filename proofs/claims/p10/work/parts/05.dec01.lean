theorem d_Ta_init_0 : decode b_Ta_init 0 = .ok (.aload_n 0, 1) := by decide +kernel
theorem d_Ta_init_1 : decode b_Ta_init 1 = .ok (.invokespecial 1, 3) := by decide +kernel
theorem d_Ta_init_4 : decode b_Ta_init 4 = .ok (.aload_n 0, 1) := by decide +kernel
theorem d_Ta_init_5 : decode b_Ta_init 5 = .ok (.iconst 0, 1) := by decide +kernel
theorem d_Ta_init_6 : decode b_Ta_init 6 = .ok (.putfield 9, 3) := by decide +kernel
theorem d_Ta_init_9 : decode b_Ta_init 9 = .ok (.aload_n 0, 1) := by decide +kernel
theorem d_Ta_init_10 : decode b_Ta_init 10 = .ok (.iconst 0, 1) := by decide +kernel
theorem d_Ta_init_11 : decode b_Ta_init 11 = .ok (.putfield 13, 3) := by decide +kernel
theorem d_Ta_init_14 : decode b_Ta_init 14 = .ok (.aload_n 0, 1) := by decide +kernel
theorem d_Ta_init_15 : decode b_Ta_init 15 = .ok (.lconst 0, 1) := by decide +kernel
theorem d_Ta_init_16 : decode b_Ta_init 16 = .ok (.putfield 17, 3) := by decide +kernel
theorem d_Ta_init_19 : decode b_Ta_init 19 = .ok (.aload_n 0, 1) := by decide +kernel
theorem d_Ta_init_20 : decode b_Ta_init 20 = .ok (.lconst 0, 1) := by decide +kernel
theorem d_Ta_init_21 : decode b_Ta_init 21 = .ok (.putfield 21, 3) := by decide +kernel
theorem d_Ta_init_24 : decode b_Ta_init 24 = .ok (.aload_n 0, 1) := by decide +kernel
theorem d_Ta_init_25 : decode b_Ta_init 25 = .ok (.lconst 0, 1) := by decide +kernel
theorem d_Ta_init_26 : decode b_Ta_init 26 = .ok (.putfield 24, 3) := by decide +kernel
theorem d_Ta_init_29 : decode b_Ta_init 29 = .ok (.aload_n 0, 1) := by decide +kernel
theorem d_Ta_init_30 : decode b_Ta_init 30 = .ok (.lconst 0, 1) := by decide +kernel
theorem d_Ta_init_31 : decode b_Ta_init 31 = .ok (.putfield 27, 3) := by decide +kernel
theorem d_Ta_init_34 : decode b_Ta_init 34 = .ok (.return_, 1) := by decide +kernel
theorem d_Ta_isOn_0 : decode b_Ta_isOn 0 = .ok (.aload_n 0, 1) := by decide +kernel
theorem d_Ta_isOn_1 : decode b_Ta_isOn 1 = .ok (.getfield 9, 3) := by decide +kernel
theorem d_Ta_isOn_4 : decode b_Ta_isOn 4 = .ok (.ifCond .eq 7, 3) := by decide +kernel
theorem d_Ta_isOn_7 : decode b_Ta_isOn 7 = .ok (.iconst 1, 1) := by decide +kernel
theorem d_Ta_isOn_8 : decode b_Ta_isOn 8 = .ok (.goto 4, 3) := by decide +kernel
theorem d_Ta_isOn_11 : decode b_Ta_isOn 11 = .ok (.iconst 0, 1) := by decide +kernel
theorem d_Ta_isOn_12 : decode b_Ta_isOn 12 = .ok (.ireturn, 1) := by decide +kernel
theorem d_Ta_isCharging_0 : decode b_Ta_isCharging 0 = .ok (.aload_n 0, 1) := by decide +kernel
theorem d_Ta_isCharging_1 : decode b_Ta_isCharging 1 = .ok (.getfield 9, 3) := by decide +kernel
theorem d_Ta_isCharging_4 : decode b_Ta_isCharging 4 = .ok (.bipush 7, 2) := by decide +kernel
theorem d_Ta_isCharging_6 : decode b_Ta_isCharging 6 = .ok (.if_icmp .ne 7, 3) := by decide +kernel
theorem d_Ta_isCharging_9 : decode b_Ta_isCharging 9 = .ok (.iconst 1, 1) := by decide +kernel
theorem d_Ta_isCharging_10 : decode b_Ta_isCharging 10 = .ok (.goto 4, 3) := by decide +kernel
theorem d_Ta_isCharging_13 : decode b_Ta_isCharging 13 = .ok (.iconst 0, 1) := by decide +kernel
theorem d_Ta_isCharging_14 : decode b_Ta_isCharging 14 = .ok (.ireturn, 1) := by decide +kernel
theorem d_Ta_end_0 : decode b_Ta_end 0 = .ok (.aload_n 0, 1) := by decide +kernel
theorem d_Ta_end_1 : decode b_Ta_end 1 = .ok (.iconst 0, 1) := by decide +kernel
theorem d_Ta_end_2 : decode b_Ta_end 2 = .ok (.putfield 9, 3) := by decide +kernel
theorem d_Ta_end_5 : decode b_Ta_end 5 = .ok (.return_, 1) := by decide +kernel
theorem d_Ta_runDown_0 : decode b_Ta_runDown 0 = .ok (.aload_n 0, 1) := by decide +kernel
theorem d_Ta_runDown_1 : decode b_Ta_runDown 1 = .ok (.bipush 8, 2) := by decide +kernel
theorem d_Ta_runDown_3 : decode b_Ta_runDown 3 = .ok (.putfield 9, 3) := by decide +kernel
theorem d_Ta_runDown_6 : decode b_Ta_runDown 6 = .ok (.aload_n 0, 1) := by decide +kernel
theorem d_Ta_runDown_7 : decode b_Ta_runDown 7 = .ok (.getfield 21, 3) := by decide +kernel
theorem d_Ta_runDown_10 : decode b_Ta_runDown 10 = .ok (.ldc2_w 45, 3) := by decide +kernel
theorem d_Ta_runDown_13 : decode b_Ta_runDown 13 = .ok (.ldiv, 1) := by decide +kernel
theorem d_Ta_runDown_14 : decode b_Ta_runDown 14 = .ok (.l2i, 1) := by decide +kernel
theorem d_Ta_runDown_15 : decode b_Ta_runDown 15 = .ok (.istore_n 1, 1) := by decide +kernel
theorem d_Ta_runDown_16 : decode b_Ta_runDown 16 = .ok (.sipush 5000, 3) := by decide +kernel
theorem d_Ta_runDown_19 : decode b_Ta_runDown 19 = .ok (.sipush 1000, 3) := by decide +kernel
theorem d_Ta_runDown_22 : decode b_Ta_runDown 22 = .ok (.iload_n 1, 1) := by decide +kernel
theorem d_Ta_runDown_23 : decode b_Ta_runDown 23 = .ok (.imul, 1) := by decide +kernel
theorem d_Ta_runDown_24 : decode b_Ta_runDown 24 = .ok (.invokestatic 47, 3) := by decide +kernel
theorem d_Ta_runDown_27 : decode b_Ta_runDown 27 = .ok (.ireturn, 1) := by decide +kernel
theorem d_Ta_breakOff_0 : decode b_Ta_breakOff 0 = .ok (.aload_n 0, 1) := by decide +kernel
theorem d_Ta_breakOff_1 : decode b_Ta_breakOff 1 = .ok (.invokevirtual 38, 3) := by decide +kernel
theorem d_Ta_breakOff_4 : decode b_Ta_breakOff 4 = .ok (.sipush 5000, 3) := by decide +kernel
theorem d_Ta_breakOff_7 : decode b_Ta_breakOff 7 = .ok (.ireturn, 1) := by decide +kernel
theorem d_Ta_wholeEnergy_0 : decode b_Ta_wholeEnergy 0 = .ok (.aload_n 0, 1) := by decide +kernel
theorem d_Ta_wholeEnergy_1 : decode b_Ta_wholeEnergy 1 = .ok (.getfield 27, 3) := by decide +kernel
theorem d_Ta_wholeEnergy_4 : decode b_Ta_wholeEnergy 4 = .ok (.ldc2_w 53, 3) := by decide +kernel
theorem d_Ta_wholeEnergy_7 : decode b_Ta_wholeEnergy 7 = .ok (.ldiv, 1) := by decide +kernel
theorem d_Ta_wholeEnergy_8 : decode b_Ta_wholeEnergy 8 = .ok (.lreturn, 1) := by decide +kernel
theorem d_Ta_isLate_0 : decode b_Ta_isLate 0 = .ok (.aload_n 0, 1) := by decide +kernel
theorem d_Ta_isLate_1 : decode b_Ta_isLate 1 = .ok (.invokevirtual 55, 3) := by decide +kernel
theorem d_Ta_isLate_4 : decode b_Ta_isLate 4 = .ok (.ifCond .eq 20, 3) := by decide +kernel
theorem d_Ta_isLate_7 : decode b_Ta_isLate 7 = .ok (.lload_n 1, 1) := by decide +kernel
theorem d_Ta_isLate_8 : decode b_Ta_isLate 8 = .ok (.aload_n 0, 1) := by decide +kernel
theorem d_Ta_isLate_9 : decode b_Ta_isLate 9 = .ok (.getfield 24, 3) := by decide +kernel
theorem d_Ta_isLate_12 : decode b_Ta_isLate 12 = .ok (.ldc2_w 59, 3) := by decide +kernel
theorem d_Ta_isLate_15 : decode b_Ta_isLate 15 = .ok (.ladd, 1) := by decide +kernel
theorem d_Ta_isLate_16 : decode b_Ta_isLate 16 = .ok (.lcmp, 1) := by decide +kernel
theorem d_Ta_isLate_17 : decode b_Ta_isLate 17 = .ok (.ifCond .le 7, 3) := by decide +kernel
theorem d_Ta_isLate_20 : decode b_Ta_isLate 20 = .ok (.iconst 1, 1) := by decide +kernel
theorem d_Ta_isLate_21 : decode b_Ta_isLate 21 = .ok (.goto 4, 3) := by decide +kernel
theorem d_Ta_isLate_24 : decode b_Ta_isLate 24 = .ok (.iconst 0, 1) := by decide +kernel
theorem d_Ta_isLate_25 : decode b_Ta_isLate 25 = .ok (.ireturn, 1) := by decide +kernel
theorem d_Ta_phaseAtVolts_0 : decode b_Ta_phaseAtVolts 0 = .ok (.lload_n 0, 1) := by decide +kernel
theorem d_Ta_phaseAtVolts_1 : decode b_Ta_phaseAtVolts 1 = .ok (.ldc2_w 79, 3) := by decide +kernel
theorem d_Ta_phaseAtVolts_4 : decode b_Ta_phaseAtVolts 4 = .ok (.ldc2_w 81, 3) := by decide +kernel
theorem d_Ta_phaseAtVolts_7 : decode b_Ta_phaseAtVolts 7 = .ok (.invokestatic 73, 3) := by decide +kernel
theorem d_Ta_phaseAtVolts_10 : decode b_Ta_phaseAtVolts 10 = .ok (.ifCond .eq 8, 3) := by decide +kernel
theorem d_Ta_phaseAtVolts_13 : decode b_Ta_phaseAtVolts 13 = .ok (.bipush 6, 2) := by decide +kernel
theorem d_Ta_phaseAtVolts_15 : decode b_Ta_phaseAtVolts 15 = .ok (.goto 4, 3) := by decide +kernel
theorem d_Ta_phaseAtVolts_18 : decode b_Ta_phaseAtVolts 18 = .ok (.iconst 5, 1) := by decide +kernel
theorem d_Ta_phaseAtVolts_19 : decode b_Ta_phaseAtVolts 19 = .ok (.ireturn, 1) := by decide +kernel
theorem d_Ta_isLimit_0 : decode b_Ta_isLimit 0 = .ok (.lload_n 0, 1) := by decide +kernel
theorem d_Ta_isLimit_1 : decode b_Ta_isLimit 1 = .ok (.lconst 1, 1) := by decide +kernel
theorem d_Ta_isLimit_2 : decode b_Ta_isLimit 2 = .ok (.ldc2_w 59, 3) := by decide +kernel
theorem d_Ta_isLimit_5 : decode b_Ta_isLimit 5 = .ok (.invokestatic 73, 3) := by decide +kernel
theorem d_Ta_isLimit_8 : decode b_Ta_isLimit 8 = .ok (.ireturn, 1) := by decide +kernel
theorem d_Ta_phaseAfter_0 : decode b_Ta_phaseAfter 0 = .ok (.iload_n 1, 1) := by decide +kernel
theorem d_Ta_phaseAfter_1 : decode b_Ta_phaseAfter 1 = .ok (.tableswitch 297 0 10 #[59, 77, 103, 123, 144, 173, 190, 221, 247, 268, 282], 59) := by decide +kernel
theorem d_Ta_phaseAfter_60 : decode b_Ta_phaseAfter 60 = .ok (.aload_n 0, 1) := by decide +kernel
theorem d_Ta_phaseAfter_61 : decode b_Ta_phaseAfter 61 = .ok (.getfield 9, 3) := by decide +kernel
theorem d_Ta_phaseAfter_64 : decode b_Ta_phaseAfter 64 = .ok (.ifCond .ne 12, 3) := by decide +kernel
theorem d_Ta_phaseAfter_67 : decode b_Ta_phaseAfter 67 = .ok (.iload 4, 2) := by decide +kernel
theorem d_Ta_phaseAfter_69 : decode b_Ta_phaseAfter 69 = .ok (.ifCond .eq 7, 3) := by decide +kernel
theorem d_Ta_phaseAfter_72 : decode b_Ta_phaseAfter 72 = .ok (.iconst 1, 1) := by decide +kernel
theorem d_Ta_phaseAfter_73 : decode b_Ta_phaseAfter 73 = .ok (.goto 4, 3) := by decide +kernel
theorem d_Ta_phaseAfter_76 : decode b_Ta_phaseAfter 76 = .ok (.iconst (-1), 1) := by decide +kernel
theorem d_Ta_phaseAfter_77 : decode b_Ta_phaseAfter 77 = .ok (.ireturn, 1) := by decide +kernel
theorem d_Ta_phaseAfter_78 : decode b_Ta_phaseAfter 78 = .ok (.aload_n 0, 1) := by decide +kernel
theorem d_Ta_phaseAfter_79 : decode b_Ta_phaseAfter 79 = .ok (.getfield 9, 3) := by decide +kernel
theorem d_Ta_phaseAfter_82 : decode b_Ta_phaseAfter 82 = .ok (.iconst 1, 1) := by decide +kernel
theorem d_Ta_phaseAfter_83 : decode b_Ta_phaseAfter 83 = .ok (.if_icmp .ne 19, 3) := by decide +kernel
theorem d_Ta_phaseAfter_86 : decode b_Ta_phaseAfter 86 = .ok (.lload_n 2, 1) := by decide +kernel
theorem d_Ta_phaseAfter_87 : decode b_Ta_phaseAfter 87 = .ok (.lconst 0, 1) := by decide +kernel
theorem d_Ta_phaseAfter_88 : decode b_Ta_phaseAfter 88 = .ok (.lcmp, 1) := by decide +kernel
theorem d_Ta_phaseAfter_89 : decode b_Ta_phaseAfter 89 = .ok (.ifCond .eq 9, 3) := by decide +kernel
theorem d_Ta_phaseAfter_92 : decode b_Ta_phaseAfter 92 = .ok (.lload_n 2, 1) := by decide +kernel
theorem d_Ta_phaseAfter_93 : decode b_Ta_phaseAfter 93 = .ok (.lconst 1, 1) := by decide +kernel
theorem d_Ta_phaseAfter_94 : decode b_Ta_phaseAfter 94 = .ok (.lcmp, 1) := by decide +kernel
theorem d_Ta_phaseAfter_95 : decode b_Ta_phaseAfter 95 = .ok (.ifCond .ne 7, 3) := by decide +kernel
theorem d_Ta_phaseAfter_98 : decode b_Ta_phaseAfter 98 = .ok (.iconst 2, 1) := by decide +kernel
theorem d_Ta_phaseAfter_99 : decode b_Ta_phaseAfter 99 = .ok (.goto 4, 3) := by decide +kernel
theorem d_Ta_phaseAfter_102 : decode b_Ta_phaseAfter 102 = .ok (.iconst (-1), 1) := by decide +kernel
theorem d_Ta_phaseAfter_103 : decode b_Ta_phaseAfter 103 = .ok (.ireturn, 1) := by decide +kernel
theorem d_Ta_phaseAfter_104 : decode b_Ta_phaseAfter 104 = .ok (.aload_n 0, 1) := by decide +kernel
theorem d_Ta_phaseAfter_105 : decode b_Ta_phaseAfter 105 = .ok (.getfield 9, 3) := by decide +kernel
theorem d_Ta_phaseAfter_108 : decode b_Ta_phaseAfter 108 = .ok (.iconst 2, 1) := by decide +kernel
theorem d_Ta_phaseAfter_109 : decode b_Ta_phaseAfter 109 = .ok (.if_icmp .ne 13, 3) := by decide +kernel
theorem d_Ta_phaseAfter_112 : decode b_Ta_phaseAfter 112 = .ok (.lload_n 2, 1) := by decide +kernel
theorem d_Ta_phaseAfter_113 : decode b_Ta_phaseAfter 113 = .ok (.lconst 1, 1) := by decide +kernel
theorem d_Ta_phaseAfter_114 : decode b_Ta_phaseAfter 114 = .ok (.lcmp, 1) := by decide +kernel
theorem d_Ta_phaseAfter_115 : decode b_Ta_phaseAfter 115 = .ok (.ifCond .ne 7, 3) := by decide +kernel
theorem d_Ta_phaseAfter_118 : decode b_Ta_phaseAfter 118 = .ok (.iconst 3, 1) := by decide +kernel
theorem d_Ta_phaseAfter_119 : decode b_Ta_phaseAfter 119 = .ok (.goto 4, 3) := by decide +kernel
theorem d_Ta_phaseAfter_122 : decode b_Ta_phaseAfter 122 = .ok (.iconst (-1), 1) := by decide +kernel
theorem d_Ta_phaseAfter_123 : decode b_Ta_phaseAfter 123 = .ok (.ireturn, 1) := by decide +kernel
theorem d_Ta_phaseAfter_124 : decode b_Ta_phaseAfter 124 = .ok (.aload_n 0, 1) := by decide +kernel
theorem d_Ta_phaseAfter_125 : decode b_Ta_phaseAfter 125 = .ok (.getfield 9, 3) := by decide +kernel
theorem d_Ta_phaseAfter_128 : decode b_Ta_phaseAfter 128 = .ok (.iconst 3, 1) := by decide +kernel
theorem d_Ta_phaseAfter_129 : decode b_Ta_phaseAfter 129 = .ok (.if_icmp .ne 14, 3) := by decide +kernel
theorem d_Ta_phaseAfter_132 : decode b_Ta_phaseAfter 132 = .ok (.lload_n 2, 1) := by decide +kernel
theorem d_Ta_phaseAfter_133 : decode b_Ta_phaseAfter 133 = .ok (.invokestatic 61, 3) := by decide +kernel
theorem d_Ta_phaseAfter_136 : decode b_Ta_phaseAfter 136 = .ok (.ifCond .eq 7, 3) := by decide +kernel
theorem d_Ta_phaseAfter_139 : decode b_Ta_phaseAfter 139 = .ok (.iconst 4, 1) := by decide +kernel
theorem d_Ta_phaseAfter_140 : decode b_Ta_phaseAfter 140 = .ok (.goto 4, 3) := by decide +kernel
theorem d_Ta_phaseAfter_143 : decode b_Ta_phaseAfter 143 = .ok (.iconst (-1), 1) := by decide +kernel
theorem d_Ta_phaseAfter_144 : decode b_Ta_phaseAfter 144 = .ok (.ireturn, 1) := by decide +kernel
theorem d_Ta_phaseAfter_145 : decode b_Ta_phaseAfter 145 = .ok (.aload_n 0, 1) := by decide +kernel
theorem d_Ta_phaseAfter_146 : decode b_Ta_phaseAfter 146 = .ok (.getfield 9, 3) := by decide +kernel
theorem d_Ta_phaseAfter_149 : decode b_Ta_phaseAfter 149 = .ok (.iconst 4, 1) := by decide +kernel
theorem d_Ta_phaseAfter_150 : decode b_Ta_phaseAfter 150 = .ok (.if_icmp .ne 22, 3) := by decide +kernel
theorem d_Ta_phaseAfter_153 : decode b_Ta_phaseAfter 153 = .ok (.aload_n 0, 1) := by decide +kernel
theorem d_Ta_phaseAfter_154 : decode b_Ta_phaseAfter 154 = .ok (.getfield 13, 3) := by decide +kernel
theorem d_Ta_phaseAfter_157 : decode b_Ta_phaseAfter 157 = .ok (.ifCond .eq 15, 3) := by decide +kernel
theorem d_Ta_phaseAfter_160 : decode b_Ta_phaseAfter 160 = .ok (.lload_n 2, 1) := by decide +kernel
theorem d_Ta_phaseAfter_161 : decode b_Ta_phaseAfter 161 = .ok (.ldc2_w 64, 3) := by decide +kernel
theorem d_Ta_phaseAfter_164 : decode b_Ta_phaseAfter 164 = .ok (.lcmp, 1) := by decide +kernel
theorem d_Ta_phaseAfter_165 : decode b_Ta_phaseAfter 165 = .ok (.ifCond .lt 7, 3) := by decide +kernel
theorem d_Ta_phaseAfter_168 : decode b_Ta_phaseAfter 168 = .ok (.iconst 5, 1) := by decide +kernel
theorem d_Ta_phaseAfter_169 : decode b_Ta_phaseAfter 169 = .ok (.goto 4, 3) := by decide +kernel
theorem d_Ta_phaseAfter_172 : decode b_Ta_phaseAfter 172 = .ok (.iconst (-1), 1) := by decide +kernel
theorem d_Ta_phaseAfter_173 : decode b_Ta_phaseAfter 173 = .ok (.ireturn, 1) := by decide +kernel
theorem d_Ta_phaseAfter_174 : decode b_Ta_phaseAfter 174 = .ok (.aload_n 0, 1) := by decide +kernel
theorem d_Ta_phaseAfter_175 : decode b_Ta_phaseAfter 175 = .ok (.getfield 9, 3) := by decide +kernel
theorem d_Ta_phaseAfter_178 : decode b_Ta_phaseAfter 178 = .ok (.iconst 5, 1) := by decide +kernel
