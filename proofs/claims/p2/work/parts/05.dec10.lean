theorem d_Mo_priceOf_31 : decode b_Mo_priceOf 31 = .ok (.aload_n 0, 1) := by decide +kernel
theorem d_Mo_priceOf_32 : decode b_Mo_priceOf 32 = .ok (.getfield 16, 3) := by decide +kernel
theorem d_Mo_priceOf_35 : decode b_Mo_priceOf 35 = .ok (.iload_n 2, 1) := by decide +kernel
theorem d_Mo_priceOf_36 : decode b_Mo_priceOf 36 = .ok (.iaload, 1) := by decide +kernel
theorem d_Mo_priceOf_37 : decode b_Mo_priceOf 37 = .ok (.ireturn, 1) := by decide +kernel
theorem d_Mo_priceOf_38 : decode b_Mo_priceOf 38 = .ok (.iinc 2 (-1), 3) := by decide +kernel
theorem d_Mo_priceOf_41 : decode b_Mo_priceOf 41 = .ok (.goto (-34), 3) := by decide +kernel
theorem d_Mo_priceOf_44 : decode b_Mo_priceOf 44 = .ok (.iconst (-1), 1) := by decide +kernel
theorem d_Mo_priceOf_45 : decode b_Mo_priceOf 45 = .ok (.ireturn, 1) := by decide +kernel
theorem d_Mo_plan_0 : decode b_Mo_plan 0 = .ok (.aload_n 0, 1) := by decide +kernel
theorem d_Mo_plan_1 : decode b_Mo_plan 1 = .ok (.iconst 0, 1) := by decide +kernel
theorem d_Mo_plan_2 : decode b_Mo_plan 2 = .ok (.putfield 26, 3) := by decide +kernel
theorem d_Mo_plan_5 : decode b_Mo_plan 5 = .ok (.lload_n 1, 1) := by decide +kernel
theorem d_Mo_plan_6 : decode b_Mo_plan 6 = .ok (.lconst 0, 1) := by decide +kernel
theorem d_Mo_plan_7 : decode b_Mo_plan 7 = .ok (.lcmp, 1) := by decide +kernel
theorem d_Mo_plan_8 : decode b_Mo_plan 8 = .ok (.ifCond .lt 25, 3) := by decide +kernel
theorem d_Mo_plan_11 : decode b_Mo_plan 11 = .ok (.lload_n 1, 1) := by decide +kernel
theorem d_Mo_plan_12 : decode b_Mo_plan 12 = .ok (.ldc2_w 85, 3) := by decide +kernel
theorem d_Mo_plan_15 : decode b_Mo_plan 15 = .ok (.lcmp, 1) := by decide +kernel
theorem d_Mo_plan_16 : decode b_Mo_plan 16 = .ok (.ifCond .gt 17, 3) := by decide +kernel
theorem d_Mo_plan_19 : decode b_Mo_plan 19 = .ok (.lload_n 3, 1) := by decide +kernel
theorem d_Mo_plan_20 : decode b_Mo_plan 20 = .ok (.lconst 0, 1) := by decide +kernel
theorem d_Mo_plan_21 : decode b_Mo_plan 21 = .ok (.lcmp, 1) := by decide +kernel
theorem d_Mo_plan_22 : decode b_Mo_plan 22 = .ok (.ifCond .lt 11, 3) := by decide +kernel
theorem d_Mo_plan_25 : decode b_Mo_plan 25 = .ok (.lload_n 3, 1) := by decide +kernel
theorem d_Mo_plan_26 : decode b_Mo_plan 26 = .ok (.ldc2_w 111, 3) := by decide +kernel
theorem d_Mo_plan_29 : decode b_Mo_plan 29 = .ok (.lcmp, 1) := by decide +kernel
theorem d_Mo_plan_30 : decode b_Mo_plan 30 = .ok (.ifCond .le 6, 3) := by decide +kernel
theorem d_Mo_plan_33 : decode b_Mo_plan 33 = .ok (.bipush (-2), 2) := by decide +kernel
theorem d_Mo_plan_35 : decode b_Mo_plan 35 = .ok (.ireturn, 1) := by decide +kernel
theorem d_Mo_plan_36 : decode b_Mo_plan 36 = .ok (.iconst 0, 1) := by decide +kernel
theorem d_Mo_plan_37 : decode b_Mo_plan 37 = .ok (.istore 5, 2) := by decide +kernel
theorem d_Mo_plan_39 : decode b_Mo_plan 39 = .ok (.iload 5, 2) := by decide +kernel
theorem d_Mo_plan_41 : decode b_Mo_plan 41 = .ok (.sipush 1440, 3) := by decide +kernel
theorem d_Mo_plan_44 : decode b_Mo_plan 44 = .ok (.if_icmp .ge 17, 3) := by decide +kernel
theorem d_Mo_plan_47 : decode b_Mo_plan 47 = .ok (.aload_n 0, 1) := by decide +kernel
theorem d_Mo_plan_48 : decode b_Mo_plan 48 = .ok (.getfield 19, 3) := by decide +kernel
theorem d_Mo_plan_51 : decode b_Mo_plan 51 = .ok (.iload 5, 2) := by decide +kernel
theorem d_Mo_plan_53 : decode b_Mo_plan 53 = .ok (.lconst 0, 1) := by decide +kernel
theorem d_Mo_plan_54 : decode b_Mo_plan 54 = .ok (.lastore, 1) := by decide +kernel
theorem d_Mo_plan_55 : decode b_Mo_plan 55 = .ok (.iinc 5 1, 3) := by decide +kernel
theorem d_Mo_plan_58 : decode b_Mo_plan 58 = .ok (.goto (-19), 3) := by decide +kernel
theorem d_Mo_plan_61 : decode b_Mo_plan 61 = .ok (.lload_n 1, 1) := by decide +kernel
theorem d_Mo_plan_62 : decode b_Mo_plan 62 = .ok (.lstore 5, 2) := by decide +kernel
theorem d_Mo_plan_64 : decode b_Mo_plan 64 = .ok (.lconst 0, 1) := by decide +kernel
theorem d_Mo_plan_65 : decode b_Mo_plan 65 = .ok (.lstore 7, 2) := by decide +kernel
theorem d_Mo_plan_67 : decode b_Mo_plan 67 = .ok (.aload_n 0, 1) := by decide +kernel
theorem d_Mo_plan_68 : decode b_Mo_plan 68 = .ok (.invokevirtual 55, 3) := by decide +kernel
theorem d_Mo_plan_71 : decode b_Mo_plan 71 = .ok (.istore 9, 2) := by decide +kernel
theorem d_Mo_plan_73 : decode b_Mo_plan 73 = .ok (.iconst 0, 1) := by decide +kernel
theorem d_Mo_plan_74 : decode b_Mo_plan 74 = .ok (.istore 10, 2) := by decide +kernel
theorem d_Mo_plan_76 : decode b_Mo_plan 76 = .ok (.iload 10, 2) := by decide +kernel
theorem d_Mo_plan_78 : decode b_Mo_plan 78 = .ok (.sipush 1000, 3) := by decide +kernel
theorem d_Mo_plan_81 : decode b_Mo_plan 81 = .ok (.if_icmp .gt 156, 3) := by decide +kernel
theorem d_Mo_plan_84 : decode b_Mo_plan 84 = .ok (.lload 5, 2) := by decide +kernel
theorem d_Mo_plan_86 : decode b_Mo_plan 86 = .ok (.lconst 0, 1) := by decide +kernel
theorem d_Mo_plan_87 : decode b_Mo_plan 87 = .ok (.lcmp, 1) := by decide +kernel
theorem d_Mo_plan_88 : decode b_Mo_plan 88 = .ok (.ifCond .le 149, 3) := by decide +kernel
theorem d_Mo_plan_91 : decode b_Mo_plan 91 = .ok (.iconst 0, 1) := by decide +kernel
theorem d_Mo_plan_92 : decode b_Mo_plan 92 = .ok (.istore 11, 2) := by decide +kernel
theorem d_Mo_plan_94 : decode b_Mo_plan 94 = .ok (.iconst 0, 1) := by decide +kernel
theorem d_Mo_plan_95 : decode b_Mo_plan 95 = .ok (.istore 12, 2) := by decide +kernel
theorem d_Mo_plan_97 : decode b_Mo_plan 97 = .ok (.iload 12, 2) := by decide +kernel
theorem d_Mo_plan_99 : decode b_Mo_plan 99 = .ok (.aload_n 0, 1) := by decide +kernel
theorem d_Mo_plan_100 : decode b_Mo_plan 100 = .ok (.getfield 108, 3) := by decide +kernel
theorem d_Mo_plan_103 : decode b_Mo_plan 103 = .ok (.if_icmp .ge 33, 3) := by decide +kernel
theorem d_Mo_plan_106 : decode b_Mo_plan 106 = .ok (.iload 11, 2) := by decide +kernel
theorem d_Mo_plan_108 : decode b_Mo_plan 108 = .ok (.ifCond .ne 15, 3) := by decide +kernel
theorem d_Mo_plan_111 : decode b_Mo_plan 111 = .ok (.aload_n 0, 1) := by decide +kernel
theorem d_Mo_plan_112 : decode b_Mo_plan 112 = .ok (.getfield 16, 3) := by decide +kernel
theorem d_Mo_plan_115 : decode b_Mo_plan 115 = .ok (.iload 12, 2) := by decide +kernel
theorem d_Mo_plan_117 : decode b_Mo_plan 117 = .ok (.iaload, 1) := by decide +kernel
theorem d_Mo_plan_118 : decode b_Mo_plan 118 = .ok (.iload 10, 2) := by decide +kernel
theorem d_Mo_plan_120 : decode b_Mo_plan 120 = .ok (.if_icmp .ne 7, 3) := by decide +kernel
theorem d_Mo_plan_123 : decode b_Mo_plan 123 = .ok (.iconst 1, 1) := by decide +kernel
theorem d_Mo_plan_124 : decode b_Mo_plan 124 = .ok (.goto 4, 3) := by decide +kernel
theorem d_Mo_plan_127 : decode b_Mo_plan 127 = .ok (.iconst 0, 1) := by decide +kernel
theorem d_Mo_plan_128 : decode b_Mo_plan 128 = .ok (.istore 11, 2) := by decide +kernel
theorem d_Mo_plan_130 : decode b_Mo_plan 130 = .ok (.iinc 12 1, 3) := by decide +kernel
theorem d_Mo_plan_133 : decode b_Mo_plan 133 = .ok (.goto (-36), 3) := by decide +kernel
theorem d_Mo_plan_136 : decode b_Mo_plan 136 = .ok (.iconst 0, 1) := by decide +kernel
theorem d_Mo_plan_137 : decode b_Mo_plan 137 = .ok (.istore 12, 2) := by decide +kernel
theorem d_Mo_plan_139 : decode b_Mo_plan 139 = .ok (.iload 12, 2) := by decide +kernel
theorem d_Mo_plan_141 : decode b_Mo_plan 141 = .ok (.i2l, 1) := by decide +kernel
theorem d_Mo_plan_142 : decode b_Mo_plan 142 = .ok (.lload_n 3, 1) := by decide +kernel
theorem d_Mo_plan_143 : decode b_Mo_plan 143 = .ok (.lcmp, 1) := by decide +kernel
theorem d_Mo_plan_144 : decode b_Mo_plan 144 = .ok (.ifCond .ge 87, 3) := by decide +kernel
theorem d_Mo_plan_147 : decode b_Mo_plan 147 = .ok (.lload 5, 2) := by decide +kernel
theorem d_Mo_plan_149 : decode b_Mo_plan 149 = .ok (.lconst 0, 1) := by decide +kernel
theorem d_Mo_plan_150 : decode b_Mo_plan 150 = .ok (.lcmp, 1) := by decide +kernel
theorem d_Mo_plan_151 : decode b_Mo_plan 151 = .ok (.ifCond .le 80, 3) := by decide +kernel
theorem d_Mo_plan_154 : decode b_Mo_plan 154 = .ok (.iload 11, 2) := by decide +kernel
theorem d_Mo_plan_156 : decode b_Mo_plan 156 = .ok (.ifCond .eq 75, 3) := by decide +kernel
theorem d_Mo_plan_159 : decode b_Mo_plan 159 = .ok (.aload_n 0, 1) := by decide +kernel
theorem d_Mo_plan_160 : decode b_Mo_plan 160 = .ok (.iload 12, 2) := by decide +kernel
theorem d_Mo_plan_162 : decode b_Mo_plan 162 = .ok (.invokevirtual 113, 3) := by decide +kernel
theorem d_Mo_plan_165 : decode b_Mo_plan 165 = .ok (.iload 10, 2) := by decide +kernel
theorem d_Mo_plan_167 : decode b_Mo_plan 167 = .ok (.if_icmp .eq 6, 3) := by decide +kernel
theorem d_Mo_plan_170 : decode b_Mo_plan 170 = .ok (.goto 55, 3) := by decide +kernel
theorem d_Mo_plan_173 : decode b_Mo_plan 173 = .ok (.aload_n 0, 1) := by decide +kernel
theorem d_Mo_plan_174 : decode b_Mo_plan 174 = .ok (.getfield 19, 3) := by decide +kernel
theorem d_Mo_plan_177 : decode b_Mo_plan 177 = .ok (.iload 12, 2) := by decide +kernel
theorem d_Mo_plan_179 : decode b_Mo_plan 179 = .ok (.lload 5, 2) := by decide +kernel
theorem d_Mo_plan_181 : decode b_Mo_plan 181 = .ok (.iload 9, 2) := by decide +kernel
theorem d_Mo_plan_183 : decode b_Mo_plan 183 = .ok (.i2l, 1) := by decide +kernel
theorem d_Mo_plan_184 : decode b_Mo_plan 184 = .ok (.lcmp, 1) := by decide +kernel
theorem d_Mo_plan_185 : decode b_Mo_plan 185 = .ok (.ifCond .ge 8, 3) := by decide +kernel
theorem d_Mo_plan_188 : decode b_Mo_plan 188 = .ok (.lload 5, 2) := by decide +kernel
theorem d_Mo_plan_190 : decode b_Mo_plan 190 = .ok (.goto 6, 3) := by decide +kernel
theorem d_Mo_plan_193 : decode b_Mo_plan 193 = .ok (.iload 9, 2) := by decide +kernel
theorem d_Mo_plan_195 : decode b_Mo_plan 195 = .ok (.i2l, 1) := by decide +kernel
theorem d_Mo_plan_196 : decode b_Mo_plan 196 = .ok (.lastore, 1) := by decide +kernel
theorem d_Mo_plan_197 : decode b_Mo_plan 197 = .ok (.lload 5, 2) := by decide +kernel
theorem d_Mo_plan_199 : decode b_Mo_plan 199 = .ok (.aload_n 0, 1) := by decide +kernel
theorem d_Mo_plan_200 : decode b_Mo_plan 200 = .ok (.getfield 19, 3) := by decide +kernel
theorem d_Mo_plan_203 : decode b_Mo_plan 203 = .ok (.iload 12, 2) := by decide +kernel
theorem d_Mo_plan_205 : decode b_Mo_plan 205 = .ok (.laload, 1) := by decide +kernel
theorem d_Mo_plan_206 : decode b_Mo_plan 206 = .ok (.lsub, 1) := by decide +kernel
theorem d_Mo_plan_207 : decode b_Mo_plan 207 = .ok (.lstore 5, 2) := by decide +kernel
theorem d_Mo_plan_209 : decode b_Mo_plan 209 = .ok (.lload 7, 2) := by decide +kernel
theorem d_Mo_plan_211 : decode b_Mo_plan 211 = .ok (.aload_n 0, 1) := by decide +kernel
theorem d_Mo_plan_212 : decode b_Mo_plan 212 = .ok (.getfield 19, 3) := by decide +kernel
theorem d_Mo_plan_215 : decode b_Mo_plan 215 = .ok (.iload 12, 2) := by decide +kernel
theorem d_Mo_plan_217 : decode b_Mo_plan 217 = .ok (.laload, 1) := by decide +kernel
theorem d_Mo_plan_218 : decode b_Mo_plan 218 = .ok (.iload 10, 2) := by decide +kernel
theorem d_Mo_plan_220 : decode b_Mo_plan 220 = .ok (.i2l, 1) := by decide +kernel
theorem d_Mo_plan_221 : decode b_Mo_plan 221 = .ok (.lmul, 1) := by decide +kernel
theorem d_Mo_plan_222 : decode b_Mo_plan 222 = .ok (.ladd, 1) := by decide +kernel
theorem d_Mo_plan_223 : decode b_Mo_plan 223 = .ok (.lstore 7, 2) := by decide +kernel
theorem d_Mo_plan_225 : decode b_Mo_plan 225 = .ok (.iinc 12 1, 3) := by decide +kernel
theorem d_Mo_plan_228 : decode b_Mo_plan 228 = .ok (.goto (-89), 3) := by decide +kernel
theorem d_Mo_plan_231 : decode b_Mo_plan 231 = .ok (.iinc 10 1, 3) := by decide +kernel
theorem d_Mo_plan_234 : decode b_Mo_plan 234 = .ok (.goto (-158), 3) := by decide +kernel
theorem d_Mo_plan_237 : decode b_Mo_plan 237 = .ok (.aload_n 0, 1) := by decide +kernel
theorem d_Mo_plan_238 : decode b_Mo_plan 238 = .ok (.lload 5, 2) := by decide +kernel
theorem d_Mo_plan_240 : decode b_Mo_plan 240 = .ok (.putfield 117, 3) := by decide +kernel
theorem d_Mo_plan_243 : decode b_Mo_plan 243 = .ok (.lload 5, 2) := by decide +kernel
theorem d_Mo_plan_245 : decode b_Mo_plan 245 = .ok (.lconst 0, 1) := by decide +kernel
theorem d_Mo_plan_246 : decode b_Mo_plan 246 = .ok (.lcmp, 1) := by decide +kernel
theorem d_Mo_plan_247 : decode b_Mo_plan 247 = .ok (.ifCond .le 7, 3) := by decide +kernel
theorem d_Mo_plan_250 : decode b_Mo_plan 250 = .ok (.iconst (-1), 1) := by decide +kernel
theorem d_Mo_plan_251 : decode b_Mo_plan 251 = .ok (.goto 6, 3) := by decide +kernel
theorem d_Mo_plan_254 : decode b_Mo_plan 254 = .ok (.lload 7, 2) := by decide +kernel
theorem d_Mo_plan_256 : decode b_Mo_plan 256 = .ok (.l2i, 1) := by decide +kernel
theorem d_Mo_plan_257 : decode b_Mo_plan 257 = .ok (.ireturn, 1) := by decide +kernel
theorem d_Mo_short0_0 : decode b_Mo_short0 0 = .ok (.aload_n 0, 1) := by decide +kernel
theorem d_Mo_short0_1 : decode b_Mo_short0 1 = .ok (.iconst 0, 1) := by decide +kernel
theorem d_Mo_short0_2 : decode b_Mo_short0 2 = .ok (.putfield 26, 3) := by decide +kernel
theorem d_Mo_short0_5 : decode b_Mo_short0 5 = .ok (.aload_n 0, 1) := by decide +kernel
theorem d_Mo_short0_6 : decode b_Mo_short0 6 = .ok (.getfield 117, 3) := by decide +kernel
theorem d_Mo_short0_9 : decode b_Mo_short0 9 = .ok (.lreturn, 1) := by decide +kernel
theorem d_Mo_price_0 : decode b_Mo_price 0 = .ok (.aload_n 0, 1) := by decide +kernel
theorem d_Mo_price_1 : decode b_Mo_price 1 = .ok (.iconst 0, 1) := by decide +kernel
theorem d_Mo_price_2 : decode b_Mo_price 2 = .ok (.putfield 26, 3) := by decide +kernel
theorem d_Mo_price_5 : decode b_Mo_price 5 = .ok (.lload_n 1, 1) := by decide +kernel
theorem d_Mo_price_6 : decode b_Mo_price 6 = .ok (.lconst 0, 1) := by decide +kernel
theorem d_Mo_price_7 : decode b_Mo_price 7 = .ok (.lcmp, 1) := by decide +kernel
theorem d_Mo_price_8 : decode b_Mo_price 8 = .ok (.ifCond .lt 41, 3) := by decide +kernel
theorem d_Mo_price_11 : decode b_Mo_price 11 = .ok (.lload_n 1, 1) := by decide +kernel
theorem d_Mo_price_12 : decode b_Mo_price 12 = .ok (.ldc2_w 120, 3) := by decide +kernel
