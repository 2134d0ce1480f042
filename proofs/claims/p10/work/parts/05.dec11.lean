theorem d_Mo_plan_159 : decode b_Mo_plan 159 = .ok (.aload_n 0, 1) := by decide +kernel
theorem d_Mo_plan_160 : decode b_Mo_plan 160 = .ok (.iload 12, 2) := by decide +kernel
theorem d_Mo_plan_162 : decode b_Mo_plan 162 = .ok (.invokevirtual 113, 3) := by decide +kernel
theorem d_Mo_plan_165 : decode b_Mo_plan 165 = .ok (.iload 10, 2) := by decide +kernel
theorem d_Mo_plan_167 : decode b_Mo_plan 167 = .ok (.if_icmp .eq 6, 3) := by decide +kernel
theorem d_Mo_plan_170 : decode b_Mo_plan 170 = .ok (.goto 55, 3) := by decide +kernel
theorem d_Mo_plan_173 : decode b_Mo_plan 173 = .ok (.aload_n 0, 1) := by decide +kernel
theorem d_Mo_plan_174 : decode b_Mo_plan 174 = .ok (.getfield 19, 3) := by decide +kernel
theorem d_Mo_plan_177 : decode b_Mo_plan 177 = .ok (.iload 12, 2) := by decide +kernel
theorem d_Mo_plan_179 : decode b_Mo_plan 179 = .ok (.lload 5, 2) := by decide +kernel
theorem d_Mo_plan_181 : decode b_Mo_plan 181 = .ok (.iload 9, 2) := by decide +kernel
theorem d_Mo_plan_183 : decode b_Mo_plan 183 = .ok (.i2l, 1) := by decide +kernel
theorem d_Mo_plan_184 : decode b_Mo_plan 184 = .ok (.lcmp, 1) := by decide +kernel
theorem d_Mo_plan_185 : decode b_Mo_plan 185 = .ok (.ifCond .ge 8, 3) := by decide +kernel
theorem d_Mo_plan_188 : decode b_Mo_plan 188 = .ok (.lload 5, 2) := by decide +kernel
theorem d_Mo_plan_190 : decode b_Mo_plan 190 = .ok (.goto 6, 3) := by decide +kernel
theorem d_Mo_plan_193 : decode b_Mo_plan 193 = .ok (.iload 9, 2) := by decide +kernel
theorem d_Mo_plan_195 : decode b_Mo_plan 195 = .ok (.i2l, 1) := by decide +kernel
theorem d_Mo_plan_196 : decode b_Mo_plan 196 = .ok (.lastore, 1) := by decide +kernel
theorem d_Mo_plan_197 : decode b_Mo_plan 197 = .ok (.lload 5, 2) := by decide +kernel
theorem d_Mo_plan_199 : decode b_Mo_plan 199 = .ok (.aload_n 0, 1) := by decide +kernel
theorem d_Mo_plan_200 : decode b_Mo_plan 200 = .ok (.getfield 19, 3) := by decide +kernel
theorem d_Mo_plan_203 : decode b_Mo_plan 203 = .ok (.iload 12, 2) := by decide +kernel
theorem d_Mo_plan_205 : decode b_Mo_plan 205 = .ok (.laload, 1) := by decide +kernel
theorem d_Mo_plan_206 : decode b_Mo_plan 206 = .ok (.lsub, 1) := by decide +kernel
theorem d_Mo_plan_207 : decode b_Mo_plan 207 = .ok (.lstore 5, 2) := by decide +kernel
theorem d_Mo_plan_209 : decode b_Mo_plan 209 = .ok (.lload 7, 2) := by decide +kernel
theorem d_Mo_plan_211 : decode b_Mo_plan 211 = .ok (.aload_n 0, 1) := by decide +kernel
theorem d_Mo_plan_212 : decode b_Mo_plan 212 = .ok (.getfield 19, 3) := by decide +kernel
theorem d_Mo_plan_215 : decode b_Mo_plan 215 = .ok (.iload 12, 2) := by decide +kernel
theorem d_Mo_plan_217 : decode b_Mo_plan 217 = .ok (.laload, 1) := by decide +kernel
theorem d_Mo_plan_218 : decode b_Mo_plan 218 = .ok (.iload 10, 2) := by decide +kernel
theorem d_Mo_plan_220 : decode b_Mo_plan 220 = .ok (.i2l, 1) := by decide +kernel
theorem d_Mo_plan_221 : decode b_Mo_plan 221 = .ok (.lmul, 1) := by decide +kernel
theorem d_Mo_plan_222 : decode b_Mo_plan 222 = .ok (.ladd, 1) := by decide +kernel
theorem d_Mo_plan_223 : decode b_Mo_plan 223 = .ok (.lstore 7, 2) := by decide +kernel
theorem d_Mo_plan_225 : decode b_Mo_plan 225 = .ok (.iinc 12 1, 3) := by decide +kernel
theorem d_Mo_plan_228 : decode b_Mo_plan 228 = .ok (.goto (-89), 3) := by decide +kernel
theorem d_Mo_plan_231 : decode b_Mo_plan 231 = .ok (.iinc 10 1, 3) := by decide +kernel
theorem d_Mo_plan_234 : decode b_Mo_plan 234 = .ok (.goto (-158), 3) := by decide +kernel
theorem d_Mo_plan_237 : decode b_Mo_plan 237 = .ok (.aload_n 0, 1) := by decide +kernel
theorem d_Mo_plan_238 : decode b_Mo_plan 238 = .ok (.lload 5, 2) := by decide +kernel
theorem d_Mo_plan_240 : decode b_Mo_plan 240 = .ok (.putfield 117, 3) := by decide +kernel
theorem d_Mo_plan_243 : decode b_Mo_plan 243 = .ok (.lload 5, 2) := by decide +kernel
theorem d_Mo_plan_245 : decode b_Mo_plan 245 = .ok (.lconst 0, 1) := by decide +kernel
theorem d_Mo_plan_246 : decode b_Mo_plan 246 = .ok (.lcmp, 1) := by decide +kernel
theorem d_Mo_plan_247 : decode b_Mo_plan 247 = .ok (.ifCond .le 7, 3) := by decide +kernel
theorem d_Mo_plan_250 : decode b_Mo_plan 250 = .ok (.iconst (-1), 1) := by decide +kernel
theorem d_Mo_plan_251 : decode b_Mo_plan 251 = .ok (.goto 6, 3) := by decide +kernel
theorem d_Mo_plan_254 : decode b_Mo_plan 254 = .ok (.lload 7, 2) := by decide +kernel
theorem d_Mo_plan_256 : decode b_Mo_plan 256 = .ok (.l2i, 1) := by decide +kernel
theorem d_Mo_plan_257 : decode b_Mo_plan 257 = .ok (.ireturn, 1) := by decide +kernel
theorem d_Mo_short0_0 : decode b_Mo_short0 0 = .ok (.aload_n 0, 1) := by decide +kernel
theorem d_Mo_short0_1 : decode b_Mo_short0 1 = .ok (.iconst 0, 1) := by decide +kernel
theorem d_Mo_short0_2 : decode b_Mo_short0 2 = .ok (.putfield 26, 3) := by decide +kernel
theorem d_Mo_short0_5 : decode b_Mo_short0 5 = .ok (.aload_n 0, 1) := by decide +kernel
theorem d_Mo_short0_6 : decode b_Mo_short0 6 = .ok (.getfield 117, 3) := by decide +kernel
theorem d_Mo_short0_9 : decode b_Mo_short0 9 = .ok (.lreturn, 1) := by decide +kernel
theorem d_Mo_price_0 : decode b_Mo_price 0 = .ok (.aload_n 0, 1) := by decide +kernel
theorem d_Mo_price_1 : decode b_Mo_price 1 = .ok (.iconst 0, 1) := by decide +kernel
theorem d_Mo_price_2 : decode b_Mo_price 2 = .ok (.putfield 26, 3) := by decide +kernel
theorem d_Mo_price_5 : decode b_Mo_price 5 = .ok (.lload_n 1, 1) := by decide +kernel
theorem d_Mo_price_6 : decode b_Mo_price 6 = .ok (.lconst 0, 1) := by decide +kernel
theorem d_Mo_price_7 : decode b_Mo_price 7 = .ok (.lcmp, 1) := by decide +kernel
theorem d_Mo_price_8 : decode b_Mo_price 8 = .ok (.ifCond .lt 41, 3) := by decide +kernel
theorem d_Mo_price_11 : decode b_Mo_price 11 = .ok (.lload_n 1, 1) := by decide +kernel
theorem d_Mo_price_12 : decode b_Mo_price 12 = .ok (.ldc2_w 120, 3) := by decide +kernel
theorem d_Mo_price_15 : decode b_Mo_price 15 = .ok (.lcmp, 1) := by decide +kernel
theorem d_Mo_price_16 : decode b_Mo_price 16 = .ok (.ifCond .gt 33, 3) := by decide +kernel
theorem d_Mo_price_19 : decode b_Mo_price 19 = .ok (.lload_n 3, 1) := by decide +kernel
theorem d_Mo_price_20 : decode b_Mo_price 20 = .ok (.lload_n 1, 1) := by decide +kernel
theorem d_Mo_price_21 : decode b_Mo_price 21 = .ok (.lcmp, 1) := by decide +kernel
theorem d_Mo_price_22 : decode b_Mo_price 22 = .ok (.ifCond .le 27, 3) := by decide +kernel
theorem d_Mo_price_25 : decode b_Mo_price 25 = .ok (.lload_n 3, 1) := by decide +kernel
theorem d_Mo_price_26 : decode b_Mo_price 26 = .ok (.ldc2_w 111, 3) := by decide +kernel
theorem d_Mo_price_29 : decode b_Mo_price 29 = .ok (.lcmp, 1) := by decide +kernel
theorem d_Mo_price_30 : decode b_Mo_price 30 = .ok (.ifCond .gt 19, 3) := by decide +kernel
theorem d_Mo_price_33 : decode b_Mo_price 33 = .ok (.lload 5, 2) := by decide +kernel
theorem d_Mo_price_35 : decode b_Mo_price 35 = .ok (.lconst 0, 1) := by decide +kernel
theorem d_Mo_price_36 : decode b_Mo_price 36 = .ok (.lcmp, 1) := by decide +kernel
theorem d_Mo_price_37 : decode b_Mo_price 37 = .ok (.ifCond .lt 12, 3) := by decide +kernel
theorem d_Mo_price_40 : decode b_Mo_price 40 = .ok (.lload 5, 2) := by decide +kernel
theorem d_Mo_price_42 : decode b_Mo_price 42 = .ok (.ldc2_w 33, 3) := by decide +kernel
theorem d_Mo_price_45 : decode b_Mo_price 45 = .ok (.lcmp, 1) := by decide +kernel
theorem d_Mo_price_46 : decode b_Mo_price 46 = .ok (.ifCond .le 6, 3) := by decide +kernel
theorem d_Mo_price_49 : decode b_Mo_price 49 = .ok (.bipush (-2), 2) := by decide +kernel
theorem d_Mo_price_51 : decode b_Mo_price 51 = .ok (.ireturn, 1) := by decide +kernel
theorem d_Mo_price_52 : decode b_Mo_price 52 = .ok (.aload_n 0, 1) := by decide +kernel
theorem d_Mo_price_53 : decode b_Mo_price 53 = .ok (.getfield 108, 3) := by decide +kernel
theorem d_Mo_price_56 : decode b_Mo_price 56 = .ok (.bipush 20, 2) := by decide +kernel
theorem d_Mo_price_58 : decode b_Mo_price 58 = .ok (.if_icmp .ne 6, 3) := by decide +kernel
theorem d_Mo_price_61 : decode b_Mo_price 61 = .ok (.bipush (-4), 2) := by decide +kernel
theorem d_Mo_price_63 : decode b_Mo_price 63 = .ok (.ireturn, 1) := by decide +kernel
theorem d_Mo_price_64 : decode b_Mo_price 64 = .ok (.aload_n 0, 1) := by decide +kernel
theorem d_Mo_price_65 : decode b_Mo_price 65 = .ok (.getfield 7, 3) := by decide +kernel
theorem d_Mo_price_68 : decode b_Mo_price 68 = .ok (.aload_n 0, 1) := by decide +kernel
theorem d_Mo_price_69 : decode b_Mo_price 69 = .ok (.getfield 108, 3) := by decide +kernel
theorem d_Mo_price_72 : decode b_Mo_price 72 = .ok (.lload_n 1, 1) := by decide +kernel
theorem d_Mo_price_73 : decode b_Mo_price 73 = .ok (.l2i, 1) := by decide +kernel
theorem d_Mo_price_74 : decode b_Mo_price 74 = .ok (.iastore, 1) := by decide +kernel
theorem d_Mo_price_75 : decode b_Mo_price 75 = .ok (.aload_n 0, 1) := by decide +kernel
theorem d_Mo_price_76 : decode b_Mo_price 76 = .ok (.getfield 13, 3) := by decide +kernel
theorem d_Mo_price_79 : decode b_Mo_price 79 = .ok (.aload_n 0, 1) := by decide +kernel
theorem d_Mo_price_80 : decode b_Mo_price 80 = .ok (.getfield 108, 3) := by decide +kernel
theorem d_Mo_price_83 : decode b_Mo_price 83 = .ok (.lload_n 3, 1) := by decide +kernel
theorem d_Mo_price_84 : decode b_Mo_price 84 = .ok (.l2i, 1) := by decide +kernel
theorem d_Mo_price_85 : decode b_Mo_price 85 = .ok (.iastore, 1) := by decide +kernel
theorem d_Mo_price_86 : decode b_Mo_price 86 = .ok (.aload_n 0, 1) := by decide +kernel
theorem d_Mo_price_87 : decode b_Mo_price 87 = .ok (.getfield 16, 3) := by decide +kernel
theorem d_Mo_price_90 : decode b_Mo_price 90 = .ok (.aload_n 0, 1) := by decide +kernel
theorem d_Mo_price_91 : decode b_Mo_price 91 = .ok (.getfield 108, 3) := by decide +kernel
theorem d_Mo_price_94 : decode b_Mo_price 94 = .ok (.lload 5, 2) := by decide +kernel
theorem d_Mo_price_96 : decode b_Mo_price 96 = .ok (.l2i, 1) := by decide +kernel
theorem d_Mo_price_97 : decode b_Mo_price 97 = .ok (.iastore, 1) := by decide +kernel
theorem d_Mo_price_98 : decode b_Mo_price 98 = .ok (.aload_n 0, 1) := by decide +kernel
theorem d_Mo_price_99 : decode b_Mo_price 99 = .ok (.dup, 1) := by decide +kernel
theorem d_Mo_price_100 : decode b_Mo_price 100 = .ok (.getfield 108, 3) := by decide +kernel
theorem d_Mo_price_103 : decode b_Mo_price 103 = .ok (.iconst 1, 1) := by decide +kernel
theorem d_Mo_price_104 : decode b_Mo_price 104 = .ok (.iadd, 1) := by decide +kernel
theorem d_Mo_price_105 : decode b_Mo_price 105 = .ok (.putfield 108, 3) := by decide +kernel
theorem d_Mo_price_108 : decode b_Mo_price 108 = .ok (.aload_n 0, 1) := by decide +kernel
theorem d_Mo_price_109 : decode b_Mo_price 109 = .ok (.getfield 108, 3) := by decide +kernel
theorem d_Mo_price_112 : decode b_Mo_price 112 = .ok (.ireturn, 1) := by decide +kernel
theorem d_Mo_planned_0 : decode b_Mo_planned 0 = .ok (.aload_n 0, 1) := by decide +kernel
theorem d_Mo_planned_1 : decode b_Mo_planned 1 = .ok (.iconst 0, 1) := by decide +kernel
theorem d_Mo_planned_2 : decode b_Mo_planned 2 = .ok (.putfield 26, 3) := by decide +kernel
theorem d_Mo_planned_5 : decode b_Mo_planned 5 = .ok (.lload_n 1, 1) := by decide +kernel
theorem d_Mo_planned_6 : decode b_Mo_planned 6 = .ok (.lconst 0, 1) := by decide +kernel
theorem d_Mo_planned_7 : decode b_Mo_planned 7 = .ok (.lcmp, 1) := by decide +kernel
theorem d_Mo_planned_8 : decode b_Mo_planned 8 = .ok (.ifCond .lt 11, 3) := by decide +kernel
theorem d_Mo_planned_11 : decode b_Mo_planned 11 = .ok (.lload_n 1, 1) := by decide +kernel
theorem d_Mo_planned_12 : decode b_Mo_planned 12 = .ok (.ldc2_w 120, 3) := by decide +kernel
theorem d_Mo_planned_15 : decode b_Mo_planned 15 = .ok (.lcmp, 1) := by decide +kernel
theorem d_Mo_planned_16 : decode b_Mo_planned 16 = .ok (.ifCond .le 7, 3) := by decide +kernel
theorem d_Mo_planned_19 : decode b_Mo_planned 19 = .ok (.lconst 0, 1) := by decide +kernel
theorem d_Mo_planned_20 : decode b_Mo_planned 20 = .ok (.goto 10, 3) := by decide +kernel
theorem d_Mo_planned_23 : decode b_Mo_planned 23 = .ok (.aload_n 0, 1) := by decide +kernel
theorem d_Mo_planned_24 : decode b_Mo_planned 24 = .ok (.getfield 19, 3) := by decide +kernel
theorem d_Mo_planned_27 : decode b_Mo_planned 27 = .ok (.lload_n 1, 1) := by decide +kernel
theorem d_Mo_planned_28 : decode b_Mo_planned 28 = .ok (.l2i, 1) := by decide +kernel
theorem d_Mo_planned_29 : decode b_Mo_planned 29 = .ok (.laload, 1) := by decide +kernel
theorem d_Mo_planned_30 : decode b_Mo_planned 30 = .ok (.lreturn, 1) := by decide +kernel
theorem d_Mo_stop_0 : decode b_Mo_stop 0 = .ok (.aload_n 0, 1) := by decide +kernel
theorem d_Mo_stop_1 : decode b_Mo_stop 1 = .ok (.iconst 0, 1) := by decide +kernel
theorem d_Mo_stop_2 : decode b_Mo_stop 2 = .ok (.putfield 26, 3) := by decide +kernel
theorem d_Mo_stop_5 : decode b_Mo_stop 5 = .ok (.iload_n 1, 1) := by decide +kernel
theorem d_Mo_stop_6 : decode b_Mo_stop 6 = .ok (.ifCond .lt 8, 3) := by decide +kernel
theorem d_Mo_stop_9 : decode b_Mo_stop 9 = .ok (.iload_n 1, 1) := by decide +kernel
theorem d_Mo_stop_10 : decode b_Mo_stop 10 = .ok (.iconst 1, 1) := by decide +kernel
theorem d_Mo_stop_11 : decode b_Mo_stop 11 = .ok (.if_icmp .le 5, 3) := by decide +kernel
theorem d_Mo_stop_14 : decode b_Mo_stop 14 = .ok (.iconst (-1), 1) := by decide +kernel
theorem d_Mo_stop_15 : decode b_Mo_stop 15 = .ok (.ireturn, 1) := by decide +kernel
theorem d_Mo_stop_16 : decode b_Mo_stop 16 = .ok (.aload_n 0, 1) := by decide +kernel
theorem d_Mo_stop_17 : decode b_Mo_stop 17 = .ok (.lload_n 2, 1) := by decide +kernel
theorem d_Mo_stop_18 : decode b_Mo_stop 18 = .ok (.invokevirtual 87, 3) := by decide +kernel
theorem d_Mo_stop_21 : decode b_Mo_stop 21 = .ok (.ifCond .ne 6, 3) := by decide +kernel
theorem d_Mo_stop_24 : decode b_Mo_stop 24 = .ok (.bipush (-2), 2) := by decide +kernel
theorem d_Mo_stop_26 : decode b_Mo_stop 26 = .ok (.ireturn, 1) := by decide +kernel
theorem d_Mo_stop_27 : decode b_Mo_stop 27 = .ok (.aload_n 0, 1) := by decide +kernel
theorem d_Mo_stop_28 : decode b_Mo_stop 28 = .ok (.getfield 52, 3) := by decide +kernel
