theorem d_Ta_phaseAfter_179 : decode b_Ta_phaseAfter 179 = .ok (.if_icmp .ne 10, 3) := by decide +kernel
theorem d_Ta_phaseAfter_182 : decode b_Ta_phaseAfter 182 = .ok (.lload_n 2, 1) := by decide +kernel
theorem d_Ta_phaseAfter_183 : decode b_Ta_phaseAfter 183 = .ok (.invokestatic 66, 3) := by decide +kernel
theorem d_Ta_phaseAfter_186 : decode b_Ta_phaseAfter 186 = .ok (.goto 4, 3) := by decide +kernel
theorem d_Ta_phaseAfter_189 : decode b_Ta_phaseAfter 189 = .ok (.iconst (-1), 1) := by decide +kernel
theorem d_Ta_phaseAfter_190 : decode b_Ta_phaseAfter 190 = .ok (.ireturn, 1) := by decide +kernel
theorem d_Ta_phaseAfter_191 : decode b_Ta_phaseAfter 191 = .ok (.aload_n 0, 1) := by decide +kernel
theorem d_Ta_phaseAfter_192 : decode b_Ta_phaseAfter 192 = .ok (.getfield 9, 3) := by decide +kernel
theorem d_Ta_phaseAfter_195 : decode b_Ta_phaseAfter 195 = .ok (.iconst 4, 1) := by decide +kernel
theorem d_Ta_phaseAfter_196 : decode b_Ta_phaseAfter 196 = .ok (.if_icmp .ne 10, 3) := by decide +kernel
theorem d_Ta_phaseAfter_199 : decode b_Ta_phaseAfter 199 = .ok (.aload_n 0, 1) := by decide +kernel
theorem d_Ta_phaseAfter_200 : decode b_Ta_phaseAfter 200 = .ok (.getfield 13, 3) := by decide +kernel
theorem d_Ta_phaseAfter_203 : decode b_Ta_phaseAfter 203 = .ok (.ifCond .eq 12, 3) := by decide +kernel
theorem d_Ta_phaseAfter_206 : decode b_Ta_phaseAfter 206 = .ok (.aload_n 0, 1) := by decide +kernel
theorem d_Ta_phaseAfter_207 : decode b_Ta_phaseAfter 207 = .ok (.getfield 9, 3) := by decide +kernel
theorem d_Ta_phaseAfter_210 : decode b_Ta_phaseAfter 210 = .ok (.bipush 6, 2) := by decide +kernel
theorem d_Ta_phaseAfter_212 : decode b_Ta_phaseAfter 212 = .ok (.if_icmp .ne 8, 3) := by decide +kernel
theorem d_Ta_phaseAfter_215 : decode b_Ta_phaseAfter 215 = .ok (.bipush 7, 2) := by decide +kernel
theorem d_Ta_phaseAfter_217 : decode b_Ta_phaseAfter 217 = .ok (.goto 4, 3) := by decide +kernel
theorem d_Ta_phaseAfter_220 : decode b_Ta_phaseAfter 220 = .ok (.iconst (-1), 1) := by decide +kernel
theorem d_Ta_phaseAfter_221 : decode b_Ta_phaseAfter 221 = .ok (.ireturn, 1) := by decide +kernel
theorem d_Ta_phaseAfter_222 : decode b_Ta_phaseAfter 222 = .ok (.aload_n 0, 1) := by decide +kernel
theorem d_Ta_phaseAfter_223 : decode b_Ta_phaseAfter 223 = .ok (.invokevirtual 70, 3) := by decide +kernel
theorem d_Ta_phaseAfter_226 : decode b_Ta_phaseAfter 226 = .ok (.ifCond .eq 20, 3) := by decide +kernel
theorem d_Ta_phaseAfter_229 : decode b_Ta_phaseAfter 229 = .ok (.lload_n 2, 1) := by decide +kernel
theorem d_Ta_phaseAfter_230 : decode b_Ta_phaseAfter 230 = .ok (.lconst 0, 1) := by decide +kernel
theorem d_Ta_phaseAfter_231 : decode b_Ta_phaseAfter 231 = .ok (.aload_n 0, 1) := by decide +kernel
theorem d_Ta_phaseAfter_232 : decode b_Ta_phaseAfter 232 = .ok (.getfield 17, 3) := by decide +kernel
theorem d_Ta_phaseAfter_235 : decode b_Ta_phaseAfter 235 = .ok (.invokestatic 73, 3) := by decide +kernel
theorem d_Ta_phaseAfter_238 : decode b_Ta_phaseAfter 238 = .ok (.ifCond .eq 8, 3) := by decide +kernel
theorem d_Ta_phaseAfter_241 : decode b_Ta_phaseAfter 241 = .ok (.bipush 7, 2) := by decide +kernel
theorem d_Ta_phaseAfter_243 : decode b_Ta_phaseAfter 243 = .ok (.goto 4, 3) := by decide +kernel
theorem d_Ta_phaseAfter_246 : decode b_Ta_phaseAfter 246 = .ok (.iconst (-1), 1) := by decide +kernel
theorem d_Ta_phaseAfter_247 : decode b_Ta_phaseAfter 247 = .ok (.ireturn, 1) := by decide +kernel
theorem d_Ta_phaseAfter_248 : decode b_Ta_phaseAfter 248 = .ok (.aload_n 0, 1) := by decide +kernel
theorem d_Ta_phaseAfter_249 : decode b_Ta_phaseAfter 249 = .ok (.invokevirtual 70, 3) := by decide +kernel
theorem d_Ta_phaseAfter_252 : decode b_Ta_phaseAfter 252 = .ok (.ifCond .eq 15, 3) := by decide +kernel
theorem d_Ta_phaseAfter_255 : decode b_Ta_phaseAfter 255 = .ok (.lload_n 2, 1) := by decide +kernel
theorem d_Ta_phaseAfter_256 : decode b_Ta_phaseAfter 256 = .ok (.invokestatic 61, 3) := by decide +kernel
theorem d_Ta_phaseAfter_259 : decode b_Ta_phaseAfter 259 = .ok (.ifCond .eq 8, 3) := by decide +kernel
theorem d_Ta_phaseAfter_262 : decode b_Ta_phaseAfter 262 = .ok (.bipush 7, 2) := by decide +kernel
theorem d_Ta_phaseAfter_264 : decode b_Ta_phaseAfter 264 = .ok (.goto 4, 3) := by decide +kernel
theorem d_Ta_phaseAfter_267 : decode b_Ta_phaseAfter 267 = .ok (.iconst (-1), 1) := by decide +kernel
theorem d_Ta_phaseAfter_268 : decode b_Ta_phaseAfter 268 = .ok (.ireturn, 1) := by decide +kernel
theorem d_Ta_phaseAfter_269 : decode b_Ta_phaseAfter 269 = .ok (.aload_n 0, 1) := by decide +kernel
theorem d_Ta_phaseAfter_270 : decode b_Ta_phaseAfter 270 = .ok (.invokevirtual 70, 3) := by decide +kernel
theorem d_Ta_phaseAfter_273 : decode b_Ta_phaseAfter 273 = .ok (.ifCond .eq 8, 3) := by decide +kernel
theorem d_Ta_phaseAfter_276 : decode b_Ta_phaseAfter 276 = .ok (.bipush 8, 2) := by decide +kernel
theorem d_Ta_phaseAfter_278 : decode b_Ta_phaseAfter 278 = .ok (.goto 4, 3) := by decide +kernel
theorem d_Ta_phaseAfter_281 : decode b_Ta_phaseAfter 281 = .ok (.iconst (-1), 1) := by decide +kernel
theorem d_Ta_phaseAfter_282 : decode b_Ta_phaseAfter 282 = .ok (.ireturn, 1) := by decide +kernel
theorem d_Ta_phaseAfter_283 : decode b_Ta_phaseAfter 283 = .ok (.aload_n 0, 1) := by decide +kernel
theorem d_Ta_phaseAfter_284 : decode b_Ta_phaseAfter 284 = .ok (.getfield 9, 3) := by decide +kernel
theorem d_Ta_phaseAfter_287 : decode b_Ta_phaseAfter 287 = .ok (.bipush 8, 2) := by decide +kernel
theorem d_Ta_phaseAfter_289 : decode b_Ta_phaseAfter 289 = .ok (.if_icmp .ne 7, 3) := by decide +kernel
theorem d_Ta_phaseAfter_292 : decode b_Ta_phaseAfter 292 = .ok (.iconst 0, 1) := by decide +kernel
theorem d_Ta_phaseAfter_293 : decode b_Ta_phaseAfter 293 = .ok (.goto 4, 3) := by decide +kernel
theorem d_Ta_phaseAfter_296 : decode b_Ta_phaseAfter 296 = .ok (.iconst (-1), 1) := by decide +kernel
theorem d_Ta_phaseAfter_297 : decode b_Ta_phaseAfter 297 = .ok (.ireturn, 1) := by decide +kernel
theorem d_Ta_phaseAfter_298 : decode b_Ta_phaseAfter 298 = .ok (.iconst (-1), 1) := by decide +kernel
theorem d_Ta_phaseAfter_299 : decode b_Ta_phaseAfter 299 = .ok (.ireturn, 1) := by decide +kernel
theorem d_Ta_keep_0 : decode b_Ta_keep 0 = .ok (.iload_n 1, 1) := by decide +kernel
theorem d_Ta_keep_1 : decode b_Ta_keep 1 = .ok (.ifCond .ne 11, 3) := by decide +kernel
theorem d_Ta_keep_4 : decode b_Ta_keep 4 = .ok (.aload_n 0, 1) := by decide +kernel
theorem d_Ta_keep_5 : decode b_Ta_keep 5 = .ok (.lconst 0, 1) := by decide +kernel
theorem d_Ta_keep_6 : decode b_Ta_keep 6 = .ok (.putfield 21, 3) := by decide +kernel
theorem d_Ta_keep_9 : decode b_Ta_keep 9 = .ok (.goto 74, 3) := by decide +kernel
theorem d_Ta_keep_12 : decode b_Ta_keep 12 = .ok (.iload_n 1, 1) := by decide +kernel
theorem d_Ta_keep_13 : decode b_Ta_keep 13 = .ok (.iconst 1, 1) := by decide +kernel
theorem d_Ta_keep_14 : decode b_Ta_keep 14 = .ok (.if_icmp .ne 21, 3) := by decide +kernel
theorem d_Ta_keep_17 : decode b_Ta_keep 17 = .ok (.aload_n 0, 1) := by decide +kernel
theorem d_Ta_keep_18 : decode b_Ta_keep 18 = .ok (.lload_n 2, 1) := by decide +kernel
theorem d_Ta_keep_19 : decode b_Ta_keep 19 = .ok (.lconst 1, 1) := by decide +kernel
theorem d_Ta_keep_20 : decode b_Ta_keep 20 = .ok (.lcmp, 1) := by decide +kernel
theorem d_Ta_keep_21 : decode b_Ta_keep 21 = .ok (.ifCond .ne 7, 3) := by decide +kernel
theorem d_Ta_keep_24 : decode b_Ta_keep 24 = .ok (.iconst 1, 1) := by decide +kernel
theorem d_Ta_keep_25 : decode b_Ta_keep 25 = .ok (.goto 4, 3) := by decide +kernel
theorem d_Ta_keep_28 : decode b_Ta_keep 28 = .ok (.iconst 0, 1) := by decide +kernel
theorem d_Ta_keep_29 : decode b_Ta_keep 29 = .ok (.putfield 13, 3) := by decide +kernel
theorem d_Ta_keep_32 : decode b_Ta_keep 32 = .ok (.goto 51, 3) := by decide +kernel
theorem d_Ta_keep_35 : decode b_Ta_keep 35 = .ok (.iload_n 1, 1) := by decide +kernel
theorem d_Ta_keep_36 : decode b_Ta_keep 36 = .ok (.iconst 3, 1) := by decide +kernel
theorem d_Ta_keep_37 : decode b_Ta_keep 37 = .ok (.if_icmp .eq 9, 3) := by decide +kernel
theorem d_Ta_keep_40 : decode b_Ta_keep 40 = .ok (.iload_n 1, 1) := by decide +kernel
theorem d_Ta_keep_41 : decode b_Ta_keep 41 = .ok (.bipush 8, 2) := by decide +kernel
theorem d_Ta_keep_43 : decode b_Ta_keep 43 = .ok (.if_icmp .ne 11, 3) := by decide +kernel
theorem d_Ta_keep_46 : decode b_Ta_keep 46 = .ok (.aload_n 0, 1) := by decide +kernel
theorem d_Ta_keep_47 : decode b_Ta_keep 47 = .ok (.lload_n 2, 1) := by decide +kernel
theorem d_Ta_keep_48 : decode b_Ta_keep 48 = .ok (.putfield 17, 3) := by decide +kernel
theorem d_Ta_keep_51 : decode b_Ta_keep 51 = .ok (.goto 32, 3) := by decide +kernel
theorem d_Ta_keep_54 : decode b_Ta_keep 54 = .ok (.iload_n 1, 1) := by decide +kernel
theorem d_Ta_keep_55 : decode b_Ta_keep 55 = .ok (.bipush 7, 2) := by decide +kernel
theorem d_Ta_keep_57 : decode b_Ta_keep 57 = .ok (.if_icmp .ne 26, 3) := by decide +kernel
theorem d_Ta_keep_60 : decode b_Ta_keep 60 = .ok (.aload_n 0, 1) := by decide +kernel
theorem d_Ta_keep_61 : decode b_Ta_keep 61 = .ok (.dup, 1) := by decide +kernel
theorem d_Ta_keep_62 : decode b_Ta_keep 62 = .ok (.getfield 27, 3) := by decide +kernel
theorem d_Ta_keep_65 : decode b_Ta_keep 65 = .ok (.lload_n 2, 1) := by decide +kernel
theorem d_Ta_keep_66 : decode b_Ta_keep 66 = .ok (.lload 4, 2) := by decide +kernel
theorem d_Ta_keep_68 : decode b_Ta_keep 68 = .ok (.aload_n 0, 1) := by decide +kernel
theorem d_Ta_keep_69 : decode b_Ta_keep 69 = .ok (.getfield 24, 3) := by decide +kernel
theorem d_Ta_keep_72 : decode b_Ta_keep 72 = .ok (.lsub, 1) := by decide +kernel
theorem d_Ta_keep_73 : decode b_Ta_keep 73 = .ok (.lmul, 1) := by decide +kernel
theorem d_Ta_keep_74 : decode b_Ta_keep 74 = .ok (.ladd, 1) := by decide +kernel
theorem d_Ta_keep_75 : decode b_Ta_keep 75 = .ok (.putfield 27, 3) := by decide +kernel
theorem d_Ta_keep_78 : decode b_Ta_keep 78 = .ok (.aload_n 0, 1) := by decide +kernel
theorem d_Ta_keep_79 : decode b_Ta_keep 79 = .ok (.lload_n 2, 1) := by decide +kernel
theorem d_Ta_keep_80 : decode b_Ta_keep 80 = .ok (.putfield 21, 3) := by decide +kernel
theorem d_Ta_keep_83 : decode b_Ta_keep 83 = .ok (.aload_n 0, 1) := by decide +kernel
theorem d_Ta_keep_84 : decode b_Ta_keep 84 = .ok (.lload 4, 2) := by decide +kernel
theorem d_Ta_keep_86 : decode b_Ta_keep 86 = .ok (.putfield 24, 3) := by decide +kernel
theorem d_Ta_keep_89 : decode b_Ta_keep 89 = .ok (.return_, 1) := by decide +kernel
theorem d_Ta_take_0 : decode b_Ta_take 0 = .ok (.aload_n 0, 1) := by decide +kernel
theorem d_Ta_take_1 : decode b_Ta_take 1 = .ok (.lload 4, 2) := by decide +kernel
theorem d_Ta_take_3 : decode b_Ta_take 3 = .ok (.invokevirtual 30, 3) := by decide +kernel
theorem d_Ta_take_6 : decode b_Ta_take 6 = .ok (.ifCond .eq 7, 3) := by decide +kernel
theorem d_Ta_take_9 : decode b_Ta_take 9 = .ok (.iconst (-1), 1) := by decide +kernel
theorem d_Ta_take_10 : decode b_Ta_take 10 = .ok (.goto 11, 3) := by decide +kernel
theorem d_Ta_take_13 : decode b_Ta_take 13 = .ok (.aload_n 0, 1) := by decide +kernel
theorem d_Ta_take_14 : decode b_Ta_take 14 = .ok (.iload_n 1, 1) := by decide +kernel
theorem d_Ta_take_15 : decode b_Ta_take 15 = .ok (.lload_n 2, 1) := by decide +kernel
theorem d_Ta_take_16 : decode b_Ta_take 16 = .ok (.iload 6, 2) := by decide +kernel
theorem d_Ta_take_18 : decode b_Ta_take 18 = .ok (.invokevirtual 34, 3) := by decide +kernel
theorem d_Ta_take_21 : decode b_Ta_take 21 = .ok (.istore 7, 2) := by decide +kernel
theorem d_Ta_take_23 : decode b_Ta_take 23 = .ok (.iload 7, 2) := by decide +kernel
theorem d_Ta_take_25 : decode b_Ta_take 25 = .ok (.iconst (-1), 1) := by decide +kernel
theorem d_Ta_take_26 : decode b_Ta_take 26 = .ok (.if_icmp .ne 9, 3) := by decide +kernel
theorem d_Ta_take_29 : decode b_Ta_take 29 = .ok (.aload_n 0, 1) := by decide +kernel
theorem d_Ta_take_30 : decode b_Ta_take 30 = .ok (.invokevirtual 38, 3) := by decide +kernel
theorem d_Ta_take_33 : decode b_Ta_take 33 = .ok (.iconst 0, 1) := by decide +kernel
theorem d_Ta_take_34 : decode b_Ta_take 34 = .ok (.ireturn, 1) := by decide +kernel
theorem d_Ta_take_35 : decode b_Ta_take 35 = .ok (.aload_n 0, 1) := by decide +kernel
theorem d_Ta_take_36 : decode b_Ta_take 36 = .ok (.iload_n 1, 1) := by decide +kernel
theorem d_Ta_take_37 : decode b_Ta_take 37 = .ok (.lload_n 2, 1) := by decide +kernel
theorem d_Ta_take_38 : decode b_Ta_take 38 = .ok (.lload 4, 2) := by decide +kernel
theorem d_Ta_take_40 : decode b_Ta_take 40 = .ok (.invokevirtual 41, 3) := by decide +kernel
theorem d_Ta_take_43 : decode b_Ta_take 43 = .ok (.aload_n 0, 1) := by decide +kernel
theorem d_Ta_take_44 : decode b_Ta_take 44 = .ok (.iload 7, 2) := by decide +kernel
theorem d_Ta_take_46 : decode b_Ta_take 46 = .ok (.putfield 9, 3) := by decide +kernel
theorem d_Ta_take_49 : decode b_Ta_take 49 = .ok (.iconst 1, 1) := by decide +kernel
theorem d_Ta_take_50 : decode b_Ta_take 50 = .ok (.ireturn, 1) := by decide +kernel
theorem d_Tf_isPrice_0 : decode b_Tf_isPrice 0 = .ok (.iload_n 0, 1) := by decide +kernel
theorem d_Tf_isPrice_1 : decode b_Tf_isPrice 1 = .ok (.ifCond .lt 14, 3) := by decide +kernel
theorem d_Tf_isPrice_4 : decode b_Tf_isPrice 4 = .ok (.iload_n 0, 1) := by decide +kernel
theorem d_Tf_isPrice_5 : decode b_Tf_isPrice 5 = .ok (.sipush 1000, 3) := by decide +kernel
theorem d_Tf_isPrice_8 : decode b_Tf_isPrice 8 = .ok (.if_icmp .gt 7, 3) := by decide +kernel
theorem d_Tf_isPrice_11 : decode b_Tf_isPrice 11 = .ok (.iconst 1, 1) := by decide +kernel
theorem d_Tf_isPrice_12 : decode b_Tf_isPrice 12 = .ok (.goto 4, 3) := by decide +kernel
theorem d_Tf_isPrice_15 : decode b_Tf_isPrice 15 = .ok (.iconst 0, 1) := by decide +kernel
theorem d_Tf_isPrice_16 : decode b_Tf_isPrice 16 = .ok (.ireturn, 1) := by decide +kernel
theorem d_Tf_isFull_0 : decode b_Tf_isFull 0 = .ok (.aload_n 0, 1) := by decide +kernel
theorem d_Tf_isFull_1 : decode b_Tf_isFull 1 = .ok (.getfield 20, 3) := by decide +kernel
theorem d_Tf_isFull_4 : decode b_Tf_isFull 4 = .ok (.bipush 20, 2) := by decide +kernel
theorem d_Tf_isFull_6 : decode b_Tf_isFull 6 = .ok (.if_icmp .lt 7, 3) := by decide +kernel
theorem d_Tf_isFull_9 : decode b_Tf_isFull 9 = .ok (.iconst 1, 1) := by decide +kernel
theorem d_Tf_isFull_10 : decode b_Tf_isFull 10 = .ok (.goto 4, 3) := by decide +kernel
theorem d_Tf_isFull_13 : decode b_Tf_isFull 13 = .ok (.iconst 0, 1) := by decide +kernel
theorem d_Tf_isFull_14 : decode b_Tf_isFull 14 = .ok (.ireturn, 1) := by decide +kernel
theorem d_Tf_addSpan_0 : decode b_Tf_addSpan 0 = .ok (.iconst 0, 1) := by decide +kernel
theorem d_Tf_addSpan_1 : decode b_Tf_addSpan 1 = .ok (.iload_n 1, 1) := by decide +kernel
theorem d_Tf_addSpan_2 : decode b_Tf_addSpan 2 = .ok (.invokestatic 28, 3) := by decide +kernel
