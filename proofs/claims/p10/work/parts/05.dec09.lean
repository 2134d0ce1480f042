theorem d_Mo_behind_258 : decode b_Mo_behind 258 = .ok (.bipush 6, 2) := by decide +kernel
theorem d_Mo_behind_260 : decode b_Mo_behind 260 = .ok (.if_icmp .ne 8, 3) := by decide +kernel
theorem d_Mo_behind_263 : decode b_Mo_behind 263 = .ok (.bipush 7, 2) := by decide +kernel
theorem d_Mo_behind_265 : decode b_Mo_behind 265 = .ok (.goto 4, 3) := by decide +kernel
theorem d_Mo_behind_268 : decode b_Mo_behind 268 = .ok (.iconst (-1), 1) := by decide +kernel
theorem d_Mo_behind_269 : decode b_Mo_behind 269 = .ok (.ireturn, 1) := by decide +kernel
theorem d_Mo_behind_270 : decode b_Mo_behind 270 = .ok (.aload_n 0, 1) := by decide +kernel
theorem d_Mo_behind_271 : decode b_Mo_behind 271 = .ok (.getfield 52, 3) := by decide +kernel
theorem d_Mo_behind_274 : decode b_Mo_behind 274 = .ok (.bipush 7, 2) := by decide +kernel
theorem d_Mo_behind_276 : decode b_Mo_behind 276 = .ok (.if_icmp .ne 23, 3) := by decide +kernel
theorem d_Mo_behind_279 : decode b_Mo_behind 279 = .ok (.lload_n 2, 1) := by decide +kernel
theorem d_Mo_behind_280 : decode b_Mo_behind 280 = .ok (.lconst 0, 1) := by decide +kernel
theorem d_Mo_behind_281 : decode b_Mo_behind 281 = .ok (.lcmp, 1) := by decide +kernel
theorem d_Mo_behind_282 : decode b_Mo_behind 282 = .ok (.ifCond .lt 17, 3) := by decide +kernel
theorem d_Mo_behind_285 : decode b_Mo_behind 285 = .ok (.lload_n 2, 1) := by decide +kernel
theorem d_Mo_behind_286 : decode b_Mo_behind 286 = .ok (.aload_n 0, 1) := by decide +kernel
theorem d_Mo_behind_287 : decode b_Mo_behind 287 = .ok (.getfield 80, 3) := by decide +kernel
theorem d_Mo_behind_290 : decode b_Mo_behind 290 = .ok (.lcmp, 1) := by decide +kernel
theorem d_Mo_behind_291 : decode b_Mo_behind 291 = .ok (.ifCond .gt 8, 3) := by decide +kernel
theorem d_Mo_behind_294 : decode b_Mo_behind 294 = .ok (.bipush 7, 2) := by decide +kernel
theorem d_Mo_behind_296 : decode b_Mo_behind 296 = .ok (.goto 4, 3) := by decide +kernel
theorem d_Mo_behind_299 : decode b_Mo_behind 299 = .ok (.iconst (-1), 1) := by decide +kernel
theorem d_Mo_behind_300 : decode b_Mo_behind 300 = .ok (.ireturn, 1) := by decide +kernel
theorem d_Mo_behind_301 : decode b_Mo_behind 301 = .ok (.aload_n 0, 1) := by decide +kernel
theorem d_Mo_behind_302 : decode b_Mo_behind 302 = .ok (.getfield 52, 3) := by decide +kernel
theorem d_Mo_behind_305 : decode b_Mo_behind 305 = .ok (.bipush 7, 2) := by decide +kernel
theorem d_Mo_behind_307 : decode b_Mo_behind 307 = .ok (.if_icmp .ne 22, 3) := by decide +kernel
theorem d_Mo_behind_310 : decode b_Mo_behind 310 = .ok (.lload_n 2, 1) := by decide +kernel
theorem d_Mo_behind_311 : decode b_Mo_behind 311 = .ok (.lconst 0, 1) := by decide +kernel
theorem d_Mo_behind_312 : decode b_Mo_behind 312 = .ok (.lcmp, 1) := by decide +kernel
theorem d_Mo_behind_313 : decode b_Mo_behind 313 = .ok (.ifCond .le 16, 3) := by decide +kernel
theorem d_Mo_behind_316 : decode b_Mo_behind 316 = .ok (.lload_n 2, 1) := by decide +kernel
theorem d_Mo_behind_317 : decode b_Mo_behind 317 = .ok (.ldc2_w 69, 3) := by decide +kernel
theorem d_Mo_behind_320 : decode b_Mo_behind 320 = .ok (.lcmp, 1) := by decide +kernel
theorem d_Mo_behind_321 : decode b_Mo_behind 321 = .ok (.ifCond .gt 8, 3) := by decide +kernel
theorem d_Mo_behind_324 : decode b_Mo_behind 324 = .ok (.bipush 7, 2) := by decide +kernel
theorem d_Mo_behind_326 : decode b_Mo_behind 326 = .ok (.goto 4, 3) := by decide +kernel
theorem d_Mo_behind_329 : decode b_Mo_behind 329 = .ok (.iconst (-1), 1) := by decide +kernel
theorem d_Mo_behind_330 : decode b_Mo_behind 330 = .ok (.ireturn, 1) := by decide +kernel
theorem d_Mo_behind_331 : decode b_Mo_behind 331 = .ok (.aload_n 0, 1) := by decide +kernel
theorem d_Mo_behind_332 : decode b_Mo_behind 332 = .ok (.getfield 52, 3) := by decide +kernel
theorem d_Mo_behind_335 : decode b_Mo_behind 335 = .ok (.bipush 7, 2) := by decide +kernel
theorem d_Mo_behind_337 : decode b_Mo_behind 337 = .ok (.if_icmp .ne 8, 3) := by decide +kernel
theorem d_Mo_behind_340 : decode b_Mo_behind 340 = .ok (.bipush 8, 2) := by decide +kernel
theorem d_Mo_behind_342 : decode b_Mo_behind 342 = .ok (.goto 4, 3) := by decide +kernel
theorem d_Mo_behind_345 : decode b_Mo_behind 345 = .ok (.iconst (-1), 1) := by decide +kernel
theorem d_Mo_behind_346 : decode b_Mo_behind 346 = .ok (.ireturn, 1) := by decide +kernel
theorem d_Mo_behind_347 : decode b_Mo_behind 347 = .ok (.aload_n 0, 1) := by decide +kernel
theorem d_Mo_behind_348 : decode b_Mo_behind 348 = .ok (.getfield 52, 3) := by decide +kernel
theorem d_Mo_behind_351 : decode b_Mo_behind 351 = .ok (.bipush 8, 2) := by decide +kernel
theorem d_Mo_behind_353 : decode b_Mo_behind 353 = .ok (.if_icmp .ne 7, 3) := by decide +kernel
theorem d_Mo_behind_356 : decode b_Mo_behind 356 = .ok (.iconst 0, 1) := by decide +kernel
theorem d_Mo_behind_357 : decode b_Mo_behind 357 = .ok (.goto 4, 3) := by decide +kernel
theorem d_Mo_behind_360 : decode b_Mo_behind 360 = .ok (.iconst (-1), 1) := by decide +kernel
theorem d_Mo_behind_361 : decode b_Mo_behind 361 = .ok (.ireturn, 1) := by decide +kernel
theorem d_Mo_message_0 : decode b_Mo_message 0 = .ok (.aload_n 0, 1) := by decide +kernel
theorem d_Mo_message_1 : decode b_Mo_message 1 = .ok (.iconst 0, 1) := by decide +kernel
theorem d_Mo_message_2 : decode b_Mo_message 2 = .ok (.putfield 26, 3) := by decide +kernel
theorem d_Mo_message_5 : decode b_Mo_message 5 = .ok (.iload_n 1, 1) := by decide +kernel
theorem d_Mo_message_6 : decode b_Mo_message 6 = .ok (.ifCond .lt 34, 3) := by decide +kernel
theorem d_Mo_message_9 : decode b_Mo_message 9 = .ok (.iload_n 1, 1) := by decide +kernel
theorem d_Mo_message_10 : decode b_Mo_message 10 = .ok (.bipush 10, 2) := by decide +kernel
theorem d_Mo_message_12 : decode b_Mo_message 12 = .ok (.if_icmp .gt 28, 3) := by decide +kernel
theorem d_Mo_message_15 : decode b_Mo_message 15 = .ok (.lload_n 2, 1) := by decide +kernel
theorem d_Mo_message_16 : decode b_Mo_message 16 = .ok (.ldc2_w 83, 3) := by decide +kernel
theorem d_Mo_message_19 : decode b_Mo_message 19 = .ok (.lcmp, 1) := by decide +kernel
theorem d_Mo_message_20 : decode b_Mo_message 20 = .ok (.ifCond .lt 20, 3) := by decide +kernel
theorem d_Mo_message_23 : decode b_Mo_message 23 = .ok (.lload_n 2, 1) := by decide +kernel
theorem d_Mo_message_24 : decode b_Mo_message 24 = .ok (.ldc2_w 85, 3) := by decide +kernel
theorem d_Mo_message_27 : decode b_Mo_message 27 = .ok (.lcmp, 1) := by decide +kernel
theorem d_Mo_message_28 : decode b_Mo_message 28 = .ok (.ifCond .gt 12, 3) := by decide +kernel
theorem d_Mo_message_31 : decode b_Mo_message 31 = .ok (.aload_n 0, 1) := by decide +kernel
theorem d_Mo_message_32 : decode b_Mo_message 32 = .ok (.lload 4, 2) := by decide +kernel
theorem d_Mo_message_34 : decode b_Mo_message 34 = .ok (.invokevirtual 87, 3) := by decide +kernel
theorem d_Mo_message_37 : decode b_Mo_message 37 = .ok (.ifCond .ne 6, 3) := by decide +kernel
theorem d_Mo_message_40 : decode b_Mo_message 40 = .ok (.bipush (-2), 2) := by decide +kernel
theorem d_Mo_message_42 : decode b_Mo_message 42 = .ok (.ireturn, 1) := by decide +kernel
theorem d_Mo_message_43 : decode b_Mo_message 43 = .ok (.aload_n 0, 1) := by decide +kernel
theorem d_Mo_message_44 : decode b_Mo_message 44 = .ok (.lload 4, 2) := by decide +kernel
theorem d_Mo_message_46 : decode b_Mo_message 46 = .ok (.putfield 59, 3) := by decide +kernel
theorem d_Mo_message_49 : decode b_Mo_message 49 = .ok (.aload_n 0, 1) := by decide +kernel
theorem d_Mo_message_50 : decode b_Mo_message 50 = .ok (.getfield 52, 3) := by decide +kernel
theorem d_Mo_message_53 : decode b_Mo_message 53 = .ok (.ifCond .le 21, 3) := by decide +kernel
theorem d_Mo_message_56 : decode b_Mo_message 56 = .ok (.lload 4, 2) := by decide +kernel
theorem d_Mo_message_58 : decode b_Mo_message 58 = .ok (.aload_n 0, 1) := by decide +kernel
theorem d_Mo_message_59 : decode b_Mo_message 59 = .ok (.getfield 91, 3) := by decide +kernel
theorem d_Mo_message_62 : decode b_Mo_message 62 = .ok (.lsub, 1) := by decide +kernel
theorem d_Mo_message_63 : decode b_Mo_message 63 = .ok (.ldc2_w 69, 3) := by decide +kernel
theorem d_Mo_message_66 : decode b_Mo_message 66 = .ok (.lcmp, 1) := by decide +kernel
theorem d_Mo_message_67 : decode b_Mo_message 67 = .ok (.ifCond .le 7, 3) := by decide +kernel
theorem d_Mo_message_70 : decode b_Mo_message 70 = .ok (.iconst (-1), 1) := by decide +kernel
theorem d_Mo_message_71 : decode b_Mo_message 71 = .ok (.goto 11, 3) := by decide +kernel
theorem d_Mo_message_74 : decode b_Mo_message 74 = .ok (.aload_n 0, 1) := by decide +kernel
theorem d_Mo_message_75 : decode b_Mo_message 75 = .ok (.iload_n 1, 1) := by decide +kernel
theorem d_Mo_message_76 : decode b_Mo_message 76 = .ok (.lload_n 2, 1) := by decide +kernel
theorem d_Mo_message_77 : decode b_Mo_message 77 = .ok (.lload 4, 2) := by decide +kernel
theorem d_Mo_message_79 : decode b_Mo_message 79 = .ok (.invokevirtual 94, 3) := by decide +kernel
theorem d_Mo_message_82 : decode b_Mo_message 82 = .ok (.istore 6, 2) := by decide +kernel
theorem d_Mo_message_84 : decode b_Mo_message 84 = .ok (.iload 6, 2) := by decide +kernel
theorem d_Mo_message_86 : decode b_Mo_message 86 = .ok (.ifCond .ge 11, 3) := by decide +kernel
theorem d_Mo_message_89 : decode b_Mo_message 89 = .ok (.aload_n 0, 1) := by decide +kernel
theorem d_Mo_message_90 : decode b_Mo_message 90 = .ok (.iconst 0, 1) := by decide +kernel
theorem d_Mo_message_91 : decode b_Mo_message 91 = .ok (.putfield 52, 3) := by decide +kernel
theorem d_Mo_message_94 : decode b_Mo_message 94 = .ok (.bipush (-3), 2) := by decide +kernel
theorem d_Mo_message_96 : decode b_Mo_message 96 = .ok (.ireturn, 1) := by decide +kernel
theorem d_Mo_message_97 : decode b_Mo_message 97 = .ok (.iload_n 1, 1) := by decide +kernel
theorem d_Mo_message_98 : decode b_Mo_message 98 = .ok (.ifCond .ne 8, 3) := by decide +kernel
theorem d_Mo_message_101 : decode b_Mo_message 101 = .ok (.aload_n 0, 1) := by decide +kernel
theorem d_Mo_message_102 : decode b_Mo_message 102 = .ok (.lconst 0, 1) := by decide +kernel
theorem d_Mo_message_103 : decode b_Mo_message 103 = .ok (.putfield 98, 3) := by decide +kernel
theorem d_Mo_message_106 : decode b_Mo_message 106 = .ok (.iload_n 1, 1) := by decide +kernel
theorem d_Mo_message_107 : decode b_Mo_message 107 = .ok (.iconst 1, 1) := by decide +kernel
theorem d_Mo_message_108 : decode b_Mo_message 108 = .ok (.if_icmp .ne 18, 3) := by decide +kernel
theorem d_Mo_message_111 : decode b_Mo_message 111 = .ok (.aload_n 0, 1) := by decide +kernel
theorem d_Mo_message_112 : decode b_Mo_message 112 = .ok (.lload_n 2, 1) := by decide +kernel
theorem d_Mo_message_113 : decode b_Mo_message 113 = .ok (.lconst 1, 1) := by decide +kernel
theorem d_Mo_message_114 : decode b_Mo_message 114 = .ok (.lcmp, 1) := by decide +kernel
theorem d_Mo_message_115 : decode b_Mo_message 115 = .ok (.ifCond .ne 7, 3) := by decide +kernel
theorem d_Mo_message_118 : decode b_Mo_message 118 = .ok (.iconst 1, 1) := by decide +kernel
theorem d_Mo_message_119 : decode b_Mo_message 119 = .ok (.goto 4, 3) := by decide +kernel
theorem d_Mo_message_122 : decode b_Mo_message 122 = .ok (.iconst 0, 1) := by decide +kernel
theorem d_Mo_message_123 : decode b_Mo_message 123 = .ok (.putfield 71, 3) := by decide +kernel
theorem d_Mo_message_126 : decode b_Mo_message 126 = .ok (.iload_n 1, 1) := by decide +kernel
theorem d_Mo_message_127 : decode b_Mo_message 127 = .ok (.iconst 3, 1) := by decide +kernel
theorem d_Mo_message_128 : decode b_Mo_message 128 = .ok (.if_icmp .eq 9, 3) := by decide +kernel
theorem d_Mo_message_131 : decode b_Mo_message 131 = .ok (.iload_n 1, 1) := by decide +kernel
theorem d_Mo_message_132 : decode b_Mo_message 132 = .ok (.bipush 8, 2) := by decide +kernel
theorem d_Mo_message_134 : decode b_Mo_message 134 = .ok (.if_icmp .ne 8, 3) := by decide +kernel
theorem d_Mo_message_137 : decode b_Mo_message 137 = .ok (.aload_n 0, 1) := by decide +kernel
theorem d_Mo_message_138 : decode b_Mo_message 138 = .ok (.lload_n 2, 1) := by decide +kernel
theorem d_Mo_message_139 : decode b_Mo_message 139 = .ok (.putfield 80, 3) := by decide +kernel
theorem d_Mo_message_142 : decode b_Mo_message 142 = .ok (.iload_n 1, 1) := by decide +kernel
theorem d_Mo_message_143 : decode b_Mo_message 143 = .ok (.bipush 7, 2) := by decide +kernel
theorem d_Mo_message_145 : decode b_Mo_message 145 = .ok (.if_icmp .ne 26, 3) := by decide +kernel
theorem d_Mo_message_148 : decode b_Mo_message 148 = .ok (.aload_n 0, 1) := by decide +kernel
theorem d_Mo_message_149 : decode b_Mo_message 149 = .ok (.dup, 1) := by decide +kernel
theorem d_Mo_message_150 : decode b_Mo_message 150 = .ok (.getfield 101, 3) := by decide +kernel
theorem d_Mo_message_153 : decode b_Mo_message 153 = .ok (.lload_n 2, 1) := by decide +kernel
theorem d_Mo_message_154 : decode b_Mo_message 154 = .ok (.lload 4, 2) := by decide +kernel
theorem d_Mo_message_156 : decode b_Mo_message 156 = .ok (.aload_n 0, 1) := by decide +kernel
theorem d_Mo_message_157 : decode b_Mo_message 157 = .ok (.getfield 91, 3) := by decide +kernel
theorem d_Mo_message_160 : decode b_Mo_message 160 = .ok (.lsub, 1) := by decide +kernel
theorem d_Mo_message_161 : decode b_Mo_message 161 = .ok (.lmul, 1) := by decide +kernel
theorem d_Mo_message_162 : decode b_Mo_message 162 = .ok (.ladd, 1) := by decide +kernel
theorem d_Mo_message_163 : decode b_Mo_message 163 = .ok (.putfield 101, 3) := by decide +kernel
theorem d_Mo_message_166 : decode b_Mo_message 166 = .ok (.aload_n 0, 1) := by decide +kernel
theorem d_Mo_message_167 : decode b_Mo_message 167 = .ok (.lload_n 2, 1) := by decide +kernel
theorem d_Mo_message_168 : decode b_Mo_message 168 = .ok (.putfield 98, 3) := by decide +kernel
theorem d_Mo_message_171 : decode b_Mo_message 171 = .ok (.aload_n 0, 1) := by decide +kernel
theorem d_Mo_message_172 : decode b_Mo_message 172 = .ok (.lload 4, 2) := by decide +kernel
theorem d_Mo_message_174 : decode b_Mo_message 174 = .ok (.putfield 91, 3) := by decide +kernel
theorem d_Mo_message_177 : decode b_Mo_message 177 = .ok (.aload_n 0, 1) := by decide +kernel
theorem d_Mo_message_178 : decode b_Mo_message 178 = .ok (.iload 6, 2) := by decide +kernel
theorem d_Mo_message_180 : decode b_Mo_message 180 = .ok (.putfield 52, 3) := by decide +kernel
theorem d_Mo_message_183 : decode b_Mo_message 183 = .ok (.aload_n 0, 1) := by decide +kernel
theorem d_Mo_message_184 : decode b_Mo_message 184 = .ok (.getfield 52, 3) := by decide +kernel
theorem d_Mo_message_187 : decode b_Mo_message 187 = .ok (.ireturn, 1) := by decide +kernel
theorem d_Mo_plug_0 : decode b_Mo_plug 0 = .ok (.aload_n 0, 1) := by decide +kernel
theorem d_Mo_plug_1 : decode b_Mo_plug 1 = .ok (.iconst 0, 1) := by decide +kernel
theorem d_Mo_plug_2 : decode b_Mo_plug 2 = .ok (.putfield 26, 3) := by decide +kernel
