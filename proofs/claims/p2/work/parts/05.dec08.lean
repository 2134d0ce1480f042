theorem d_Mo_behind_88 : decode b_Mo_behind 88 = .ok (.aload_n 0, 1) := by decide +kernel
theorem d_Mo_behind_89 : decode b_Mo_behind 89 = .ok (.getfield 65, 3) := by decide +kernel
theorem d_Mo_behind_92 : decode b_Mo_behind 92 = .ok (.ifCond .eq 7, 3) := by decide +kernel
theorem d_Mo_behind_95 : decode b_Mo_behind 95 = .ok (.iconst 1, 1) := by decide +kernel
theorem d_Mo_behind_96 : decode b_Mo_behind 96 = .ok (.goto 4, 3) := by decide +kernel
theorem d_Mo_behind_99 : decode b_Mo_behind 99 = .ok (.iconst (-1), 1) := by decide +kernel
theorem d_Mo_behind_100 : decode b_Mo_behind 100 = .ok (.ireturn, 1) := by decide +kernel
theorem d_Mo_behind_101 : decode b_Mo_behind 101 = .ok (.aload_n 0, 1) := by decide +kernel
theorem d_Mo_behind_102 : decode b_Mo_behind 102 = .ok (.getfield 52, 3) := by decide +kernel
theorem d_Mo_behind_105 : decode b_Mo_behind 105 = .ok (.iconst 1, 1) := by decide +kernel
theorem d_Mo_behind_106 : decode b_Mo_behind 106 = .ok (.if_icmp .ne 19, 3) := by decide +kernel
theorem d_Mo_behind_109 : decode b_Mo_behind 109 = .ok (.lload_n 2, 1) := by decide +kernel
theorem d_Mo_behind_110 : decode b_Mo_behind 110 = .ok (.lconst 0, 1) := by decide +kernel
theorem d_Mo_behind_111 : decode b_Mo_behind 111 = .ok (.lcmp, 1) := by decide +kernel
theorem d_Mo_behind_112 : decode b_Mo_behind 112 = .ok (.ifCond .eq 9, 3) := by decide +kernel
theorem d_Mo_behind_115 : decode b_Mo_behind 115 = .ok (.lload_n 2, 1) := by decide +kernel
theorem d_Mo_behind_116 : decode b_Mo_behind 116 = .ok (.lconst 1, 1) := by decide +kernel
theorem d_Mo_behind_117 : decode b_Mo_behind 117 = .ok (.lcmp, 1) := by decide +kernel
theorem d_Mo_behind_118 : decode b_Mo_behind 118 = .ok (.ifCond .ne 7, 3) := by decide +kernel
theorem d_Mo_behind_121 : decode b_Mo_behind 121 = .ok (.iconst 2, 1) := by decide +kernel
theorem d_Mo_behind_122 : decode b_Mo_behind 122 = .ok (.goto 4, 3) := by decide +kernel
theorem d_Mo_behind_125 : decode b_Mo_behind 125 = .ok (.iconst (-1), 1) := by decide +kernel
theorem d_Mo_behind_126 : decode b_Mo_behind 126 = .ok (.ireturn, 1) := by decide +kernel
theorem d_Mo_behind_127 : decode b_Mo_behind 127 = .ok (.aload_n 0, 1) := by decide +kernel
theorem d_Mo_behind_128 : decode b_Mo_behind 128 = .ok (.getfield 52, 3) := by decide +kernel
theorem d_Mo_behind_131 : decode b_Mo_behind 131 = .ok (.iconst 2, 1) := by decide +kernel
theorem d_Mo_behind_132 : decode b_Mo_behind 132 = .ok (.if_icmp .ne 13, 3) := by decide +kernel
theorem d_Mo_behind_135 : decode b_Mo_behind 135 = .ok (.lload_n 2, 1) := by decide +kernel
theorem d_Mo_behind_136 : decode b_Mo_behind 136 = .ok (.lconst 1, 1) := by decide +kernel
theorem d_Mo_behind_137 : decode b_Mo_behind 137 = .ok (.lcmp, 1) := by decide +kernel
theorem d_Mo_behind_138 : decode b_Mo_behind 138 = .ok (.ifCond .ne 7, 3) := by decide +kernel
theorem d_Mo_behind_141 : decode b_Mo_behind 141 = .ok (.iconst 3, 1) := by decide +kernel
theorem d_Mo_behind_142 : decode b_Mo_behind 142 = .ok (.goto 4, 3) := by decide +kernel
theorem d_Mo_behind_145 : decode b_Mo_behind 145 = .ok (.iconst (-1), 1) := by decide +kernel
theorem d_Mo_behind_146 : decode b_Mo_behind 146 = .ok (.ireturn, 1) := by decide +kernel
theorem d_Mo_behind_147 : decode b_Mo_behind 147 = .ok (.aload_n 0, 1) := by decide +kernel
theorem d_Mo_behind_148 : decode b_Mo_behind 148 = .ok (.getfield 52, 3) := by decide +kernel
theorem d_Mo_behind_151 : decode b_Mo_behind 151 = .ok (.iconst 3, 1) := by decide +kernel
theorem d_Mo_behind_152 : decode b_Mo_behind 152 = .ok (.if_icmp .ne 21, 3) := by decide +kernel
theorem d_Mo_behind_155 : decode b_Mo_behind 155 = .ok (.lload_n 2, 1) := by decide +kernel
theorem d_Mo_behind_156 : decode b_Mo_behind 156 = .ok (.lconst 0, 1) := by decide +kernel
theorem d_Mo_behind_157 : decode b_Mo_behind 157 = .ok (.lcmp, 1) := by decide +kernel
theorem d_Mo_behind_158 : decode b_Mo_behind 158 = .ok (.ifCond .le 15, 3) := by decide +kernel
theorem d_Mo_behind_161 : decode b_Mo_behind 161 = .ok (.lload_n 2, 1) := by decide +kernel
theorem d_Mo_behind_162 : decode b_Mo_behind 162 = .ok (.ldc2_w 69, 3) := by decide +kernel
theorem d_Mo_behind_165 : decode b_Mo_behind 165 = .ok (.lcmp, 1) := by decide +kernel
theorem d_Mo_behind_166 : decode b_Mo_behind 166 = .ok (.ifCond .gt 7, 3) := by decide +kernel
theorem d_Mo_behind_169 : decode b_Mo_behind 169 = .ok (.iconst 4, 1) := by decide +kernel
theorem d_Mo_behind_170 : decode b_Mo_behind 170 = .ok (.goto 4, 3) := by decide +kernel
theorem d_Mo_behind_173 : decode b_Mo_behind 173 = .ok (.iconst (-1), 1) := by decide +kernel
theorem d_Mo_behind_174 : decode b_Mo_behind 174 = .ok (.ireturn, 1) := by decide +kernel
theorem d_Mo_behind_175 : decode b_Mo_behind 175 = .ok (.aload_n 0, 1) := by decide +kernel
theorem d_Mo_behind_176 : decode b_Mo_behind 176 = .ok (.getfield 52, 3) := by decide +kernel
theorem d_Mo_behind_179 : decode b_Mo_behind 179 = .ok (.iconst 4, 1) := by decide +kernel
theorem d_Mo_behind_180 : decode b_Mo_behind 180 = .ok (.if_icmp .ne 22, 3) := by decide +kernel
theorem d_Mo_behind_183 : decode b_Mo_behind 183 = .ok (.aload_n 0, 1) := by decide +kernel
theorem d_Mo_behind_184 : decode b_Mo_behind 184 = .ok (.getfield 71, 3) := by decide +kernel
theorem d_Mo_behind_187 : decode b_Mo_behind 187 = .ok (.ifCond .eq 15, 3) := by decide +kernel
theorem d_Mo_behind_190 : decode b_Mo_behind 190 = .ok (.lload_n 2, 1) := by decide +kernel
theorem d_Mo_behind_191 : decode b_Mo_behind 191 = .ok (.ldc2_w 74, 3) := by decide +kernel
theorem d_Mo_behind_194 : decode b_Mo_behind 194 = .ok (.lcmp, 1) := by decide +kernel
theorem d_Mo_behind_195 : decode b_Mo_behind 195 = .ok (.ifCond .lt 7, 3) := by decide +kernel
theorem d_Mo_behind_198 : decode b_Mo_behind 198 = .ok (.iconst 5, 1) := by decide +kernel
theorem d_Mo_behind_199 : decode b_Mo_behind 199 = .ok (.goto 4, 3) := by decide +kernel
theorem d_Mo_behind_202 : decode b_Mo_behind 202 = .ok (.iconst (-1), 1) := by decide +kernel
theorem d_Mo_behind_203 : decode b_Mo_behind 203 = .ok (.ireturn, 1) := by decide +kernel
theorem d_Mo_behind_204 : decode b_Mo_behind 204 = .ok (.aload_n 0, 1) := by decide +kernel
theorem d_Mo_behind_205 : decode b_Mo_behind 205 = .ok (.getfield 52, 3) := by decide +kernel
theorem d_Mo_behind_208 : decode b_Mo_behind 208 = .ok (.iconst 5, 1) := by decide +kernel
theorem d_Mo_behind_209 : decode b_Mo_behind 209 = .ok (.if_icmp .eq 7, 3) := by decide +kernel
theorem d_Mo_behind_212 : decode b_Mo_behind 212 = .ok (.iconst (-1), 1) := by decide +kernel
theorem d_Mo_behind_213 : decode b_Mo_behind 213 = .ok (.goto 25, 3) := by decide +kernel
theorem d_Mo_behind_216 : decode b_Mo_behind 216 = .ok (.lload_n 2, 1) := by decide +kernel
theorem d_Mo_behind_217 : decode b_Mo_behind 217 = .ok (.ldc2_w 76, 3) := by decide +kernel
theorem d_Mo_behind_220 : decode b_Mo_behind 220 = .ok (.lcmp, 1) := by decide +kernel
theorem d_Mo_behind_221 : decode b_Mo_behind 221 = .ok (.ifCond .lt 16, 3) := by decide +kernel
theorem d_Mo_behind_224 : decode b_Mo_behind 224 = .ok (.lload_n 2, 1) := by decide +kernel
theorem d_Mo_behind_225 : decode b_Mo_behind 225 = .ok (.ldc2_w 78, 3) := by decide +kernel
theorem d_Mo_behind_228 : decode b_Mo_behind 228 = .ok (.lcmp, 1) := by decide +kernel
theorem d_Mo_behind_229 : decode b_Mo_behind 229 = .ok (.ifCond .gt 8, 3) := by decide +kernel
theorem d_Mo_behind_232 : decode b_Mo_behind 232 = .ok (.bipush 6, 2) := by decide +kernel
theorem d_Mo_behind_234 : decode b_Mo_behind 234 = .ok (.goto 4, 3) := by decide +kernel
theorem d_Mo_behind_237 : decode b_Mo_behind 237 = .ok (.iconst 5, 1) := by decide +kernel
theorem d_Mo_behind_238 : decode b_Mo_behind 238 = .ok (.ireturn, 1) := by decide +kernel
theorem d_Mo_behind_239 : decode b_Mo_behind 239 = .ok (.aload_n 0, 1) := by decide +kernel
theorem d_Mo_behind_240 : decode b_Mo_behind 240 = .ok (.getfield 52, 3) := by decide +kernel
theorem d_Mo_behind_243 : decode b_Mo_behind 243 = .ok (.iconst 4, 1) := by decide +kernel
theorem d_Mo_behind_244 : decode b_Mo_behind 244 = .ok (.if_icmp .ne 10, 3) := by decide +kernel
theorem d_Mo_behind_247 : decode b_Mo_behind 247 = .ok (.aload_n 0, 1) := by decide +kernel
theorem d_Mo_behind_248 : decode b_Mo_behind 248 = .ok (.getfield 71, 3) := by decide +kernel
theorem d_Mo_behind_251 : decode b_Mo_behind 251 = .ok (.ifCond .eq 12, 3) := by decide +kernel
theorem d_Mo_behind_254 : decode b_Mo_behind 254 = .ok (.aload_n 0, 1) := by decide +kernel
theorem d_Mo_behind_255 : decode b_Mo_behind 255 = .ok (.getfield 52, 3) := by decide +kernel
theorem d_Mo_behind_258 : decode b_Mo_behind 258 = .ok (.bipush 6, 2) := by decide +kernel
theorem d_Mo_behind_260 : decode b_Mo_behind 260 = .ok (.if_icmp .ne 8, 3) := by decide +kernel
theorem d_Mo_behind_263 : decode b_Mo_behind 263 = .ok (.bipush 7, 2) := by decide +kernel
theorem d_Mo_behind_265 : decode b_Mo_behind 265 = .ok (.goto 4, 3) := by decide +kernel
theorem d_Mo_behind_268 : decode b_Mo_behind 268 = .ok (.iconst (-1), 1) := by decide +kernel
theorem d_Mo_behind_269 : decode b_Mo_behind 269 = .ok (.ireturn, 1) := by decide +kernel
theorem d_Mo_behind_270 : decode b_Mo_behind 270 = .ok (.aload_n 0, 1) := by decide +kernel
theorem d_Mo_behind_271 : decode b_Mo_behind 271 = .ok (.getfield 52, 3) := by decide +kernel
theorem d_Mo_behind_274 : decode b_Mo_behind 274 = .ok (.bipush 7, 2) := by decide +kernel
theorem d_Mo_behind_276 : decode b_Mo_behind 276 = .ok (.if_icmp .ne 23, 3) := by decide +kernel
theorem d_Mo_behind_279 : decode b_Mo_behind 279 = .ok (.lload_n 2, 1) := by decide +kernel
theorem d_Mo_behind_280 : decode b_Mo_behind 280 = .ok (.lconst 0, 1) := by decide +kernel
theorem d_Mo_behind_281 : decode b_Mo_behind 281 = .ok (.lcmp, 1) := by decide +kernel
theorem d_Mo_behind_282 : decode b_Mo_behind 282 = .ok (.ifCond .lt 17, 3) := by decide +kernel
theorem d_Mo_behind_285 : decode b_Mo_behind 285 = .ok (.lload_n 2, 1) := by decide +kernel
theorem d_Mo_behind_286 : decode b_Mo_behind 286 = .ok (.aload_n 0, 1) := by decide +kernel
theorem d_Mo_behind_287 : decode b_Mo_behind 287 = .ok (.getfield 80, 3) := by decide +kernel
theorem d_Mo_behind_290 : decode b_Mo_behind 290 = .ok (.lcmp, 1) := by decide +kernel
theorem d_Mo_behind_291 : decode b_Mo_behind 291 = .ok (.ifCond .gt 8, 3) := by decide +kernel
theorem d_Mo_behind_294 : decode b_Mo_behind 294 = .ok (.bipush 7, 2) := by decide +kernel
theorem d_Mo_behind_296 : decode b_Mo_behind 296 = .ok (.goto 4, 3) := by decide +kernel
theorem d_Mo_behind_299 : decode b_Mo_behind 299 = .ok (.iconst (-1), 1) := by decide +kernel
theorem d_Mo_behind_300 : decode b_Mo_behind 300 = .ok (.ireturn, 1) := by decide +kernel
theorem d_Mo_behind_301 : decode b_Mo_behind 301 = .ok (.aload_n 0, 1) := by decide +kernel
theorem d_Mo_behind_302 : decode b_Mo_behind 302 = .ok (.getfield 52, 3) := by decide +kernel
theorem d_Mo_behind_305 : decode b_Mo_behind 305 = .ok (.bipush 7, 2) := by decide +kernel
theorem d_Mo_behind_307 : decode b_Mo_behind 307 = .ok (.if_icmp .ne 22, 3) := by decide +kernel
theorem d_Mo_behind_310 : decode b_Mo_behind 310 = .ok (.lload_n 2, 1) := by decide +kernel
theorem d_Mo_behind_311 : decode b_Mo_behind 311 = .ok (.lconst 0, 1) := by decide +kernel
theorem d_Mo_behind_312 : decode b_Mo_behind 312 = .ok (.lcmp, 1) := by decide +kernel
theorem d_Mo_behind_313 : decode b_Mo_behind 313 = .ok (.ifCond .le 16, 3) := by decide +kernel
theorem d_Mo_behind_316 : decode b_Mo_behind 316 = .ok (.lload_n 2, 1) := by decide +kernel
theorem d_Mo_behind_317 : decode b_Mo_behind 317 = .ok (.ldc2_w 69, 3) := by decide +kernel
theorem d_Mo_behind_320 : decode b_Mo_behind 320 = .ok (.lcmp, 1) := by decide +kernel
theorem d_Mo_behind_321 : decode b_Mo_behind 321 = .ok (.ifCond .gt 8, 3) := by decide +kernel
theorem d_Mo_behind_324 : decode b_Mo_behind 324 = .ok (.bipush 7, 2) := by decide +kernel
theorem d_Mo_behind_326 : decode b_Mo_behind 326 = .ok (.goto 4, 3) := by decide +kernel
theorem d_Mo_behind_329 : decode b_Mo_behind 329 = .ok (.iconst (-1), 1) := by decide +kernel
theorem d_Mo_behind_330 : decode b_Mo_behind 330 = .ok (.ireturn, 1) := by decide +kernel
theorem d_Mo_behind_331 : decode b_Mo_behind 331 = .ok (.aload_n 0, 1) := by decide +kernel
theorem d_Mo_behind_332 : decode b_Mo_behind 332 = .ok (.getfield 52, 3) := by decide +kernel
theorem d_Mo_behind_335 : decode b_Mo_behind 335 = .ok (.bipush 7, 2) := by decide +kernel
theorem d_Mo_behind_337 : decode b_Mo_behind 337 = .ok (.if_icmp .ne 8, 3) := by decide +kernel
theorem d_Mo_behind_340 : decode b_Mo_behind 340 = .ok (.bipush 8, 2) := by decide +kernel
theorem d_Mo_behind_342 : decode b_Mo_behind 342 = .ok (.goto 4, 3) := by decide +kernel
theorem d_Mo_behind_345 : decode b_Mo_behind 345 = .ok (.iconst (-1), 1) := by decide +kernel
theorem d_Mo_behind_346 : decode b_Mo_behind 346 = .ok (.ireturn, 1) := by decide +kernel
theorem d_Mo_behind_347 : decode b_Mo_behind 347 = .ok (.aload_n 0, 1) := by decide +kernel
theorem d_Mo_behind_348 : decode b_Mo_behind 348 = .ok (.getfield 52, 3) := by decide +kernel
theorem d_Mo_behind_351 : decode b_Mo_behind 351 = .ok (.bipush 8, 2) := by decide +kernel
theorem d_Mo_behind_353 : decode b_Mo_behind 353 = .ok (.if_icmp .ne 7, 3) := by decide +kernel
theorem d_Mo_behind_356 : decode b_Mo_behind 356 = .ok (.iconst 0, 1) := by decide +kernel
theorem d_Mo_behind_357 : decode b_Mo_behind 357 = .ok (.goto 4, 3) := by decide +kernel
theorem d_Mo_behind_360 : decode b_Mo_behind 360 = .ok (.iconst (-1), 1) := by decide +kernel
theorem d_Mo_behind_361 : decode b_Mo_behind 361 = .ok (.ireturn, 1) := by decide +kernel
theorem d_Mo_message_0 : decode b_Mo_message 0 = .ok (.aload_n 0, 1) := by decide +kernel
theorem d_Mo_message_1 : decode b_Mo_message 1 = .ok (.iconst 0, 1) := by decide +kernel
theorem d_Mo_message_2 : decode b_Mo_message 2 = .ok (.putfield 26, 3) := by decide +kernel
theorem d_Mo_message_5 : decode b_Mo_message 5 = .ok (.iload_n 1, 1) := by decide +kernel
theorem d_Mo_message_6 : decode b_Mo_message 6 = .ok (.ifCond .lt 34, 3) := by decide +kernel
theorem d_Mo_message_9 : decode b_Mo_message 9 = .ok (.iload_n 1, 1) := by decide +kernel
theorem d_Mo_message_10 : decode b_Mo_message 10 = .ok (.bipush 10, 2) := by decide +kernel
theorem d_Mo_message_12 : decode b_Mo_message 12 = .ok (.if_icmp .gt 28, 3) := by decide +kernel
theorem d_Mo_message_15 : decode b_Mo_message 15 = .ok (.lload_n 2, 1) := by decide +kernel
theorem d_Mo_message_16 : decode b_Mo_message 16 = .ok (.ldc2_w 83, 3) := by decide +kernel
theorem d_Mo_message_19 : decode b_Mo_message 19 = .ok (.lcmp, 1) := by decide +kernel
theorem d_Mo_message_20 : decode b_Mo_message 20 = .ok (.ifCond .lt 20, 3) := by decide +kernel
