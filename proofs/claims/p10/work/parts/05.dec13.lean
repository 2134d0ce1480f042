theorem d_Mo_lost_13 : decode b_Mo_lost 13 = .ok (.bipush (-2), 2) := by decide +kernel
theorem d_Mo_lost_15 : decode b_Mo_lost 15 = .ok (.ireturn, 1) := by decide +kernel
theorem d_Mo_lost_16 : decode b_Mo_lost 16 = .ok (.aload_n 0, 1) := by decide +kernel
theorem d_Mo_lost_17 : decode b_Mo_lost 17 = .ok (.lload_n 1, 1) := by decide +kernel
theorem d_Mo_lost_18 : decode b_Mo_lost 18 = .ok (.putfield 59, 3) := by decide +kernel
theorem d_Mo_lost_21 : decode b_Mo_lost 21 = .ok (.aload_n 0, 1) := by decide +kernel
theorem d_Mo_lost_22 : decode b_Mo_lost 22 = .ok (.getfield 52, 3) := by decide +kernel
theorem d_Mo_lost_25 : decode b_Mo_lost 25 = .ok (.istore_n 3, 1) := by decide +kernel
theorem d_Mo_lost_26 : decode b_Mo_lost 26 = .ok (.aload_n 0, 1) := by decide +kernel
theorem d_Mo_lost_27 : decode b_Mo_lost 27 = .ok (.iconst 0, 1) := by decide +kernel
theorem d_Mo_lost_28 : decode b_Mo_lost 28 = .ok (.putfield 52, 3) := by decide +kernel
theorem d_Mo_lost_31 : decode b_Mo_lost 31 = .ok (.iload_n 3, 1) := by decide +kernel
theorem d_Mo_lost_32 : decode b_Mo_lost 32 = .ok (.ireturn, 1) := by decide +kernel
theorem d_Mo_state_0 : decode b_Mo_state 0 = .ok (.aload_n 0, 1) := by decide +kernel
theorem d_Mo_state_1 : decode b_Mo_state 1 = .ok (.iconst 0, 1) := by decide +kernel
theorem d_Mo_state_2 : decode b_Mo_state 2 = .ok (.putfield 26, 3) := by decide +kernel
theorem d_Mo_state_5 : decode b_Mo_state 5 = .ok (.aload_n 0, 1) := by decide +kernel
theorem d_Mo_state_6 : decode b_Mo_state 6 = .ok (.getfield 52, 3) := by decide +kernel
theorem d_Mo_state_9 : decode b_Mo_state 9 = .ok (.ireturn, 1) := by decide +kernel
theorem d_Law_law_0 : decode b_Law_law 0 = .ok (.new 8, 3) := by decide +kernel
theorem d_Law_law_3 : decode b_Law_law 3 = .ok (.dup, 1) := by decide +kernel
theorem d_Law_law_4 : decode b_Law_law 4 = .ok (.invokespecial 15, 3) := by decide +kernel
theorem d_Law_law_7 : decode b_Law_law 7 = .ok (.astore_n 1, 1) := by decide +kernel
theorem d_Law_law_8 : decode b_Law_law 8 = .ok (.new 16, 3) := by decide +kernel
theorem d_Law_law_11 : decode b_Law_law 11 = .ok (.dup, 1) := by decide +kernel
theorem d_Law_law_12 : decode b_Law_law 12 = .ok (.invokespecial 18, 3) := by decide +kernel
theorem d_Law_law_15 : decode b_Law_law 15 = .ok (.astore_n 2, 1) := by decide +kernel
theorem d_Law_law_16 : decode b_Law_law 16 = .ok (.iconst 1, 1) := by decide +kernel
theorem d_Law_law_17 : decode b_Law_law 17 = .ok (.newarray .long, 2) := by decide +kernel
theorem d_Law_law_19 : decode b_Law_law 19 = .ok (.astore_n 3, 1) := by decide +kernel
theorem d_Law_law_20 : decode b_Law_law 20 = .ok (.iconst 0, 1) := by decide +kernel
theorem d_Law_law_21 : decode b_Law_law 21 = .ok (.istore 4, 2) := by decide +kernel
theorem d_Law_law_23 : decode b_Law_law 23 = .ok (.iload 4, 2) := by decide +kernel
theorem d_Law_law_25 : decode b_Law_law 25 = .ok (.aload_n 0, 1) := by decide +kernel
theorem d_Law_law_26 : decode b_Law_law 26 = .ok (.arraylength, 1) := by decide +kernel
theorem d_Law_law_27 : decode b_Law_law 27 = .ok (.bipush 7, 2) := by decide +kernel
theorem d_Law_law_29 : decode b_Law_law 29 = .ok (.isub, 1) := by decide +kernel
theorem d_Law_law_30 : decode b_Law_law 30 = .ok (.if_icmp .gt 980, 3) := by decide +kernel
theorem d_Law_law_33 : decode b_Law_law 33 = .ok (.aload_n 0, 1) := by decide +kernel
theorem d_Law_law_34 : decode b_Law_law 34 = .ok (.iload 4, 2) := by decide +kernel
theorem d_Law_law_36 : decode b_Law_law 36 = .ok (.iaload, 1) := by decide +kernel
theorem d_Law_law_37 : decode b_Law_law 37 = .ok (.bipush 15, 2) := by decide +kernel
theorem d_Law_law_39 : decode b_Law_law 39 = .ok (.iand, 1) := by decide +kernel
theorem d_Law_law_40 : decode b_Law_law 40 = .ok (.tableswitch 964 0 13 #[72, 173, 286, 299, 340, 397, 498, 511, 658, 716, 785, 810, 894, 951], 72) := by decide +kernel
theorem d_Law_law_112 : decode b_Law_law 112 = .ok (.aload_n 1, 1) := by decide +kernel
theorem d_Law_law_113 : decode b_Law_law 113 = .ok (.aload_n 0, 1) := by decide +kernel
theorem d_Law_law_114 : decode b_Law_law 114 = .ok (.iload 4, 2) := by decide +kernel
theorem d_Law_law_116 : decode b_Law_law 116 = .ok (.iconst 1, 1) := by decide +kernel
theorem d_Law_law_117 : decode b_Law_law 117 = .ok (.iadd, 1) := by decide +kernel
theorem d_Law_law_118 : decode b_Law_law 118 = .ok (.iaload, 1) := by decide +kernel
theorem d_Law_law_119 : decode b_Law_law 119 = .ok (.i2l, 1) := by decide +kernel
theorem d_Law_law_120 : decode b_Law_law 120 = .ok (.bipush 32, 2) := by decide +kernel
theorem d_Law_law_122 : decode b_Law_law 122 = .ok (.lshl, 1) := by decide +kernel
theorem d_Law_law_123 : decode b_Law_law 123 = .ok (.aload_n 0, 1) := by decide +kernel
theorem d_Law_law_124 : decode b_Law_law 124 = .ok (.iload 4, 2) := by decide +kernel
theorem d_Law_law_126 : decode b_Law_law 126 = .ok (.iconst 2, 1) := by decide +kernel
theorem d_Law_law_127 : decode b_Law_law 127 = .ok (.iadd, 1) := by decide +kernel
theorem d_Law_law_128 : decode b_Law_law 128 = .ok (.iaload, 1) := by decide +kernel
theorem d_Law_law_129 : decode b_Law_law 129 = .ok (.i2l, 1) := by decide +kernel
theorem d_Law_law_130 : decode b_Law_law 130 = .ok (.ldc2_w 19, 3) := by decide +kernel
theorem d_Law_law_133 : decode b_Law_law 133 = .ok (.land, 1) := by decide +kernel
theorem d_Law_law_134 : decode b_Law_law 134 = .ok (.lor, 1) := by decide +kernel
theorem d_Law_law_135 : decode b_Law_law 135 = .ok (.aload_n 0, 1) := by decide +kernel
theorem d_Law_law_136 : decode b_Law_law 136 = .ok (.iload 4, 2) := by decide +kernel
theorem d_Law_law_138 : decode b_Law_law 138 = .ok (.iconst 3, 1) := by decide +kernel
theorem d_Law_law_139 : decode b_Law_law 139 = .ok (.iadd, 1) := by decide +kernel
theorem d_Law_law_140 : decode b_Law_law 140 = .ok (.iaload, 1) := by decide +kernel
theorem d_Law_law_141 : decode b_Law_law 141 = .ok (.i2l, 1) := by decide +kernel
theorem d_Law_law_142 : decode b_Law_law 142 = .ok (.bipush 32, 2) := by decide +kernel
theorem d_Law_law_144 : decode b_Law_law 144 = .ok (.lshl, 1) := by decide +kernel
theorem d_Law_law_145 : decode b_Law_law 145 = .ok (.aload_n 0, 1) := by decide +kernel
theorem d_Law_law_146 : decode b_Law_law 146 = .ok (.iload 4, 2) := by decide +kernel
theorem d_Law_law_148 : decode b_Law_law 148 = .ok (.iconst 4, 1) := by decide +kernel
theorem d_Law_law_149 : decode b_Law_law 149 = .ok (.iadd, 1) := by decide +kernel
theorem d_Law_law_150 : decode b_Law_law 150 = .ok (.iaload, 1) := by decide +kernel
theorem d_Law_law_151 : decode b_Law_law 151 = .ok (.i2l, 1) := by decide +kernel
theorem d_Law_law_152 : decode b_Law_law 152 = .ok (.ldc2_w 19, 3) := by decide +kernel
theorem d_Law_law_155 : decode b_Law_law 155 = .ok (.land, 1) := by decide +kernel
theorem d_Law_law_156 : decode b_Law_law 156 = .ok (.lor, 1) := by decide +kernel
theorem d_Law_law_157 : decode b_Law_law 157 = .ok (.invokevirtual 21, 3) := by decide +kernel
theorem d_Law_law_160 : decode b_Law_law 160 = .ok (.pop, 1) := by decide +kernel
theorem d_Law_law_161 : decode b_Law_law 161 = .ok (.aload_n 2, 1) := by decide +kernel
theorem d_Law_law_162 : decode b_Law_law 162 = .ok (.aload_n 0, 1) := by decide +kernel
theorem d_Law_law_163 : decode b_Law_law 163 = .ok (.iload 4, 2) := by decide +kernel
theorem d_Law_law_165 : decode b_Law_law 165 = .ok (.iconst 1, 1) := by decide +kernel
theorem d_Law_law_166 : decode b_Law_law 166 = .ok (.iadd, 1) := by decide +kernel
theorem d_Law_law_167 : decode b_Law_law 167 = .ok (.iaload, 1) := by decide +kernel
theorem d_Law_law_168 : decode b_Law_law 168 = .ok (.i2l, 1) := by decide +kernel
theorem d_Law_law_169 : decode b_Law_law 169 = .ok (.bipush 32, 2) := by decide +kernel
theorem d_Law_law_171 : decode b_Law_law 171 = .ok (.lshl, 1) := by decide +kernel
theorem d_Law_law_172 : decode b_Law_law 172 = .ok (.aload_n 0, 1) := by decide +kernel
theorem d_Law_law_173 : decode b_Law_law 173 = .ok (.iload 4, 2) := by decide +kernel
theorem d_Law_law_175 : decode b_Law_law 175 = .ok (.iconst 2, 1) := by decide +kernel
theorem d_Law_law_176 : decode b_Law_law 176 = .ok (.iadd, 1) := by decide +kernel
theorem d_Law_law_177 : decode b_Law_law 177 = .ok (.iaload, 1) := by decide +kernel
theorem d_Law_law_178 : decode b_Law_law 178 = .ok (.i2l, 1) := by decide +kernel
theorem d_Law_law_179 : decode b_Law_law 179 = .ok (.ldc2_w 19, 3) := by decide +kernel
theorem d_Law_law_182 : decode b_Law_law 182 = .ok (.land, 1) := by decide +kernel
theorem d_Law_law_183 : decode b_Law_law 183 = .ok (.lor, 1) := by decide +kernel
theorem d_Law_law_184 : decode b_Law_law 184 = .ok (.aload_n 0, 1) := by decide +kernel
theorem d_Law_law_185 : decode b_Law_law 185 = .ok (.iload 4, 2) := by decide +kernel
theorem d_Law_law_187 : decode b_Law_law 187 = .ok (.iconst 3, 1) := by decide +kernel
theorem d_Law_law_188 : decode b_Law_law 188 = .ok (.iadd, 1) := by decide +kernel
theorem d_Law_law_189 : decode b_Law_law 189 = .ok (.iaload, 1) := by decide +kernel
theorem d_Law_law_190 : decode b_Law_law 190 = .ok (.i2l, 1) := by decide +kernel
theorem d_Law_law_191 : decode b_Law_law 191 = .ok (.bipush 32, 2) := by decide +kernel
theorem d_Law_law_193 : decode b_Law_law 193 = .ok (.lshl, 1) := by decide +kernel
theorem d_Law_law_194 : decode b_Law_law 194 = .ok (.aload_n 0, 1) := by decide +kernel
theorem d_Law_law_195 : decode b_Law_law 195 = .ok (.iload 4, 2) := by decide +kernel
theorem d_Law_law_197 : decode b_Law_law 197 = .ok (.iconst 4, 1) := by decide +kernel
theorem d_Law_law_198 : decode b_Law_law 198 = .ok (.iadd, 1) := by decide +kernel
theorem d_Law_law_199 : decode b_Law_law 199 = .ok (.iaload, 1) := by decide +kernel
theorem d_Law_law_200 : decode b_Law_law 200 = .ok (.i2l, 1) := by decide +kernel
theorem d_Law_law_201 : decode b_Law_law 201 = .ok (.ldc2_w 19, 3) := by decide +kernel
theorem d_Law_law_204 : decode b_Law_law 204 = .ok (.land, 1) := by decide +kernel
theorem d_Law_law_205 : decode b_Law_law 205 = .ok (.lor, 1) := by decide +kernel
theorem d_Law_law_206 : decode b_Law_law 206 = .ok (.invokevirtual 25, 3) := by decide +kernel
theorem d_Law_law_209 : decode b_Law_law 209 = .ok (.pop, 1) := by decide +kernel
theorem d_Law_law_210 : decode b_Law_law 210 = .ok (.goto 794, 3) := by decide +kernel
theorem d_Law_law_213 : decode b_Law_law 213 = .ok (.aload_n 1, 1) := by decide +kernel
theorem d_Law_law_214 : decode b_Law_law 214 = .ok (.aload_n 0, 1) := by decide +kernel
theorem d_Law_law_215 : decode b_Law_law 215 = .ok (.iload 4, 2) := by decide +kernel
theorem d_Law_law_217 : decode b_Law_law 217 = .ok (.iconst 1, 1) := by decide +kernel
theorem d_Law_law_218 : decode b_Law_law 218 = .ok (.iadd, 1) := by decide +kernel
theorem d_Law_law_219 : decode b_Law_law 219 = .ok (.iaload, 1) := by decide +kernel
theorem d_Law_law_220 : decode b_Law_law 220 = .ok (.aload_n 0, 1) := by decide +kernel
theorem d_Law_law_221 : decode b_Law_law 221 = .ok (.iload 4, 2) := by decide +kernel
theorem d_Law_law_223 : decode b_Law_law 223 = .ok (.iconst 2, 1) := by decide +kernel
theorem d_Law_law_224 : decode b_Law_law 224 = .ok (.iadd, 1) := by decide +kernel
theorem d_Law_law_225 : decode b_Law_law 225 = .ok (.iaload, 1) := by decide +kernel
theorem d_Law_law_226 : decode b_Law_law 226 = .ok (.i2l, 1) := by decide +kernel
theorem d_Law_law_227 : decode b_Law_law 227 = .ok (.bipush 32, 2) := by decide +kernel
theorem d_Law_law_229 : decode b_Law_law 229 = .ok (.lshl, 1) := by decide +kernel
theorem d_Law_law_230 : decode b_Law_law 230 = .ok (.aload_n 0, 1) := by decide +kernel
theorem d_Law_law_231 : decode b_Law_law 231 = .ok (.iload 4, 2) := by decide +kernel
theorem d_Law_law_233 : decode b_Law_law 233 = .ok (.iconst 3, 1) := by decide +kernel
theorem d_Law_law_234 : decode b_Law_law 234 = .ok (.iadd, 1) := by decide +kernel
theorem d_Law_law_235 : decode b_Law_law 235 = .ok (.iaload, 1) := by decide +kernel
theorem d_Law_law_236 : decode b_Law_law 236 = .ok (.i2l, 1) := by decide +kernel
theorem d_Law_law_237 : decode b_Law_law 237 = .ok (.ldc2_w 19, 3) := by decide +kernel
theorem d_Law_law_240 : decode b_Law_law 240 = .ok (.land, 1) := by decide +kernel
theorem d_Law_law_241 : decode b_Law_law 241 = .ok (.lor, 1) := by decide +kernel
theorem d_Law_law_242 : decode b_Law_law 242 = .ok (.aload_n 0, 1) := by decide +kernel
theorem d_Law_law_243 : decode b_Law_law 243 = .ok (.iload 4, 2) := by decide +kernel
theorem d_Law_law_245 : decode b_Law_law 245 = .ok (.iconst 4, 1) := by decide +kernel
theorem d_Law_law_246 : decode b_Law_law 246 = .ok (.iadd, 1) := by decide +kernel
theorem d_Law_law_247 : decode b_Law_law 247 = .ok (.iaload, 1) := by decide +kernel
theorem d_Law_law_248 : decode b_Law_law 248 = .ok (.i2l, 1) := by decide +kernel
theorem d_Law_law_249 : decode b_Law_law 249 = .ok (.bipush 32, 2) := by decide +kernel
theorem d_Law_law_251 : decode b_Law_law 251 = .ok (.lshl, 1) := by decide +kernel
theorem d_Law_law_252 : decode b_Law_law 252 = .ok (.aload_n 0, 1) := by decide +kernel
theorem d_Law_law_253 : decode b_Law_law 253 = .ok (.iload 4, 2) := by decide +kernel
theorem d_Law_law_255 : decode b_Law_law 255 = .ok (.iconst 5, 1) := by decide +kernel
theorem d_Law_law_256 : decode b_Law_law 256 = .ok (.iadd, 1) := by decide +kernel
theorem d_Law_law_257 : decode b_Law_law 257 = .ok (.iaload, 1) := by decide +kernel
theorem d_Law_law_258 : decode b_Law_law 258 = .ok (.i2l, 1) := by decide +kernel
theorem d_Law_law_259 : decode b_Law_law 259 = .ok (.ldc2_w 19, 3) := by decide +kernel
theorem d_Law_law_262 : decode b_Law_law 262 = .ok (.land, 1) := by decide +kernel
theorem d_Law_law_263 : decode b_Law_law 263 = .ok (.lor, 1) := by decide +kernel
theorem d_Law_law_264 : decode b_Law_law 264 = .ok (.invokevirtual 26, 3) := by decide +kernel
