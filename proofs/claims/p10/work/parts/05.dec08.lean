theorem d_Mo_allows_56 : decode b_Mo_allows 56 = .ok (.bipush 10, 2) := by decide +kernel
theorem d_Mo_allows_58 : decode b_Mo_allows 58 = .ok (.idiv, 1) := by decide +kernel
theorem d_Mo_allows_59 : decode b_Mo_allows 59 = .ok (.ireturn, 1) := by decide +kernel
theorem d_Mo_allows_60 : decode b_Mo_allows 60 = .ok (.aload_n 0, 1) := by decide +kernel
theorem d_Mo_allows_61 : decode b_Mo_allows 61 = .ok (.getfield 35, 3) := by decide +kernel
theorem d_Mo_allows_64 : decode b_Mo_allows 64 = .ok (.sipush 850, 3) := by decide +kernel
theorem d_Mo_allows_67 : decode b_Mo_allows 67 = .ok (.if_icmp .le 28, 3) := by decide +kernel
theorem d_Mo_allows_70 : decode b_Mo_allows 70 = .ok (.aload_n 0, 1) := by decide +kernel
theorem d_Mo_allows_71 : decode b_Mo_allows 71 = .ok (.getfield 35, 3) := by decide +kernel
theorem d_Mo_allows_74 : decode b_Mo_allows 74 = .ok (.sipush 960, 3) := by decide +kernel
theorem d_Mo_allows_77 : decode b_Mo_allows 77 = .ok (.if_icmp .gt 18, 3) := by decide +kernel
theorem d_Mo_allows_80 : decode b_Mo_allows 80 = .ok (.bipush 25, 2) := by decide +kernel
theorem d_Mo_allows_82 : decode b_Mo_allows 82 = .ok (.aload_n 0, 1) := by decide +kernel
theorem d_Mo_allows_83 : decode b_Mo_allows 83 = .ok (.getfield 35, 3) := by decide +kernel
theorem d_Mo_allows_86 : decode b_Mo_allows 86 = .ok (.sipush 640, 3) := by decide +kernel
theorem d_Mo_allows_89 : decode b_Mo_allows 89 = .ok (.isub, 1) := by decide +kernel
theorem d_Mo_allows_90 : decode b_Mo_allows 90 = .ok (.imul, 1) := by decide +kernel
theorem d_Mo_allows_91 : decode b_Mo_allows 91 = .ok (.bipush 10, 2) := by decide +kernel
theorem d_Mo_allows_93 : decode b_Mo_allows 93 = .ok (.idiv, 1) := by decide +kernel
theorem d_Mo_allows_94 : decode b_Mo_allows 94 = .ok (.ireturn, 1) := by decide +kernel
theorem d_Mo_allows_95 : decode b_Mo_allows 95 = .ok (.aload_n 0, 1) := by decide +kernel
theorem d_Mo_allows_96 : decode b_Mo_allows 96 = .ok (.getfield 35, 3) := by decide +kernel
theorem d_Mo_allows_99 : decode b_Mo_allows 99 = .ok (.sipush 960, 3) := by decide +kernel
theorem d_Mo_allows_102 : decode b_Mo_allows 102 = .ok (.if_icmp .le 19, 3) := by decide +kernel
theorem d_Mo_allows_105 : decode b_Mo_allows 105 = .ok (.aload_n 0, 1) := by decide +kernel
theorem d_Mo_allows_106 : decode b_Mo_allows 106 = .ok (.getfield 35, 3) := by decide +kernel
theorem d_Mo_allows_109 : decode b_Mo_allows 109 = .ok (.sipush 970, 3) := by decide +kernel
theorem d_Mo_allows_112 : decode b_Mo_allows 112 = .ok (.if_icmp .gt 9, 3) := by decide +kernel
theorem d_Mo_allows_115 : decode b_Mo_allows 115 = .ok (.sipush 800, 3) := by decide +kernel
theorem d_Mo_allows_118 : decode b_Mo_allows 118 = .ok (.goto 4, 3) := by decide +kernel
theorem d_Mo_allows_121 : decode b_Mo_allows 121 = .ok (.iconst 0, 1) := by decide +kernel
theorem d_Mo_allows_122 : decode b_Mo_allows 122 = .ok (.ireturn, 1) := by decide +kernel
theorem d_Mo_allowed_0 : decode b_Mo_allowed 0 = .ok (.aload_n 0, 1) := by decide +kernel
theorem d_Mo_allowed_1 : decode b_Mo_allowed 1 = .ok (.iconst 0, 1) := by decide +kernel
theorem d_Mo_allowed_2 : decode b_Mo_allowed 2 = .ok (.putfield 26, 3) := by decide +kernel
theorem d_Mo_allowed_5 : decode b_Mo_allowed 5 = .ok (.aload_n 0, 1) := by decide +kernel
theorem d_Mo_allowed_6 : decode b_Mo_allowed 6 = .ok (.invokevirtual 55, 3) := by decide +kernel
theorem d_Mo_allowed_9 : decode b_Mo_allowed 9 = .ok (.ireturn, 1) := by decide +kernel
theorem d_Mo_isTime_0 : decode b_Mo_isTime 0 = .ok (.lload_n 1, 1) := by decide +kernel
theorem d_Mo_isTime_1 : decode b_Mo_isTime 1 = .ok (.aload_n 0, 1) := by decide +kernel
theorem d_Mo_isTime_2 : decode b_Mo_isTime 2 = .ok (.getfield 59, 3) := by decide +kernel
theorem d_Mo_isTime_5 : decode b_Mo_isTime 5 = .ok (.lcmp, 1) := by decide +kernel
theorem d_Mo_isTime_6 : decode b_Mo_isTime 6 = .ok (.ifCond .lt 15, 3) := by decide +kernel
theorem d_Mo_isTime_9 : decode b_Mo_isTime 9 = .ok (.lload_n 1, 1) := by decide +kernel
theorem d_Mo_isTime_10 : decode b_Mo_isTime 10 = .ok (.ldc2_w 63, 3) := by decide +kernel
theorem d_Mo_isTime_13 : decode b_Mo_isTime 13 = .ok (.lcmp, 1) := by decide +kernel
theorem d_Mo_isTime_14 : decode b_Mo_isTime 14 = .ok (.ifCond .gt 7, 3) := by decide +kernel
theorem d_Mo_isTime_17 : decode b_Mo_isTime 17 = .ok (.iconst 1, 1) := by decide +kernel
theorem d_Mo_isTime_18 : decode b_Mo_isTime 18 = .ok (.goto 4, 3) := by decide +kernel
theorem d_Mo_isTime_21 : decode b_Mo_isTime 21 = .ok (.iconst 0, 1) := by decide +kernel
theorem d_Mo_isTime_22 : decode b_Mo_isTime 22 = .ok (.ireturn, 1) := by decide +kernel
theorem d_Mo_behind_0 : decode b_Mo_behind 0 = .ok (.iload_n 1, 1) := by decide +kernel
theorem d_Mo_behind_1 : decode b_Mo_behind 1 = .ok (.tableswitch 346 0 9 #[55, 100, 126, 146, 174, 203, 238, 269, 300, 330], 55) := by decide +kernel
theorem d_Mo_behind_56 : decode b_Mo_behind 56 = .ok (.aload_n 0, 1) := by decide +kernel
theorem d_Mo_behind_57 : decode b_Mo_behind 57 = .ok (.getfield 52, 3) := by decide +kernel
theorem d_Mo_behind_60 : decode b_Mo_behind 60 = .ok (.ifCond .ne 39, 3) := by decide +kernel
theorem d_Mo_behind_63 : decode b_Mo_behind 63 = .ok (.aload_n 0, 1) := by decide +kernel
theorem d_Mo_behind_64 : decode b_Mo_behind 64 = .ok (.invokevirtual 48, 3) := by decide +kernel
theorem d_Mo_behind_67 : decode b_Mo_behind 67 = .ok (.ifCond .eq 32, 3) := by decide +kernel
theorem d_Mo_behind_70 : decode b_Mo_behind 70 = .ok (.aload_n 0, 1) := by decide +kernel
theorem d_Mo_behind_71 : decode b_Mo_behind 71 = .ok (.getfield 35, 3) := by decide +kernel
theorem d_Mo_behind_74 : decode b_Mo_behind 74 = .ok (.bipush 30, 2) := by decide +kernel
theorem d_Mo_behind_76 : decode b_Mo_behind 76 = .ok (.if_icmp .lt 23, 3) := by decide +kernel
theorem d_Mo_behind_79 : decode b_Mo_behind 79 = .ok (.aload_n 0, 1) := by decide +kernel
theorem d_Mo_behind_80 : decode b_Mo_behind 80 = .ok (.getfield 35, 3) := by decide +kernel
theorem d_Mo_behind_83 : decode b_Mo_behind 83 = .ok (.bipush 70, 2) := by decide +kernel
theorem d_Mo_behind_85 : decode b_Mo_behind 85 = .ok (.if_icmp .gt 14, 3) := by decide +kernel
theorem d_Mo_behind_88 : decode b_Mo_behind 88 = .ok (.aload_n 0, 1) := by decide +kernel
theorem d_Mo_behind_89 : decode b_Mo_behind 89 = .ok (.getfield 65, 3) := by decide +kernel
theorem d_Mo_behind_92 : decode b_Mo_behind 92 = .ok (.ifCond .eq 7, 3) := by decide +kernel
theorem d_Mo_behind_95 : decode b_Mo_behind 95 = .ok (.iconst 1, 1) := by decide +kernel
theorem d_Mo_behind_96 : decode b_Mo_behind 96 = .ok (.goto 4, 3) := by decide +kernel
theorem d_Mo_behind_99 : decode b_Mo_behind 99 = .ok (.iconst (-1), 1) := by decide +kernel
theorem d_Mo_behind_100 : decode b_Mo_behind 100 = .ok (.ireturn, 1) := by decide +kernel
theorem d_Mo_behind_101 : decode b_Mo_behind 101 = .ok (.aload_n 0, 1) := by decide +kernel
theorem d_Mo_behind_102 : decode b_Mo_behind 102 = .ok (.getfield 52, 3) := by decide +kernel
theorem d_Mo_behind_105 : decode b_Mo_behind 105 = .ok (.iconst 1, 1) := by decide +kernel
theorem d_Mo_behind_106 : decode b_Mo_behind 106 = .ok (.if_icmp .ne 19, 3) := by decide +kernel
theorem d_Mo_behind_109 : decode b_Mo_behind 109 = .ok (.lload_n 2, 1) := by decide +kernel
theorem d_Mo_behind_110 : decode b_Mo_behind 110 = .ok (.lconst 0, 1) := by decide +kernel
theorem d_Mo_behind_111 : decode b_Mo_behind 111 = .ok (.lcmp, 1) := by decide +kernel
theorem d_Mo_behind_112 : decode b_Mo_behind 112 = .ok (.ifCond .eq 9, 3) := by decide +kernel
theorem d_Mo_behind_115 : decode b_Mo_behind 115 = .ok (.lload_n 2, 1) := by decide +kernel
theorem d_Mo_behind_116 : decode b_Mo_behind 116 = .ok (.lconst 1, 1) := by decide +kernel
theorem d_Mo_behind_117 : decode b_Mo_behind 117 = .ok (.lcmp, 1) := by decide +kernel
theorem d_Mo_behind_118 : decode b_Mo_behind 118 = .ok (.ifCond .ne 7, 3) := by decide +kernel
theorem d_Mo_behind_121 : decode b_Mo_behind 121 = .ok (.iconst 2, 1) := by decide +kernel
theorem d_Mo_behind_122 : decode b_Mo_behind 122 = .ok (.goto 4, 3) := by decide +kernel
theorem d_Mo_behind_125 : decode b_Mo_behind 125 = .ok (.iconst (-1), 1) := by decide +kernel
theorem d_Mo_behind_126 : decode b_Mo_behind 126 = .ok (.ireturn, 1) := by decide +kernel
theorem d_Mo_behind_127 : decode b_Mo_behind 127 = .ok (.aload_n 0, 1) := by decide +kernel
theorem d_Mo_behind_128 : decode b_Mo_behind 128 = .ok (.getfield 52, 3) := by decide +kernel
theorem d_Mo_behind_131 : decode b_Mo_behind 131 = .ok (.iconst 2, 1) := by decide +kernel
theorem d_Mo_behind_132 : decode b_Mo_behind 132 = .ok (.if_icmp .ne 13, 3) := by decide +kernel
theorem d_Mo_behind_135 : decode b_Mo_behind 135 = .ok (.lload_n 2, 1) := by decide +kernel
theorem d_Mo_behind_136 : decode b_Mo_behind 136 = .ok (.lconst 1, 1) := by decide +kernel
theorem d_Mo_behind_137 : decode b_Mo_behind 137 = .ok (.lcmp, 1) := by decide +kernel
theorem d_Mo_behind_138 : decode b_Mo_behind 138 = .ok (.ifCond .ne 7, 3) := by decide +kernel
theorem d_Mo_behind_141 : decode b_Mo_behind 141 = .ok (.iconst 3, 1) := by decide +kernel
theorem d_Mo_behind_142 : decode b_Mo_behind 142 = .ok (.goto 4, 3) := by decide +kernel
theorem d_Mo_behind_145 : decode b_Mo_behind 145 = .ok (.iconst (-1), 1) := by decide +kernel
theorem d_Mo_behind_146 : decode b_Mo_behind 146 = .ok (.ireturn, 1) := by decide +kernel
theorem d_Mo_behind_147 : decode b_Mo_behind 147 = .ok (.aload_n 0, 1) := by decide +kernel
theorem d_Mo_behind_148 : decode b_Mo_behind 148 = .ok (.getfield 52, 3) := by decide +kernel
theorem d_Mo_behind_151 : decode b_Mo_behind 151 = .ok (.iconst 3, 1) := by decide +kernel
theorem d_Mo_behind_152 : decode b_Mo_behind 152 = .ok (.if_icmp .ne 21, 3) := by decide +kernel
theorem d_Mo_behind_155 : decode b_Mo_behind 155 = .ok (.lload_n 2, 1) := by decide +kernel
theorem d_Mo_behind_156 : decode b_Mo_behind 156 = .ok (.lconst 0, 1) := by decide +kernel
theorem d_Mo_behind_157 : decode b_Mo_behind 157 = .ok (.lcmp, 1) := by decide +kernel
theorem d_Mo_behind_158 : decode b_Mo_behind 158 = .ok (.ifCond .le 15, 3) := by decide +kernel
theorem d_Mo_behind_161 : decode b_Mo_behind 161 = .ok (.lload_n 2, 1) := by decide +kernel
theorem d_Mo_behind_162 : decode b_Mo_behind 162 = .ok (.ldc2_w 69, 3) := by decide +kernel
theorem d_Mo_behind_165 : decode b_Mo_behind 165 = .ok (.lcmp, 1) := by decide +kernel
theorem d_Mo_behind_166 : decode b_Mo_behind 166 = .ok (.ifCond .gt 7, 3) := by decide +kernel
theorem d_Mo_behind_169 : decode b_Mo_behind 169 = .ok (.iconst 4, 1) := by decide +kernel
theorem d_Mo_behind_170 : decode b_Mo_behind 170 = .ok (.goto 4, 3) := by decide +kernel
theorem d_Mo_behind_173 : decode b_Mo_behind 173 = .ok (.iconst (-1), 1) := by decide +kernel
theorem d_Mo_behind_174 : decode b_Mo_behind 174 = .ok (.ireturn, 1) := by decide +kernel
theorem d_Mo_behind_175 : decode b_Mo_behind 175 = .ok (.aload_n 0, 1) := by decide +kernel
theorem d_Mo_behind_176 : decode b_Mo_behind 176 = .ok (.getfield 52, 3) := by decide +kernel
theorem d_Mo_behind_179 : decode b_Mo_behind 179 = .ok (.iconst 4, 1) := by decide +kernel
theorem d_Mo_behind_180 : decode b_Mo_behind 180 = .ok (.if_icmp .ne 22, 3) := by decide +kernel
theorem d_Mo_behind_183 : decode b_Mo_behind 183 = .ok (.aload_n 0, 1) := by decide +kernel
theorem d_Mo_behind_184 : decode b_Mo_behind 184 = .ok (.getfield 71, 3) := by decide +kernel
theorem d_Mo_behind_187 : decode b_Mo_behind 187 = .ok (.ifCond .eq 15, 3) := by decide +kernel
theorem d_Mo_behind_190 : decode b_Mo_behind 190 = .ok (.lload_n 2, 1) := by decide +kernel
theorem d_Mo_behind_191 : decode b_Mo_behind 191 = .ok (.ldc2_w 74, 3) := by decide +kernel
theorem d_Mo_behind_194 : decode b_Mo_behind 194 = .ok (.lcmp, 1) := by decide +kernel
theorem d_Mo_behind_195 : decode b_Mo_behind 195 = .ok (.ifCond .lt 7, 3) := by decide +kernel
theorem d_Mo_behind_198 : decode b_Mo_behind 198 = .ok (.iconst 5, 1) := by decide +kernel
theorem d_Mo_behind_199 : decode b_Mo_behind 199 = .ok (.goto 4, 3) := by decide +kernel
theorem d_Mo_behind_202 : decode b_Mo_behind 202 = .ok (.iconst (-1), 1) := by decide +kernel
theorem d_Mo_behind_203 : decode b_Mo_behind 203 = .ok (.ireturn, 1) := by decide +kernel
theorem d_Mo_behind_204 : decode b_Mo_behind 204 = .ok (.aload_n 0, 1) := by decide +kernel
theorem d_Mo_behind_205 : decode b_Mo_behind 205 = .ok (.getfield 52, 3) := by decide +kernel
theorem d_Mo_behind_208 : decode b_Mo_behind 208 = .ok (.iconst 5, 1) := by decide +kernel
theorem d_Mo_behind_209 : decode b_Mo_behind 209 = .ok (.if_icmp .eq 7, 3) := by decide +kernel
theorem d_Mo_behind_212 : decode b_Mo_behind 212 = .ok (.iconst (-1), 1) := by decide +kernel
theorem d_Mo_behind_213 : decode b_Mo_behind 213 = .ok (.goto 25, 3) := by decide +kernel
theorem d_Mo_behind_216 : decode b_Mo_behind 216 = .ok (.lload_n 2, 1) := by decide +kernel
theorem d_Mo_behind_217 : decode b_Mo_behind 217 = .ok (.ldc2_w 76, 3) := by decide +kernel
theorem d_Mo_behind_220 : decode b_Mo_behind 220 = .ok (.lcmp, 1) := by decide +kernel
theorem d_Mo_behind_221 : decode b_Mo_behind 221 = .ok (.ifCond .lt 16, 3) := by decide +kernel
theorem d_Mo_behind_224 : decode b_Mo_behind 224 = .ok (.lload_n 2, 1) := by decide +kernel
theorem d_Mo_behind_225 : decode b_Mo_behind 225 = .ok (.ldc2_w 78, 3) := by decide +kernel
theorem d_Mo_behind_228 : decode b_Mo_behind 228 = .ok (.lcmp, 1) := by decide +kernel
theorem d_Mo_behind_229 : decode b_Mo_behind 229 = .ok (.ifCond .gt 8, 3) := by decide +kernel
theorem d_Mo_behind_232 : decode b_Mo_behind 232 = .ok (.bipush 6, 2) := by decide +kernel
theorem d_Mo_behind_234 : decode b_Mo_behind 234 = .ok (.goto 4, 3) := by decide +kernel
theorem d_Mo_behind_237 : decode b_Mo_behind 237 = .ok (.iconst 5, 1) := by decide +kernel
theorem d_Mo_behind_238 : decode b_Mo_behind 238 = .ok (.ireturn, 1) := by decide +kernel
theorem d_Mo_behind_239 : decode b_Mo_behind 239 = .ok (.aload_n 0, 1) := by decide +kernel
theorem d_Mo_behind_240 : decode b_Mo_behind 240 = .ok (.getfield 52, 3) := by decide +kernel
theorem d_Mo_behind_243 : decode b_Mo_behind 243 = .ok (.iconst 4, 1) := by decide +kernel
theorem d_Mo_behind_244 : decode b_Mo_behind 244 = .ok (.if_icmp .ne 10, 3) := by decide +kernel
theorem d_Mo_behind_247 : decode b_Mo_behind 247 = .ok (.aload_n 0, 1) := by decide +kernel
theorem d_Mo_behind_248 : decode b_Mo_behind 248 = .ok (.getfield 71, 3) := by decide +kernel
theorem d_Mo_behind_251 : decode b_Mo_behind 251 = .ok (.ifCond .eq 12, 3) := by decide +kernel
theorem d_Mo_behind_254 : decode b_Mo_behind 254 = .ok (.aload_n 0, 1) := by decide +kernel
theorem d_Mo_behind_255 : decode b_Mo_behind 255 = .ok (.getfield 52, 3) := by decide +kernel
