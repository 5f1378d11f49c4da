/-! The reference writes: things, rules -/
theorem d_Mo_sayRest_0 : decode M_Mo_sayRest.2.1 0 = .ok (.aload_n 0, 1) := by decide +kernel
theorem d_Mo_sayRest_1 : decode M_Mo_sayRest.2.1 1 = .ok (.getfield 27, 3) := by decide +kernel
theorem d_Mo_sayRest_4 : decode M_Mo_sayRest.2.1 4 = .ok (.iload_n 1, 1) := by decide +kernel
theorem d_Mo_sayRest_5 : decode M_Mo_sayRest.2.1 5 = .ok (.iconst 5, 1) := by decide +kernel
theorem d_Mo_sayRest_6 : decode M_Mo_sayRest.2.1 6 = .ok (.iadd, 1) := by decide +kernel
theorem d_Mo_sayRest_7 : decode M_Mo_sayRest.2.1 7 = .ok (.laload, 1) := by decide +kernel
theorem d_Mo_sayRest_8 : decode M_Mo_sayRest.2.1 8 = .ok (.lstore_n 2, 1) := by decide +kernel
theorem d_Mo_sayRest_9 : decode M_Mo_sayRest.2.1 9 = .ok (.lload_n 2, 1) := by decide +kernel
theorem d_Mo_sayRest_10 : decode M_Mo_sayRest.2.1 10 = .ok (.lconst 0, 1) := by decide +kernel
theorem d_Mo_sayRest_11 : decode M_Mo_sayRest.2.1 11 = .ok (.lcmp, 1) := by decide +kernel
theorem d_Mo_sayRest_12 : decode M_Mo_sayRest.2.1 12 = .ok (.ifCond .le 117, 3) := by decide +kernel
theorem d_Mo_sayRest_15 : decode M_Mo_sayRest.2.1 15 = .ok (.aload_n 0, 1) := by decide +kernel
theorem d_Mo_sayRest_16 : decode M_Mo_sayRest.2.1 16 = .ok (.ldc2_w 104, 3) := by decide +kernel
theorem d_Mo_sayRest_19 : decode M_Mo_sayRest.2.1 19 = .ok (.invokevirtual 223, 3) := by decide +kernel
theorem d_Mo_sayRest_22 : decode M_Mo_sayRest.2.1 22 = .ok (.aload_n 0, 1) := by decide +kernel
theorem d_Mo_sayRest_23 : decode M_Mo_sayRest.2.1 23 = .ok (.lload_n 2, 1) := by decide +kernel
theorem d_Mo_sayRest_24 : decode M_Mo_sayRest.2.1 24 = .ok (.lconst 1, 1) := by decide +kernel
theorem d_Mo_sayRest_25 : decode M_Mo_sayRest.2.1 25 = .ok (.lcmp, 1) := by decide +kernel
theorem d_Mo_sayRest_26 : decode M_Mo_sayRest.2.1 26 = .ok (.ifCond .ne 19, 3) := by decide +kernel
theorem d_Mo_sayRest_29 : decode M_Mo_sayRest.2.1 29 = .ok (.bipush 20, 2) := by decide +kernel
theorem d_Mo_sayRest_31 : decode M_Mo_sayRest.2.1 31 = .ok (.bipush 15, 2) := by decide +kernel
theorem d_Mo_sayRest_33 : decode M_Mo_sayRest.2.1 33 = .ok (.bipush 16, 2) := by decide +kernel
theorem d_Mo_sayRest_35 : decode M_Mo_sayRest.2.1 35 = .ok (.iconst 0, 1) := by decide +kernel
theorem d_Mo_sayRest_36 : decode M_Mo_sayRest.2.1 36 = .ok (.iconst 0, 1) := by decide +kernel
theorem d_Mo_sayRest_37 : decode M_Mo_sayRest.2.1 37 = .ok (.iconst 0, 1) := by decide +kernel
theorem d_Mo_sayRest_38 : decode M_Mo_sayRest.2.1 38 = .ok (.iconst 0, 1) := by decide +kernel
theorem d_Mo_sayRest_39 : decode M_Mo_sayRest.2.1 39 = .ok (.invokestatic 68, 3) := by decide +kernel
theorem d_Mo_sayRest_42 : decode M_Mo_sayRest.2.1 42 = .ok (.goto 67, 3) := by decide +kernel
theorem d_Mo_sayRest_45 : decode M_Mo_sayRest.2.1 45 = .ok (.lload_n 2, 1) := by decide +kernel
theorem d_Mo_sayRest_46 : decode M_Mo_sayRest.2.1 46 = .ok (.ldc2_w 106, 3) := by decide +kernel
theorem d_Mo_sayRest_49 : decode M_Mo_sayRest.2.1 49 = .ok (.lcmp, 1) := by decide +kernel
theorem d_Mo_sayRest_50 : decode M_Mo_sayRest.2.1 50 = .ok (.ifCond .ne 21, 3) := by decide +kernel
theorem d_Mo_sayRest_53 : decode M_Mo_sayRest.2.1 53 = .ok (.iconst 2, 1) := by decide +kernel
theorem d_Mo_sayRest_54 : decode M_Mo_sayRest.2.1 54 = .ok (.bipush 15, 2) := by decide +kernel
theorem d_Mo_sayRest_56 : decode M_Mo_sayRest.2.1 56 = .ok (.bipush 20, 2) := by decide +kernel
theorem d_Mo_sayRest_58 : decode M_Mo_sayRest.2.1 58 = .ok (.bipush 20, 2) := by decide +kernel
theorem d_Mo_sayRest_60 : decode M_Mo_sayRest.2.1 60 = .ok (.bipush 15, 2) := by decide +kernel
theorem d_Mo_sayRest_62 : decode M_Mo_sayRest.2.1 62 = .ok (.bipush 13, 2) := by decide +kernel
theorem d_Mo_sayRest_64 : decode M_Mo_sayRest.2.1 64 = .ok (.iconst 0, 1) := by decide +kernel
theorem d_Mo_sayRest_65 : decode M_Mo_sayRest.2.1 65 = .ok (.invokestatic 68, 3) := by decide +kernel
theorem d_Mo_sayRest_68 : decode M_Mo_sayRest.2.1 68 = .ok (.goto 41, 3) := by decide +kernel
theorem d_Mo_sayRest_71 : decode M_Mo_sayRest.2.1 71 = .ok (.lload_n 2, 1) := by decide +kernel
theorem d_Mo_sayRest_72 : decode M_Mo_sayRest.2.1 72 = .ok (.ldc2_w 108, 3) := by decide +kernel
theorem d_Mo_sayRest_75 : decode M_Mo_sayRest.2.1 75 = .ok (.lcmp, 1) := by decide +kernel
theorem d_Mo_sayRest_76 : decode M_Mo_sayRest.2.1 76 = .ok (.ifCond .ne 20, 3) := by decide +kernel
theorem d_Mo_sayRest_79 : decode M_Mo_sayRest.2.1 79 = .ok (.bipush 9, 2) := by decide +kernel
theorem d_Mo_sayRest_81 : decode M_Mo_sayRest.2.1 81 = .ok (.bipush 14, 2) := by decide +kernel
theorem d_Mo_sayRest_83 : decode M_Mo_sayRest.2.1 83 = .ok (.bipush 14, 2) := by decide +kernel
theorem d_Mo_sayRest_85 : decode M_Mo_sayRest.2.1 85 = .ok (.iconst 5, 1) := by decide +kernel
theorem d_Mo_sayRest_86 : decode M_Mo_sayRest.2.1 86 = .ok (.bipush 18, 2) := by decide +kernel
theorem d_Mo_sayRest_88 : decode M_Mo_sayRest.2.1 88 = .ok (.iconst 0, 1) := by decide +kernel
theorem d_Mo_sayRest_89 : decode M_Mo_sayRest.2.1 89 = .ok (.iconst 0, 1) := by decide +kernel
theorem d_Mo_sayRest_90 : decode M_Mo_sayRest.2.1 90 = .ok (.invokestatic 68, 3) := by decide +kernel
theorem d_Mo_sayRest_93 : decode M_Mo_sayRest.2.1 93 = .ok (.goto 16, 3) := by decide +kernel
theorem d_Mo_sayRest_96 : decode M_Mo_sayRest.2.1 96 = .ok (.bipush 12, 2) := by decide +kernel
theorem d_Mo_sayRest_98 : decode M_Mo_sayRest.2.1 98 = .ok (.iconst 1, 1) := by decide +kernel
theorem d_Mo_sayRest_99 : decode M_Mo_sayRest.2.1 99 = .ok (.bipush 25, 2) := by decide +kernel
theorem d_Mo_sayRest_101 : decode M_Mo_sayRest.2.1 101 = .ok (.iconst 5, 1) := by decide +kernel
theorem d_Mo_sayRest_102 : decode M_Mo_sayRest.2.1 102 = .ok (.bipush 18, 2) := by decide +kernel
theorem d_Mo_sayRest_104 : decode M_Mo_sayRest.2.1 104 = .ok (.iconst 0, 1) := by decide +kernel
theorem d_Mo_sayRest_105 : decode M_Mo_sayRest.2.1 105 = .ok (.iconst 0, 1) := by decide +kernel
theorem d_Mo_sayRest_106 : decode M_Mo_sayRest.2.1 106 = .ok (.invokestatic 68, 3) := by decide +kernel
theorem d_Mo_sayRest_109 : decode M_Mo_sayRest.2.1 109 = .ok (.invokevirtual 223, 3) := by decide +kernel
theorem d_Mo_sayRest_112 : decode M_Mo_sayRest.2.1 112 = .ok (.lload_n 2, 1) := by decide +kernel
theorem d_Mo_sayRest_113 : decode M_Mo_sayRest.2.1 113 = .ok (.ldc2_w 108, 3) := by decide +kernel
theorem d_Mo_sayRest_116 : decode M_Mo_sayRest.2.1 116 = .ok (.lcmp, 1) := by decide +kernel
theorem d_Mo_sayRest_117 : decode M_Mo_sayRest.2.1 117 = .ok (.ifCond .le 12, 3) := by decide +kernel
theorem d_Mo_sayRest_120 : decode M_Mo_sayRest.2.1 120 = .ok (.aload_n 0, 1) := by decide +kernel
theorem d_Mo_sayRest_121 : decode M_Mo_sayRest.2.1 121 = .ok (.lload_n 2, 1) := by decide +kernel
theorem d_Mo_sayRest_122 : decode M_Mo_sayRest.2.1 122 = .ok (.ldc2_w 108, 3) := by decide +kernel
theorem d_Mo_sayRest_125 : decode M_Mo_sayRest.2.1 125 = .ok (.lsub, 1) := by decide +kernel
theorem d_Mo_sayRest_126 : decode M_Mo_sayRest.2.1 126 = .ok (.invokevirtual 236, 3) := by decide +kernel
theorem d_Mo_sayRest_129 : decode M_Mo_sayRest.2.1 129 = .ok (.aload_n 0, 1) := by decide +kernel
theorem d_Mo_sayRest_130 : decode M_Mo_sayRest.2.1 130 = .ok (.getfield 27, 3) := by decide +kernel
theorem d_Mo_sayRest_133 : decode M_Mo_sayRest.2.1 133 = .ok (.iload_n 1, 1) := by decide +kernel
theorem d_Mo_sayRest_134 : decode M_Mo_sayRest.2.1 134 = .ok (.bipush 6, 2) := by decide +kernel
theorem d_Mo_sayRest_136 : decode M_Mo_sayRest.2.1 136 = .ok (.iadd, 1) := by decide +kernel
theorem d_Mo_sayRest_137 : decode M_Mo_sayRest.2.1 137 = .ok (.laload, 1) := by decide +kernel
theorem d_Mo_sayRest_138 : decode M_Mo_sayRest.2.1 138 = .ok (.lconst 0, 1) := by decide +kernel
theorem d_Mo_sayRest_139 : decode M_Mo_sayRest.2.1 139 = .ok (.lcmp, 1) := by decide +kernel
theorem d_Mo_sayRest_140 : decode M_Mo_sayRest.2.1 140 = .ok (.ifCond .lt 24, 3) := by decide +kernel
theorem d_Mo_sayRest_143 : decode M_Mo_sayRest.2.1 143 = .ok (.aload_n 0, 1) := by decide +kernel
theorem d_Mo_sayRest_144 : decode M_Mo_sayRest.2.1 144 = .ok (.ldc2_w 175, 3) := by decide +kernel
theorem d_Mo_sayRest_147 : decode M_Mo_sayRest.2.1 147 = .ok (.invokevirtual 223, 3) := by decide +kernel
theorem d_Mo_sayRest_150 : decode M_Mo_sayRest.2.1 150 = .ok (.aload_n 0, 1) := by decide +kernel
theorem d_Mo_sayRest_151 : decode M_Mo_sayRest.2.1 151 = .ok (.iconst 2, 1) := by decide +kernel
theorem d_Mo_sayRest_152 : decode M_Mo_sayRest.2.1 152 = .ok (.aload_n 0, 1) := by decide +kernel
theorem d_Mo_sayRest_153 : decode M_Mo_sayRest.2.1 153 = .ok (.getfield 27, 3) := by decide +kernel
theorem d_Mo_sayRest_156 : decode M_Mo_sayRest.2.1 156 = .ok (.iload_n 1, 1) := by decide +kernel
theorem d_Mo_sayRest_157 : decode M_Mo_sayRest.2.1 157 = .ok (.bipush 6, 2) := by decide +kernel
theorem d_Mo_sayRest_159 : decode M_Mo_sayRest.2.1 159 = .ok (.iadd, 1) := by decide +kernel
theorem d_Mo_sayRest_160 : decode M_Mo_sayRest.2.1 160 = .ok (.laload, 1) := by decide +kernel
theorem d_Mo_sayRest_161 : decode M_Mo_sayRest.2.1 161 = .ok (.invokevirtual 226, 3) := by decide +kernel
theorem d_Mo_sayRest_164 : decode M_Mo_sayRest.2.1 164 = .ok (.aload_n 0, 1) := by decide +kernel
theorem d_Mo_sayRest_165 : decode M_Mo_sayRest.2.1 165 = .ok (.getfield 27, 3) := by decide +kernel
theorem d_Mo_sayRest_168 : decode M_Mo_sayRest.2.1 168 = .ok (.iload_n 1, 1) := by decide +kernel
theorem d_Mo_sayRest_169 : decode M_Mo_sayRest.2.1 169 = .ok (.bipush 7, 2) := by decide +kernel
theorem d_Mo_sayRest_171 : decode M_Mo_sayRest.2.1 171 = .ok (.iadd, 1) := by decide +kernel
theorem d_Mo_sayRest_172 : decode M_Mo_sayRest.2.1 172 = .ok (.laload, 1) := by decide +kernel
theorem d_Mo_sayRest_173 : decode M_Mo_sayRest.2.1 173 = .ok (.lconst 0, 1) := by decide +kernel
theorem d_Mo_sayRest_174 : decode M_Mo_sayRest.2.1 174 = .ok (.lcmp, 1) := by decide +kernel
theorem d_Mo_sayRest_175 : decode M_Mo_sayRest.2.1 175 = .ok (.ifCond .le 33, 3) := by decide +kernel
theorem d_Mo_sayRest_178 : decode M_Mo_sayRest.2.1 178 = .ok (.aload_n 0, 1) := by decide +kernel
theorem d_Mo_sayRest_179 : decode M_Mo_sayRest.2.1 179 = .ok (.bipush 18, 2) := by decide +kernel
theorem d_Mo_sayRest_181 : decode M_Mo_sayRest.2.1 181 = .ok (.iconst 1, 1) := by decide +kernel
theorem d_Mo_sayRest_182 : decode M_Mo_sayRest.2.1 182 = .ok (.bipush 14, 2) := by decide +kernel
theorem d_Mo_sayRest_184 : decode M_Mo_sayRest.2.1 184 = .ok (.bipush 11, 2) := by decide +kernel
theorem d_Mo_sayRest_186 : decode M_Mo_sayRest.2.1 186 = .ok (.iconst 0, 1) := by decide +kernel
theorem d_Mo_sayRest_187 : decode M_Mo_sayRest.2.1 187 = .ok (.iconst 0, 1) := by decide +kernel
theorem d_Mo_sayRest_188 : decode M_Mo_sayRest.2.1 188 = .ok (.iconst 0, 1) := by decide +kernel
theorem d_Mo_sayRest_189 : decode M_Mo_sayRest.2.1 189 = .ok (.invokestatic 68, 3) := by decide +kernel
theorem d_Mo_sayRest_192 : decode M_Mo_sayRest.2.1 192 = .ok (.invokevirtual 223, 3) := by decide +kernel
theorem d_Mo_sayRest_195 : decode M_Mo_sayRest.2.1 195 = .ok (.aload_n 0, 1) := by decide +kernel
theorem d_Mo_sayRest_196 : decode M_Mo_sayRest.2.1 196 = .ok (.aload_n 0, 1) := by decide +kernel
theorem d_Mo_sayRest_197 : decode M_Mo_sayRest.2.1 197 = .ok (.getfield 27, 3) := by decide +kernel
theorem d_Mo_sayRest_200 : decode M_Mo_sayRest.2.1 200 = .ok (.iload_n 1, 1) := by decide +kernel
theorem d_Mo_sayRest_201 : decode M_Mo_sayRest.2.1 201 = .ok (.bipush 7, 2) := by decide +kernel
theorem d_Mo_sayRest_203 : decode M_Mo_sayRest.2.1 203 = .ok (.iadd, 1) := by decide +kernel
theorem d_Mo_sayRest_204 : decode M_Mo_sayRest.2.1 204 = .ok (.laload, 1) := by decide +kernel
theorem d_Mo_sayRest_205 : decode M_Mo_sayRest.2.1 205 = .ok (.invokevirtual 236, 3) := by decide +kernel
theorem d_Mo_sayRest_208 : decode M_Mo_sayRest.2.1 208 = .ok (.aload_n 0, 1) := by decide +kernel
theorem d_Mo_sayRest_209 : decode M_Mo_sayRest.2.1 209 = .ok (.getfield 27, 3) := by decide +kernel
theorem d_Mo_sayRest_212 : decode M_Mo_sayRest.2.1 212 = .ok (.iload_n 1, 1) := by decide +kernel
theorem d_Mo_sayRest_213 : decode M_Mo_sayRest.2.1 213 = .ok (.bipush 8, 2) := by decide +kernel
theorem d_Mo_sayRest_215 : decode M_Mo_sayRest.2.1 215 = .ok (.iadd, 1) := by decide +kernel
theorem d_Mo_sayRest_216 : decode M_Mo_sayRest.2.1 216 = .ok (.laload, 1) := by decide +kernel
theorem d_Mo_sayRest_217 : decode M_Mo_sayRest.2.1 217 = .ok (.lstore 4, 2) := by decide +kernel
theorem d_Mo_sayRest_219 : decode M_Mo_sayRest.2.1 219 = .ok (.aload_n 0, 1) := by decide +kernel
theorem d_Mo_sayRest_220 : decode M_Mo_sayRest.2.1 220 = .ok (.getfield 27, 3) := by decide +kernel
theorem d_Mo_sayRest_223 : decode M_Mo_sayRest.2.1 223 = .ok (.iload_n 1, 1) := by decide +kernel
theorem d_Mo_sayRest_224 : decode M_Mo_sayRest.2.1 224 = .ok (.bipush 9, 2) := by decide +kernel
theorem d_Mo_sayRest_226 : decode M_Mo_sayRest.2.1 226 = .ok (.iadd, 1) := by decide +kernel
theorem d_Mo_sayRest_227 : decode M_Mo_sayRest.2.1 227 = .ok (.laload, 1) := by decide +kernel
theorem d_Mo_sayRest_228 : decode M_Mo_sayRest.2.1 228 = .ok (.lstore 6, 2) := by decide +kernel
theorem d_Mo_sayRest_230 : decode M_Mo_sayRest.2.1 230 = .ok (.lload 6, 2) := by decide +kernel
theorem d_Mo_sayRest_232 : decode M_Mo_sayRest.2.1 232 = .ok (.lconst 0, 1) := by decide +kernel
theorem d_Mo_sayRest_233 : decode M_Mo_sayRest.2.1 233 = .ok (.lcmp, 1) := by decide +kernel
theorem d_Mo_sayRest_234 : decode M_Mo_sayRest.2.1 234 = .ok (.ifCond .ge 20, 3) := by decide +kernel
theorem d_Mo_sayRest_237 : decode M_Mo_sayRest.2.1 237 = .ok (.aload_n 0, 1) := by decide +kernel
theorem d_Mo_sayRest_238 : decode M_Mo_sayRest.2.1 238 = .ok (.bipush 12, 2) := by decide +kernel
theorem d_Mo_sayRest_240 : decode M_Mo_sayRest.2.1 240 = .ok (.iconst 5, 1) := by decide +kernel
theorem d_Mo_sayRest_241 : decode M_Mo_sayRest.2.1 241 = .ok (.iconst 1, 1) := by decide +kernel
theorem d_Mo_sayRest_242 : decode M_Mo_sayRest.2.1 242 = .ok (.bipush 19, 2) := by decide +kernel
theorem d_Mo_sayRest_244 : decode M_Mo_sayRest.2.1 244 = .ok (.bipush 20, 2) := by decide +kernel
theorem d_Mo_sayRest_246 : decode M_Mo_sayRest.2.1 246 = .ok (.iconst 0, 1) := by decide +kernel
theorem d_Mo_sayRest_247 : decode M_Mo_sayRest.2.1 247 = .ok (.iconst 0, 1) := by decide +kernel
theorem d_Mo_sayRest_248 : decode M_Mo_sayRest.2.1 248 = .ok (.invokestatic 68, 3) := by decide +kernel
theorem d_Mo_sayRest_251 : decode M_Mo_sayRest.2.1 251 = .ok (.invokevirtual 223, 3) := by decide +kernel
theorem d_Mo_sayRest_254 : decode M_Mo_sayRest.2.1 254 = .ok (.lload 4, 2) := by decide +kernel
theorem d_Mo_sayRest_256 : decode M_Mo_sayRest.2.1 256 = .ok (.lconst 0, 1) := by decide +kernel
theorem d_Mo_sayRest_257 : decode M_Mo_sayRest.2.1 257 = .ok (.lcmp, 1) := by decide +kernel
theorem d_Mo_sayRest_258 : decode M_Mo_sayRest.2.1 258 = .ok (.ifCond .ge 21, 3) := by decide +kernel
theorem d_Mo_sayRest_261 : decode M_Mo_sayRest.2.1 261 = .ok (.aload_n 0, 1) := by decide +kernel
theorem d_Mo_sayRest_262 : decode M_Mo_sayRest.2.1 262 = .ok (.bipush 13, 2) := by decide +kernel
theorem d_Mo_sayRest_264 : decode M_Mo_sayRest.2.1 264 = .ok (.bipush 15, 2) := by decide +kernel
theorem d_Mo_sayRest_266 : decode M_Mo_sayRest.2.1 266 = .ok (.bipush 19, 2) := by decide +kernel
theorem d_Mo_sayRest_268 : decode M_Mo_sayRest.2.1 268 = .ok (.bipush 20, 2) := by decide +kernel
theorem d_Mo_sayRest_270 : decode M_Mo_sayRest.2.1 270 = .ok (.iconst 0, 1) := by decide +kernel
theorem d_Mo_sayRest_271 : decode M_Mo_sayRest.2.1 271 = .ok (.iconst 0, 1) := by decide +kernel
theorem d_Mo_sayRest_272 : decode M_Mo_sayRest.2.1 272 = .ok (.iconst 0, 1) := by decide +kernel
theorem d_Mo_sayRest_273 : decode M_Mo_sayRest.2.1 273 = .ok (.invokestatic 68, 3) := by decide +kernel
theorem d_Mo_sayRest_276 : decode M_Mo_sayRest.2.1 276 = .ok (.invokevirtual 223, 3) := by decide +kernel
theorem d_Mo_sayRest_279 : decode M_Mo_sayRest.2.1 279 = .ok (.aload_n 0, 1) := by decide +kernel
theorem d_Mo_sayRest_280 : decode M_Mo_sayRest.2.1 280 = .ok (.lload 4, 2) := by decide +kernel
theorem d_Mo_sayRest_282 : decode M_Mo_sayRest.2.1 282 = .ok (.lconst 0, 1) := by decide +kernel
theorem d_Mo_sayRest_283 : decode M_Mo_sayRest.2.1 283 = .ok (.lcmp, 1) := by decide +kernel
theorem d_Mo_sayRest_284 : decode M_Mo_sayRest.2.1 284 = .ok (.ifCond .ge 8, 3) := by decide +kernel
theorem d_Mo_sayRest_287 : decode M_Mo_sayRest.2.1 287 = .ok (.lload 6, 2) := by decide +kernel
theorem d_Mo_sayRest_289 : decode M_Mo_sayRest.2.1 289 = .ok (.goto 5, 3) := by decide +kernel
theorem d_Mo_sayRest_292 : decode M_Mo_sayRest.2.1 292 = .ok (.lload 4, 2) := by decide +kernel
theorem d_Mo_sayRest_294 : decode M_Mo_sayRest.2.1 294 = .ok (.invokevirtual 236, 3) := by decide +kernel
theorem d_Mo_sayRest_297 : decode M_Mo_sayRest.2.1 297 = .ok (.lload 4, 2) := by decide +kernel
theorem d_Mo_sayRest_299 : decode M_Mo_sayRest.2.1 299 = .ok (.lconst 0, 1) := by decide +kernel
theorem d_Mo_sayRest_300 : decode M_Mo_sayRest.2.1 300 = .ok (.lcmp, 1) := by decide +kernel
theorem d_Mo_sayRest_301 : decode M_Mo_sayRest.2.1 301 = .ok (.ifCond .lt 24, 3) := by decide +kernel
theorem d_Mo_sayRest_304 : decode M_Mo_sayRest.2.1 304 = .ok (.lload 6, 2) := by decide +kernel
theorem d_Mo_sayRest_306 : decode M_Mo_sayRest.2.1 306 = .ok (.lload 4, 2) := by decide +kernel
theorem d_Mo_sayRest_308 : decode M_Mo_sayRest.2.1 308 = .ok (.lcmp, 1) := by decide +kernel
theorem d_Mo_sayRest_309 : decode M_Mo_sayRest.2.1 309 = .ok (.ifCond .le 16, 3) := by decide +kernel
theorem d_Mo_sayRest_312 : decode M_Mo_sayRest.2.1 312 = .ok (.aload_n 0, 1) := by decide +kernel
theorem d_Mo_sayRest_313 : decode M_Mo_sayRest.2.1 313 = .ok (.ldc2_w 149, 3) := by decide +kernel
theorem d_Mo_sayRest_316 : decode M_Mo_sayRest.2.1 316 = .ok (.invokevirtual 223, 3) := by decide +kernel
theorem d_Mo_sayRest_319 : decode M_Mo_sayRest.2.1 319 = .ok (.aload_n 0, 1) := by decide +kernel
theorem d_Mo_sayRest_320 : decode M_Mo_sayRest.2.1 320 = .ok (.lload 6, 2) := by decide +kernel
theorem d_Mo_sayRest_322 : decode M_Mo_sayRest.2.1 322 = .ok (.invokevirtual 236, 3) := by decide +kernel
theorem d_Mo_sayRest_325 : decode M_Mo_sayRest.2.1 325 = .ok (.aload_n 0, 1) := by decide +kernel
theorem d_Mo_sayRest_326 : decode M_Mo_sayRest.2.1 326 = .ok (.getfield 27, 3) := by decide +kernel
theorem d_Mo_sayRest_329 : decode M_Mo_sayRest.2.1 329 = .ok (.iload_n 1, 1) := by decide +kernel
theorem d_Mo_sayRest_330 : decode M_Mo_sayRest.2.1 330 = .ok (.laload, 1) := by decide +kernel
theorem d_Mo_sayRest_331 : decode M_Mo_sayRest.2.1 331 = .ok (.ldc2_w 135, 3) := by decide +kernel
theorem d_Mo_sayRest_334 : decode M_Mo_sayRest.2.1 334 = .ok (.lcmp, 1) := by decide +kernel
theorem d_Mo_sayRest_335 : decode M_Mo_sayRest.2.1 335 = .ok (.ifCond .eq 32, 3) := by decide +kernel
theorem d_Mo_sayRest_338 : decode M_Mo_sayRest.2.1 338 = .ok (.aload_n 0, 1) := by decide +kernel
theorem d_Mo_sayRest_339 : decode M_Mo_sayRest.2.1 339 = .ok (.getfield 27, 3) := by decide +kernel
theorem d_Mo_sayRest_342 : decode M_Mo_sayRest.2.1 342 = .ok (.iload_n 1, 1) := by decide +kernel
theorem d_Mo_sayRest_343 : decode M_Mo_sayRest.2.1 343 = .ok (.laload, 1) := by decide +kernel
theorem d_Mo_sayRest_344 : decode M_Mo_sayRest.2.1 344 = .ok (.ldc2_w 137, 3) := by decide +kernel
theorem d_Mo_sayRest_347 : decode M_Mo_sayRest.2.1 347 = .ok (.lcmp, 1) := by decide +kernel
theorem d_Mo_sayRest_348 : decode M_Mo_sayRest.2.1 348 = .ok (.ifCond .eq 19, 3) := by decide +kernel
theorem d_Mo_sayRest_351 : decode M_Mo_sayRest.2.1 351 = .ok (.aload_n 0, 1) := by decide +kernel
theorem d_Mo_sayRest_352 : decode M_Mo_sayRest.2.1 352 = .ok (.bipush 14, 2) := by decide +kernel
theorem d_Mo_sayRest_354 : decode M_Mo_sayRest.2.1 354 = .ok (.bipush 13, 2) := by decide +kernel
theorem d_Mo_sayRest_356 : decode M_Mo_sayRest.2.1 356 = .ok (.iconst 0, 1) := by decide +kernel
theorem d_Mo_sayRest_357 : decode M_Mo_sayRest.2.1 357 = .ok (.iconst 0, 1) := by decide +kernel
theorem d_Mo_sayRest_358 : decode M_Mo_sayRest.2.1 358 = .ok (.iconst 0, 1) := by decide +kernel
theorem d_Mo_sayRest_359 : decode M_Mo_sayRest.2.1 359 = .ok (.iconst 0, 1) := by decide +kernel
theorem d_Mo_sayRest_360 : decode M_Mo_sayRest.2.1 360 = .ok (.iconst 0, 1) := by decide +kernel
theorem d_Mo_sayRest_361 : decode M_Mo_sayRest.2.1 361 = .ok (.invokestatic 68, 3) := by decide +kernel
theorem d_Mo_sayRest_364 : decode M_Mo_sayRest.2.1 364 = .ok (.invokevirtual 223, 3) := by decide +kernel
theorem d_Mo_sayRest_367 : decode M_Mo_sayRest.2.1 367 = .ok (.return_, 1) := by decide +kernel
theorem d_Mo_sayThing_0 : decode M_Mo_sayThing.2.1 0 = .ok (.aload_n 0, 1) := by decide +kernel
theorem d_Mo_sayThing_1 : decode M_Mo_sayThing.2.1 1 = .ok (.getfield 27, 3) := by decide +kernel
theorem d_Mo_sayThing_4 : decode M_Mo_sayThing.2.1 4 = .ok (.iload_n 1, 1) := by decide +kernel
theorem d_Mo_sayThing_5 : decode M_Mo_sayThing.2.1 5 = .ok (.laload, 1) := by decide +kernel
theorem d_Mo_sayThing_6 : decode M_Mo_sayThing.2.1 6 = .ok (.lconst 0, 1) := by decide +kernel
theorem d_Mo_sayThing_7 : decode M_Mo_sayThing.2.1 7 = .ok (.lcmp, 1) := by decide +kernel
theorem d_Mo_sayThing_8 : decode M_Mo_sayThing.2.1 8 = .ok (.ifCond .ge 13, 3) := by decide +kernel
theorem d_Mo_sayThing_11 : decode M_Mo_sayThing.2.1 11 = .ok (.aload_n 0, 1) := by decide +kernel
theorem d_Mo_sayThing_12 : decode M_Mo_sayThing.2.1 12 = .ok (.ldc2_w 95, 3) := by decide +kernel
theorem d_Mo_sayThing_15 : decode M_Mo_sayThing.2.1 15 = .ok (.invokevirtual 223, 3) := by decide +kernel
theorem d_Mo_sayThing_18 : decode M_Mo_sayThing.2.1 18 = .ok (.goto 65, 3) := by decide +kernel
theorem d_Mo_sayThing_21 : decode M_Mo_sayThing.2.1 21 = .ok (.aload_n 0, 1) := by decide +kernel
theorem d_Mo_sayThing_22 : decode M_Mo_sayThing.2.1 22 = .ok (.aload_n 0, 1) := by decide +kernel
theorem d_Mo_sayThing_23 : decode M_Mo_sayThing.2.1 23 = .ok (.getfield 27, 3) := by decide +kernel
theorem d_Mo_sayThing_26 : decode M_Mo_sayThing.2.1 26 = .ok (.iload_n 1, 1) := by decide +kernel
theorem d_Mo_sayThing_27 : decode M_Mo_sayThing.2.1 27 = .ok (.laload, 1) := by decide +kernel
theorem d_Mo_sayThing_28 : decode M_Mo_sayThing.2.1 28 = .ok (.lconst 0, 1) := by decide +kernel
theorem d_Mo_sayThing_29 : decode M_Mo_sayThing.2.1 29 = .ok (.lcmp, 1) := by decide +kernel
theorem d_Mo_sayThing_30 : decode M_Mo_sayThing.2.1 30 = .ok (.ifCond .ne 19, 3) := by decide +kernel
theorem d_Mo_sayThing_33 : decode M_Mo_sayThing.2.1 33 = .ok (.iconst 3, 1) := by decide +kernel
theorem d_Mo_sayThing_34 : decode M_Mo_sayThing.2.1 34 = .ok (.bipush 12, 2) := by decide +kernel
theorem d_Mo_sayThing_36 : decode M_Mo_sayThing.2.1 36 = .ok (.iconst 1, 1) := by decide +kernel
theorem d_Mo_sayThing_37 : decode M_Mo_sayThing.2.1 37 = .ok (.bipush 19, 2) := by decide +kernel
theorem d_Mo_sayThing_39 : decode M_Mo_sayThing.2.1 39 = .ok (.bipush 19, 2) := by decide +kernel
theorem d_Mo_sayThing_41 : decode M_Mo_sayThing.2.1 41 = .ok (.iconst 0, 1) := by decide +kernel
theorem d_Mo_sayThing_42 : decode M_Mo_sayThing.2.1 42 = .ok (.iconst 0, 1) := by decide +kernel
theorem d_Mo_sayThing_43 : decode M_Mo_sayThing.2.1 43 = .ok (.invokestatic 68, 3) := by decide +kernel
theorem d_Mo_sayThing_46 : decode M_Mo_sayThing.2.1 46 = .ok (.goto 15, 3) := by decide +kernel
theorem d_Mo_sayThing_49 : decode M_Mo_sayThing.2.1 49 = .ok (.bipush 14, 2) := by decide +kernel
theorem d_Mo_sayThing_51 : decode M_Mo_sayThing.2.1 51 = .ok (.iconst 5, 1) := by decide +kernel
theorem d_Mo_sayThing_52 : decode M_Mo_sayThing.2.1 52 = .ok (.bipush 20, 2) := by decide +kernel
theorem d_Mo_sayThing_54 : decode M_Mo_sayThing.2.1 54 = .ok (.iconst 0, 1) := by decide +kernel
theorem d_Mo_sayThing_55 : decode M_Mo_sayThing.2.1 55 = .ok (.iconst 0, 1) := by decide +kernel
theorem d_Mo_sayThing_56 : decode M_Mo_sayThing.2.1 56 = .ok (.iconst 0, 1) := by decide +kernel
theorem d_Mo_sayThing_57 : decode M_Mo_sayThing.2.1 57 = .ok (.iconst 0, 1) := by decide +kernel
theorem d_Mo_sayThing_58 : decode M_Mo_sayThing.2.1 58 = .ok (.invokestatic 68, 3) := by decide +kernel
theorem d_Mo_sayThing_61 : decode M_Mo_sayThing.2.1 61 = .ok (.invokevirtual 223, 3) := by decide +kernel
theorem d_Mo_sayThing_64 : decode M_Mo_sayThing.2.1 64 = .ok (.aload_n 0, 1) := by decide +kernel
theorem d_Mo_sayThing_65 : decode M_Mo_sayThing.2.1 65 = .ok (.aload_n 0, 1) := by decide +kernel
theorem d_Mo_sayThing_66 : decode M_Mo_sayThing.2.1 66 = .ok (.getfield 27, 3) := by decide +kernel
theorem d_Mo_sayThing_69 : decode M_Mo_sayThing.2.1 69 = .ok (.iload_n 1, 1) := by decide +kernel
theorem d_Mo_sayThing_70 : decode M_Mo_sayThing.2.1 70 = .ok (.laload, 1) := by decide +kernel
theorem d_Mo_sayThing_71 : decode M_Mo_sayThing.2.1 71 = .ok (.l2i, 1) := by decide +kernel
theorem d_Mo_sayThing_72 : decode M_Mo_sayThing.2.1 72 = .ok (.aload_n 0, 1) := by decide +kernel
theorem d_Mo_sayThing_73 : decode M_Mo_sayThing.2.1 73 = .ok (.getfield 27, 3) := by decide +kernel
theorem d_Mo_sayThing_76 : decode M_Mo_sayThing.2.1 76 = .ok (.iload_n 1, 1) := by decide +kernel
theorem d_Mo_sayThing_77 : decode M_Mo_sayThing.2.1 77 = .ok (.iconst 1, 1) := by decide +kernel
theorem d_Mo_sayThing_78 : decode M_Mo_sayThing.2.1 78 = .ok (.iadd, 1) := by decide +kernel
theorem d_Mo_sayThing_79 : decode M_Mo_sayThing.2.1 79 = .ok (.laload, 1) := by decide +kernel
theorem d_Mo_sayThing_80 : decode M_Mo_sayThing.2.1 80 = .ok (.invokevirtual 226, 3) := by decide +kernel
theorem d_Mo_sayThing_83 : decode M_Mo_sayThing.2.1 83 = .ok (.return_, 1) := by decide +kernel
def endsOK (e : Option Nat × Option Nat) : Prop := match e with
  | (some a, some b) => a ≤ b ∧ b ≤ 1000000000000
  | (some a, none) => a ≤ 1000000000000
  | (none, some b) => b ≤ 1000000000000
  | (none, none) => False
/-- a rule as it can be read -/
def ruOK (q : ruS) : Prop := q.1 < 13 ∧ ((∀ s, q.2.1.1 = some s → s < 32) ∧ ∀ s, q.2.1.2 = some s → s < 32) ∧ q.2.2.1 ≤ 35 ∧ (∀ a, q.2.2.2.1 = some a → a < 16) ∧ q.2.2.2.2.1 ≤ 99 ∧ (q.1 ≠ 12 → endsOK q.2.2.2.2.2.1) ∧ q.2.2.2.2.2.2 ≤ 3000 ∧ (q.1 ≠ 0 → q.1 ≠ 12 → q.2.1.2 = none)
def wLay (l : Nat) : List Int32 := if l = 0 then [] else (32 :: rx_tx 6) ++ (if l = 1 then 32 :: rx_tx 8 else if l = 2 then 32 :: rx_tx 9 else if l = 3 then 32 :: rx_tx 10 else (32 :: rx_tx 7) ++ 32 :: dec (l - 3))
def wAre (N : nmS) (a : Option Nat) : List Int32 := match a with
  | none => []
  | some x => (32 :: rx_tx 11) ++ 32 :: nameL N (32 + x)
def wRnk (r : Nat) : List Int32 := if r = 0 then [] else (32 :: rx_tx 12) ++ 32 :: dec r
def wEnd (e : Option Nat × Option Nat) : List Int32 := match e with
  | (some a, some b) => (32 :: dec a) ++ (if a < b then (32 :: rx_tx 15) ++ 32 :: dec b else [])
  | (some a, none) => (32 :: rx_tx 13) ++ 32 :: dec a
  | (none, some b) => (32 :: rx_tx 14) ++ 32 :: dec b
  | (none, none) => []
def wUn (κ : Nat) : List Int32 := if κ = 5 ∨ κ = 9 then [] else 32 :: rx_tx 56
def wRes (N : nmS) (κ : Nat) (q : reS) : List Int32 := wLay q.1 ++ (wAre N q.2.1 ++ (wRnk q.2.2.1 ++ (wEnd q.2.2.2 ++ wUn κ)))
noncomputable def wRu (N : nmS) (q : ruS) : List Int32 := rx_tx (rx_kw q.1 - 30) ++ ((if q.1 = 12 then [] else if q.1 = 0 then 32 :: rx_tx 0 else 32 :: rx_tx 1) ++ (wTh N q.2.1.1 ++ ((if q.1 = 0 ∨ q.1 = 12 then (32 :: rx_tx 5) ++ wTh N q.2.1.2 else []) ++ ((if q.1 = 12 then [] else wRes N q.1 (q.2.2.1, q.2.2.2.1, q.2.2.2.2.1, q.2.2.2.2.2.1)) ++ [32, 59, 10]))))
def no10 (x : List Int32) : Prop := ∀ c ∈ x, c ≠ 10
theorem no10_app {x y : List Int32} (h : no10 x) (h' : no10 y) : no10 (x ++ y) := fun c hc => (List.mem_append.mp hc).elim (h c) (h' c)
theorem no10_32 {x : List Int32} (h : no10 x) : no10 (32 :: x) := fun c hc => by
  rcases List.mem_cons.mp hc with e | e
  · subst e; decide
  · exact h c e
theorem no10_tx : ∀ s, s < 61 → s ≠ 42 → ∀ c ∈ rx_tx s, c ≠ 10 := by decide
theorem no10_w (s : Nat) (h : s < 61 := by decide) (h' : s ≠ 42 := by decide) : no10 (32 :: rx_tx s) := no10_32 (no10_tx s h h')
theorem no10_d (x : Nat) : no10 (32 :: dec x) := no10_32 (dec_10 x)
theorem no10_n {N : nmS} {k : Nat} (hN : NmOK N) (hk : k < 48) : no10 (32 :: nameL N k) := no10_32 (nmL_10 (hN k hk).2 _ 0 (by omega))
theorem mid.app {l x : List Int32} (h : mid l) (hx : no10 x) : mid (l ++ x) := mid_app (Or.inl h) hx
theorem name_len {N : nmS} {k : Nat} (hN : NmOK N) (hk : k < 48) : (nameL N k).length ≤ 8 := by
  unfold nameL
  rw [nmL_len]
  exact (hN k hk).1
theorem no10_th {N : nmS} {o : Option Nat} (hN : NmOK N) (ho : ∀ s, o = some s → s < 32) : no10 (wTh N o) := by
  cases o with
  | none => exact no10_w 2
  | some s =>
    have := ho s rfl
    refine no10_app ?_ (no10_n hN (by omega))
    show no10 (32 :: rx_tx (if s < 16 then 3 else 4))
    split
    · exact no10_w 3
    · exact no10_w 4
theorem tx_len : ∀ s, s < 61 → (rx_tx s).length ≤ 31 := by decide
theorem th_len {N : nmS} {o : Option Nat} (hN : NmOK N) (ho : ∀ s, o = some s → s < 32) : (wTh N o).length ≤ 15 := by
  cases o with
  | none => show (32 :: rx_tx 2).length ≤ 15; decide
  | some s =>
    have h1 := name_len hN (show s < 48 by have := ho s rfl; omega)
    show ((32 :: rx_tx (if s < 16 then 3 else 4)) ++ 32 :: nameL N s).length ≤ 15
    rw [List.length_append, List.length_cons (as := nameL N s)]
    have h2 : (32 :: rx_tx (if s < 16 then 3 else 4)).length ≤ 6 := by
      split
      · decide
      · decide
    omega
section
variable {nx : Nat} {ct : Nat → Nat × Nat} {m0 : Nat → Nat → Int32} {ml : Nat → Nat → Int64} {mr : Nat → Nat → Option Nat} {l : List Int32}
abbrev dn (nx : Nat) (ct : Nat → Nat × Nat) (m0 : Nat → Nat → Int32) (ml : Nat → Nat → Int64) (mr : Nat → Nat → Option Nat) (l : List Int32) : Option Value → rx_S → Prop := fun v τ => v = none ∧ τ = (nx, ct, mO m0 l, ml, mr)
theorem sq_sayThing {N : nmS} {B : Nat} {o : Option Nat} (hL : LAY nx ct mr) (hN : NmM N m0) (hB : B + 1 < 1440) (ho : ∀ s, o = some s → s < 32) (h1 : ml 404 B = (kO o).toInt64) (h2 : ml 404 (B + 1) = (tO o).toInt64) (hm : mid l) (hl : l.length + 30 < 9000) : rx_Calls y_Mo_sayThing M_Mo_sayThing 2 0 0 [.ref 398, .int (nI B)] (nx, ct, mO m0 l, ml, mr) (dn nx ct m0 ml mr (l ++ wTh N o)) := by
  refine rx_enter (by decide) rfl rfl (Nat.le_of_ble_eq_true rfl) ?_
  cases o with
  | none =>
    refine ru_aload_n d_Mo_sayThing_0 rfl rfl ?_
    refine ru_getR d_Mo_sayThing_1 lf_Mo_27 (ly hL 398 9 0) rfl (lr hL 398 8 404) ?_
    refine ru_iload_n d_Mo_sayThing_4 rfl rfl ?_
    refine ru_laldN (j := B) d_Mo_sayThing_5 (ly hL 404 104 1440) (by omega) (by decide) ?_
    refine ru_eql h1 ?_
    refine ru_lconst (v := 0) d_Mo_sayThing_6 (by decide) ?_
    refine ru_lcmp d_Mo_sayThing_7 ?_
    refine ru_if_ge (tgt := 21) d_Mo_sayThing_8 (by decide) (fun h8 => absurd h8 (by decide)) (fun h8 => ?_)
    replace h8 := fun q => h8 ((lg_cmp_ge _ _).mpr q)
    refine ru_aload_n d_Mo_sayThing_11 rfl rfl ?_
    refine ru_ldc2 d_Mo_sayThing_12 lc_Mo_95 ?_
    refine ru_callV (mc := 0) (ms := 0) d_Mo_sayThing_15 lm_Mo_223 (sq_sayWord hL wv_2 (by omega) hm) (rx_recv_is (ly hL 398 9 0) kx_Mo) (by decide) rfl (Nat.le_of_ble_eq_true rfl) ?_
    rintro v τ ⟨rfl, rfl⟩
    refine ru_goto (tgt := 83) d_Mo_sayThing_18 (by decide) ?_
    refine ru_vret d_Mo_sayThing_83 rfl ?_
    exact ⟨rfl, rfl⟩
  | some s =>
    have hs := ho s rfl
    have h1' : ml 404 B = Int64.ofNat (s / 16) := h1.trans (nl_i2l (by omega))
    have h2' : ml 404 (B + 1) = Int64.ofNat (s % 16) := h2.trans (nl_i2l (by omega))
    have es : 16 * (s / 16) + s % 16 = s := Nat.div_add_mod s 16
    by_cases h16 : s < 16
    · have e0 : s / 16 = 0 := by omega
      have ew : l ++ wTh N (some s) = l ++ 32 :: rx_tx 3 ++ 32 :: nameL N s := by
        show l ++ ((32 :: rx_tx (if s < 16 then 3 else 4)) ++ 32 :: nameL N s) = _
        rw [if_pos h16, ← List.append_assoc]
      rw [ew]
      have hM := sq_sayName (ml := ml) (l := l ++ 32 :: rx_tx 3) (a := s / 16) (b := s % 16) hL hN (by omega) (by omega) (by rw [List.length_append]; show l.length + 6 + 9 < 9000; omega)
      rw [es] at hM
      refine ru_aload_n d_Mo_sayThing_0 rfl rfl ?_
      refine ru_getR d_Mo_sayThing_1 lf_Mo_27 (ly hL 398 9 0) rfl (lr hL 398 8 404) ?_
      refine ru_iload_n d_Mo_sayThing_4 rfl rfl ?_
      refine ru_laldN (j := B) d_Mo_sayThing_5 (ly hL 404 104 1440) (by omega) (by decide) ?_
      refine ru_eql h1' ?_
      refine ru_lconst (v := 0) d_Mo_sayThing_6 (by decide) ?_
      refine ru_lcmp d_Mo_sayThing_7 ?_
      refine ru_if_ge (tgt := 21) d_Mo_sayThing_8 (by decide) (fun h8 => ?_) (fun h8 => ?_)
      · skip
        replace h8 := (lg_cmp_ge _ _).mp h8
        replace h8 := nl_le (a := 0) (b := (s/16)) (by omega) (by omega) h8
        refine ru_aload_n d_Mo_sayThing_21 rfl rfl ?_
        refine ru_aload_n d_Mo_sayThing_22 rfl rfl ?_
        refine ru_getR d_Mo_sayThing_23 lf_Mo_27 (ly hL 398 9 0) rfl (lr hL 398 8 404) ?_
        refine ru_iload_n d_Mo_sayThing_26 rfl rfl ?_
        refine ru_laldN (j := B) d_Mo_sayThing_27 (ly hL 404 104 1440) (by omega) (by decide) ?_
        refine ru_eql h1' ?_
        refine ru_lconst (v := 0) d_Mo_sayThing_28 (by decide) ?_
        refine ru_lcmp d_Mo_sayThing_29 ?_
        refine ru_if_ne (tgt := 49) d_Mo_sayThing_30 (by decide) (fun h30 => ?_) (fun h30 => ?_)
        · skip
          replace h30 := fun q => h30 ((lg_cmp_eq _ _).mpr q)
          replace h30 := nl_ne (a := (s/16)) (b := 0) (by omega) (by omega) h30
          exfalso; omega
        · skip
          replace h30 := (lg_cmp_eq _ _).mp h30
          replace h30 := nl_eq (a := (s/16)) (b := 0) (by omega) (by omega) h30
          refine ru_iconst (v := 3) d_Mo_sayThing_33 (by decide) ?_
          refine ru_bipush (v := 12) d_Mo_sayThing_34 (by decide) ?_
          refine ru_iconst (v := 1) d_Mo_sayThing_36 (by decide) ?_
          refine ru_bipush (v := 19) d_Mo_sayThing_37 (by decide) ?_
          refine ru_bipush (v := 19) d_Mo_sayThing_39 (by decide) ?_
          refine ru_iconst (v := 0) d_Mo_sayThing_41 (by decide) ?_
          refine ru_iconst (v := 0) d_Mo_sayThing_42 (by decide) ?_
          refine ru_callS (mc := 0) (ms := 0) d_Mo_sayThing_43 lm_Mo_68 (sp_Mo_word 3 12 1 19 19 0 0 _) (by decide) rfl (Nat.le_of_ble_eq_true rfl) ?_
          intro v τ h
          obtain ⟨rfl, rfl⟩ := h
          refine ru_goto (tgt := 61) d_Mo_sayThing_46 (by decide) ?_
          refine ru_callV (mc := 0) (ms := 0) d_Mo_sayThing_61 lm_Mo_223 (sq_sayWord hL wv_3 (by omega) hm) (rx_recv_is (ly hL 398 9 0) kx_Mo) (by decide) rfl (Nat.le_of_ble_eq_true rfl) ?_
          rintro v τ ⟨rfl, rfl⟩
          refine ru_aload_n d_Mo_sayThing_64 rfl rfl ?_
          refine ru_aload_n d_Mo_sayThing_65 rfl rfl ?_
          refine ru_getR d_Mo_sayThing_66 lf_Mo_27 (ly hL 398 9 0) rfl (lr hL 398 8 404) ?_
          refine ru_iload_n d_Mo_sayThing_69 rfl rfl ?_
          refine ru_laldN (j := B) d_Mo_sayThing_70 (ly hL 404 104 1440) (by omega) (by decide) ?_
          refine ru_eql h1' ?_
          refine ru_l2i d_Mo_sayThing_71 ?_
          refine ru_eqi (nl_l2i (s/16)) ?_
          refine ru_aload_n d_Mo_sayThing_72 rfl rfl ?_
          refine ru_getR d_Mo_sayThing_73 lf_Mo_27 (ly hL 398 9 0) rfl (lr hL 398 8 404) ?_
          refine ru_iload_n d_Mo_sayThing_76 rfl rfl ?_
          refine ru_iconst (v := 1) d_Mo_sayThing_77 (by decide) ?_
          refine ru_iadd d_Mo_sayThing_78 ?_
          refine ru_eqi (nm_add B 1 : _ = nI (B + 1)) ?_
          refine ru_laldN (j := (B + 1)) d_Mo_sayThing_79 (ly hL 404 104 1440) (by omega) (by decide) ?_
          refine ru_eql h2' ?_
          refine ru_callV (mc := 0) (ms := 0) d_Mo_sayThing_80 lm_Mo_226 hM (rx_recv_is (ly hL 398 9 0) kx_Mo) (by decide) rfl (Nat.le_of_ble_eq_true rfl) ?_
          rintro v τ ⟨rfl, rfl⟩
          refine ru_vret d_Mo_sayThing_83 rfl ?_
          exact ⟨rfl, rfl⟩
      · skip
        replace h8 := fun q => h8 ((lg_cmp_ge _ _).mpr q)
        replace h8 := nl_nle (a := 0) (b := (s/16)) (by omega) (by omega) h8
        exfalso; omega
    · have e0 : s / 16 = 1 := by omega
      have ew : l ++ wTh N (some s) = l ++ 32 :: rx_tx 4 ++ 32 :: nameL N s := by
        show l ++ ((32 :: rx_tx (if s < 16 then 3 else 4)) ++ 32 :: nameL N s) = _
        rw [if_neg h16, ← List.append_assoc]
      rw [ew]
      have hM := sq_sayName (ml := ml) (l := l ++ 32 :: rx_tx 4) (a := s / 16) (b := s % 16) hL hN (by omega) (by omega) (by rw [List.length_append]; show l.length + 4 + 9 < 9000; omega)
      rw [es] at hM
      refine ru_aload_n d_Mo_sayThing_0 rfl rfl ?_
      refine ru_getR d_Mo_sayThing_1 lf_Mo_27 (ly hL 398 9 0) rfl (lr hL 398 8 404) ?_
      refine ru_iload_n d_Mo_sayThing_4 rfl rfl ?_
      refine ru_laldN (j := B) d_Mo_sayThing_5 (ly hL 404 104 1440) (by omega) (by decide) ?_
      refine ru_eql h1' ?_
      refine ru_lconst (v := 0) d_Mo_sayThing_6 (by decide) ?_
      refine ru_lcmp d_Mo_sayThing_7 ?_
      refine ru_if_ge (tgt := 21) d_Mo_sayThing_8 (by decide) (fun h8 => ?_) (fun h8 => ?_)
      · skip
        replace h8 := (lg_cmp_ge _ _).mp h8
        replace h8 := nl_le (a := 0) (b := (s/16)) (by omega) (by omega) h8
        refine ru_aload_n d_Mo_sayThing_21 rfl rfl ?_
        refine ru_aload_n d_Mo_sayThing_22 rfl rfl ?_
        refine ru_getR d_Mo_sayThing_23 lf_Mo_27 (ly hL 398 9 0) rfl (lr hL 398 8 404) ?_
        refine ru_iload_n d_Mo_sayThing_26 rfl rfl ?_
        refine ru_laldN (j := B) d_Mo_sayThing_27 (ly hL 404 104 1440) (by omega) (by decide) ?_
        refine ru_eql h1' ?_
        refine ru_lconst (v := 0) d_Mo_sayThing_28 (by decide) ?_
        refine ru_lcmp d_Mo_sayThing_29 ?_
        refine ru_if_ne (tgt := 49) d_Mo_sayThing_30 (by decide) (fun h30 => ?_) (fun h30 => ?_)
        · skip
          replace h30 := fun q => h30 ((lg_cmp_eq _ _).mpr q)
          replace h30 := nl_ne (a := (s/16)) (b := 0) (by omega) (by omega) h30
          refine ru_bipush (v := 14) d_Mo_sayThing_49 (by decide) ?_
          refine ru_iconst (v := 5) d_Mo_sayThing_51 (by decide) ?_
          refine ru_bipush (v := 20) d_Mo_sayThing_52 (by decide) ?_
          refine ru_iconst (v := 0) d_Mo_sayThing_54 (by decide) ?_
          refine ru_iconst (v := 0) d_Mo_sayThing_55 (by decide) ?_
          refine ru_iconst (v := 0) d_Mo_sayThing_56 (by decide) ?_
          refine ru_iconst (v := 0) d_Mo_sayThing_57 (by decide) ?_
          refine ru_callS (mc := 0) (ms := 0) d_Mo_sayThing_58 lm_Mo_68 (sp_Mo_word 14 5 20 0 0 0 0 _) (by decide) rfl (Nat.le_of_ble_eq_true rfl) ?_
          intro v τ h
          obtain ⟨rfl, rfl⟩ := h
          refine ru_callV (mc := 0) (ms := 0) d_Mo_sayThing_61 lm_Mo_223 (sq_sayWord hL wv_4 (by omega) hm) (rx_recv_is (ly hL 398 9 0) kx_Mo) (by decide) rfl (Nat.le_of_ble_eq_true rfl) ?_
          rintro v τ ⟨rfl, rfl⟩
          refine ru_aload_n d_Mo_sayThing_64 rfl rfl ?_
          refine ru_aload_n d_Mo_sayThing_65 rfl rfl ?_
          refine ru_getR d_Mo_sayThing_66 lf_Mo_27 (ly hL 398 9 0) rfl (lr hL 398 8 404) ?_
          refine ru_iload_n d_Mo_sayThing_69 rfl rfl ?_
          refine ru_laldN (j := B) d_Mo_sayThing_70 (ly hL 404 104 1440) (by omega) (by decide) ?_
          refine ru_eql h1' ?_
          refine ru_l2i d_Mo_sayThing_71 ?_
          refine ru_eqi (nl_l2i (s/16)) ?_
          refine ru_aload_n d_Mo_sayThing_72 rfl rfl ?_
          refine ru_getR d_Mo_sayThing_73 lf_Mo_27 (ly hL 398 9 0) rfl (lr hL 398 8 404) ?_
          refine ru_iload_n d_Mo_sayThing_76 rfl rfl ?_
          refine ru_iconst (v := 1) d_Mo_sayThing_77 (by decide) ?_
          refine ru_iadd d_Mo_sayThing_78 ?_
          refine ru_eqi (nm_add B 1 : _ = nI (B + 1)) ?_
          refine ru_laldN (j := (B + 1)) d_Mo_sayThing_79 (ly hL 404 104 1440) (by omega) (by decide) ?_
          refine ru_eql h2' ?_
          refine ru_callV (mc := 0) (ms := 0) d_Mo_sayThing_80 lm_Mo_226 hM (rx_recv_is (ly hL 398 9 0) kx_Mo) (by decide) rfl (Nat.le_of_ble_eq_true rfl) ?_
          rintro v τ ⟨rfl, rfl⟩
          refine ru_vret d_Mo_sayThing_83 rfl ?_
          exact ⟨rfl, rfl⟩
        · skip
          replace h30 := (lg_cmp_eq _ _).mp h30
          replace h30 := nl_eq (a := (s/16)) (b := 0) (by omega) (by omega) h30
          exfalso; omega
      · skip
        replace h8 := fun q => h8 ((lg_cmp_ge _ _).mpr q)
        replace h8 := nl_nle (a := 0) (b := (s/16)) (by omega) (by omega) h8
        exfalso; omega
theorem nl_m1 {a : Nat} (h : a < 2 ^ 63) : (-1 : Int64) ≤ Int64.ofNat a := by
  rw [Int64.le_iff_toInt_le, nl_toInt h, show ((-1 : Int64)).toInt = -1 from by decide]
  omega
theorem sr_un {K κ : Nat} (hL : LAY nx ct mr) (hK : K + 12 ≤ 1440) (hκ : κ < 13) (h0 : ml 404 K = Int64.ofNat κ) (hm : mid l) (hl : l.length + 10 < 9000) : rx_W M_Mo_sayRest 2 0 0 325 [(0, .ref 398), (1, .int (nI K))] [] (nx, ct, mO m0 l, ml, mr) (pR (dn nx ct m0 ml mr (l ++ wUn κ))) := by
  unfold wUn
  refine ru_aload_n d_Mo_sayRest_325 rfl rfl ?_
  refine ru_getR d_Mo_sayRest_326 lf_Mo_27 (ly hL 398 9 0) rfl (lr hL 398 8 404) ?_
  refine ru_iload_n d_Mo_sayRest_329 rfl rfl ?_
  refine ru_laldN (j := K) d_Mo_sayRest_330 (ly hL 404 104 1440) (by omega) (by decide) ?_
  refine ru_eql h0 ?_
  refine ru_ldc2 d_Mo_sayRest_331 lc_Mo_135 ?_
  refine ru_lcmp d_Mo_sayRest_334 ?_
  refine ru_if_eq (tgt := 367) d_Mo_sayRest_335 (by decide) (fun h335 => ?_) (fun h335 => ?_)
  · skip
    replace h335 := (lg_cmp_eq _ _).mp h335
    replace h335 := nl_eq (a := κ) (b := 5) (by omega) (by omega) h335
    refine ru_vret d_Mo_sayRest_367 rfl ?_
    first | (rw [if_pos (by omega), List.append_nil]; exact ⟨rfl, rfl⟩) | (rw [if_neg (by omega)]; exact ⟨rfl, rfl⟩)
  · skip
    replace h335 := fun q => h335 ((lg_cmp_eq _ _).mpr q)
    replace h335 := nl_ne (a := κ) (b := 5) (by omega) (by omega) h335
    refine ru_aload_n d_Mo_sayRest_338 rfl rfl ?_
    refine ru_getR d_Mo_sayRest_339 lf_Mo_27 (ly hL 398 9 0) rfl (lr hL 398 8 404) ?_
    refine ru_iload_n d_Mo_sayRest_342 rfl rfl ?_
    refine ru_laldN (j := K) d_Mo_sayRest_343 (ly hL 404 104 1440) (by omega) (by decide) ?_
    refine ru_eql h0 ?_
    refine ru_ldc2 d_Mo_sayRest_344 lc_Mo_137 ?_
    refine ru_lcmp d_Mo_sayRest_347 ?_
    refine ru_if_eq (tgt := 367) d_Mo_sayRest_348 (by decide) (fun h348 => ?_) (fun h348 => ?_)
    · skip
      replace h348 := (lg_cmp_eq _ _).mp h348
      replace h348 := nl_eq (a := κ) (b := 9) (by omega) (by omega) h348
      refine ru_vret d_Mo_sayRest_367 rfl ?_
      first | (rw [if_pos (by omega), List.append_nil]; exact ⟨rfl, rfl⟩) | (rw [if_neg (by omega)]; exact ⟨rfl, rfl⟩)
    · skip
      replace h348 := fun q => h348 ((lg_cmp_eq _ _).mpr q)
      replace h348 := nl_ne (a := κ) (b := 9) (by omega) (by omega) h348
      refine ru_aload_n d_Mo_sayRest_351 rfl rfl ?_
      refine ru_bipush (v := 14) d_Mo_sayRest_352 (by decide) ?_
      refine ru_bipush (v := 13) d_Mo_sayRest_354 (by decide) ?_
      refine ru_iconst (v := 0) d_Mo_sayRest_356 (by decide) ?_
      refine ru_iconst (v := 0) d_Mo_sayRest_357 (by decide) ?_
      refine ru_iconst (v := 0) d_Mo_sayRest_358 (by decide) ?_
      refine ru_iconst (v := 0) d_Mo_sayRest_359 (by decide) ?_
      refine ru_iconst (v := 0) d_Mo_sayRest_360 (by decide) ?_
      refine ru_callS (mc := 0) (ms := 0) d_Mo_sayRest_361 lm_Mo_68 (sp_Mo_word 14 13 0 0 0 0 0 _) (by decide) rfl (Nat.le_of_ble_eq_true rfl) ?_
      intro v τ h
      obtain ⟨rfl, rfl⟩ := h
      refine ru_callV (mc := 0) (ms := 0) d_Mo_sayRest_364 lm_Mo_223 (sq_sayWord hL wv_56 (by omega) hm) (rx_recv_is (ly hL 398 9 0) kx_Mo) (by decide) rfl (Nat.le_of_ble_eq_true rfl) ?_
      rintro v τ ⟨rfl, rfl⟩
      refine ru_vret d_Mo_sayRest_367 rfl ?_
      first | (rw [if_pos (by omega), List.append_nil]; exact ⟨rfl, rfl⟩) | (rw [if_neg (by omega)]; exact ⟨rfl, rfl⟩)
theorem sr_end {K κ : Nat} {e : Option Nat × Option Nat} (hL : LAY nx ct mr) (hK : K + 12 ≤ 1440) (hκ : κ < 13) (h0 : ml 404 K = Int64.ofNat κ) (h8 : ml 404 (K + 8) = oL e.1) (h9 : ml 404 (K + 9) = oL e.2) (he : endsOK e) (hm : mid l) (hl : l.length + 50 < 9000) : rx_W M_Mo_sayRest 2 0 0 208 [(0, .ref 398), (1, .int (nI K))] [] (nx, ct, mO m0 l, ml, mr) (pR (dn nx ct m0 ml mr (l ++ (wEnd e ++ wUn κ)))) := by
  rw [← List.append_assoc]
  obtain ⟨lo, hi⟩ := e
  cases lo with
  | none =>
    cases hi with
    | none => exact absurd he id
    | some b =>
      have hb : b ≤ 1000000000000 := he
      have h8' : ml 404 (K + 8) = -1 := h8
      have m1 := hm.app (no10_w 14)
      have l1 : (l ++ 32 :: rx_tx 14).length = l.length + 5 := List.length_append
      have m2 := m1.app (no10_d b)
      have l2 : (l ++ 32 :: rx_tx 14 ++ 32 :: dec b).length ≤ l.length + 19 := by
        rw [List.length_append, l1, List.length_cons]
        have := dec_len b
        omega
      have ew : l ++ wEnd (none, some b) = l ++ 32 :: rx_tx 14 ++ 32 :: dec b := (List.append_assoc _ _ _).symm
      rw [ew]
      refine ru_aload_n d_Mo_sayRest_208 rfl rfl ?_
      refine ru_getR d_Mo_sayRest_209 lf_Mo_27 (ly hL 398 9 0) rfl (lr hL 398 8 404) ?_
      refine ru_iload_n d_Mo_sayRest_212 rfl rfl ?_
      refine ru_bipush (v := 8) d_Mo_sayRest_213 (by decide) ?_
      refine ru_iadd d_Mo_sayRest_215 ?_
      refine ru_eqi (nm_add K 8 : _ = nI (K + 8)) ?_
      refine ru_laldN (j := (K + 8)) d_Mo_sayRest_216 (ly hL 404 104 1440) (by omega) (by decide) ?_
      refine ru_eql h8' ?_
      refine ru_lstore d_Mo_sayRest_217 (by decide) ?_
      refine ru_aload_n d_Mo_sayRest_219 rfl rfl ?_
      refine ru_getR d_Mo_sayRest_220 lf_Mo_27 (ly hL 398 9 0) rfl (lr hL 398 8 404) ?_
      refine ru_iload_n d_Mo_sayRest_223 rfl rfl ?_
      refine ru_bipush (v := 9) d_Mo_sayRest_224 (by decide) ?_
      refine ru_iadd d_Mo_sayRest_226 ?_
      refine ru_eqi (nm_add K 9 : _ = nI (K + 9)) ?_
      refine ru_laldN (j := (K + 9)) d_Mo_sayRest_227 (ly hL 404 104 1440) (by omega) (by decide) ?_
      refine ru_eql h9 ?_
      refine ru_lstore d_Mo_sayRest_228 (by decide) ?_
      refine ru_lload d_Mo_sayRest_230 rfl ?_
      refine ru_lconst (v := 0) d_Mo_sayRest_232 (by decide) ?_
      refine ru_lcmp d_Mo_sayRest_233 ?_
      refine ru_if_ge (tgt := 254) d_Mo_sayRest_234 (by decide) (fun h234 => ?_) (fun h234 => ?_)
      · skip
        replace h234 := (lg_cmp_ge _ _).mp h234
        replace h234 := nl_le (a := 0) (b := b) (by omega) (by omega) h234
        refine ru_lload d_Mo_sayRest_254 rfl ?_
        refine ru_lconst (v := 0) d_Mo_sayRest_256 (by decide) ?_
        refine ru_lcmp d_Mo_sayRest_257 ?_
        refine ru_if_ge (tgt := 279) d_Mo_sayRest_258 (by decide) (fun h258 => absurd h258 (by decide)) (fun h258 => ?_)
        replace h258 := fun q => h258 ((lg_cmp_ge _ _).mpr q)
        refine ru_aload_n d_Mo_sayRest_261 rfl rfl ?_
        refine ru_bipush (v := 13) d_Mo_sayRest_262 (by decide) ?_
        refine ru_bipush (v := 15) d_Mo_sayRest_264 (by decide) ?_
        refine ru_bipush (v := 19) d_Mo_sayRest_266 (by decide) ?_
        refine ru_bipush (v := 20) d_Mo_sayRest_268 (by decide) ?_
        refine ru_iconst (v := 0) d_Mo_sayRest_270 (by decide) ?_
        refine ru_iconst (v := 0) d_Mo_sayRest_271 (by decide) ?_
        refine ru_iconst (v := 0) d_Mo_sayRest_272 (by decide) ?_
        refine ru_callS (mc := 0) (ms := 0) d_Mo_sayRest_273 lm_Mo_68 (sp_Mo_word 13 15 19 20 0 0 0 _) (by decide) rfl (Nat.le_of_ble_eq_true rfl) ?_
        intro v τ h
        obtain ⟨rfl, rfl⟩ := h
        refine ru_callV (mc := 0) (ms := 0) d_Mo_sayRest_276 lm_Mo_223 (sq_sayWord hL wv_14 (by omega) hm) (rx_recv_is (ly hL 398 9 0) kx_Mo) (by decide) rfl (Nat.le_of_ble_eq_true rfl) ?_
        rintro v τ ⟨rfl, rfl⟩
        refine ru_aload_n d_Mo_sayRest_279 rfl rfl ?_
        refine ru_lload d_Mo_sayRest_280 rfl ?_
        refine ru_lconst (v := 0) d_Mo_sayRest_282 (by decide) ?_
        refine ru_lcmp d_Mo_sayRest_283 ?_
        refine ru_if_ge (tgt := 292) d_Mo_sayRest_284 (by decide) (fun h284 => absurd h284 (by decide)) (fun h284 => ?_)
        replace h284 := fun q => h284 ((lg_cmp_ge _ _).mpr q)
        refine ru_lload d_Mo_sayRest_287 rfl ?_
        refine ru_goto (tgt := 294) d_Mo_sayRest_289 (by decide) ?_
        refine ru_callV (mc := 0) (ms := 0) d_Mo_sayRest_294 lm_Mo_236 (sq_sayNumber hL hb (by omega)) (rx_recv_is (ly hL 398 9 0) kx_Mo) (by decide) rfl (Nat.le_of_ble_eq_true rfl) ?_
        rintro v τ ⟨rfl, rfl⟩
        refine ru_lload d_Mo_sayRest_297 rfl ?_
        refine ru_lconst (v := 0) d_Mo_sayRest_299 (by decide) ?_
        refine ru_lcmp d_Mo_sayRest_300 ?_
        refine ru_if_lt (tgt := 325) d_Mo_sayRest_301 (by decide) (fun h301 => ?_) (fun h301 => absurd (by decide) h301)
        replace h301 := (lg_cmp_lt _ _).mp h301
        exact ru_to (sr_un hL hK hκ h0 m2 (by omega)) ⟨rfl, rfl, trivial⟩
      · skip
        replace h234 := fun q => h234 ((lg_cmp_ge _ _).mpr q)
        replace h234 := nl_nle (a := 0) (b := b) (by omega) (by omega) h234
        exfalso; omega
  | some a =>
    cases hi with
    | none =>
      have hb : a ≤ 1000000000000 := he
      have h9' : ml 404 (K + 9) = -1 := h9
      have m1 := hm.app (no10_w 13)
      have l1 : (l ++ 32 :: rx_tx 13).length = l.length + 6 := List.length_append
      have m2 := m1.app (no10_d a)
      have l2 : (l ++ 32 :: rx_tx 13 ++ 32 :: dec a).length ≤ l.length + 20 := by
        rw [List.length_append, l1, List.length_cons]
        have := dec_len a
        omega
      have ew : l ++ wEnd (some a, none) = l ++ 32 :: rx_tx 13 ++ 32 :: dec a := (List.append_assoc _ _ _).symm
      rw [ew]
      refine ru_aload_n d_Mo_sayRest_208 rfl rfl ?_
      refine ru_getR d_Mo_sayRest_209 lf_Mo_27 (ly hL 398 9 0) rfl (lr hL 398 8 404) ?_
      refine ru_iload_n d_Mo_sayRest_212 rfl rfl ?_
      refine ru_bipush (v := 8) d_Mo_sayRest_213 (by decide) ?_
      refine ru_iadd d_Mo_sayRest_215 ?_
      refine ru_eqi (nm_add K 8 : _ = nI (K + 8)) ?_
      refine ru_laldN (j := (K + 8)) d_Mo_sayRest_216 (ly hL 404 104 1440) (by omega) (by decide) ?_
      refine ru_eql h8 ?_
      refine ru_lstore d_Mo_sayRest_217 (by decide) ?_
      refine ru_aload_n d_Mo_sayRest_219 rfl rfl ?_
      refine ru_getR d_Mo_sayRest_220 lf_Mo_27 (ly hL 398 9 0) rfl (lr hL 398 8 404) ?_
      refine ru_iload_n d_Mo_sayRest_223 rfl rfl ?_
      refine ru_bipush (v := 9) d_Mo_sayRest_224 (by decide) ?_
      refine ru_iadd d_Mo_sayRest_226 ?_
      refine ru_eqi (nm_add K 9 : _ = nI (K + 9)) ?_
      refine ru_laldN (j := (K + 9)) d_Mo_sayRest_227 (ly hL 404 104 1440) (by omega) (by decide) ?_
      refine ru_eql h9' ?_
      refine ru_lstore d_Mo_sayRest_228 (by decide) ?_
      refine ru_lload d_Mo_sayRest_230 rfl ?_
      refine ru_lconst (v := 0) d_Mo_sayRest_232 (by decide) ?_
      refine ru_lcmp d_Mo_sayRest_233 ?_
      refine ru_if_ge (tgt := 254) d_Mo_sayRest_234 (by decide) (fun h234 => absurd h234 (by decide)) (fun h234 => ?_)
      replace h234 := fun q => h234 ((lg_cmp_ge _ _).mpr q)
      refine ru_aload_n d_Mo_sayRest_237 rfl rfl ?_
      refine ru_bipush (v := 12) d_Mo_sayRest_238 (by decide) ?_
      refine ru_iconst (v := 5) d_Mo_sayRest_240 (by decide) ?_
      refine ru_iconst (v := 1) d_Mo_sayRest_241 (by decide) ?_
      refine ru_bipush (v := 19) d_Mo_sayRest_242 (by decide) ?_
      refine ru_bipush (v := 20) d_Mo_sayRest_244 (by decide) ?_
      refine ru_iconst (v := 0) d_Mo_sayRest_246 (by decide) ?_
      refine ru_iconst (v := 0) d_Mo_sayRest_247 (by decide) ?_
      refine ru_callS (mc := 0) (ms := 0) d_Mo_sayRest_248 lm_Mo_68 (sp_Mo_word 12 5 1 19 20 0 0 _) (by decide) rfl (Nat.le_of_ble_eq_true rfl) ?_
      intro v τ h
      obtain ⟨rfl, rfl⟩ := h
      refine ru_callV (mc := 0) (ms := 0) d_Mo_sayRest_251 lm_Mo_223 (sq_sayWord hL wv_13 (by omega) hm) (rx_recv_is (ly hL 398 9 0) kx_Mo) (by decide) rfl (Nat.le_of_ble_eq_true rfl) ?_
      rintro v τ ⟨rfl, rfl⟩
      refine ru_lload d_Mo_sayRest_254 rfl ?_
      refine ru_lconst (v := 0) d_Mo_sayRest_256 (by decide) ?_
      refine ru_lcmp d_Mo_sayRest_257 ?_
      refine ru_if_ge (tgt := 279) d_Mo_sayRest_258 (by decide) (fun h258 => ?_) (fun h258 => ?_)
      · skip
        replace h258 := (lg_cmp_ge _ _).mp h258
        replace h258 := nl_le (a := 0) (b := a) (by omega) (by omega) h258
        refine ru_aload_n d_Mo_sayRest_279 rfl rfl ?_
        refine ru_lload d_Mo_sayRest_280 rfl ?_
        refine ru_lconst (v := 0) d_Mo_sayRest_282 (by decide) ?_
        refine ru_lcmp d_Mo_sayRest_283 ?_
        refine ru_if_ge (tgt := 292) d_Mo_sayRest_284 (by decide) (fun h284 => ?_) (fun h284 => ?_)
        · skip
          replace h284 := (lg_cmp_ge _ _).mp h284
          replace h284 := nl_le (a := 0) (b := a) (by omega) (by omega) h284
          refine ru_lload d_Mo_sayRest_292 rfl ?_
          refine ru_callV (mc := 0) (ms := 0) d_Mo_sayRest_294 lm_Mo_236 (sq_sayNumber hL hb (by omega)) (rx_recv_is (ly hL 398 9 0) kx_Mo) (by decide) rfl (Nat.le_of_ble_eq_true rfl) ?_
          rintro v τ ⟨rfl, rfl⟩
          refine ru_lload d_Mo_sayRest_297 rfl ?_
          refine ru_lconst (v := 0) d_Mo_sayRest_299 (by decide) ?_
          refine ru_lcmp d_Mo_sayRest_300 ?_
          refine ru_if_lt (tgt := 325) d_Mo_sayRest_301 (by decide) (fun h301 => ?_) (fun h301 => ?_)
          · skip
            replace h301 := (lg_cmp_lt _ _).mp h301
            replace h301 := nl_lt (a := a) (b := 0) (by omega) (by omega) h301
            first | (exfalso; omega) | exact ru_to (sr_un hL hK hκ h0 m2 (by omega)) ⟨rfl, rfl, trivial⟩
          · skip
            replace h301 := fun q => h301 ((lg_cmp_lt _ _).mpr q)
            replace h301 := nl_nlt (a := a) (b := 0) (by omega) (by omega) h301
            refine ru_lload d_Mo_sayRest_304 rfl ?_
            refine ru_lload d_Mo_sayRest_306 rfl ?_
            refine ru_lcmp d_Mo_sayRest_308 ?_
            refine ru_if_le (tgt := 325) d_Mo_sayRest_309 (by decide) (fun h309 => ?_) (fun h309 => absurd h309 (fun z => z ((lg_cmp_le _ _).mpr (nl_m1 (by omega)))))
            replace h309 := (lg_cmp_le _ _).mp h309
            first | (exfalso; omega) | exact ru_to (sr_un hL hK hκ h0 m2 (by omega)) ⟨rfl, rfl, trivial⟩
        · skip
          replace h284 := fun q => h284 ((lg_cmp_ge _ _).mpr q)
          replace h284 := nl_nle (a := 0) (b := a) (by omega) (by omega) h284
          exfalso; omega
      · skip
        replace h258 := fun q => h258 ((lg_cmp_ge _ _).mpr q)
        replace h258 := nl_nle (a := 0) (b := a) (by omega) (by omega) h258
        exfalso; omega
    | some b =>
      have hb : a ≤ b ∧ b ≤ 1000000000000 := he
      have m2 := hm.app (no10_d a)
      have l2 : (l ++ 32 :: dec a).length ≤ l.length + 14 := by
        rw [List.length_append, List.length_cons]
        have := dec_len a
        omega
      have m3 := m2.app (no10_w 15)
      have l3 : (l ++ 32 :: dec a ++ 32 :: rx_tx 15).length ≤ l.length + 17 := by
        rw [List.length_append (bs := 32 :: rx_tx 15)]
        show (l ++ 32 :: dec a).length + 3 ≤ _
        omega
      have m4 := m3.app (no10_d b)
      have l4 : (l ++ 32 :: dec a ++ 32 :: rx_tx 15 ++ 32 :: dec b).length ≤ l.length + 31 := by
        rw [List.length_append (bs := 32 :: dec b), List.length_cons]
        have := dec_len b
        omega
      have ew : l ++ wEnd (some a, some b) = l ++ 32 :: dec a ++ (if a < b then (32 :: rx_tx 15) ++ 32 :: dec b else []) := (List.append_assoc _ _ _).symm
      rw [ew]
      by_cases hab : a < b
      · rw [if_pos hab, ← List.append_assoc (l ++ 32 :: dec a)]
        refine ru_aload_n d_Mo_sayRest_208 rfl rfl ?_
        refine ru_getR d_Mo_sayRest_209 lf_Mo_27 (ly hL 398 9 0) rfl (lr hL 398 8 404) ?_
        refine ru_iload_n d_Mo_sayRest_212 rfl rfl ?_
        refine ru_bipush (v := 8) d_Mo_sayRest_213 (by decide) ?_
        refine ru_iadd d_Mo_sayRest_215 ?_
        refine ru_eqi (nm_add K 8 : _ = nI (K + 8)) ?_
        refine ru_laldN (j := (K + 8)) d_Mo_sayRest_216 (ly hL 404 104 1440) (by omega) (by decide) ?_
        refine ru_eql h8 ?_
        refine ru_lstore d_Mo_sayRest_217 (by decide) ?_
        refine ru_aload_n d_Mo_sayRest_219 rfl rfl ?_
        refine ru_getR d_Mo_sayRest_220 lf_Mo_27 (ly hL 398 9 0) rfl (lr hL 398 8 404) ?_
        refine ru_iload_n d_Mo_sayRest_223 rfl rfl ?_
        refine ru_bipush (v := 9) d_Mo_sayRest_224 (by decide) ?_
        refine ru_iadd d_Mo_sayRest_226 ?_
        refine ru_eqi (nm_add K 9 : _ = nI (K + 9)) ?_
        refine ru_laldN (j := (K + 9)) d_Mo_sayRest_227 (ly hL 404 104 1440) (by omega) (by decide) ?_
        refine ru_eql h9 ?_
        refine ru_lstore d_Mo_sayRest_228 (by decide) ?_
        refine ru_lload d_Mo_sayRest_230 rfl ?_
        refine ru_lconst (v := 0) d_Mo_sayRest_232 (by decide) ?_
        refine ru_lcmp d_Mo_sayRest_233 ?_
        refine ru_if_ge (tgt := 254) d_Mo_sayRest_234 (by decide) (fun h234 => ?_) (fun h234 => ?_)
        · skip
          replace h234 := (lg_cmp_ge _ _).mp h234
          replace h234 := nl_le (a := 0) (b := b) (by omega) (by omega) h234
          refine ru_lload d_Mo_sayRest_254 rfl ?_
          refine ru_lconst (v := 0) d_Mo_sayRest_256 (by decide) ?_
          refine ru_lcmp d_Mo_sayRest_257 ?_
          refine ru_if_ge (tgt := 279) d_Mo_sayRest_258 (by decide) (fun h258 => ?_) (fun h258 => ?_)
          · skip
            replace h258 := (lg_cmp_ge _ _).mp h258
            replace h258 := nl_le (a := 0) (b := a) (by omega) (by omega) h258
            refine ru_aload_n d_Mo_sayRest_279 rfl rfl ?_
            refine ru_lload d_Mo_sayRest_280 rfl ?_
            refine ru_lconst (v := 0) d_Mo_sayRest_282 (by decide) ?_
            refine ru_lcmp d_Mo_sayRest_283 ?_
            refine ru_if_ge (tgt := 292) d_Mo_sayRest_284 (by decide) (fun h284 => ?_) (fun h284 => ?_)
            · skip
              replace h284 := (lg_cmp_ge _ _).mp h284
              replace h284 := nl_le (a := 0) (b := a) (by omega) (by omega) h284
              refine ru_lload d_Mo_sayRest_292 rfl ?_
              refine ru_callV (mc := 0) (ms := 0) d_Mo_sayRest_294 lm_Mo_236 (sq_sayNumber hL (show a ≤ 1000000000000 by omega) (by omega)) (rx_recv_is (ly hL 398 9 0) kx_Mo) (by decide) rfl (Nat.le_of_ble_eq_true rfl) ?_
              rintro v τ ⟨rfl, rfl⟩
              refine ru_lload d_Mo_sayRest_297 rfl ?_
              refine ru_lconst (v := 0) d_Mo_sayRest_299 (by decide) ?_
              refine ru_lcmp d_Mo_sayRest_300 ?_
              refine ru_if_lt (tgt := 325) d_Mo_sayRest_301 (by decide) (fun h301 => ?_) (fun h301 => ?_)
              · skip
                replace h301 := (lg_cmp_lt _ _).mp h301
                replace h301 := nl_lt (a := a) (b := 0) (by omega) (by omega) h301
                first | (exfalso; omega) | exact ru_to (sr_un hL hK hκ h0 m4 (by omega)) ⟨rfl, rfl, trivial⟩
              · skip
                replace h301 := fun q => h301 ((lg_cmp_lt _ _).mpr q)
                replace h301 := nl_nlt (a := a) (b := 0) (by omega) (by omega) h301
                refine ru_lload d_Mo_sayRest_304 rfl ?_
                refine ru_lload d_Mo_sayRest_306 rfl ?_
                refine ru_lcmp d_Mo_sayRest_308 ?_
                refine ru_if_le (tgt := 325) d_Mo_sayRest_309 (by decide) (fun h309 => ?_) (fun h309 => ?_)
                · skip
                  replace h309 := (lg_cmp_le _ _).mp h309
                  replace h309 := nl_le (a := b) (b := a) (by omega) (by omega) h309
                  first | (exfalso; omega) | exact ru_to (sr_un hL hK hκ h0 m4 (by omega)) ⟨rfl, rfl, trivial⟩
                · skip
                  replace h309 := fun q => h309 ((lg_cmp_le _ _).mpr q)
                  replace h309 := nl_nle (a := b) (b := a) (by omega) (by omega) h309
                  refine ru_aload_n d_Mo_sayRest_312 rfl rfl ?_
                  refine ru_ldc2 d_Mo_sayRest_313 lc_Mo_149 ?_
                  refine ru_callV (mc := 0) (ms := 0) d_Mo_sayRest_316 lm_Mo_223 (sq_sayWord hL wv_15 (by omega) m2) (rx_recv_is (ly hL 398 9 0) kx_Mo) (by decide) rfl (Nat.le_of_ble_eq_true rfl) ?_
                  rintro v τ ⟨rfl, rfl⟩
                  refine ru_aload_n d_Mo_sayRest_319 rfl rfl ?_
                  refine ru_lload d_Mo_sayRest_320 rfl ?_
                  refine ru_callV (mc := 0) (ms := 0) d_Mo_sayRest_322 lm_Mo_236 (sq_sayNumber hL hb.2 (by omega)) (rx_recv_is (ly hL 398 9 0) kx_Mo) (by decide) rfl (Nat.le_of_ble_eq_true rfl) ?_
                  rintro v τ ⟨rfl, rfl⟩
                  first | (exfalso; omega) | exact ru_to (sr_un hL hK hκ h0 m4 (by omega)) ⟨rfl, rfl, trivial⟩
            · skip
              replace h284 := fun q => h284 ((lg_cmp_ge _ _).mpr q)
              replace h284 := nl_nle (a := 0) (b := a) (by omega) (by omega) h284
              exfalso; omega
          · skip
            replace h258 := fun q => h258 ((lg_cmp_ge _ _).mpr q)
            replace h258 := nl_nle (a := 0) (b := a) (by omega) (by omega) h258
            exfalso; omega
        · skip
          replace h234 := fun q => h234 ((lg_cmp_ge _ _).mpr q)
          replace h234 := nl_nle (a := 0) (b := b) (by omega) (by omega) h234
          exfalso; omega
      · rw [if_neg hab, List.append_nil]
        refine ru_aload_n d_Mo_sayRest_208 rfl rfl ?_
        refine ru_getR d_Mo_sayRest_209 lf_Mo_27 (ly hL 398 9 0) rfl (lr hL 398 8 404) ?_
        refine ru_iload_n d_Mo_sayRest_212 rfl rfl ?_
        refine ru_bipush (v := 8) d_Mo_sayRest_213 (by decide) ?_
        refine ru_iadd d_Mo_sayRest_215 ?_
        refine ru_eqi (nm_add K 8 : _ = nI (K + 8)) ?_
        refine ru_laldN (j := (K + 8)) d_Mo_sayRest_216 (ly hL 404 104 1440) (by omega) (by decide) ?_
        refine ru_eql h8 ?_
        refine ru_lstore d_Mo_sayRest_217 (by decide) ?_
        refine ru_aload_n d_Mo_sayRest_219 rfl rfl ?_
        refine ru_getR d_Mo_sayRest_220 lf_Mo_27 (ly hL 398 9 0) rfl (lr hL 398 8 404) ?_
        refine ru_iload_n d_Mo_sayRest_223 rfl rfl ?_
        refine ru_bipush (v := 9) d_Mo_sayRest_224 (by decide) ?_
        refine ru_iadd d_Mo_sayRest_226 ?_
        refine ru_eqi (nm_add K 9 : _ = nI (K + 9)) ?_
        refine ru_laldN (j := (K + 9)) d_Mo_sayRest_227 (ly hL 404 104 1440) (by omega) (by decide) ?_
        refine ru_eql h9 ?_
        refine ru_lstore d_Mo_sayRest_228 (by decide) ?_
        refine ru_lload d_Mo_sayRest_230 rfl ?_
        refine ru_lconst (v := 0) d_Mo_sayRest_232 (by decide) ?_
        refine ru_lcmp d_Mo_sayRest_233 ?_
        refine ru_if_ge (tgt := 254) d_Mo_sayRest_234 (by decide) (fun h234 => ?_) (fun h234 => ?_)
        · skip
          replace h234 := (lg_cmp_ge _ _).mp h234
          replace h234 := nl_le (a := 0) (b := b) (by omega) (by omega) h234
          refine ru_lload d_Mo_sayRest_254 rfl ?_
          refine ru_lconst (v := 0) d_Mo_sayRest_256 (by decide) ?_
          refine ru_lcmp d_Mo_sayRest_257 ?_
          refine ru_if_ge (tgt := 279) d_Mo_sayRest_258 (by decide) (fun h258 => ?_) (fun h258 => ?_)
          · skip
            replace h258 := (lg_cmp_ge _ _).mp h258
            replace h258 := nl_le (a := 0) (b := a) (by omega) (by omega) h258
            refine ru_aload_n d_Mo_sayRest_279 rfl rfl ?_
            refine ru_lload d_Mo_sayRest_280 rfl ?_
            refine ru_lconst (v := 0) d_Mo_sayRest_282 (by decide) ?_
            refine ru_lcmp d_Mo_sayRest_283 ?_
            refine ru_if_ge (tgt := 292) d_Mo_sayRest_284 (by decide) (fun h284 => ?_) (fun h284 => ?_)
            · skip
              replace h284 := (lg_cmp_ge _ _).mp h284
              replace h284 := nl_le (a := 0) (b := a) (by omega) (by omega) h284
              refine ru_lload d_Mo_sayRest_292 rfl ?_
              refine ru_callV (mc := 0) (ms := 0) d_Mo_sayRest_294 lm_Mo_236 (sq_sayNumber hL (show a ≤ 1000000000000 by omega) (by omega)) (rx_recv_is (ly hL 398 9 0) kx_Mo) (by decide) rfl (Nat.le_of_ble_eq_true rfl) ?_
              rintro v τ ⟨rfl, rfl⟩
              refine ru_lload d_Mo_sayRest_297 rfl ?_
              refine ru_lconst (v := 0) d_Mo_sayRest_299 (by decide) ?_
              refine ru_lcmp d_Mo_sayRest_300 ?_
              refine ru_if_lt (tgt := 325) d_Mo_sayRest_301 (by decide) (fun h301 => ?_) (fun h301 => ?_)
              · skip
                replace h301 := (lg_cmp_lt _ _).mp h301
                replace h301 := nl_lt (a := a) (b := 0) (by omega) (by omega) h301
                first | (exfalso; omega) | exact ru_to (sr_un hL hK hκ h0 m2 (by omega)) ⟨rfl, rfl, trivial⟩
              · skip
                replace h301 := fun q => h301 ((lg_cmp_lt _ _).mpr q)
                replace h301 := nl_nlt (a := a) (b := 0) (by omega) (by omega) h301
                refine ru_lload d_Mo_sayRest_304 rfl ?_
                refine ru_lload d_Mo_sayRest_306 rfl ?_
                refine ru_lcmp d_Mo_sayRest_308 ?_
                refine ru_if_le (tgt := 325) d_Mo_sayRest_309 (by decide) (fun h309 => ?_) (fun h309 => ?_)
                · skip
                  replace h309 := (lg_cmp_le _ _).mp h309
                  replace h309 := nl_le (a := b) (b := a) (by omega) (by omega) h309
                  first | (exfalso; omega) | exact ru_to (sr_un hL hK hκ h0 m2 (by omega)) ⟨rfl, rfl, trivial⟩
                · skip
                  replace h309 := fun q => h309 ((lg_cmp_le _ _).mpr q)
                  replace h309 := nl_nle (a := b) (b := a) (by omega) (by omega) h309
                  exfalso; omega
            · skip
              replace h284 := fun q => h284 ((lg_cmp_ge _ _).mpr q)
              replace h284 := nl_nle (a := 0) (b := a) (by omega) (by omega) h284
              exfalso; omega
          · skip
            replace h258 := fun q => h258 ((lg_cmp_ge _ _).mpr q)
            replace h258 := nl_nle (a := 0) (b := a) (by omega) (by omega) h258
            exfalso; omega
        · skip
          replace h234 := fun q => h234 ((lg_cmp_ge _ _).mpr q)
          replace h234 := nl_nle (a := 0) (b := b) (by omega) (by omega) h234
          exfalso; omega
theorem sr_rank {K κ r : Nat} {e : Option Nat × Option Nat} (hL : LAY nx ct mr) (hK : K + 12 ≤ 1440) (hκ : κ < 13) (h0 : ml 404 K = Int64.ofNat κ) (h7 : ml 404 (K + 7) = Int64.ofNat r) (hr : r ≤ 99) (h8 : ml 404 (K + 8) = oL e.1) (h9 : ml 404 (K + 9) = oL e.2) (he : endsOK e) (hm : mid l) (hl : l.length + 70 < 9000) : rx_W M_Mo_sayRest 2 0 0 164 [(0, .ref 398), (1, .int (nI K))] [] (nx, ct, mO m0 l, ml, mr) (pR (dn nx ct m0 ml mr (l ++ (wRnk r ++ (wEnd e ++ wUn κ))))) := by
  rw [← List.append_assoc]
  unfold wRnk
  by_cases h : r = 0
  · rw [if_pos h, List.append_nil]
    refine ru_aload_n d_Mo_sayRest_164 rfl rfl ?_
    refine ru_getR d_Mo_sayRest_165 lf_Mo_27 (ly hL 398 9 0) rfl (lr hL 398 8 404) ?_
    refine ru_iload_n d_Mo_sayRest_168 rfl rfl ?_
    refine ru_bipush (v := 7) d_Mo_sayRest_169 (by decide) ?_
    refine ru_iadd d_Mo_sayRest_171 ?_
    refine ru_eqi (nm_add K 7 : _ = nI (K + 7)) ?_
    refine ru_laldN (j := (K + 7)) d_Mo_sayRest_172 (ly hL 404 104 1440) (by omega) (by decide) ?_
    refine ru_eql h7 ?_
    refine ru_lconst (v := 0) d_Mo_sayRest_173 (by decide) ?_
    refine ru_lcmp d_Mo_sayRest_174 ?_
    refine ru_if_le (tgt := 208) d_Mo_sayRest_175 (by decide) (fun h175 => ?_) (fun h175 => ?_)
    · skip
      replace h175 := (lg_cmp_le _ _).mp h175
      replace h175 := nl_le (a := r) (b := 0) (by omega) (by omega) h175
      exact ru_to (sr_end hL hK hκ h0 h8 h9 he hm (by omega)) ⟨rfl, rfl, trivial⟩
    · skip
      replace h175 := fun q => h175 ((lg_cmp_le _ _).mpr q)
      replace h175 := nl_nle (a := r) (b := 0) (by omega) (by omega) h175
      exfalso; omega
  · rw [if_neg h, ← List.append_assoc l]
    have m1 := hm.app (no10_w 12)
    have l1 : (l ++ 32 :: rx_tx 12).length = l.length + 5 := List.length_append
    have m2 := m1.app (no10_d r)
    have l2 : (l ++ 32 :: rx_tx 12 ++ 32 :: dec r).length ≤ l.length + 19 := by
      rw [List.length_append, l1, List.length_cons]
      have := dec_len r
      omega
    refine ru_aload_n d_Mo_sayRest_164 rfl rfl ?_
    refine ru_getR d_Mo_sayRest_165 lf_Mo_27 (ly hL 398 9 0) rfl (lr hL 398 8 404) ?_
    refine ru_iload_n d_Mo_sayRest_168 rfl rfl ?_
    refine ru_bipush (v := 7) d_Mo_sayRest_169 (by decide) ?_
    refine ru_iadd d_Mo_sayRest_171 ?_
    refine ru_eqi (nm_add K 7 : _ = nI (K + 7)) ?_
    refine ru_laldN (j := (K + 7)) d_Mo_sayRest_172 (ly hL 404 104 1440) (by omega) (by decide) ?_
    refine ru_eql h7 ?_
    refine ru_lconst (v := 0) d_Mo_sayRest_173 (by decide) ?_
    refine ru_lcmp d_Mo_sayRest_174 ?_
    refine ru_if_le (tgt := 208) d_Mo_sayRest_175 (by decide) (fun h175 => ?_) (fun h175 => ?_)
    · skip
      replace h175 := (lg_cmp_le _ _).mp h175
      replace h175 := nl_le (a := r) (b := 0) (by omega) (by omega) h175
      first | (exfalso; omega) | exact ru_to (sr_end hL hK hκ h0 h8 h9 he m2 (by omega)) ⟨rfl, rfl, trivial⟩
    · skip
      replace h175 := fun q => h175 ((lg_cmp_le _ _).mpr q)
      replace h175 := nl_nle (a := r) (b := 0) (by omega) (by omega) h175
      refine ru_aload_n d_Mo_sayRest_178 rfl rfl ?_
      refine ru_bipush (v := 18) d_Mo_sayRest_179 (by decide) ?_
      refine ru_iconst (v := 1) d_Mo_sayRest_181 (by decide) ?_
      refine ru_bipush (v := 14) d_Mo_sayRest_182 (by decide) ?_
      refine ru_bipush (v := 11) d_Mo_sayRest_184 (by decide) ?_
      refine ru_iconst (v := 0) d_Mo_sayRest_186 (by decide) ?_
      refine ru_iconst (v := 0) d_Mo_sayRest_187 (by decide) ?_
      refine ru_iconst (v := 0) d_Mo_sayRest_188 (by decide) ?_
      refine ru_callS (mc := 0) (ms := 0) d_Mo_sayRest_189 lm_Mo_68 (sp_Mo_word 18 1 14 11 0 0 0 _) (by decide) rfl (Nat.le_of_ble_eq_true rfl) ?_
      intro v τ h
      obtain ⟨rfl, rfl⟩ := h
      refine ru_callV (mc := 0) (ms := 0) d_Mo_sayRest_192 lm_Mo_223 (sq_sayWord hL wv_12 (by omega) hm) (rx_recv_is (ly hL 398 9 0) kx_Mo) (by decide) rfl (Nat.le_of_ble_eq_true rfl) ?_
      rintro v τ ⟨rfl, rfl⟩
      refine ru_aload_n d_Mo_sayRest_195 rfl rfl ?_
      refine ru_aload_n d_Mo_sayRest_196 rfl rfl ?_
      refine ru_getR d_Mo_sayRest_197 lf_Mo_27 (ly hL 398 9 0) rfl (lr hL 398 8 404) ?_
      refine ru_iload_n d_Mo_sayRest_200 rfl rfl ?_
      refine ru_bipush (v := 7) d_Mo_sayRest_201 (by decide) ?_
      refine ru_iadd d_Mo_sayRest_203 ?_
      refine ru_eqi (nm_add K 7 : _ = nI (K + 7)) ?_
      refine ru_laldN (j := (K + 7)) d_Mo_sayRest_204 (ly hL 404 104 1440) (by omega) (by decide) ?_
      refine ru_eql h7 ?_
      refine ru_callV (mc := 0) (ms := 0) d_Mo_sayRest_205 lm_Mo_236 (sq_sayNumber hL (show r ≤ 1000000000000 by omega) (by omega)) (rx_recv_is (ly hL 398 9 0) kx_Mo) (by decide) rfl (Nat.le_of_ble_eq_true rfl) ?_
      rintro v τ ⟨rfl, rfl⟩
      first | (exfalso; omega) | exact ru_to (sr_end hL hK hκ h0 h8 h9 he m2 (by omega)) ⟨rfl, rfl, trivial⟩
theorem sr_area {N : nmS} {K κ r : Nat} {a : Option Nat} {e : Option Nat × Option Nat} (hL : LAY nx ct mr) (hN : NmM N m0) (hO : NmOK N) (hK : K + 12 ≤ 1440) (hκ : κ < 13) (h0 : ml 404 K = Int64.ofNat κ) (h6 : ml 404 (K + 6) = (oR a).toInt64) (ha : ∀ x, a = some x → x < 16) (h7 : ml 404 (K + 7) = Int64.ofNat r) (hr : r ≤ 99) (h8 : ml 404 (K + 8) = oL e.1) (h9 : ml 404 (K + 9) = oL e.2) (he : endsOK e) (hm : mid l) (hl : l.length + 83 < 9000) : rx_W M_Mo_sayRest 2 0 0 129 [(0, .ref 398), (1, .int (nI K))] [] (nx, ct, mO m0 l, ml, mr) (pR (dn nx ct m0 ml mr (l ++ (wAre N a ++ (wRnk r ++ (wEnd e ++ wUn κ)))))) := by
  rw [← List.append_assoc]
  cases a with
  | none =>
    have h6' : ml 404 (K + 6) = (-1 : Int32).toInt64 := h6
    rw [show l ++ wAre N none = l from List.append_nil l]
    refine ru_aload_n d_Mo_sayRest_129 rfl rfl ?_
    refine ru_getR d_Mo_sayRest_130 lf_Mo_27 (ly hL 398 9 0) rfl (lr hL 398 8 404) ?_
    refine ru_iload_n d_Mo_sayRest_133 rfl rfl ?_
    refine ru_bipush (v := 6) d_Mo_sayRest_134 (by decide) ?_
    refine ru_iadd d_Mo_sayRest_136 ?_
    refine ru_eqi (nm_add K 6 : _ = nI (K + 6)) ?_
    refine ru_laldN (j := (K + 6)) d_Mo_sayRest_137 (ly hL 404 104 1440) (by omega) (by decide) ?_
    refine ru_eql h6' ?_
    refine ru_lconst (v := 0) d_Mo_sayRest_138 (by decide) ?_
    refine ru_lcmp d_Mo_sayRest_139 ?_
    refine ru_if_lt (tgt := 164) d_Mo_sayRest_140 (by decide) (fun h140 => ?_) (fun h140 => absurd (by decide) h140)
    replace h140 := (lg_cmp_lt _ _).mp h140
    exact ru_to (sr_rank hL hK hκ h0 h7 hr h8 h9 he hm (by omega)) ⟨rfl, rfl, trivial⟩
  | some x =>
    have hx := ha x rfl
    have h6' : ml 404 (K + 6) = Int64.ofNat x := h6.trans (nl_i2l (by omega))
    rw [show l ++ wAre N (some x) = l ++ 32 :: rx_tx 11 ++ 32 :: nameL N (32 + x) from (List.append_assoc _ _ _).symm]
    have m1 := hm.app (no10_w 11)
    have l1 : (l ++ 32 :: rx_tx 11).length = l.length + 3 := List.length_append
    have m2 := m1.app (no10_n hO (show 32 + x < 48 by omega))
    have l2 : (l ++ 32 :: rx_tx 11 ++ 32 :: nameL N (32 + x)).length ≤ l.length + 12 := by
      rw [List.length_append, l1, List.length_cons]
      have := name_len hO (show 32 + x < 48 by omega)
      omega
    have hM := sq_sayName (ml := ml) (l := l ++ 32 :: rx_tx 11) (a := 2) (b := x) hL hN (by omega) (by omega) (by omega)
    rw [show 16 * 2 + x = 32 + x by omega] at hM
    refine ru_aload_n d_Mo_sayRest_129 rfl rfl ?_
    refine ru_getR d_Mo_sayRest_130 lf_Mo_27 (ly hL 398 9 0) rfl (lr hL 398 8 404) ?_
    refine ru_iload_n d_Mo_sayRest_133 rfl rfl ?_
    refine ru_bipush (v := 6) d_Mo_sayRest_134 (by decide) ?_
    refine ru_iadd d_Mo_sayRest_136 ?_
    refine ru_eqi (nm_add K 6 : _ = nI (K + 6)) ?_
    refine ru_laldN (j := (K + 6)) d_Mo_sayRest_137 (ly hL 404 104 1440) (by omega) (by decide) ?_
    refine ru_eql h6' ?_
    refine ru_lconst (v := 0) d_Mo_sayRest_138 (by decide) ?_
    refine ru_lcmp d_Mo_sayRest_139 ?_
    refine ru_if_lt (tgt := 164) d_Mo_sayRest_140 (by decide) (fun h140 => ?_) (fun h140 => ?_)
    · skip
      replace h140 := (lg_cmp_lt _ _).mp h140
      replace h140 := nl_lt (a := x) (b := 0) (by omega) (by omega) h140
      first | (exfalso; omega) | exact ru_to (sr_rank hL hK hκ h0 h7 hr h8 h9 he m2 (by omega)) ⟨rfl, rfl, trivial⟩
    · skip
      replace h140 := fun q => h140 ((lg_cmp_lt _ _).mpr q)
      replace h140 := nl_nlt (a := x) (b := 0) (by omega) (by omega) h140
      refine ru_aload_n d_Mo_sayRest_143 rfl rfl ?_
      refine ru_ldc2 d_Mo_sayRest_144 lc_Mo_175 ?_
      refine ru_callV (mc := 0) (ms := 0) d_Mo_sayRest_147 lm_Mo_223 (sq_sayWord hL wv_11 (by omega) hm) (rx_recv_is (ly hL 398 9 0) kx_Mo) (by decide) rfl (Nat.le_of_ble_eq_true rfl) ?_
      rintro v τ ⟨rfl, rfl⟩
      refine ru_aload_n d_Mo_sayRest_150 rfl rfl ?_
      refine ru_iconst (v := 2) d_Mo_sayRest_151 (by decide) ?_
      refine ru_aload_n d_Mo_sayRest_152 rfl rfl ?_
      refine ru_getR d_Mo_sayRest_153 lf_Mo_27 (ly hL 398 9 0) rfl (lr hL 398 8 404) ?_
      refine ru_iload_n d_Mo_sayRest_156 rfl rfl ?_
      refine ru_bipush (v := 6) d_Mo_sayRest_157 (by decide) ?_
      refine ru_iadd d_Mo_sayRest_159 ?_
      refine ru_eqi (nm_add K 6 : _ = nI (K + 6)) ?_
      refine ru_laldN (j := (K + 6)) d_Mo_sayRest_160 (ly hL 404 104 1440) (by omega) (by decide) ?_
      refine ru_eql h6' ?_
      refine ru_callV (mc := 0) (ms := 0) d_Mo_sayRest_161 lm_Mo_226 hM (rx_recv_is (ly hL 398 9 0) kx_Mo) (by decide) rfl (Nat.le_of_ble_eq_true rfl) ?_
      rintro v τ ⟨rfl, rfl⟩
      first | (exfalso; omega) | exact ru_to (sr_rank hL hK hκ h0 h7 hr h8 h9 he m2 (by omega)) ⟨rfl, rfl, trivial⟩
theorem sq_sayRest {N : nmS} {K κ : Nat} {q : reS} (hL : LAY nx ct mr) (hN : NmM N m0) (hO : NmOK N) (hK : K + 12 ≤ 1440) (hκ : κ < 13) (h0 : ml 404 K = Int64.ofNat κ) (hq : reI ml K q) (hl5 : q.1 ≤ 35) (ha : ∀ x, q.2.1 = some x → x < 16) (hr : q.2.2.1 ≤ 99) (he : endsOK q.2.2.2) (hm : mid l) (hl : l.length + 107 < 9000) : rx_Calls y_Mo_sayRest M_Mo_sayRest 2 0 0 [.ref 398, .int (nI K)] (nx, ct, mO m0 l, ml, mr) (dn nx ct m0 ml mr (l ++ wRes N κ q)) := by
  refine rx_enter (by decide) rfl rfl (Nat.le_of_ble_eq_true rfl) ?_
  obtain ⟨y, a, r, e⟩ := q
  obtain ⟨h5, h6, h7, h8, h9⟩ := hq
  dsimp only at h5 h6 h7 h8 h9 hl5 ha hr he
  unfold wRes
  rw [← List.append_assoc]
  dsimp only
  have A := fun (l : List Int32) (hm : mid l) (hl : l.length + 83 < 9000) => sr_area (l := l) (m0 := m0) hL hN hO hK hκ h0 h6 ha h7 hr h8 h9 he hm hl
  unfold wLay
  have m6 := hm.app (no10_w 6)
  have l6 : (l ++ 32 :: rx_tx 6).length = l.length + 3 := List.length_append
  by_cases c0 : y = 0
  · rw [if_pos c0, List.append_nil]
    refine ru_aload_n d_Mo_sayRest_0 rfl rfl ?_
    refine ru_getR d_Mo_sayRest_1 lf_Mo_27 (ly hL 398 9 0) rfl (lr hL 398 8 404) ?_
    refine ru_iload_n d_Mo_sayRest_4 rfl rfl ?_
    refine ru_iconst (v := 5) d_Mo_sayRest_5 (by decide) ?_
    refine ru_iadd d_Mo_sayRest_6 ?_
    refine ru_eqi (nm_add K 5 : _ = nI (K + 5)) ?_
    refine ru_laldN (j := (K + 5)) d_Mo_sayRest_7 (ly hL 404 104 1440) (by omega) (by decide) ?_
    refine ru_eql h5 ?_
    refine ru_lstore_n d_Mo_sayRest_8 rfl (by decide) ?_
    refine ru_lload_n d_Mo_sayRest_9 rfl rfl ?_
    refine ru_lconst (v := 0) d_Mo_sayRest_10 (by decide) ?_
    refine ru_lcmp d_Mo_sayRest_11 ?_
    refine ru_if_le (tgt := 129) d_Mo_sayRest_12 (by decide) (fun h12 => ?_) (fun h12 => ?_)
    · skip
      replace h12 := (lg_cmp_le _ _).mp h12
      replace h12 := nl_le (a := y) (b := 0) (by omega) (by omega) h12
      exact ru_to (A _ hm (by omega)) ⟨rfl, rfl, trivial⟩
    · skip
      replace h12 := fun q => h12 ((lg_cmp_le _ _).mpr q)
      replace h12 := nl_nle (a := y) (b := 0) (by omega) (by omega) h12
      exfalso; omega
  · rw [if_neg c0, ← List.append_assoc l]
    by_cases c1 : y = 1
    · rw [if_pos c1]
      subst c1
      have m7 := m6.app (no10_w 8)
      have l7 : (l ++ 32 :: rx_tx 6 ++ 32 :: rx_tx 8).length = l.length + 7 := by rw [List.length_append, l6]; rfl
      refine ru_aload_n d_Mo_sayRest_0 rfl rfl ?_
      refine ru_getR d_Mo_sayRest_1 lf_Mo_27 (ly hL 398 9 0) rfl (lr hL 398 8 404) ?_
      refine ru_iload_n d_Mo_sayRest_4 rfl rfl ?_
      refine ru_iconst (v := 5) d_Mo_sayRest_5 (by decide) ?_
      refine ru_iadd d_Mo_sayRest_6 ?_
      refine ru_eqi (nm_add K 5 : _ = nI (K + 5)) ?_
      refine ru_laldN (j := (K + 5)) d_Mo_sayRest_7 (ly hL 404 104 1440) (by omega) (by decide) ?_
      refine ru_eql h5 ?_
      refine ru_lstore_n d_Mo_sayRest_8 rfl (by decide) ?_
      refine ru_lload_n d_Mo_sayRest_9 rfl rfl ?_
      refine ru_lconst (v := 0) d_Mo_sayRest_10 (by decide) ?_
      refine ru_lcmp d_Mo_sayRest_11 ?_
      refine ru_if_le (tgt := 129) d_Mo_sayRest_12 (by decide) (fun h12 => absurd h12 (by decide)) (fun h12 => ?_)
      refine ru_aload_n d_Mo_sayRest_15 rfl rfl ?_
      refine ru_ldc2 d_Mo_sayRest_16 lc_Mo_104 ?_
      refine ru_callV (mc := 0) (ms := 0) d_Mo_sayRest_19 lm_Mo_223 (sq_sayWord hL wv_6 (by omega) hm) (rx_recv_is (ly hL 398 9 0) kx_Mo) (by decide) rfl (Nat.le_of_ble_eq_true rfl) ?_
      rintro v τ ⟨rfl, rfl⟩
      refine ru_aload_n d_Mo_sayRest_22 rfl rfl ?_
      refine ru_lload_n d_Mo_sayRest_23 rfl rfl ?_
      refine ru_lconst (v := 1) d_Mo_sayRest_24 (by decide) ?_
      refine ru_lcmp d_Mo_sayRest_25 ?_
      refine ru_if_ne (tgt := 45) d_Mo_sayRest_26 (by decide) (fun h26 => absurd h26 (by decide)) (fun h26 => ?_)
      refine ru_bipush (v := 20) d_Mo_sayRest_29 (by decide) ?_
      refine ru_bipush (v := 15) d_Mo_sayRest_31 (by decide) ?_
      refine ru_bipush (v := 16) d_Mo_sayRest_33 (by decide) ?_
      refine ru_iconst (v := 0) d_Mo_sayRest_35 (by decide) ?_
      refine ru_iconst (v := 0) d_Mo_sayRest_36 (by decide) ?_
      refine ru_iconst (v := 0) d_Mo_sayRest_37 (by decide) ?_
      refine ru_iconst (v := 0) d_Mo_sayRest_38 (by decide) ?_
      refine ru_callS (mc := 0) (ms := 0) d_Mo_sayRest_39 lm_Mo_68 (sp_Mo_word 20 15 16 0 0 0 0 _) (by decide) rfl (Nat.le_of_ble_eq_true rfl) ?_
      intro v τ h
      obtain ⟨rfl, rfl⟩ := h
      refine ru_goto (tgt := 109) d_Mo_sayRest_42 (by decide) ?_
      refine ru_callV (mc := 0) (ms := 0) d_Mo_sayRest_109 lm_Mo_223 (sq_sayWord hL wv_8 (by omega) m6) (rx_recv_is (ly hL 398 9 0) kx_Mo) (by decide) rfl (Nat.le_of_ble_eq_true rfl) ?_
      rintro v τ ⟨rfl, rfl⟩
      refine ru_lload_n d_Mo_sayRest_112 rfl rfl ?_
      refine ru_ldc2 d_Mo_sayRest_113 lc_Mo_108 ?_
      refine ru_lcmp d_Mo_sayRest_116 ?_
      refine ru_if_le (tgt := 129) d_Mo_sayRest_117 (by decide) (fun h117 => ?_) (fun h117 => absurd h117 (by decide))
      exact ru_to (A _ m7 (by omega)) ⟨rfl, rfl, trivial⟩
    · rw [if_neg c1]
      by_cases c2 : y = 2
      · rw [if_pos c2]
        subst c2
        have m7 := m6.app (no10_w 9)
        have l7 : (l ++ 32 :: rx_tx 6 ++ 32 :: rx_tx 9).length = l.length + 10 := by rw [List.length_append, l6]; rfl
        refine ru_aload_n d_Mo_sayRest_0 rfl rfl ?_
        refine ru_getR d_Mo_sayRest_1 lf_Mo_27 (ly hL 398 9 0) rfl (lr hL 398 8 404) ?_
        refine ru_iload_n d_Mo_sayRest_4 rfl rfl ?_
        refine ru_iconst (v := 5) d_Mo_sayRest_5 (by decide) ?_
        refine ru_iadd d_Mo_sayRest_6 ?_
        refine ru_eqi (nm_add K 5 : _ = nI (K + 5)) ?_
        refine ru_laldN (j := (K + 5)) d_Mo_sayRest_7 (ly hL 404 104 1440) (by omega) (by decide) ?_
        refine ru_eql h5 ?_
        refine ru_lstore_n d_Mo_sayRest_8 rfl (by decide) ?_
        refine ru_lload_n d_Mo_sayRest_9 rfl rfl ?_
        refine ru_lconst (v := 0) d_Mo_sayRest_10 (by decide) ?_
        refine ru_lcmp d_Mo_sayRest_11 ?_
        refine ru_if_le (tgt := 129) d_Mo_sayRest_12 (by decide) (fun h12 => absurd h12 (by decide)) (fun h12 => ?_)
        refine ru_aload_n d_Mo_sayRest_15 rfl rfl ?_
        refine ru_ldc2 d_Mo_sayRest_16 lc_Mo_104 ?_
        refine ru_callV (mc := 0) (ms := 0) d_Mo_sayRest_19 lm_Mo_223 (sq_sayWord hL wv_6 (by omega) hm) (rx_recv_is (ly hL 398 9 0) kx_Mo) (by decide) rfl (Nat.le_of_ble_eq_true rfl) ?_
        rintro v τ ⟨rfl, rfl⟩
        refine ru_aload_n d_Mo_sayRest_22 rfl rfl ?_
        refine ru_lload_n d_Mo_sayRest_23 rfl rfl ?_
        refine ru_lconst (v := 1) d_Mo_sayRest_24 (by decide) ?_
        refine ru_lcmp d_Mo_sayRest_25 ?_
        refine ru_if_ne (tgt := 45) d_Mo_sayRest_26 (by decide) (fun h26 => ?_) (fun h26 => absurd h26 (by decide))
        refine ru_lload_n d_Mo_sayRest_45 rfl rfl ?_
        refine ru_ldc2 d_Mo_sayRest_46 lc_Mo_106 ?_
        refine ru_lcmp d_Mo_sayRest_49 ?_
        refine ru_if_ne (tgt := 71) d_Mo_sayRest_50 (by decide) (fun h50 => absurd h50 (by decide)) (fun h50 => ?_)
        refine ru_iconst (v := 2) d_Mo_sayRest_53 (by decide) ?_
        refine ru_bipush (v := 15) d_Mo_sayRest_54 (by decide) ?_
        refine ru_bipush (v := 20) d_Mo_sayRest_56 (by decide) ?_
        refine ru_bipush (v := 20) d_Mo_sayRest_58 (by decide) ?_
        refine ru_bipush (v := 15) d_Mo_sayRest_60 (by decide) ?_
        refine ru_bipush (v := 13) d_Mo_sayRest_62 (by decide) ?_
        refine ru_iconst (v := 0) d_Mo_sayRest_64 (by decide) ?_
        refine ru_callS (mc := 0) (ms := 0) d_Mo_sayRest_65 lm_Mo_68 (sp_Mo_word 2 15 20 20 15 13 0 _) (by decide) rfl (Nat.le_of_ble_eq_true rfl) ?_
        intro v τ h
        obtain ⟨rfl, rfl⟩ := h
        refine ru_goto (tgt := 109) d_Mo_sayRest_68 (by decide) ?_
        refine ru_callV (mc := 0) (ms := 0) d_Mo_sayRest_109 lm_Mo_223 (sq_sayWord hL wv_9 (by omega) m6) (rx_recv_is (ly hL 398 9 0) kx_Mo) (by decide) rfl (Nat.le_of_ble_eq_true rfl) ?_
        rintro v τ ⟨rfl, rfl⟩
        refine ru_lload_n d_Mo_sayRest_112 rfl rfl ?_
        refine ru_ldc2 d_Mo_sayRest_113 lc_Mo_108 ?_
        refine ru_lcmp d_Mo_sayRest_116 ?_
        refine ru_if_le (tgt := 129) d_Mo_sayRest_117 (by decide) (fun h117 => ?_) (fun h117 => absurd h117 (by decide))
        exact ru_to (A _ m7 (by omega)) ⟨rfl, rfl, trivial⟩
      · rw [if_neg c2]
        by_cases c3 : y = 3
        · rw [if_pos c3]
          subst c3
          have m7 := m6.app (no10_w 10)
          have l7 : (l ++ 32 :: rx_tx 6 ++ 32 :: rx_tx 10).length = l.length + 9 := by rw [List.length_append, l6]; rfl
          refine ru_aload_n d_Mo_sayRest_0 rfl rfl ?_
          refine ru_getR d_Mo_sayRest_1 lf_Mo_27 (ly hL 398 9 0) rfl (lr hL 398 8 404) ?_
          refine ru_iload_n d_Mo_sayRest_4 rfl rfl ?_
          refine ru_iconst (v := 5) d_Mo_sayRest_5 (by decide) ?_
          refine ru_iadd d_Mo_sayRest_6 ?_
          refine ru_eqi (nm_add K 5 : _ = nI (K + 5)) ?_
          refine ru_laldN (j := (K + 5)) d_Mo_sayRest_7 (ly hL 404 104 1440) (by omega) (by decide) ?_
          refine ru_eql h5 ?_
          refine ru_lstore_n d_Mo_sayRest_8 rfl (by decide) ?_
          refine ru_lload_n d_Mo_sayRest_9 rfl rfl ?_
          refine ru_lconst (v := 0) d_Mo_sayRest_10 (by decide) ?_
          refine ru_lcmp d_Mo_sayRest_11 ?_
          refine ru_if_le (tgt := 129) d_Mo_sayRest_12 (by decide) (fun h12 => absurd h12 (by decide)) (fun h12 => ?_)
          refine ru_aload_n d_Mo_sayRest_15 rfl rfl ?_
          refine ru_ldc2 d_Mo_sayRest_16 lc_Mo_104 ?_
          refine ru_callV (mc := 0) (ms := 0) d_Mo_sayRest_19 lm_Mo_223 (sq_sayWord hL wv_6 (by omega) hm) (rx_recv_is (ly hL 398 9 0) kx_Mo) (by decide) rfl (Nat.le_of_ble_eq_true rfl) ?_
          rintro v τ ⟨rfl, rfl⟩
          refine ru_aload_n d_Mo_sayRest_22 rfl rfl ?_
          refine ru_lload_n d_Mo_sayRest_23 rfl rfl ?_
          refine ru_lconst (v := 1) d_Mo_sayRest_24 (by decide) ?_
          refine ru_lcmp d_Mo_sayRest_25 ?_
          refine ru_if_ne (tgt := 45) d_Mo_sayRest_26 (by decide) (fun h26 => ?_) (fun h26 => absurd h26 (by decide))
          refine ru_lload_n d_Mo_sayRest_45 rfl rfl ?_
          refine ru_ldc2 d_Mo_sayRest_46 lc_Mo_106 ?_
          refine ru_lcmp d_Mo_sayRest_49 ?_
          refine ru_if_ne (tgt := 71) d_Mo_sayRest_50 (by decide) (fun h50 => ?_) (fun h50 => absurd h50 (by decide))
          refine ru_lload_n d_Mo_sayRest_71 rfl rfl ?_
          refine ru_ldc2 d_Mo_sayRest_72 lc_Mo_108 ?_
          refine ru_lcmp d_Mo_sayRest_75 ?_
          refine ru_if_ne (tgt := 96) d_Mo_sayRest_76 (by decide) (fun h76 => absurd h76 (by decide)) (fun h76 => ?_)
          refine ru_bipush (v := 9) d_Mo_sayRest_79 (by decide) ?_
          refine ru_bipush (v := 14) d_Mo_sayRest_81 (by decide) ?_
          refine ru_bipush (v := 14) d_Mo_sayRest_83 (by decide) ?_
          refine ru_iconst (v := 5) d_Mo_sayRest_85 (by decide) ?_
          refine ru_bipush (v := 18) d_Mo_sayRest_86 (by decide) ?_
          refine ru_iconst (v := 0) d_Mo_sayRest_88 (by decide) ?_
          refine ru_iconst (v := 0) d_Mo_sayRest_89 (by decide) ?_
          refine ru_callS (mc := 0) (ms := 0) d_Mo_sayRest_90 lm_Mo_68 (sp_Mo_word 9 14 14 5 18 0 0 _) (by decide) rfl (Nat.le_of_ble_eq_true rfl) ?_
          intro v τ h
          obtain ⟨rfl, rfl⟩ := h
          refine ru_goto (tgt := 109) d_Mo_sayRest_93 (by decide) ?_
          refine ru_callV (mc := 0) (ms := 0) d_Mo_sayRest_109 lm_Mo_223 (sq_sayWord hL wv_10 (by omega) m6) (rx_recv_is (ly hL 398 9 0) kx_Mo) (by decide) rfl (Nat.le_of_ble_eq_true rfl) ?_
          rintro v τ ⟨rfl, rfl⟩
          refine ru_lload_n d_Mo_sayRest_112 rfl rfl ?_
          refine ru_ldc2 d_Mo_sayRest_113 lc_Mo_108 ?_
          refine ru_lcmp d_Mo_sayRest_116 ?_
          refine ru_if_le (tgt := 129) d_Mo_sayRest_117 (by decide) (fun h117 => ?_) (fun h117 => absurd h117 (by decide))
          exact ru_to (A _ m7 (by omega)) ⟨rfl, rfl, trivial⟩
        · rw [if_neg c3, ← List.append_assoc (l ++ 32 :: rx_tx 6)]
          have m7 := m6.app (no10_w 7)
          have l7 : (l ++ 32 :: rx_tx 6 ++ 32 :: rx_tx 7).length = l.length + 9 := by rw [List.length_append, l6]; rfl
          have m8 := m7.app (no10_d (y - 3))
          have l8 : (l ++ 32 :: rx_tx 6 ++ 32 :: rx_tx 7 ++ 32 :: dec (y - 3)).length ≤ l.length + 23 := by
            rw [List.length_append, l7, List.length_cons]
            have := dec_len (y - 3)
            omega
          refine ru_aload_n d_Mo_sayRest_0 rfl rfl ?_
          refine ru_getR d_Mo_sayRest_1 lf_Mo_27 (ly hL 398 9 0) rfl (lr hL 398 8 404) ?_
          refine ru_iload_n d_Mo_sayRest_4 rfl rfl ?_
          refine ru_iconst (v := 5) d_Mo_sayRest_5 (by decide) ?_
          refine ru_iadd d_Mo_sayRest_6 ?_
          refine ru_eqi (nm_add K 5 : _ = nI (K + 5)) ?_
          refine ru_laldN (j := (K + 5)) d_Mo_sayRest_7 (ly hL 404 104 1440) (by omega) (by decide) ?_
          refine ru_eql h5 ?_
          refine ru_lstore_n d_Mo_sayRest_8 rfl (by decide) ?_
          refine ru_lload_n d_Mo_sayRest_9 rfl rfl ?_
          refine ru_lconst (v := 0) d_Mo_sayRest_10 (by decide) ?_
          refine ru_lcmp d_Mo_sayRest_11 ?_
          refine ru_if_le (tgt := 129) d_Mo_sayRest_12 (by decide) (fun h12 => ?_) (fun h12 => ?_)
          · skip
            replace h12 := (lg_cmp_le _ _).mp h12
            replace h12 := nl_le (a := y) (b := 0) (by omega) (by omega) h12
            first | (exfalso; omega) | exact ru_to (A _ m8 (by omega)) ⟨rfl, rfl, trivial⟩
          · skip
            replace h12 := fun q => h12 ((lg_cmp_le _ _).mpr q)
            replace h12 := nl_nle (a := y) (b := 0) (by omega) (by omega) h12
            refine ru_aload_n d_Mo_sayRest_15 rfl rfl ?_
            refine ru_ldc2 d_Mo_sayRest_16 lc_Mo_104 ?_
            refine ru_callV (mc := 0) (ms := 0) d_Mo_sayRest_19 lm_Mo_223 (sq_sayWord hL wv_6 (by omega) hm) (rx_recv_is (ly hL 398 9 0) kx_Mo) (by decide) rfl (Nat.le_of_ble_eq_true rfl) ?_
            rintro v τ ⟨rfl, rfl⟩
            refine ru_aload_n d_Mo_sayRest_22 rfl rfl ?_
            refine ru_lload_n d_Mo_sayRest_23 rfl rfl ?_
            refine ru_lconst (v := 1) d_Mo_sayRest_24 (by decide) ?_
            refine ru_lcmp d_Mo_sayRest_25 ?_
            refine ru_if_ne (tgt := 45) d_Mo_sayRest_26 (by decide) (fun h26 => ?_) (fun h26 => ?_)
            · skip
              replace h26 := fun q => h26 ((lg_cmp_eq _ _).mpr q)
              replace h26 := nl_ne (a := y) (b := 1) (by omega) (by omega) h26
              refine ru_lload_n d_Mo_sayRest_45 rfl rfl ?_
              refine ru_ldc2 d_Mo_sayRest_46 lc_Mo_106 ?_
              refine ru_lcmp d_Mo_sayRest_49 ?_
              refine ru_if_ne (tgt := 71) d_Mo_sayRest_50 (by decide) (fun h50 => ?_) (fun h50 => ?_)
              · skip
                replace h50 := fun q => h50 ((lg_cmp_eq _ _).mpr q)
                replace h50 := nl_ne (a := y) (b := 2) (by omega) (by omega) h50
                refine ru_lload_n d_Mo_sayRest_71 rfl rfl ?_
                refine ru_ldc2 d_Mo_sayRest_72 lc_Mo_108 ?_
                refine ru_lcmp d_Mo_sayRest_75 ?_
                refine ru_if_ne (tgt := 96) d_Mo_sayRest_76 (by decide) (fun h76 => ?_) (fun h76 => ?_)
                · skip
                  replace h76 := fun q => h76 ((lg_cmp_eq _ _).mpr q)
                  replace h76 := nl_ne (a := y) (b := 3) (by omega) (by omega) h76
                  refine ru_bipush (v := 12) d_Mo_sayRest_96 (by decide) ?_
                  refine ru_iconst (v := 1) d_Mo_sayRest_98 (by decide) ?_
                  refine ru_bipush (v := 25) d_Mo_sayRest_99 (by decide) ?_
                  refine ru_iconst (v := 5) d_Mo_sayRest_101 (by decide) ?_
                  refine ru_bipush (v := 18) d_Mo_sayRest_102 (by decide) ?_
                  refine ru_iconst (v := 0) d_Mo_sayRest_104 (by decide) ?_
                  refine ru_iconst (v := 0) d_Mo_sayRest_105 (by decide) ?_
                  refine ru_callS (mc := 0) (ms := 0) d_Mo_sayRest_106 lm_Mo_68 (sp_Mo_word 12 1 25 5 18 0 0 _) (by decide) rfl (Nat.le_of_ble_eq_true rfl) ?_
                  intro v τ h
                  obtain ⟨rfl, rfl⟩ := h
                  refine ru_callV (mc := 0) (ms := 0) d_Mo_sayRest_109 lm_Mo_223 (sq_sayWord hL wv_7 (by omega) m6) (rx_recv_is (ly hL 398 9 0) kx_Mo) (by decide) rfl (Nat.le_of_ble_eq_true rfl) ?_
                  rintro v τ ⟨rfl, rfl⟩
                  refine ru_lload_n d_Mo_sayRest_112 rfl rfl ?_
                  refine ru_ldc2 d_Mo_sayRest_113 lc_Mo_108 ?_
                  refine ru_lcmp d_Mo_sayRest_116 ?_
                  refine ru_if_le (tgt := 129) d_Mo_sayRest_117 (by decide) (fun h117 => ?_) (fun h117 => ?_)
                  · skip
                    replace h117 := (lg_cmp_le _ _).mp h117
                    replace h117 := nl_le (a := y) (b := 3) (by omega) (by omega) h117
                    first | (exfalso; omega) | exact ru_to (A _ m8 (by omega)) ⟨rfl, rfl, trivial⟩
                  · skip
                    replace h117 := fun q => h117 ((lg_cmp_le _ _).mpr q)
                    replace h117 := nl_nle (a := y) (b := 3) (by omega) (by omega) h117
                    refine ru_aload_n d_Mo_sayRest_120 rfl rfl ?_
                    refine ru_lload_n d_Mo_sayRest_121 rfl rfl ?_
                    refine ru_ldc2 d_Mo_sayRest_122 lc_Mo_108 ?_
                    refine ru_lsub d_Mo_sayRest_125 ?_
                    refine ru_eql (nl_sub (a := y) (b := 3) (by omega) : _ = Int64.ofNat (y - 3)) ?_
                    refine ru_callV (mc := 0) (ms := 0) d_Mo_sayRest_126 lm_Mo_236 (sq_sayNumber hL (show y - 3 ≤ 1000000000000 by omega) (by omega)) (rx_recv_is (ly hL 398 9 0) kx_Mo) (by decide) rfl (Nat.le_of_ble_eq_true rfl) ?_
                    rintro v τ ⟨rfl, rfl⟩
                    first | (exfalso; omega) | exact ru_to (A _ m8 (by omega)) ⟨rfl, rfl, trivial⟩
                · skip
                  replace h76 := (lg_cmp_eq _ _).mp h76
                  replace h76 := nl_eq (a := y) (b := 3) (by omega) (by omega) h76
                  exfalso; omega
              · skip
                replace h50 := (lg_cmp_eq _ _).mp h50
                replace h50 := nl_eq (a := y) (b := 2) (by omega) (by omega) h50
                exfalso; omega
            · skip
              replace h26 := (lg_cmp_eq _ _).mp h26
              replace h26 := nl_eq (a := y) (b := 1) (by omega) (by omega) h26
              exfalso; omega
end
