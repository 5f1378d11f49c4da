/-! The law: its code, place by place -/
theorem d_Lw_law_0 : decode M_Lw_law.2.1 0 = .ok (.new 8, 3) := by decide +kernel
theorem d_Lw_law_3 : decode M_Lw_law.2.1 3 = .ok (.dup, 1) := by decide +kernel
theorem d_Lw_law_4 : decode M_Lw_law.2.1 4 = .ok (.invokespecial 40, 3) := by decide +kernel
theorem d_Lw_law_7 : decode M_Lw_law.2.1 7 = .ok (.astore_n 1, 1) := by decide +kernel
theorem d_Lw_law_8 : decode M_Lw_law.2.1 8 = .ok (.new 41, 3) := by decide +kernel
theorem d_Lw_law_11 : decode M_Lw_law.2.1 11 = .ok (.dup, 1) := by decide +kernel
theorem d_Lw_law_12 : decode M_Lw_law.2.1 12 = .ok (.invokespecial 43, 3) := by decide +kernel
theorem d_Lw_law_15 : decode M_Lw_law.2.1 15 = .ok (.astore_n 2, 1) := by decide +kernel
theorem d_Lw_law_16 : decode M_Lw_law.2.1 16 = .ok (.iconst 1, 1) := by decide +kernel
theorem d_Lw_law_17 : decode M_Lw_law.2.1 17 = .ok (.newarray .long, 2) := by decide +kernel
theorem d_Lw_law_19 : decode M_Lw_law.2.1 19 = .ok (.astore_n 3, 1) := by decide +kernel
theorem d_Lw_law_20 : decode M_Lw_law.2.1 20 = .ok (.iconst 0, 1) := by decide +kernel
theorem d_Lw_law_21 : decode M_Lw_law.2.1 21 = .ok (.istore 4, 2) := by decide +kernel
theorem d_Lw_law_23 : decode M_Lw_law.2.1 23 = .ok (.iload 4, 2) := by decide +kernel
theorem d_Lw_law_25 : decode M_Lw_law.2.1 25 = .ok (.aload_n 0, 1) := by decide +kernel
theorem d_Lw_law_26 : decode M_Lw_law.2.1 26 = .ok (.arraylength, 1) := by decide +kernel
theorem d_Lw_law_27 : decode M_Lw_law.2.1 27 = .ok (.bipush 10, 2) := by decide +kernel
theorem d_Lw_law_29 : decode M_Lw_law.2.1 29 = .ok (.isub, 1) := by decide +kernel
theorem d_Lw_law_30 : decode M_Lw_law.2.1 30 = .ok (.if_icmp .gt 876, 3) := by decide +kernel
theorem d_Lw_law_33 : decode M_Lw_law.2.1 33 = .ok (.aload_n 0, 1) := by decide +kernel
theorem d_Lw_law_34 : decode M_Lw_law.2.1 34 = .ok (.iload 4, 2) := by decide +kernel
theorem d_Lw_law_36 : decode M_Lw_law.2.1 36 = .ok (.iaload, 1) := by decide +kernel
theorem d_Lw_law_37 : decode M_Lw_law.2.1 37 = .ok (.bipush 15, 2) := by decide +kernel
theorem d_Lw_law_39 : decode M_Lw_law.2.1 39 = .ok (.iand, 1) := by decide +kernel
theorem d_Lw_law_40 : decode M_Lw_law.2.1 40 = .ok (.tableswitch 860 0 12 #[68, 93, 180, 193, 261, 328, 384, 631, 656, 724, 780, 793, 849], 68) := by decide +kernel
theorem d_Lw_law_108 : decode M_Lw_law.2.1 108 = .ok (.aload_n 1, 1) := by decide +kernel
theorem d_Lw_law_109 : decode M_Lw_law.2.1 109 = .ok (.aload_n 0, 1) := by decide +kernel
theorem d_Lw_law_110 : decode M_Lw_law.2.1 110 = .ok (.iload 4, 2) := by decide +kernel
theorem d_Lw_law_112 : decode M_Lw_law.2.1 112 = .ok (.iconst 1, 1) := by decide +kernel
theorem d_Lw_law_113 : decode M_Lw_law.2.1 113 = .ok (.iadd, 1) := by decide +kernel
theorem d_Lw_law_114 : decode M_Lw_law.2.1 114 = .ok (.iaload, 1) := by decide +kernel
theorem d_Lw_law_115 : decode M_Lw_law.2.1 115 = .ok (.invokevirtual 44, 3) := by decide +kernel
theorem d_Lw_law_118 : decode M_Lw_law.2.1 118 = .ok (.aload_n 2, 1) := by decide +kernel
theorem d_Lw_law_119 : decode M_Lw_law.2.1 119 = .ok (.aload_n 0, 1) := by decide +kernel
theorem d_Lw_law_120 : decode M_Lw_law.2.1 120 = .ok (.iload 4, 2) := by decide +kernel
theorem d_Lw_law_122 : decode M_Lw_law.2.1 122 = .ok (.iconst 1, 1) := by decide +kernel
theorem d_Lw_law_123 : decode M_Lw_law.2.1 123 = .ok (.iadd, 1) := by decide +kernel
theorem d_Lw_law_124 : decode M_Lw_law.2.1 124 = .ok (.iaload, 1) := by decide +kernel
theorem d_Lw_law_125 : decode M_Lw_law.2.1 125 = .ok (.invokevirtual 48, 3) := by decide +kernel
theorem d_Lw_law_128 : decode M_Lw_law.2.1 128 = .ok (.if_icmp .eq 772, 3) := by decide +kernel
theorem d_Lw_law_131 : decode M_Lw_law.2.1 131 = .ok (.iconst 0, 1) := by decide +kernel
theorem d_Lw_law_132 : decode M_Lw_law.2.1 132 = .ok (.ireturn, 1) := by decide +kernel
theorem d_Lw_law_133 : decode M_Lw_law.2.1 133 = .ok (.aload_n 1, 1) := by decide +kernel
theorem d_Lw_law_134 : decode M_Lw_law.2.1 134 = .ok (.aload_n 0, 1) := by decide +kernel
theorem d_Lw_law_135 : decode M_Lw_law.2.1 135 = .ok (.iload 4, 2) := by decide +kernel
theorem d_Lw_law_137 : decode M_Lw_law.2.1 137 = .ok (.iconst 1, 1) := by decide +kernel
theorem d_Lw_law_138 : decode M_Lw_law.2.1 138 = .ok (.iadd, 1) := by decide +kernel
theorem d_Lw_law_139 : decode M_Lw_law.2.1 139 = .ok (.iaload, 1) := by decide +kernel
theorem d_Lw_law_140 : decode M_Lw_law.2.1 140 = .ok (.aload_n 0, 1) := by decide +kernel
theorem d_Lw_law_141 : decode M_Lw_law.2.1 141 = .ok (.iload 4, 2) := by decide +kernel
theorem d_Lw_law_143 : decode M_Lw_law.2.1 143 = .ok (.iconst 2, 1) := by decide +kernel
theorem d_Lw_law_144 : decode M_Lw_law.2.1 144 = .ok (.iadd, 1) := by decide +kernel
theorem d_Lw_law_145 : decode M_Lw_law.2.1 145 = .ok (.iaload, 1) := by decide +kernel
theorem d_Lw_law_146 : decode M_Lw_law.2.1 146 = .ok (.aload_n 0, 1) := by decide +kernel
theorem d_Lw_law_147 : decode M_Lw_law.2.1 147 = .ok (.iload 4, 2) := by decide +kernel
theorem d_Lw_law_149 : decode M_Lw_law.2.1 149 = .ok (.iconst 3, 1) := by decide +kernel
theorem d_Lw_law_150 : decode M_Lw_law.2.1 150 = .ok (.iadd, 1) := by decide +kernel
theorem d_Lw_law_151 : decode M_Lw_law.2.1 151 = .ok (.iaload, 1) := by decide +kernel
theorem d_Lw_law_152 : decode M_Lw_law.2.1 152 = .ok (.aload_n 3, 1) := by decide +kernel
theorem d_Lw_law_153 : decode M_Lw_law.2.1 153 = .ok (.invokestatic 49, 3) := by decide +kernel
theorem d_Lw_law_156 : decode M_Lw_law.2.1 156 = .ok (.istore 5, 2) := by decide +kernel
theorem d_Lw_law_158 : decode M_Lw_law.2.1 158 = .ok (.aload_n 2, 1) := by decide +kernel
theorem d_Lw_law_159 : decode M_Lw_law.2.1 159 = .ok (.aload_n 0, 1) := by decide +kernel
theorem d_Lw_law_160 : decode M_Lw_law.2.1 160 = .ok (.iload 4, 2) := by decide +kernel
theorem d_Lw_law_162 : decode M_Lw_law.2.1 162 = .ok (.iconst 1, 1) := by decide +kernel
theorem d_Lw_law_163 : decode M_Lw_law.2.1 163 = .ok (.iadd, 1) := by decide +kernel
theorem d_Lw_law_164 : decode M_Lw_law.2.1 164 = .ok (.iaload, 1) := by decide +kernel
theorem d_Lw_law_165 : decode M_Lw_law.2.1 165 = .ok (.aload_n 0, 1) := by decide +kernel
theorem d_Lw_law_166 : decode M_Lw_law.2.1 166 = .ok (.iload 4, 2) := by decide +kernel
theorem d_Lw_law_168 : decode M_Lw_law.2.1 168 = .ok (.iconst 2, 1) := by decide +kernel
theorem d_Lw_law_169 : decode M_Lw_law.2.1 169 = .ok (.iadd, 1) := by decide +kernel
theorem d_Lw_law_170 : decode M_Lw_law.2.1 170 = .ok (.iaload, 1) := by decide +kernel
theorem d_Lw_law_171 : decode M_Lw_law.2.1 171 = .ok (.aload_n 0, 1) := by decide +kernel
theorem d_Lw_law_172 : decode M_Lw_law.2.1 172 = .ok (.iload 4, 2) := by decide +kernel
theorem d_Lw_law_174 : decode M_Lw_law.2.1 174 = .ok (.iconst 3, 1) := by decide +kernel
theorem d_Lw_law_175 : decode M_Lw_law.2.1 175 = .ok (.iadd, 1) := by decide +kernel
theorem d_Lw_law_176 : decode M_Lw_law.2.1 176 = .ok (.iaload, 1) := by decide +kernel
theorem d_Lw_law_177 : decode M_Lw_law.2.1 177 = .ok (.invokevirtual 54, 3) := by decide +kernel
theorem d_Lw_law_180 : decode M_Lw_law.2.1 180 = .ok (.istore 6, 2) := by decide +kernel
theorem d_Lw_law_182 : decode M_Lw_law.2.1 182 = .ok (.aload_n 2, 1) := by decide +kernel
theorem d_Lw_law_183 : decode M_Lw_law.2.1 183 = .ok (.invokevirtual 55, 3) := by decide +kernel
theorem d_Lw_law_186 : decode M_Lw_law.2.1 186 = .ok (.iload 5, 2) := by decide +kernel
theorem d_Lw_law_188 : decode M_Lw_law.2.1 188 = .ok (.if_icmp .eq 5, 3) := by decide +kernel
theorem d_Lw_law_191 : decode M_Lw_law.2.1 191 = .ok (.iconst 0, 1) := by decide +kernel
theorem d_Lw_law_192 : decode M_Lw_law.2.1 192 = .ok (.ireturn, 1) := by decide +kernel
theorem d_Lw_law_193 : decode M_Lw_law.2.1 193 = .ok (.iload 5, 2) := by decide +kernel
theorem d_Lw_law_195 : decode M_Lw_law.2.1 195 = .ok (.ifCond .ne 22, 3) := by decide +kernel
theorem d_Lw_law_198 : decode M_Lw_law.2.1 198 = .ok (.aload_n 3, 1) := by decide +kernel
theorem d_Lw_law_199 : decode M_Lw_law.2.1 199 = .ok (.iconst 0, 1) := by decide +kernel
theorem d_Lw_law_200 : decode M_Lw_law.2.1 200 = .ok (.laload, 1) := by decide +kernel
theorem d_Lw_law_201 : decode M_Lw_law.2.1 201 = .ok (.iload 6, 2) := by decide +kernel
theorem d_Lw_law_203 : decode M_Lw_law.2.1 203 = .ok (.ifCond .eq 7, 3) := by decide +kernel
theorem d_Lw_law_206 : decode M_Lw_law.2.1 206 = .ok (.lconst 1, 1) := by decide +kernel
theorem d_Lw_law_207 : decode M_Lw_law.2.1 207 = .ok (.goto 4, 3) := by decide +kernel
theorem d_Lw_law_210 : decode M_Lw_law.2.1 210 = .ok (.lconst 0, 1) := by decide +kernel
theorem d_Lw_law_211 : decode M_Lw_law.2.1 211 = .ok (.lcmp, 1) := by decide +kernel
theorem d_Lw_law_212 : decode M_Lw_law.2.1 212 = .ok (.ifCond .eq 5, 3) := by decide +kernel
theorem d_Lw_law_215 : decode M_Lw_law.2.1 215 = .ok (.iconst 0, 1) := by decide +kernel
theorem d_Lw_law_216 : decode M_Lw_law.2.1 216 = .ok (.ireturn, 1) := by decide +kernel
theorem d_Lw_law_217 : decode M_Lw_law.2.1 217 = .ok (.goto 683, 3) := by decide +kernel
theorem d_Lw_law_220 : decode M_Lw_law.2.1 220 = .ok (.aload_n 1, 1) := by decide +kernel
theorem d_Lw_law_221 : decode M_Lw_law.2.1 221 = .ok (.invokevirtual 59, 3) := by decide +kernel
theorem d_Lw_law_224 : decode M_Lw_law.2.1 224 = .ok (.aload_n 2, 1) := by decide +kernel
theorem d_Lw_law_225 : decode M_Lw_law.2.1 225 = .ok (.invokevirtual 62, 3) := by decide +kernel
theorem d_Lw_law_228 : decode M_Lw_law.2.1 228 = .ok (.if_icmp .eq 672, 3) := by decide +kernel
theorem d_Lw_law_231 : decode M_Lw_law.2.1 231 = .ok (.iconst 0, 1) := by decide +kernel
theorem d_Lw_law_232 : decode M_Lw_law.2.1 232 = .ok (.ireturn, 1) := by decide +kernel
theorem d_Lw_law_233 : decode M_Lw_law.2.1 233 = .ok (.aload_n 1, 1) := by decide +kernel
theorem d_Lw_law_234 : decode M_Lw_law.2.1 234 = .ok (.aload_n 0, 1) := by decide +kernel
theorem d_Lw_law_235 : decode M_Lw_law.2.1 235 = .ok (.iload 4, 2) := by decide +kernel
theorem d_Lw_law_237 : decode M_Lw_law.2.1 237 = .ok (.iconst 1, 1) := by decide +kernel
theorem d_Lw_law_238 : decode M_Lw_law.2.1 238 = .ok (.iadd, 1) := by decide +kernel
theorem d_Lw_law_239 : decode M_Lw_law.2.1 239 = .ok (.iaload, 1) := by decide +kernel
theorem d_Lw_law_240 : decode M_Lw_law.2.1 240 = .ok (.aload_n 0, 1) := by decide +kernel
theorem d_Lw_law_241 : decode M_Lw_law.2.1 241 = .ok (.iload 4, 2) := by decide +kernel
theorem d_Lw_law_243 : decode M_Lw_law.2.1 243 = .ok (.iconst 2, 1) := by decide +kernel
theorem d_Lw_law_244 : decode M_Lw_law.2.1 244 = .ok (.iadd, 1) := by decide +kernel
theorem d_Lw_law_245 : decode M_Lw_law.2.1 245 = .ok (.iaload, 1) := by decide +kernel
theorem d_Lw_law_246 : decode M_Lw_law.2.1 246 = .ok (.aload_n 3, 1) := by decide +kernel
theorem d_Lw_law_247 : decode M_Lw_law.2.1 247 = .ok (.invokestatic 63, 3) := by decide +kernel
theorem d_Lw_law_250 : decode M_Lw_law.2.1 250 = .ok (.istore 5, 2) := by decide +kernel
theorem d_Lw_law_252 : decode M_Lw_law.2.1 252 = .ok (.aload_n 2, 1) := by decide +kernel
theorem d_Lw_law_253 : decode M_Lw_law.2.1 253 = .ok (.aload_n 0, 1) := by decide +kernel
theorem d_Lw_law_254 : decode M_Lw_law.2.1 254 = .ok (.iload 4, 2) := by decide +kernel
theorem d_Lw_law_256 : decode M_Lw_law.2.1 256 = .ok (.iconst 1, 1) := by decide +kernel
theorem d_Lw_law_257 : decode M_Lw_law.2.1 257 = .ok (.iadd, 1) := by decide +kernel
theorem d_Lw_law_258 : decode M_Lw_law.2.1 258 = .ok (.iaload, 1) := by decide +kernel
theorem d_Lw_law_259 : decode M_Lw_law.2.1 259 = .ok (.aload_n 0, 1) := by decide +kernel
theorem d_Lw_law_260 : decode M_Lw_law.2.1 260 = .ok (.iload 4, 2) := by decide +kernel
theorem d_Lw_law_262 : decode M_Lw_law.2.1 262 = .ok (.iconst 2, 1) := by decide +kernel
theorem d_Lw_law_263 : decode M_Lw_law.2.1 263 = .ok (.iadd, 1) := by decide +kernel
theorem d_Lw_law_264 : decode M_Lw_law.2.1 264 = .ok (.iaload, 1) := by decide +kernel
theorem d_Lw_law_265 : decode M_Lw_law.2.1 265 = .ok (.invokevirtual 66, 3) := by decide +kernel
theorem d_Lw_law_268 : decode M_Lw_law.2.1 268 = .ok (.istore 6, 2) := by decide +kernel
theorem d_Lw_law_270 : decode M_Lw_law.2.1 270 = .ok (.aload_n 2, 1) := by decide +kernel
theorem d_Lw_law_271 : decode M_Lw_law.2.1 271 = .ok (.invokevirtual 55, 3) := by decide +kernel
theorem d_Lw_law_274 : decode M_Lw_law.2.1 274 = .ok (.iload 5, 2) := by decide +kernel
theorem d_Lw_law_276 : decode M_Lw_law.2.1 276 = .ok (.if_icmp .eq 5, 3) := by decide +kernel
theorem d_Lw_law_279 : decode M_Lw_law.2.1 279 = .ok (.iconst 0, 1) := by decide +kernel
theorem d_Lw_law_280 : decode M_Lw_law.2.1 280 = .ok (.ireturn, 1) := by decide +kernel
theorem d_Lw_law_281 : decode M_Lw_law.2.1 281 = .ok (.iload 5, 2) := by decide +kernel
theorem d_Lw_law_283 : decode M_Lw_law.2.1 283 = .ok (.ifCond .ne 15, 3) := by decide +kernel
theorem d_Lw_law_286 : decode M_Lw_law.2.1 286 = .ok (.aload_n 3, 1) := by decide +kernel
theorem d_Lw_law_287 : decode M_Lw_law.2.1 287 = .ok (.iconst 0, 1) := by decide +kernel
theorem d_Lw_law_288 : decode M_Lw_law.2.1 288 = .ok (.laload, 1) := by decide +kernel
theorem d_Lw_law_289 : decode M_Lw_law.2.1 289 = .ok (.iload 6, 2) := by decide +kernel
theorem d_Lw_law_291 : decode M_Lw_law.2.1 291 = .ok (.i2l, 1) := by decide +kernel
theorem d_Lw_law_292 : decode M_Lw_law.2.1 292 = .ok (.lcmp, 1) := by decide +kernel
theorem d_Lw_law_293 : decode M_Lw_law.2.1 293 = .ok (.ifCond .eq 5, 3) := by decide +kernel
theorem d_Lw_law_296 : decode M_Lw_law.2.1 296 = .ok (.iconst 0, 1) := by decide +kernel
theorem d_Lw_law_297 : decode M_Lw_law.2.1 297 = .ok (.ireturn, 1) := by decide +kernel
theorem d_Lw_law_298 : decode M_Lw_law.2.1 298 = .ok (.goto 602, 3) := by decide +kernel
theorem d_Lw_law_301 : decode M_Lw_law.2.1 301 = .ok (.aload_n 1, 1) := by decide +kernel
theorem d_Lw_law_302 : decode M_Lw_law.2.1 302 = .ok (.aload_n 0, 1) := by decide +kernel
theorem d_Lw_law_303 : decode M_Lw_law.2.1 303 = .ok (.iload 4, 2) := by decide +kernel
theorem d_Lw_law_305 : decode M_Lw_law.2.1 305 = .ok (.iconst 1, 1) := by decide +kernel
theorem d_Lw_law_306 : decode M_Lw_law.2.1 306 = .ok (.iadd, 1) := by decide +kernel
theorem d_Lw_law_307 : decode M_Lw_law.2.1 307 = .ok (.iaload, 1) := by decide +kernel
theorem d_Lw_law_308 : decode M_Lw_law.2.1 308 = .ok (.aload_n 0, 1) := by decide +kernel
theorem d_Lw_law_309 : decode M_Lw_law.2.1 309 = .ok (.iload 4, 2) := by decide +kernel
theorem d_Lw_law_311 : decode M_Lw_law.2.1 311 = .ok (.iconst 2, 1) := by decide +kernel
theorem d_Lw_law_312 : decode M_Lw_law.2.1 312 = .ok (.iadd, 1) := by decide +kernel
theorem d_Lw_law_313 : decode M_Lw_law.2.1 313 = .ok (.iaload, 1) := by decide +kernel
theorem d_Lw_law_314 : decode M_Lw_law.2.1 314 = .ok (.aload_n 3, 1) := by decide +kernel
theorem d_Lw_law_315 : decode M_Lw_law.2.1 315 = .ok (.invokestatic 67, 3) := by decide +kernel
theorem d_Lw_law_318 : decode M_Lw_law.2.1 318 = .ok (.istore 5, 2) := by decide +kernel
theorem d_Lw_law_320 : decode M_Lw_law.2.1 320 = .ok (.aload_n 2, 1) := by decide +kernel
theorem d_Lw_law_321 : decode M_Lw_law.2.1 321 = .ok (.aload_n 0, 1) := by decide +kernel
theorem d_Lw_law_322 : decode M_Lw_law.2.1 322 = .ok (.iload 4, 2) := by decide +kernel
theorem d_Lw_law_324 : decode M_Lw_law.2.1 324 = .ok (.iconst 1, 1) := by decide +kernel
theorem d_Lw_law_325 : decode M_Lw_law.2.1 325 = .ok (.iadd, 1) := by decide +kernel
theorem d_Lw_law_326 : decode M_Lw_law.2.1 326 = .ok (.iaload, 1) := by decide +kernel
theorem d_Lw_law_327 : decode M_Lw_law.2.1 327 = .ok (.aload_n 0, 1) := by decide +kernel
theorem d_Lw_law_328 : decode M_Lw_law.2.1 328 = .ok (.iload 4, 2) := by decide +kernel
theorem d_Lw_law_330 : decode M_Lw_law.2.1 330 = .ok (.iconst 2, 1) := by decide +kernel
theorem d_Lw_law_331 : decode M_Lw_law.2.1 331 = .ok (.iadd, 1) := by decide +kernel
theorem d_Lw_law_332 : decode M_Lw_law.2.1 332 = .ok (.iaload, 1) := by decide +kernel
theorem d_Lw_law_333 : decode M_Lw_law.2.1 333 = .ok (.invokevirtual 69, 3) := by decide +kernel
theorem d_Lw_law_336 : decode M_Lw_law.2.1 336 = .ok (.lstore 6, 2) := by decide +kernel
theorem d_Lw_law_338 : decode M_Lw_law.2.1 338 = .ok (.aload_n 2, 1) := by decide +kernel
theorem d_Lw_law_339 : decode M_Lw_law.2.1 339 = .ok (.invokevirtual 55, 3) := by decide +kernel
theorem d_Lw_law_342 : decode M_Lw_law.2.1 342 = .ok (.iload 5, 2) := by decide +kernel
theorem d_Lw_law_344 : decode M_Lw_law.2.1 344 = .ok (.if_icmp .eq 5, 3) := by decide +kernel
theorem d_Lw_law_347 : decode M_Lw_law.2.1 347 = .ok (.iconst 0, 1) := by decide +kernel
theorem d_Lw_law_348 : decode M_Lw_law.2.1 348 = .ok (.ireturn, 1) := by decide +kernel
theorem d_Lw_law_349 : decode M_Lw_law.2.1 349 = .ok (.iload 5, 2) := by decide +kernel
theorem d_Lw_law_351 : decode M_Lw_law.2.1 351 = .ok (.ifCond .ne 14, 3) := by decide +kernel
theorem d_Lw_law_354 : decode M_Lw_law.2.1 354 = .ok (.aload_n 3, 1) := by decide +kernel
theorem d_Lw_law_355 : decode M_Lw_law.2.1 355 = .ok (.iconst 0, 1) := by decide +kernel
theorem d_Lw_law_356 : decode M_Lw_law.2.1 356 = .ok (.laload, 1) := by decide +kernel
theorem d_Lw_law_357 : decode M_Lw_law.2.1 357 = .ok (.lload 6, 2) := by decide +kernel
theorem d_Lw_law_359 : decode M_Lw_law.2.1 359 = .ok (.lcmp, 1) := by decide +kernel
theorem d_Lw_law_360 : decode M_Lw_law.2.1 360 = .ok (.ifCond .eq 5, 3) := by decide +kernel
theorem d_Lw_law_363 : decode M_Lw_law.2.1 363 = .ok (.iconst 0, 1) := by decide +kernel
theorem d_Lw_law_364 : decode M_Lw_law.2.1 364 = .ok (.ireturn, 1) := by decide +kernel
theorem d_Lw_law_365 : decode M_Lw_law.2.1 365 = .ok (.goto 535, 3) := by decide +kernel
theorem d_Lw_law_368 : decode M_Lw_law.2.1 368 = .ok (.aload_n 1, 1) := by decide +kernel
theorem d_Lw_law_369 : decode M_Lw_law.2.1 369 = .ok (.aload_n 0, 1) := by decide +kernel
theorem d_Lw_law_370 : decode M_Lw_law.2.1 370 = .ok (.iload 4, 2) := by decide +kernel
theorem d_Lw_law_372 : decode M_Lw_law.2.1 372 = .ok (.iconst 1, 1) := by decide +kernel
theorem d_Lw_law_373 : decode M_Lw_law.2.1 373 = .ok (.iadd, 1) := by decide +kernel
theorem d_Lw_law_374 : decode M_Lw_law.2.1 374 = .ok (.iaload, 1) := by decide +kernel
theorem d_Lw_law_375 : decode M_Lw_law.2.1 375 = .ok (.aload_n 3, 1) := by decide +kernel
theorem d_Lw_law_376 : decode M_Lw_law.2.1 376 = .ok (.invokestatic 70, 3) := by decide +kernel
theorem d_Lw_law_379 : decode M_Lw_law.2.1 379 = .ok (.istore 5, 2) := by decide +kernel
theorem d_Lw_law_381 : decode M_Lw_law.2.1 381 = .ok (.aload_n 2, 1) := by decide +kernel
theorem d_Lw_law_382 : decode M_Lw_law.2.1 382 = .ok (.aload_n 0, 1) := by decide +kernel
theorem d_Lw_law_383 : decode M_Lw_law.2.1 383 = .ok (.iload 4, 2) := by decide +kernel
theorem d_Lw_law_385 : decode M_Lw_law.2.1 385 = .ok (.iconst 1, 1) := by decide +kernel
theorem d_Lw_law_386 : decode M_Lw_law.2.1 386 = .ok (.iadd, 1) := by decide +kernel
theorem d_Lw_law_387 : decode M_Lw_law.2.1 387 = .ok (.iaload, 1) := by decide +kernel
theorem d_Lw_law_388 : decode M_Lw_law.2.1 388 = .ok (.invokevirtual 73, 3) := by decide +kernel
theorem d_Lw_law_391 : decode M_Lw_law.2.1 391 = .ok (.istore 6, 2) := by decide +kernel
theorem d_Lw_law_393 : decode M_Lw_law.2.1 393 = .ok (.aload_n 2, 1) := by decide +kernel
theorem d_Lw_law_394 : decode M_Lw_law.2.1 394 = .ok (.invokevirtual 55, 3) := by decide +kernel
theorem d_Lw_law_397 : decode M_Lw_law.2.1 397 = .ok (.iload 5, 2) := by decide +kernel
theorem d_Lw_law_399 : decode M_Lw_law.2.1 399 = .ok (.if_icmp .eq 5, 3) := by decide +kernel
theorem d_Lw_law_402 : decode M_Lw_law.2.1 402 = .ok (.iconst 0, 1) := by decide +kernel
theorem d_Lw_law_403 : decode M_Lw_law.2.1 403 = .ok (.ireturn, 1) := by decide +kernel
theorem d_Lw_law_404 : decode M_Lw_law.2.1 404 = .ok (.iload 5, 2) := by decide +kernel
theorem d_Lw_law_406 : decode M_Lw_law.2.1 406 = .ok (.ifCond .ne 15, 3) := by decide +kernel
theorem d_Lw_law_409 : decode M_Lw_law.2.1 409 = .ok (.aload_n 3, 1) := by decide +kernel
theorem d_Lw_law_410 : decode M_Lw_law.2.1 410 = .ok (.iconst 0, 1) := by decide +kernel
theorem d_Lw_law_411 : decode M_Lw_law.2.1 411 = .ok (.laload, 1) := by decide +kernel
theorem d_Lw_law_412 : decode M_Lw_law.2.1 412 = .ok (.iload 6, 2) := by decide +kernel
theorem d_Lw_law_414 : decode M_Lw_law.2.1 414 = .ok (.i2l, 1) := by decide +kernel
theorem d_Lw_law_415 : decode M_Lw_law.2.1 415 = .ok (.lcmp, 1) := by decide +kernel
theorem d_Lw_law_416 : decode M_Lw_law.2.1 416 = .ok (.ifCond .eq 5, 3) := by decide +kernel
theorem d_Lw_law_419 : decode M_Lw_law.2.1 419 = .ok (.iconst 0, 1) := by decide +kernel
theorem d_Lw_law_420 : decode M_Lw_law.2.1 420 = .ok (.ireturn, 1) := by decide +kernel
theorem d_Lw_law_421 : decode M_Lw_law.2.1 421 = .ok (.goto 479, 3) := by decide +kernel
theorem d_Lw_law_424 : decode M_Lw_law.2.1 424 = .ok (.aload_n 1, 1) := by decide +kernel
theorem d_Lw_law_425 : decode M_Lw_law.2.1 425 = .ok (.aload_n 0, 1) := by decide +kernel
theorem d_Lw_law_426 : decode M_Lw_law.2.1 426 = .ok (.iload 4, 2) := by decide +kernel
theorem d_Lw_law_428 : decode M_Lw_law.2.1 428 = .ok (.iconst 1, 1) := by decide +kernel
theorem d_Lw_law_429 : decode M_Lw_law.2.1 429 = .ok (.iadd, 1) := by decide +kernel
theorem d_Lw_law_430 : decode M_Lw_law.2.1 430 = .ok (.iaload, 1) := by decide +kernel
theorem d_Lw_law_431 : decode M_Lw_law.2.1 431 = .ok (.aload_n 0, 1) := by decide +kernel
theorem d_Lw_law_432 : decode M_Lw_law.2.1 432 = .ok (.iload 4, 2) := by decide +kernel
theorem d_Lw_law_434 : decode M_Lw_law.2.1 434 = .ok (.iconst 2, 1) := by decide +kernel
theorem d_Lw_law_435 : decode M_Lw_law.2.1 435 = .ok (.iadd, 1) := by decide +kernel
theorem d_Lw_law_436 : decode M_Lw_law.2.1 436 = .ok (.iaload, 1) := by decide +kernel
theorem d_Lw_law_437 : decode M_Lw_law.2.1 437 = .ok (.i2l, 1) := by decide +kernel
theorem d_Lw_law_438 : decode M_Lw_law.2.1 438 = .ok (.bipush 32, 2) := by decide +kernel
theorem d_Lw_law_440 : decode M_Lw_law.2.1 440 = .ok (.lshl, 1) := by decide +kernel
theorem d_Lw_law_441 : decode M_Lw_law.2.1 441 = .ok (.aload_n 0, 1) := by decide +kernel
theorem d_Lw_law_442 : decode M_Lw_law.2.1 442 = .ok (.iload 4, 2) := by decide +kernel
theorem d_Lw_law_444 : decode M_Lw_law.2.1 444 = .ok (.iconst 3, 1) := by decide +kernel
theorem d_Lw_law_445 : decode M_Lw_law.2.1 445 = .ok (.iadd, 1) := by decide +kernel
theorem d_Lw_law_446 : decode M_Lw_law.2.1 446 = .ok (.iaload, 1) := by decide +kernel
theorem d_Lw_law_447 : decode M_Lw_law.2.1 447 = .ok (.i2l, 1) := by decide +kernel
theorem d_Lw_law_448 : decode M_Lw_law.2.1 448 = .ok (.ldc2_w 74, 3) := by decide +kernel
theorem d_Lw_law_451 : decode M_Lw_law.2.1 451 = .ok (.land, 1) := by decide +kernel
theorem d_Lw_law_452 : decode M_Lw_law.2.1 452 = .ok (.lor, 1) := by decide +kernel
theorem d_Lw_law_453 : decode M_Lw_law.2.1 453 = .ok (.aload_n 0, 1) := by decide +kernel
theorem d_Lw_law_454 : decode M_Lw_law.2.1 454 = .ok (.iload 4, 2) := by decide +kernel
theorem d_Lw_law_456 : decode M_Lw_law.2.1 456 = .ok (.iconst 4, 1) := by decide +kernel
theorem d_Lw_law_457 : decode M_Lw_law.2.1 457 = .ok (.iadd, 1) := by decide +kernel
theorem d_Lw_law_458 : decode M_Lw_law.2.1 458 = .ok (.iaload, 1) := by decide +kernel
theorem d_Lw_law_459 : decode M_Lw_law.2.1 459 = .ok (.i2l, 1) := by decide +kernel
theorem d_Lw_law_460 : decode M_Lw_law.2.1 460 = .ok (.bipush 32, 2) := by decide +kernel
theorem d_Lw_law_462 : decode M_Lw_law.2.1 462 = .ok (.lshl, 1) := by decide +kernel
theorem d_Lw_law_463 : decode M_Lw_law.2.1 463 = .ok (.aload_n 0, 1) := by decide +kernel
theorem d_Lw_law_464 : decode M_Lw_law.2.1 464 = .ok (.iload 4, 2) := by decide +kernel
theorem d_Lw_law_466 : decode M_Lw_law.2.1 466 = .ok (.iconst 5, 1) := by decide +kernel
theorem d_Lw_law_467 : decode M_Lw_law.2.1 467 = .ok (.iadd, 1) := by decide +kernel
theorem d_Lw_law_468 : decode M_Lw_law.2.1 468 = .ok (.iaload, 1) := by decide +kernel
theorem d_Lw_law_469 : decode M_Lw_law.2.1 469 = .ok (.i2l, 1) := by decide +kernel
theorem d_Lw_law_470 : decode M_Lw_law.2.1 470 = .ok (.ldc2_w 74, 3) := by decide +kernel
theorem d_Lw_law_473 : decode M_Lw_law.2.1 473 = .ok (.land, 1) := by decide +kernel
theorem d_Lw_law_474 : decode M_Lw_law.2.1 474 = .ok (.lor, 1) := by decide +kernel
theorem d_Lw_law_475 : decode M_Lw_law.2.1 475 = .ok (.aload_n 0, 1) := by decide +kernel
theorem d_Lw_law_476 : decode M_Lw_law.2.1 476 = .ok (.iload 4, 2) := by decide +kernel
theorem d_Lw_law_478 : decode M_Lw_law.2.1 478 = .ok (.bipush 6, 2) := by decide +kernel
theorem d_Lw_law_480 : decode M_Lw_law.2.1 480 = .ok (.iadd, 1) := by decide +kernel
theorem d_Lw_law_481 : decode M_Lw_law.2.1 481 = .ok (.iaload, 1) := by decide +kernel
theorem d_Lw_law_482 : decode M_Lw_law.2.1 482 = .ok (.i2l, 1) := by decide +kernel
theorem d_Lw_law_483 : decode M_Lw_law.2.1 483 = .ok (.bipush 32, 2) := by decide +kernel
theorem d_Lw_law_485 : decode M_Lw_law.2.1 485 = .ok (.lshl, 1) := by decide +kernel
theorem d_Lw_law_486 : decode M_Lw_law.2.1 486 = .ok (.aload_n 0, 1) := by decide +kernel
theorem d_Lw_law_487 : decode M_Lw_law.2.1 487 = .ok (.iload 4, 2) := by decide +kernel
theorem d_Lw_law_489 : decode M_Lw_law.2.1 489 = .ok (.bipush 7, 2) := by decide +kernel
theorem d_Lw_law_491 : decode M_Lw_law.2.1 491 = .ok (.iadd, 1) := by decide +kernel
theorem d_Lw_law_492 : decode M_Lw_law.2.1 492 = .ok (.iaload, 1) := by decide +kernel
theorem d_Lw_law_493 : decode M_Lw_law.2.1 493 = .ok (.i2l, 1) := by decide +kernel
theorem d_Lw_law_494 : decode M_Lw_law.2.1 494 = .ok (.ldc2_w 74, 3) := by decide +kernel
theorem d_Lw_law_497 : decode M_Lw_law.2.1 497 = .ok (.land, 1) := by decide +kernel
theorem d_Lw_law_498 : decode M_Lw_law.2.1 498 = .ok (.lor, 1) := by decide +kernel
theorem d_Lw_law_499 : decode M_Lw_law.2.1 499 = .ok (.aload_n 0, 1) := by decide +kernel
theorem d_Lw_law_500 : decode M_Lw_law.2.1 500 = .ok (.iload 4, 2) := by decide +kernel
theorem d_Lw_law_502 : decode M_Lw_law.2.1 502 = .ok (.bipush 8, 2) := by decide +kernel
theorem d_Lw_law_504 : decode M_Lw_law.2.1 504 = .ok (.iadd, 1) := by decide +kernel
theorem d_Lw_law_505 : decode M_Lw_law.2.1 505 = .ok (.iaload, 1) := by decide +kernel
theorem d_Lw_law_506 : decode M_Lw_law.2.1 506 = .ok (.i2l, 1) := by decide +kernel
theorem d_Lw_law_507 : decode M_Lw_law.2.1 507 = .ok (.bipush 32, 2) := by decide +kernel
theorem d_Lw_law_509 : decode M_Lw_law.2.1 509 = .ok (.lshl, 1) := by decide +kernel
theorem d_Lw_law_510 : decode M_Lw_law.2.1 510 = .ok (.aload_n 0, 1) := by decide +kernel
theorem d_Lw_law_511 : decode M_Lw_law.2.1 511 = .ok (.iload 4, 2) := by decide +kernel
theorem d_Lw_law_513 : decode M_Lw_law.2.1 513 = .ok (.bipush 9, 2) := by decide +kernel
theorem d_Lw_law_515 : decode M_Lw_law.2.1 515 = .ok (.iadd, 1) := by decide +kernel
theorem d_Lw_law_516 : decode M_Lw_law.2.1 516 = .ok (.iaload, 1) := by decide +kernel
theorem d_Lw_law_517 : decode M_Lw_law.2.1 517 = .ok (.i2l, 1) := by decide +kernel
theorem d_Lw_law_518 : decode M_Lw_law.2.1 518 = .ok (.ldc2_w 74, 3) := by decide +kernel
theorem d_Lw_law_521 : decode M_Lw_law.2.1 521 = .ok (.land, 1) := by decide +kernel
theorem d_Lw_law_522 : decode M_Lw_law.2.1 522 = .ok (.lor, 1) := by decide +kernel
theorem d_Lw_law_523 : decode M_Lw_law.2.1 523 = .ok (.aload_n 3, 1) := by decide +kernel
theorem d_Lw_law_524 : decode M_Lw_law.2.1 524 = .ok (.invokestatic 76, 3) := by decide +kernel
theorem d_Lw_law_527 : decode M_Lw_law.2.1 527 = .ok (.istore 5, 2) := by decide +kernel
theorem d_Lw_law_529 : decode M_Lw_law.2.1 529 = .ok (.aload_n 2, 1) := by decide +kernel
theorem d_Lw_law_530 : decode M_Lw_law.2.1 530 = .ok (.aload_n 0, 1) := by decide +kernel
theorem d_Lw_law_531 : decode M_Lw_law.2.1 531 = .ok (.iload 4, 2) := by decide +kernel
theorem d_Lw_law_533 : decode M_Lw_law.2.1 533 = .ok (.iconst 1, 1) := by decide +kernel
theorem d_Lw_law_534 : decode M_Lw_law.2.1 534 = .ok (.iadd, 1) := by decide +kernel
theorem d_Lw_law_535 : decode M_Lw_law.2.1 535 = .ok (.iaload, 1) := by decide +kernel
theorem d_Lw_law_536 : decode M_Lw_law.2.1 536 = .ok (.aload_n 0, 1) := by decide +kernel
theorem d_Lw_law_537 : decode M_Lw_law.2.1 537 = .ok (.iload 4, 2) := by decide +kernel
theorem d_Lw_law_539 : decode M_Lw_law.2.1 539 = .ok (.iconst 2, 1) := by decide +kernel
theorem d_Lw_law_540 : decode M_Lw_law.2.1 540 = .ok (.iadd, 1) := by decide +kernel
theorem d_Lw_law_541 : decode M_Lw_law.2.1 541 = .ok (.iaload, 1) := by decide +kernel
theorem d_Lw_law_542 : decode M_Lw_law.2.1 542 = .ok (.i2l, 1) := by decide +kernel
theorem d_Lw_law_543 : decode M_Lw_law.2.1 543 = .ok (.bipush 32, 2) := by decide +kernel
theorem d_Lw_law_545 : decode M_Lw_law.2.1 545 = .ok (.lshl, 1) := by decide +kernel
theorem d_Lw_law_546 : decode M_Lw_law.2.1 546 = .ok (.aload_n 0, 1) := by decide +kernel
theorem d_Lw_law_547 : decode M_Lw_law.2.1 547 = .ok (.iload 4, 2) := by decide +kernel
theorem d_Lw_law_549 : decode M_Lw_law.2.1 549 = .ok (.iconst 3, 1) := by decide +kernel
theorem d_Lw_law_550 : decode M_Lw_law.2.1 550 = .ok (.iadd, 1) := by decide +kernel
theorem d_Lw_law_551 : decode M_Lw_law.2.1 551 = .ok (.iaload, 1) := by decide +kernel
theorem d_Lw_law_552 : decode M_Lw_law.2.1 552 = .ok (.i2l, 1) := by decide +kernel
theorem d_Lw_law_553 : decode M_Lw_law.2.1 553 = .ok (.ldc2_w 74, 3) := by decide +kernel
theorem d_Lw_law_556 : decode M_Lw_law.2.1 556 = .ok (.land, 1) := by decide +kernel
theorem d_Lw_law_557 : decode M_Lw_law.2.1 557 = .ok (.lor, 1) := by decide +kernel
theorem d_Lw_law_558 : decode M_Lw_law.2.1 558 = .ok (.aload_n 0, 1) := by decide +kernel
theorem d_Lw_law_559 : decode M_Lw_law.2.1 559 = .ok (.iload 4, 2) := by decide +kernel
theorem d_Lw_law_561 : decode M_Lw_law.2.1 561 = .ok (.iconst 4, 1) := by decide +kernel
theorem d_Lw_law_562 : decode M_Lw_law.2.1 562 = .ok (.iadd, 1) := by decide +kernel
theorem d_Lw_law_563 : decode M_Lw_law.2.1 563 = .ok (.iaload, 1) := by decide +kernel
theorem d_Lw_law_564 : decode M_Lw_law.2.1 564 = .ok (.i2l, 1) := by decide +kernel
theorem d_Lw_law_565 : decode M_Lw_law.2.1 565 = .ok (.bipush 32, 2) := by decide +kernel
theorem d_Lw_law_567 : decode M_Lw_law.2.1 567 = .ok (.lshl, 1) := by decide +kernel
theorem d_Lw_law_568 : decode M_Lw_law.2.1 568 = .ok (.aload_n 0, 1) := by decide +kernel
theorem d_Lw_law_569 : decode M_Lw_law.2.1 569 = .ok (.iload 4, 2) := by decide +kernel
theorem d_Lw_law_571 : decode M_Lw_law.2.1 571 = .ok (.iconst 5, 1) := by decide +kernel
theorem d_Lw_law_572 : decode M_Lw_law.2.1 572 = .ok (.iadd, 1) := by decide +kernel
theorem d_Lw_law_573 : decode M_Lw_law.2.1 573 = .ok (.iaload, 1) := by decide +kernel
theorem d_Lw_law_574 : decode M_Lw_law.2.1 574 = .ok (.i2l, 1) := by decide +kernel
theorem d_Lw_law_575 : decode M_Lw_law.2.1 575 = .ok (.ldc2_w 74, 3) := by decide +kernel
theorem d_Lw_law_578 : decode M_Lw_law.2.1 578 = .ok (.land, 1) := by decide +kernel
theorem d_Lw_law_579 : decode M_Lw_law.2.1 579 = .ok (.lor, 1) := by decide +kernel
theorem d_Lw_law_580 : decode M_Lw_law.2.1 580 = .ok (.aload_n 0, 1) := by decide +kernel
theorem d_Lw_law_581 : decode M_Lw_law.2.1 581 = .ok (.iload 4, 2) := by decide +kernel
theorem d_Lw_law_583 : decode M_Lw_law.2.1 583 = .ok (.bipush 6, 2) := by decide +kernel
theorem d_Lw_law_585 : decode M_Lw_law.2.1 585 = .ok (.iadd, 1) := by decide +kernel
theorem d_Lw_law_586 : decode M_Lw_law.2.1 586 = .ok (.iaload, 1) := by decide +kernel
theorem d_Lw_law_587 : decode M_Lw_law.2.1 587 = .ok (.i2l, 1) := by decide +kernel
theorem d_Lw_law_588 : decode M_Lw_law.2.1 588 = .ok (.bipush 32, 2) := by decide +kernel
theorem d_Lw_law_590 : decode M_Lw_law.2.1 590 = .ok (.lshl, 1) := by decide +kernel
theorem d_Lw_law_591 : decode M_Lw_law.2.1 591 = .ok (.aload_n 0, 1) := by decide +kernel
theorem d_Lw_law_592 : decode M_Lw_law.2.1 592 = .ok (.iload 4, 2) := by decide +kernel
theorem d_Lw_law_594 : decode M_Lw_law.2.1 594 = .ok (.bipush 7, 2) := by decide +kernel
theorem d_Lw_law_596 : decode M_Lw_law.2.1 596 = .ok (.iadd, 1) := by decide +kernel
theorem d_Lw_law_597 : decode M_Lw_law.2.1 597 = .ok (.iaload, 1) := by decide +kernel
theorem d_Lw_law_598 : decode M_Lw_law.2.1 598 = .ok (.i2l, 1) := by decide +kernel
theorem d_Lw_law_599 : decode M_Lw_law.2.1 599 = .ok (.ldc2_w 74, 3) := by decide +kernel
theorem d_Lw_law_602 : decode M_Lw_law.2.1 602 = .ok (.land, 1) := by decide +kernel
theorem d_Lw_law_603 : decode M_Lw_law.2.1 603 = .ok (.lor, 1) := by decide +kernel
theorem d_Lw_law_604 : decode M_Lw_law.2.1 604 = .ok (.aload_n 0, 1) := by decide +kernel
theorem d_Lw_law_605 : decode M_Lw_law.2.1 605 = .ok (.iload 4, 2) := by decide +kernel
theorem d_Lw_law_607 : decode M_Lw_law.2.1 607 = .ok (.bipush 8, 2) := by decide +kernel
theorem d_Lw_law_609 : decode M_Lw_law.2.1 609 = .ok (.iadd, 1) := by decide +kernel
theorem d_Lw_law_610 : decode M_Lw_law.2.1 610 = .ok (.iaload, 1) := by decide +kernel
theorem d_Lw_law_611 : decode M_Lw_law.2.1 611 = .ok (.i2l, 1) := by decide +kernel
theorem d_Lw_law_612 : decode M_Lw_law.2.1 612 = .ok (.bipush 32, 2) := by decide +kernel
theorem d_Lw_law_614 : decode M_Lw_law.2.1 614 = .ok (.lshl, 1) := by decide +kernel
theorem d_Lw_law_615 : decode M_Lw_law.2.1 615 = .ok (.aload_n 0, 1) := by decide +kernel
theorem d_Lw_law_616 : decode M_Lw_law.2.1 616 = .ok (.iload 4, 2) := by decide +kernel
theorem d_Lw_law_618 : decode M_Lw_law.2.1 618 = .ok (.bipush 9, 2) := by decide +kernel
theorem d_Lw_law_620 : decode M_Lw_law.2.1 620 = .ok (.iadd, 1) := by decide +kernel
theorem d_Lw_law_621 : decode M_Lw_law.2.1 621 = .ok (.iaload, 1) := by decide +kernel
theorem d_Lw_law_622 : decode M_Lw_law.2.1 622 = .ok (.i2l, 1) := by decide +kernel
theorem d_Lw_law_623 : decode M_Lw_law.2.1 623 = .ok (.ldc2_w 74, 3) := by decide +kernel
theorem d_Lw_law_626 : decode M_Lw_law.2.1 626 = .ok (.land, 1) := by decide +kernel
theorem d_Lw_law_627 : decode M_Lw_law.2.1 627 = .ok (.lor, 1) := by decide +kernel
theorem d_Lw_law_628 : decode M_Lw_law.2.1 628 = .ok (.invokevirtual 79, 3) := by decide +kernel
theorem d_Lw_law_631 : decode M_Lw_law.2.1 631 = .ok (.istore 6, 2) := by decide +kernel
theorem d_Lw_law_633 : decode M_Lw_law.2.1 633 = .ok (.aload_n 2, 1) := by decide +kernel
theorem d_Lw_law_634 : decode M_Lw_law.2.1 634 = .ok (.invokevirtual 55, 3) := by decide +kernel
theorem d_Lw_law_637 : decode M_Lw_law.2.1 637 = .ok (.iload 5, 2) := by decide +kernel
theorem d_Lw_law_639 : decode M_Lw_law.2.1 639 = .ok (.if_icmp .eq 5, 3) := by decide +kernel
theorem d_Lw_law_642 : decode M_Lw_law.2.1 642 = .ok (.iconst 0, 1) := by decide +kernel
theorem d_Lw_law_643 : decode M_Lw_law.2.1 643 = .ok (.ireturn, 1) := by decide +kernel
theorem d_Lw_law_644 : decode M_Lw_law.2.1 644 = .ok (.iload 5, 2) := by decide +kernel
theorem d_Lw_law_646 : decode M_Lw_law.2.1 646 = .ok (.ifCond .ne 22, 3) := by decide +kernel
theorem d_Lw_law_649 : decode M_Lw_law.2.1 649 = .ok (.aload_n 3, 1) := by decide +kernel
theorem d_Lw_law_650 : decode M_Lw_law.2.1 650 = .ok (.iconst 0, 1) := by decide +kernel
theorem d_Lw_law_651 : decode M_Lw_law.2.1 651 = .ok (.laload, 1) := by decide +kernel
theorem d_Lw_law_652 : decode M_Lw_law.2.1 652 = .ok (.iload 6, 2) := by decide +kernel
theorem d_Lw_law_654 : decode M_Lw_law.2.1 654 = .ok (.ifCond .eq 7, 3) := by decide +kernel
theorem d_Lw_law_657 : decode M_Lw_law.2.1 657 = .ok (.lconst 1, 1) := by decide +kernel
theorem d_Lw_law_658 : decode M_Lw_law.2.1 658 = .ok (.goto 4, 3) := by decide +kernel
theorem d_Lw_law_661 : decode M_Lw_law.2.1 661 = .ok (.lconst 0, 1) := by decide +kernel
theorem d_Lw_law_662 : decode M_Lw_law.2.1 662 = .ok (.lcmp, 1) := by decide +kernel
theorem d_Lw_law_663 : decode M_Lw_law.2.1 663 = .ok (.ifCond .eq 5, 3) := by decide +kernel
theorem d_Lw_law_666 : decode M_Lw_law.2.1 666 = .ok (.iconst 0, 1) := by decide +kernel
theorem d_Lw_law_667 : decode M_Lw_law.2.1 667 = .ok (.ireturn, 1) := by decide +kernel
theorem d_Lw_law_668 : decode M_Lw_law.2.1 668 = .ok (.goto 232, 3) := by decide +kernel
theorem d_Lw_law_671 : decode M_Lw_law.2.1 671 = .ok (.aload_n 1, 1) := by decide +kernel
theorem d_Lw_law_672 : decode M_Lw_law.2.1 672 = .ok (.aload_n 0, 1) := by decide +kernel
theorem d_Lw_law_673 : decode M_Lw_law.2.1 673 = .ok (.iload 4, 2) := by decide +kernel
theorem d_Lw_law_675 : decode M_Lw_law.2.1 675 = .ok (.iconst 1, 1) := by decide +kernel
theorem d_Lw_law_676 : decode M_Lw_law.2.1 676 = .ok (.iadd, 1) := by decide +kernel
theorem d_Lw_law_677 : decode M_Lw_law.2.1 677 = .ok (.iaload, 1) := by decide +kernel
theorem d_Lw_law_678 : decode M_Lw_law.2.1 678 = .ok (.invokevirtual 80, 3) := by decide +kernel
theorem d_Lw_law_681 : decode M_Lw_law.2.1 681 = .ok (.aload_n 2, 1) := by decide +kernel
theorem d_Lw_law_682 : decode M_Lw_law.2.1 682 = .ok (.aload_n 0, 1) := by decide +kernel
theorem d_Lw_law_683 : decode M_Lw_law.2.1 683 = .ok (.iload 4, 2) := by decide +kernel
theorem d_Lw_law_685 : decode M_Lw_law.2.1 685 = .ok (.iconst 1, 1) := by decide +kernel
theorem d_Lw_law_686 : decode M_Lw_law.2.1 686 = .ok (.iadd, 1) := by decide +kernel
theorem d_Lw_law_687 : decode M_Lw_law.2.1 687 = .ok (.iaload, 1) := by decide +kernel
theorem d_Lw_law_688 : decode M_Lw_law.2.1 688 = .ok (.invokevirtual 83, 3) := by decide +kernel
theorem d_Lw_law_691 : decode M_Lw_law.2.1 691 = .ok (.if_icmp .eq 209, 3) := by decide +kernel
theorem d_Lw_law_694 : decode M_Lw_law.2.1 694 = .ok (.iconst 0, 1) := by decide +kernel
theorem d_Lw_law_695 : decode M_Lw_law.2.1 695 = .ok (.ireturn, 1) := by decide +kernel
theorem d_Lw_law_696 : decode M_Lw_law.2.1 696 = .ok (.aload_n 1, 1) := by decide +kernel
theorem d_Lw_law_697 : decode M_Lw_law.2.1 697 = .ok (.aload_n 0, 1) := by decide +kernel
theorem d_Lw_law_698 : decode M_Lw_law.2.1 698 = .ok (.iload 4, 2) := by decide +kernel
theorem d_Lw_law_700 : decode M_Lw_law.2.1 700 = .ok (.iconst 1, 1) := by decide +kernel
theorem d_Lw_law_701 : decode M_Lw_law.2.1 701 = .ok (.iadd, 1) := by decide +kernel
theorem d_Lw_law_702 : decode M_Lw_law.2.1 702 = .ok (.iaload, 1) := by decide +kernel
theorem d_Lw_law_703 : decode M_Lw_law.2.1 703 = .ok (.aload_n 0, 1) := by decide +kernel
theorem d_Lw_law_704 : decode M_Lw_law.2.1 704 = .ok (.iload 4, 2) := by decide +kernel
theorem d_Lw_law_706 : decode M_Lw_law.2.1 706 = .ok (.iconst 2, 1) := by decide +kernel
theorem d_Lw_law_707 : decode M_Lw_law.2.1 707 = .ok (.iadd, 1) := by decide +kernel
theorem d_Lw_law_708 : decode M_Lw_law.2.1 708 = .ok (.iaload, 1) := by decide +kernel
theorem d_Lw_law_709 : decode M_Lw_law.2.1 709 = .ok (.aload_n 3, 1) := by decide +kernel
theorem d_Lw_law_710 : decode M_Lw_law.2.1 710 = .ok (.invokestatic 84, 3) := by decide +kernel
theorem d_Lw_law_713 : decode M_Lw_law.2.1 713 = .ok (.istore 5, 2) := by decide +kernel
theorem d_Lw_law_715 : decode M_Lw_law.2.1 715 = .ok (.aload_n 2, 1) := by decide +kernel
theorem d_Lw_law_716 : decode M_Lw_law.2.1 716 = .ok (.aload_n 0, 1) := by decide +kernel
theorem d_Lw_law_717 : decode M_Lw_law.2.1 717 = .ok (.iload 4, 2) := by decide +kernel
theorem d_Lw_law_719 : decode M_Lw_law.2.1 719 = .ok (.iconst 1, 1) := by decide +kernel
theorem d_Lw_law_720 : decode M_Lw_law.2.1 720 = .ok (.iadd, 1) := by decide +kernel
theorem d_Lw_law_721 : decode M_Lw_law.2.1 721 = .ok (.iaload, 1) := by decide +kernel
theorem d_Lw_law_722 : decode M_Lw_law.2.1 722 = .ok (.aload_n 0, 1) := by decide +kernel
theorem d_Lw_law_723 : decode M_Lw_law.2.1 723 = .ok (.iload 4, 2) := by decide +kernel
theorem d_Lw_law_725 : decode M_Lw_law.2.1 725 = .ok (.iconst 2, 1) := by decide +kernel
theorem d_Lw_law_726 : decode M_Lw_law.2.1 726 = .ok (.iadd, 1) := by decide +kernel
theorem d_Lw_law_727 : decode M_Lw_law.2.1 727 = .ok (.iaload, 1) := by decide +kernel
theorem d_Lw_law_728 : decode M_Lw_law.2.1 728 = .ok (.invokevirtual 86, 3) := by decide +kernel
theorem d_Lw_law_731 : decode M_Lw_law.2.1 731 = .ok (.istore 6, 2) := by decide +kernel
theorem d_Lw_law_733 : decode M_Lw_law.2.1 733 = .ok (.aload_n 2, 1) := by decide +kernel
theorem d_Lw_law_734 : decode M_Lw_law.2.1 734 = .ok (.invokevirtual 55, 3) := by decide +kernel
theorem d_Lw_law_737 : decode M_Lw_law.2.1 737 = .ok (.iload 5, 2) := by decide +kernel
theorem d_Lw_law_739 : decode M_Lw_law.2.1 739 = .ok (.if_icmp .eq 5, 3) := by decide +kernel
theorem d_Lw_law_742 : decode M_Lw_law.2.1 742 = .ok (.iconst 0, 1) := by decide +kernel
theorem d_Lw_law_743 : decode M_Lw_law.2.1 743 = .ok (.ireturn, 1) := by decide +kernel
theorem d_Lw_law_744 : decode M_Lw_law.2.1 744 = .ok (.iload 5, 2) := by decide +kernel
theorem d_Lw_law_746 : decode M_Lw_law.2.1 746 = .ok (.ifCond .ne 15, 3) := by decide +kernel
theorem d_Lw_law_749 : decode M_Lw_law.2.1 749 = .ok (.aload_n 3, 1) := by decide +kernel
theorem d_Lw_law_750 : decode M_Lw_law.2.1 750 = .ok (.iconst 0, 1) := by decide +kernel
theorem d_Lw_law_751 : decode M_Lw_law.2.1 751 = .ok (.laload, 1) := by decide +kernel
theorem d_Lw_law_752 : decode M_Lw_law.2.1 752 = .ok (.iload 6, 2) := by decide +kernel
theorem d_Lw_law_754 : decode M_Lw_law.2.1 754 = .ok (.i2l, 1) := by decide +kernel
theorem d_Lw_law_755 : decode M_Lw_law.2.1 755 = .ok (.lcmp, 1) := by decide +kernel
theorem d_Lw_law_756 : decode M_Lw_law.2.1 756 = .ok (.ifCond .eq 5, 3) := by decide +kernel
theorem d_Lw_law_759 : decode M_Lw_law.2.1 759 = .ok (.iconst 0, 1) := by decide +kernel
theorem d_Lw_law_760 : decode M_Lw_law.2.1 760 = .ok (.ireturn, 1) := by decide +kernel
theorem d_Lw_law_761 : decode M_Lw_law.2.1 761 = .ok (.goto 139, 3) := by decide +kernel
theorem d_Lw_law_764 : decode M_Lw_law.2.1 764 = .ok (.aload_n 1, 1) := by decide +kernel
theorem d_Lw_law_765 : decode M_Lw_law.2.1 765 = .ok (.aload_n 0, 1) := by decide +kernel
theorem d_Lw_law_766 : decode M_Lw_law.2.1 766 = .ok (.iload 4, 2) := by decide +kernel
theorem d_Lw_law_768 : decode M_Lw_law.2.1 768 = .ok (.iconst 1, 1) := by decide +kernel
theorem d_Lw_law_769 : decode M_Lw_law.2.1 769 = .ok (.iadd, 1) := by decide +kernel
theorem d_Lw_law_770 : decode M_Lw_law.2.1 770 = .ok (.iaload, 1) := by decide +kernel
theorem d_Lw_law_771 : decode M_Lw_law.2.1 771 = .ok (.aload_n 3, 1) := by decide +kernel
theorem d_Lw_law_772 : decode M_Lw_law.2.1 772 = .ok (.invokestatic 87, 3) := by decide +kernel
theorem d_Lw_law_775 : decode M_Lw_law.2.1 775 = .ok (.istore 5, 2) := by decide +kernel
theorem d_Lw_law_777 : decode M_Lw_law.2.1 777 = .ok (.aload_n 2, 1) := by decide +kernel
theorem d_Lw_law_778 : decode M_Lw_law.2.1 778 = .ok (.aload_n 0, 1) := by decide +kernel
theorem d_Lw_law_779 : decode M_Lw_law.2.1 779 = .ok (.iload 4, 2) := by decide +kernel
theorem d_Lw_law_781 : decode M_Lw_law.2.1 781 = .ok (.iconst 1, 1) := by decide +kernel
theorem d_Lw_law_782 : decode M_Lw_law.2.1 782 = .ok (.iadd, 1) := by decide +kernel
theorem d_Lw_law_783 : decode M_Lw_law.2.1 783 = .ok (.iaload, 1) := by decide +kernel
theorem d_Lw_law_784 : decode M_Lw_law.2.1 784 = .ok (.invokevirtual 89, 3) := by decide +kernel
theorem d_Lw_law_787 : decode M_Lw_law.2.1 787 = .ok (.istore 6, 2) := by decide +kernel
theorem d_Lw_law_789 : decode M_Lw_law.2.1 789 = .ok (.aload_n 2, 1) := by decide +kernel
theorem d_Lw_law_790 : decode M_Lw_law.2.1 790 = .ok (.invokevirtual 55, 3) := by decide +kernel
theorem d_Lw_law_793 : decode M_Lw_law.2.1 793 = .ok (.iload 5, 2) := by decide +kernel
theorem d_Lw_law_795 : decode M_Lw_law.2.1 795 = .ok (.if_icmp .eq 5, 3) := by decide +kernel
theorem d_Lw_law_798 : decode M_Lw_law.2.1 798 = .ok (.iconst 0, 1) := by decide +kernel
theorem d_Lw_law_799 : decode M_Lw_law.2.1 799 = .ok (.ireturn, 1) := by decide +kernel
theorem d_Lw_law_800 : decode M_Lw_law.2.1 800 = .ok (.iload 5, 2) := by decide +kernel
theorem d_Lw_law_802 : decode M_Lw_law.2.1 802 = .ok (.ifCond .ne 15, 3) := by decide +kernel
theorem d_Lw_law_805 : decode M_Lw_law.2.1 805 = .ok (.aload_n 3, 1) := by decide +kernel
theorem d_Lw_law_806 : decode M_Lw_law.2.1 806 = .ok (.iconst 0, 1) := by decide +kernel
theorem d_Lw_law_807 : decode M_Lw_law.2.1 807 = .ok (.laload, 1) := by decide +kernel
theorem d_Lw_law_808 : decode M_Lw_law.2.1 808 = .ok (.iload 6, 2) := by decide +kernel
theorem d_Lw_law_810 : decode M_Lw_law.2.1 810 = .ok (.i2l, 1) := by decide +kernel
theorem d_Lw_law_811 : decode M_Lw_law.2.1 811 = .ok (.lcmp, 1) := by decide +kernel
theorem d_Lw_law_812 : decode M_Lw_law.2.1 812 = .ok (.ifCond .eq 5, 3) := by decide +kernel
theorem d_Lw_law_815 : decode M_Lw_law.2.1 815 = .ok (.iconst 0, 1) := by decide +kernel
theorem d_Lw_law_816 : decode M_Lw_law.2.1 816 = .ok (.ireturn, 1) := by decide +kernel
theorem d_Lw_law_817 : decode M_Lw_law.2.1 817 = .ok (.goto 83, 3) := by decide +kernel
theorem d_Lw_law_820 : decode M_Lw_law.2.1 820 = .ok (.aload_n 1, 1) := by decide +kernel
theorem d_Lw_law_821 : decode M_Lw_law.2.1 821 = .ok (.invokevirtual 90, 3) := by decide +kernel
theorem d_Lw_law_824 : decode M_Lw_law.2.1 824 = .ok (.aload_n 2, 1) := by decide +kernel
theorem d_Lw_law_825 : decode M_Lw_law.2.1 825 = .ok (.invokevirtual 93, 3) := by decide +kernel
theorem d_Lw_law_828 : decode M_Lw_law.2.1 828 = .ok (.if_icmp .eq 72, 3) := by decide +kernel
theorem d_Lw_law_831 : decode M_Lw_law.2.1 831 = .ok (.iconst 0, 1) := by decide +kernel
theorem d_Lw_law_832 : decode M_Lw_law.2.1 832 = .ok (.ireturn, 1) := by decide +kernel
theorem d_Lw_law_833 : decode M_Lw_law.2.1 833 = .ok (.aload_n 1, 1) := by decide +kernel
theorem d_Lw_law_834 : decode M_Lw_law.2.1 834 = .ok (.aload_n 0, 1) := by decide +kernel
theorem d_Lw_law_835 : decode M_Lw_law.2.1 835 = .ok (.iload 4, 2) := by decide +kernel
theorem d_Lw_law_837 : decode M_Lw_law.2.1 837 = .ok (.iconst 1, 1) := by decide +kernel
theorem d_Lw_law_838 : decode M_Lw_law.2.1 838 = .ok (.iadd, 1) := by decide +kernel
theorem d_Lw_law_839 : decode M_Lw_law.2.1 839 = .ok (.iaload, 1) := by decide +kernel
theorem d_Lw_law_840 : decode M_Lw_law.2.1 840 = .ok (.aload_n 3, 1) := by decide +kernel
theorem d_Lw_law_841 : decode M_Lw_law.2.1 841 = .ok (.invokestatic 94, 3) := by decide +kernel
theorem d_Lw_law_844 : decode M_Lw_law.2.1 844 = .ok (.istore 5, 2) := by decide +kernel
theorem d_Lw_law_846 : decode M_Lw_law.2.1 846 = .ok (.aload_n 2, 1) := by decide +kernel
theorem d_Lw_law_847 : decode M_Lw_law.2.1 847 = .ok (.aload_n 0, 1) := by decide +kernel
theorem d_Lw_law_848 : decode M_Lw_law.2.1 848 = .ok (.iload 4, 2) := by decide +kernel
theorem d_Lw_law_850 : decode M_Lw_law.2.1 850 = .ok (.iconst 1, 1) := by decide +kernel
theorem d_Lw_law_851 : decode M_Lw_law.2.1 851 = .ok (.iadd, 1) := by decide +kernel
theorem d_Lw_law_852 : decode M_Lw_law.2.1 852 = .ok (.iaload, 1) := by decide +kernel
theorem d_Lw_law_853 : decode M_Lw_law.2.1 853 = .ok (.invokevirtual 96, 3) := by decide +kernel
theorem d_Lw_law_856 : decode M_Lw_law.2.1 856 = .ok (.istore 6, 2) := by decide +kernel
theorem d_Lw_law_858 : decode M_Lw_law.2.1 858 = .ok (.aload_n 2, 1) := by decide +kernel
theorem d_Lw_law_859 : decode M_Lw_law.2.1 859 = .ok (.invokevirtual 55, 3) := by decide +kernel
theorem d_Lw_law_862 : decode M_Lw_law.2.1 862 = .ok (.iload 5, 2) := by decide +kernel
theorem d_Lw_law_864 : decode M_Lw_law.2.1 864 = .ok (.if_icmp .eq 5, 3) := by decide +kernel
theorem d_Lw_law_867 : decode M_Lw_law.2.1 867 = .ok (.iconst 0, 1) := by decide +kernel
theorem d_Lw_law_868 : decode M_Lw_law.2.1 868 = .ok (.ireturn, 1) := by decide +kernel
theorem d_Lw_law_869 : decode M_Lw_law.2.1 869 = .ok (.iload 5, 2) := by decide +kernel
theorem d_Lw_law_871 : decode M_Lw_law.2.1 871 = .ok (.ifCond .ne 15, 3) := by decide +kernel
theorem d_Lw_law_874 : decode M_Lw_law.2.1 874 = .ok (.aload_n 3, 1) := by decide +kernel
theorem d_Lw_law_875 : decode M_Lw_law.2.1 875 = .ok (.iconst 0, 1) := by decide +kernel
theorem d_Lw_law_876 : decode M_Lw_law.2.1 876 = .ok (.laload, 1) := by decide +kernel
theorem d_Lw_law_877 : decode M_Lw_law.2.1 877 = .ok (.iload 6, 2) := by decide +kernel
theorem d_Lw_law_879 : decode M_Lw_law.2.1 879 = .ok (.i2l, 1) := by decide +kernel
theorem d_Lw_law_880 : decode M_Lw_law.2.1 880 = .ok (.lcmp, 1) := by decide +kernel
theorem d_Lw_law_881 : decode M_Lw_law.2.1 881 = .ok (.ifCond .eq 5, 3) := by decide +kernel
theorem d_Lw_law_884 : decode M_Lw_law.2.1 884 = .ok (.iconst 0, 1) := by decide +kernel
theorem d_Lw_law_885 : decode M_Lw_law.2.1 885 = .ok (.ireturn, 1) := by decide +kernel
theorem d_Lw_law_886 : decode M_Lw_law.2.1 886 = .ok (.goto 14, 3) := by decide +kernel
theorem d_Lw_law_889 : decode M_Lw_law.2.1 889 = .ok (.aload_n 1, 1) := by decide +kernel
theorem d_Lw_law_890 : decode M_Lw_law.2.1 890 = .ok (.invokevirtual 97, 3) := by decide +kernel
theorem d_Lw_law_893 : decode M_Lw_law.2.1 893 = .ok (.aload_n 2, 1) := by decide +kernel
theorem d_Lw_law_894 : decode M_Lw_law.2.1 894 = .ok (.invokevirtual 100, 3) := by decide +kernel
theorem d_Lw_law_897 : decode M_Lw_law.2.1 897 = .ok (.goto 3, 3) := by decide +kernel
theorem d_Lw_law_900 : decode M_Lw_law.2.1 900 = .ok (.iinc 4 10, 3) := by decide +kernel
theorem d_Lw_law_903 : decode M_Lw_law.2.1 903 = .ok (.goto (-880), 3) := by decide +kernel
theorem d_Lw_law_906 : decode M_Lw_law.2.1 906 = .ok (.iconst 1, 1) := by decide +kernel
theorem d_Lw_law_907 : decode M_Lw_law.2.1 907 = .ok (.ireturn, 1) := by decide +kernel
