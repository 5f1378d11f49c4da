/-! The reference reads a sentence -/
theorem d_Mo_sentence_0 : decode M_Mo_sentence.2.1 0 = .ok (.iconst (-1), 1) := by decide +kernel
theorem d_Mo_sentence_1 : decode M_Mo_sentence.2.1 1 = .ok (.istore_n 1, 1) := by decide +kernel
theorem d_Mo_sentence_2 : decode M_Mo_sentence.2.1 2 = .ok (.iconst 0, 1) := by decide +kernel
theorem d_Mo_sentence_3 : decode M_Mo_sentence.2.1 3 = .ok (.istore_n 2, 1) := by decide +kernel
theorem d_Mo_sentence_4 : decode M_Mo_sentence.2.1 4 = .ok (.iload_n 2, 1) := by decide +kernel
theorem d_Mo_sentence_5 : decode M_Mo_sentence.2.1 5 = .ok (.bipush 12, 2) := by decide +kernel
theorem d_Mo_sentence_7 : decode M_Mo_sentence.2.1 7 = .ok (.if_icmp .gt 27, 3) := by decide +kernel
theorem d_Mo_sentence_10 : decode M_Mo_sentence.2.1 10 = .ok (.aload_n 0, 1) := by decide +kernel
theorem d_Mo_sentence_11 : decode M_Mo_sentence.2.1 11 = .ok (.invokevirtual 79, 3) := by decide +kernel
theorem d_Mo_sentence_14 : decode M_Mo_sentence.2.1 14 = .ok (.iload_n 2, 1) := by decide +kernel
theorem d_Mo_sentence_15 : decode M_Mo_sentence.2.1 15 = .ok (.invokestatic 158, 3) := by decide +kernel
theorem d_Mo_sentence_18 : decode M_Mo_sentence.2.1 18 = .ok (.lcmp, 1) := by decide +kernel
theorem d_Mo_sentence_19 : decode M_Mo_sentence.2.1 19 = .ok (.ifCond .ne 7, 3) := by decide +kernel
theorem d_Mo_sentence_22 : decode M_Mo_sentence.2.1 22 = .ok (.iload_n 2, 1) := by decide +kernel
theorem d_Mo_sentence_23 : decode M_Mo_sentence.2.1 23 = .ok (.goto 4, 3) := by decide +kernel
theorem d_Mo_sentence_26 : decode M_Mo_sentence.2.1 26 = .ok (.iload_n 1, 1) := by decide +kernel
theorem d_Mo_sentence_27 : decode M_Mo_sentence.2.1 27 = .ok (.istore_n 1, 1) := by decide +kernel
theorem d_Mo_sentence_28 : decode M_Mo_sentence.2.1 28 = .ok (.iinc 2 1, 3) := by decide +kernel
theorem d_Mo_sentence_31 : decode M_Mo_sentence.2.1 31 = .ok (.goto (-27), 3) := by decide +kernel
theorem d_Mo_sentence_34 : decode M_Mo_sentence.2.1 34 = .ok (.iload_n 1, 1) := by decide +kernel
theorem d_Mo_sentence_35 : decode M_Mo_sentence.2.1 35 = .ok (.iconst (-1), 1) := by decide +kernel
theorem d_Mo_sentence_36 : decode M_Mo_sentence.2.1 36 = .ok (.if_icmp .ne 12, 3) := by decide +kernel
theorem d_Mo_sentence_39 : decode M_Mo_sentence.2.1 39 = .ok (.aload_n 0, 1) := by decide +kernel
theorem d_Mo_sentence_40 : decode M_Mo_sentence.2.1 40 = .ok (.aload_n 0, 1) := by decide +kernel
theorem d_Mo_sentence_41 : decode M_Mo_sentence.2.1 41 = .ok (.getfield 59, 3) := by decide +kernel
theorem d_Mo_sentence_44 : decode M_Mo_sentence.2.1 44 = .ok (.invokevirtual 87, 3) := by decide +kernel
theorem d_Mo_sentence_47 : decode M_Mo_sentence.2.1 47 = .ok (.return_, 1) := by decide +kernel
theorem d_Mo_sentence_48 : decode M_Mo_sentence.2.1 48 = .ok (.aload_n 0, 1) := by decide +kernel
theorem d_Mo_sentence_49 : decode M_Mo_sentence.2.1 49 = .ok (.getfield 27, 3) := by decide +kernel
theorem d_Mo_sentence_52 : decode M_Mo_sentence.2.1 52 = .ok (.aload_n 0, 1) := by decide +kernel
theorem d_Mo_sentence_53 : decode M_Mo_sentence.2.1 53 = .ok (.getfield 101, 3) := by decide +kernel
theorem d_Mo_sentence_56 : decode M_Mo_sentence.2.1 56 = .ok (.iload_n 1, 1) := by decide +kernel
theorem d_Mo_sentence_57 : decode M_Mo_sentence.2.1 57 = .ok (.i2l, 1) := by decide +kernel
theorem d_Mo_sentence_58 : decode M_Mo_sentence.2.1 58 = .ok (.lastore, 1) := by decide +kernel
theorem d_Mo_sentence_59 : decode M_Mo_sentence.2.1 59 = .ok (.iconst 1, 1) := by decide +kernel
theorem d_Mo_sentence_60 : decode M_Mo_sentence.2.1 60 = .ok (.istore_n 2, 1) := by decide +kernel
theorem d_Mo_sentence_61 : decode M_Mo_sentence.2.1 61 = .ok (.iload_n 2, 1) := by decide +kernel
theorem d_Mo_sentence_62 : decode M_Mo_sentence.2.1 62 = .ok (.bipush 10, 2) := by decide +kernel
theorem d_Mo_sentence_64 : decode M_Mo_sentence.2.1 64 = .ok (.if_icmp .ge 23, 3) := by decide +kernel
theorem d_Mo_sentence_67 : decode M_Mo_sentence.2.1 67 = .ok (.aload_n 0, 1) := by decide +kernel
theorem d_Mo_sentence_68 : decode M_Mo_sentence.2.1 68 = .ok (.getfield 27, 3) := by decide +kernel
theorem d_Mo_sentence_71 : decode M_Mo_sentence.2.1 71 = .ok (.aload_n 0, 1) := by decide +kernel
theorem d_Mo_sentence_72 : decode M_Mo_sentence.2.1 72 = .ok (.getfield 101, 3) := by decide +kernel
theorem d_Mo_sentence_75 : decode M_Mo_sentence.2.1 75 = .ok (.iload_n 2, 1) := by decide +kernel
theorem d_Mo_sentence_76 : decode M_Mo_sentence.2.1 76 = .ok (.iadd, 1) := by decide +kernel
theorem d_Mo_sentence_77 : decode M_Mo_sentence.2.1 77 = .ok (.ldc2_w 66, 3) := by decide +kernel
theorem d_Mo_sentence_80 : decode M_Mo_sentence.2.1 80 = .ok (.lastore, 1) := by decide +kernel
theorem d_Mo_sentence_81 : decode M_Mo_sentence.2.1 81 = .ok (.iinc 2 1, 3) := by decide +kernel
theorem d_Mo_sentence_84 : decode M_Mo_sentence.2.1 84 = .ok (.goto (-23), 3) := by decide +kernel
theorem d_Mo_sentence_87 : decode M_Mo_sentence.2.1 87 = .ok (.aload_n 0, 1) := by decide +kernel
theorem d_Mo_sentence_88 : decode M_Mo_sentence.2.1 88 = .ok (.getfield 27, 3) := by decide +kernel
theorem d_Mo_sentence_91 : decode M_Mo_sentence.2.1 91 = .ok (.aload_n 0, 1) := by decide +kernel
theorem d_Mo_sentence_92 : decode M_Mo_sentence.2.1 92 = .ok (.getfield 101, 3) := by decide +kernel
theorem d_Mo_sentence_95 : decode M_Mo_sentence.2.1 95 = .ok (.iconst 5, 1) := by decide +kernel
theorem d_Mo_sentence_96 : decode M_Mo_sentence.2.1 96 = .ok (.iadd, 1) := by decide +kernel
theorem d_Mo_sentence_97 : decode M_Mo_sentence.2.1 97 = .ok (.lconst 0, 1) := by decide +kernel
theorem d_Mo_sentence_98 : decode M_Mo_sentence.2.1 98 = .ok (.lastore, 1) := by decide +kernel
theorem d_Mo_sentence_99 : decode M_Mo_sentence.2.1 99 = .ok (.aload_n 0, 1) := by decide +kernel
theorem d_Mo_sentence_100 : decode M_Mo_sentence.2.1 100 = .ok (.getfield 27, 3) := by decide +kernel
theorem d_Mo_sentence_103 : decode M_Mo_sentence.2.1 103 = .ok (.aload_n 0, 1) := by decide +kernel
theorem d_Mo_sentence_104 : decode M_Mo_sentence.2.1 104 = .ok (.getfield 101, 3) := by decide +kernel
theorem d_Mo_sentence_107 : decode M_Mo_sentence.2.1 107 = .ok (.bipush 7, 2) := by decide +kernel
theorem d_Mo_sentence_109 : decode M_Mo_sentence.2.1 109 = .ok (.iadd, 1) := by decide +kernel
theorem d_Mo_sentence_110 : decode M_Mo_sentence.2.1 110 = .ok (.lconst 0, 1) := by decide +kernel
theorem d_Mo_sentence_111 : decode M_Mo_sentence.2.1 111 = .ok (.lastore, 1) := by decide +kernel
theorem d_Mo_sentence_112 : decode M_Mo_sentence.2.1 112 = .ok (.aload_n 0, 1) := by decide +kernel
theorem d_Mo_sentence_113 : decode M_Mo_sentence.2.1 113 = .ok (.getfield 27, 3) := by decide +kernel
theorem d_Mo_sentence_116 : decode M_Mo_sentence.2.1 116 = .ok (.aload_n 0, 1) := by decide +kernel
theorem d_Mo_sentence_117 : decode M_Mo_sentence.2.1 117 = .ok (.getfield 101, 3) := by decide +kernel
theorem d_Mo_sentence_120 : decode M_Mo_sentence.2.1 120 = .ok (.bipush 10, 2) := by decide +kernel
theorem d_Mo_sentence_122 : decode M_Mo_sentence.2.1 122 = .ok (.iadd, 1) := by decide +kernel
theorem d_Mo_sentence_123 : decode M_Mo_sentence.2.1 123 = .ok (.aload_n 0, 1) := by decide +kernel
theorem d_Mo_sentence_124 : decode M_Mo_sentence.2.1 124 = .ok (.aload_n 0, 1) := by decide +kernel
theorem d_Mo_sentence_125 : decode M_Mo_sentence.2.1 125 = .ok (.getfield 30, 3) := by decide +kernel
theorem d_Mo_sentence_128 : decode M_Mo_sentence.2.1 128 = .ok (.aload_n 0, 1) := by decide +kernel
theorem d_Mo_sentence_129 : decode M_Mo_sentence.2.1 129 = .ok (.getfield 59, 3) := by decide +kernel
theorem d_Mo_sentence_132 : decode M_Mo_sentence.2.1 132 = .ok (.iaload, 1) := by decide +kernel
theorem d_Mo_sentence_133 : decode M_Mo_sentence.2.1 133 = .ok (.invokevirtual 162, 3) := by decide +kernel
theorem d_Mo_sentence_136 : decode M_Mo_sentence.2.1 136 = .ok (.i2l, 1) := by decide +kernel
theorem d_Mo_sentence_137 : decode M_Mo_sentence.2.1 137 = .ok (.lastore, 1) := by decide +kernel
theorem d_Mo_sentence_138 : decode M_Mo_sentence.2.1 138 = .ok (.aload_n 0, 1) := by decide +kernel
theorem d_Mo_sentence_139 : decode M_Mo_sentence.2.1 139 = .ok (.dup, 1) := by decide +kernel
theorem d_Mo_sentence_140 : decode M_Mo_sentence.2.1 140 = .ok (.getfield 59, 3) := by decide +kernel
theorem d_Mo_sentence_143 : decode M_Mo_sentence.2.1 143 = .ok (.iconst 1, 1) := by decide +kernel
theorem d_Mo_sentence_144 : decode M_Mo_sentence.2.1 144 = .ok (.iadd, 1) := by decide +kernel
theorem d_Mo_sentence_145 : decode M_Mo_sentence.2.1 145 = .ok (.putfield 59, 3) := by decide +kernel
theorem d_Mo_sentence_148 : decode M_Mo_sentence.2.1 148 = .ok (.iload_n 1, 1) := by decide +kernel
theorem d_Mo_sentence_149 : decode M_Mo_sentence.2.1 149 = .ok (.bipush 12, 2) := by decide +kernel
theorem d_Mo_sentence_151 : decode M_Mo_sentence.2.1 151 = .ok (.if_icmp .ne 23, 3) := by decide +kernel
theorem d_Mo_sentence_154 : decode M_Mo_sentence.2.1 154 = .ok (.aload_n 0, 1) := by decide +kernel
theorem d_Mo_sentence_155 : decode M_Mo_sentence.2.1 155 = .ok (.iconst 1, 1) := by decide +kernel
theorem d_Mo_sentence_156 : decode M_Mo_sentence.2.1 156 = .ok (.invokevirtual 165, 3) := by decide +kernel
theorem d_Mo_sentence_159 : decode M_Mo_sentence.2.1 159 = .ok (.aload_n 0, 1) := by decide +kernel
theorem d_Mo_sentence_160 : decode M_Mo_sentence.2.1 160 = .ok (.ldc2_w 168, 3) := by decide +kernel
theorem d_Mo_sentence_163 : decode M_Mo_sentence.2.1 163 = .ok (.invokevirtual 97, 3) := by decide +kernel
theorem d_Mo_sentence_166 : decode M_Mo_sentence.2.1 166 = .ok (.aload_n 0, 1) := by decide +kernel
theorem d_Mo_sentence_167 : decode M_Mo_sentence.2.1 167 = .ok (.iconst 3, 1) := by decide +kernel
theorem d_Mo_sentence_168 : decode M_Mo_sentence.2.1 168 = .ok (.invokevirtual 165, 3) := by decide +kernel
theorem d_Mo_sentence_171 : decode M_Mo_sentence.2.1 171 = .ok (.goto 137, 3) := by decide +kernel
theorem d_Mo_sentence_174 : decode M_Mo_sentence.2.1 174 = .ok (.iload_n 1, 1) := by decide +kernel
theorem d_Mo_sentence_175 : decode M_Mo_sentence.2.1 175 = .ok (.ifCond .ne 26, 3) := by decide +kernel
theorem d_Mo_sentence_178 : decode M_Mo_sentence.2.1 178 = .ok (.aload_n 0, 1) := by decide +kernel
theorem d_Mo_sentence_179 : decode M_Mo_sentence.2.1 179 = .ok (.iconst 2, 1) := by decide +kernel
theorem d_Mo_sentence_180 : decode M_Mo_sentence.2.1 180 = .ok (.iconst 5, 1) := by decide +kernel
theorem d_Mo_sentence_181 : decode M_Mo_sentence.2.1 181 = .ok (.bipush 20, 2) := by decide +kernel
theorem d_Mo_sentence_183 : decode M_Mo_sentence.2.1 183 = .ok (.bipush 23, 2) := by decide +kernel
theorem d_Mo_sentence_185 : decode M_Mo_sentence.2.1 185 = .ok (.iconst 5, 1) := by decide +kernel
theorem d_Mo_sentence_186 : decode M_Mo_sentence.2.1 186 = .ok (.iconst 5, 1) := by decide +kernel
theorem d_Mo_sentence_187 : decode M_Mo_sentence.2.1 187 = .ok (.bipush 14, 2) := by decide +kernel
theorem d_Mo_sentence_189 : decode M_Mo_sentence.2.1 189 = .ok (.invokestatic 68, 3) := by decide +kernel
theorem d_Mo_sentence_192 : decode M_Mo_sentence.2.1 192 = .ok (.invokevirtual 83, 3) := by decide +kernel
theorem d_Mo_sentence_195 : decode M_Mo_sentence.2.1 195 = .ok (.ifCond .eq 37, 3) := by decide +kernel
theorem d_Mo_sentence_198 : decode M_Mo_sentence.2.1 198 = .ok (.goto 13, 3) := by decide +kernel
theorem d_Mo_sentence_201 : decode M_Mo_sentence.2.1 201 = .ok (.aload_n 0, 1) := by decide +kernel
theorem d_Mo_sentence_202 : decode M_Mo_sentence.2.1 202 = .ok (.ldc2_w 170, 3) := by decide +kernel
theorem d_Mo_sentence_205 : decode M_Mo_sentence.2.1 205 = .ok (.invokevirtual 83, 3) := by decide +kernel
theorem d_Mo_sentence_208 : decode M_Mo_sentence.2.1 208 = .ok (.ifCond .eq 24, 3) := by decide +kernel
theorem d_Mo_sentence_211 : decode M_Mo_sentence.2.1 211 = .ok (.aload_n 0, 1) := by decide +kernel
theorem d_Mo_sentence_212 : decode M_Mo_sentence.2.1 212 = .ok (.iconst 1, 1) := by decide +kernel
theorem d_Mo_sentence_213 : decode M_Mo_sentence.2.1 213 = .ok (.invokevirtual 165, 3) := by decide +kernel
theorem d_Mo_sentence_216 : decode M_Mo_sentence.2.1 216 = .ok (.iload_n 1, 1) := by decide +kernel
theorem d_Mo_sentence_217 : decode M_Mo_sentence.2.1 217 = .ok (.ifCond .ne 15, 3) := by decide +kernel
theorem d_Mo_sentence_220 : decode M_Mo_sentence.2.1 220 = .ok (.aload_n 0, 1) := by decide +kernel
theorem d_Mo_sentence_221 : decode M_Mo_sentence.2.1 221 = .ok (.ldc2_w 168, 3) := by decide +kernel
theorem d_Mo_sentence_224 : decode M_Mo_sentence.2.1 224 = .ok (.invokevirtual 97, 3) := by decide +kernel
theorem d_Mo_sentence_227 : decode M_Mo_sentence.2.1 227 = .ok (.aload_n 0, 1) := by decide +kernel
theorem d_Mo_sentence_228 : decode M_Mo_sentence.2.1 228 = .ok (.iconst 3, 1) := by decide +kernel
theorem d_Mo_sentence_229 : decode M_Mo_sentence.2.1 229 = .ok (.invokevirtual 165, 3) := by decide +kernel
theorem d_Mo_sentence_232 : decode M_Mo_sentence.2.1 232 = .ok (.aload_n 0, 1) := by decide +kernel
theorem d_Mo_sentence_233 : decode M_Mo_sentence.2.1 233 = .ok (.invokevirtual 172, 3) := by decide +kernel
theorem d_Mo_sentence_236 : decode M_Mo_sentence.2.1 236 = .ok (.aload_n 0, 1) := by decide +kernel
theorem d_Mo_sentence_237 : decode M_Mo_sentence.2.1 237 = .ok (.ldc2_w 175, 3) := by decide +kernel
theorem d_Mo_sentence_240 : decode M_Mo_sentence.2.1 240 = .ok (.invokevirtual 83, 3) := by decide +kernel
theorem d_Mo_sentence_243 : decode M_Mo_sentence.2.1 243 = .ok (.ifCond .eq 21, 3) := by decide +kernel
theorem d_Mo_sentence_246 : decode M_Mo_sentence.2.1 246 = .ok (.aload_n 0, 1) := by decide +kernel
theorem d_Mo_sentence_247 : decode M_Mo_sentence.2.1 247 = .ok (.getfield 27, 3) := by decide +kernel
theorem d_Mo_sentence_250 : decode M_Mo_sentence.2.1 250 = .ok (.aload_n 0, 1) := by decide +kernel
theorem d_Mo_sentence_251 : decode M_Mo_sentence.2.1 251 = .ok (.getfield 101, 3) := by decide +kernel
theorem d_Mo_sentence_254 : decode M_Mo_sentence.2.1 254 = .ok (.bipush 6, 2) := by decide +kernel
theorem d_Mo_sentence_256 : decode M_Mo_sentence.2.1 256 = .ok (.iadd, 1) := by decide +kernel
theorem d_Mo_sentence_257 : decode M_Mo_sentence.2.1 257 = .ok (.aload_n 0, 1) := by decide +kernel
theorem d_Mo_sentence_258 : decode M_Mo_sentence.2.1 258 = .ok (.iconst 2, 1) := by decide +kernel
theorem d_Mo_sentence_259 : decode M_Mo_sentence.2.1 259 = .ok (.invokevirtual 91, 3) := by decide +kernel
theorem d_Mo_sentence_262 : decode M_Mo_sentence.2.1 262 = .ok (.i2l, 1) := by decide +kernel
theorem d_Mo_sentence_263 : decode M_Mo_sentence.2.1 263 = .ok (.lastore, 1) := by decide +kernel
theorem d_Mo_sentence_264 : decode M_Mo_sentence.2.1 264 = .ok (.aload_n 0, 1) := by decide +kernel
theorem d_Mo_sentence_265 : decode M_Mo_sentence.2.1 265 = .ok (.bipush 18, 2) := by decide +kernel
theorem d_Mo_sentence_267 : decode M_Mo_sentence.2.1 267 = .ok (.iconst 1, 1) := by decide +kernel
theorem d_Mo_sentence_268 : decode M_Mo_sentence.2.1 268 = .ok (.bipush 14, 2) := by decide +kernel
theorem d_Mo_sentence_270 : decode M_Mo_sentence.2.1 270 = .ok (.bipush 11, 2) := by decide +kernel
theorem d_Mo_sentence_272 : decode M_Mo_sentence.2.1 272 = .ok (.iconst 0, 1) := by decide +kernel
theorem d_Mo_sentence_273 : decode M_Mo_sentence.2.1 273 = .ok (.iconst 0, 1) := by decide +kernel
theorem d_Mo_sentence_274 : decode M_Mo_sentence.2.1 274 = .ok (.iconst 0, 1) := by decide +kernel
theorem d_Mo_sentence_275 : decode M_Mo_sentence.2.1 275 = .ok (.invokestatic 68, 3) := by decide +kernel
theorem d_Mo_sentence_278 : decode M_Mo_sentence.2.1 278 = .ok (.invokevirtual 83, 3) := by decide +kernel
theorem d_Mo_sentence_281 : decode M_Mo_sentence.2.1 281 = .ok (.ifCond .eq 23, 3) := by decide +kernel
theorem d_Mo_sentence_284 : decode M_Mo_sentence.2.1 284 = .ok (.aload_n 0, 1) := by decide +kernel
theorem d_Mo_sentence_285 : decode M_Mo_sentence.2.1 285 = .ok (.getfield 27, 3) := by decide +kernel
theorem d_Mo_sentence_288 : decode M_Mo_sentence.2.1 288 = .ok (.aload_n 0, 1) := by decide +kernel
theorem d_Mo_sentence_289 : decode M_Mo_sentence.2.1 289 = .ok (.getfield 101, 3) := by decide +kernel
theorem d_Mo_sentence_292 : decode M_Mo_sentence.2.1 292 = .ok (.bipush 7, 2) := by decide +kernel
theorem d_Mo_sentence_294 : decode M_Mo_sentence.2.1 294 = .ok (.iadd, 1) := by decide +kernel
theorem d_Mo_sentence_295 : decode M_Mo_sentence.2.1 295 = .ok (.aload_n 0, 1) := by decide +kernel
theorem d_Mo_sentence_296 : decode M_Mo_sentence.2.1 296 = .ok (.iconst 0, 1) := by decide +kernel
theorem d_Mo_sentence_297 : decode M_Mo_sentence.2.1 297 = .ok (.bipush 99, 2) := by decide +kernel
theorem d_Mo_sentence_299 : decode M_Mo_sentence.2.1 299 = .ok (.invokevirtual 110, 3) := by decide +kernel
theorem d_Mo_sentence_302 : decode M_Mo_sentence.2.1 302 = .ok (.i2l, 1) := by decide +kernel
theorem d_Mo_sentence_303 : decode M_Mo_sentence.2.1 303 = .ok (.lastore, 1) := by decide +kernel
theorem d_Mo_sentence_304 : decode M_Mo_sentence.2.1 304 = .ok (.aload_n 0, 1) := by decide +kernel
theorem d_Mo_sentence_305 : decode M_Mo_sentence.2.1 305 = .ok (.invokevirtual 177, 3) := by decide +kernel
theorem d_Mo_sentence_308 : decode M_Mo_sentence.2.1 308 = .ok (.aload_n 0, 1) := by decide +kernel
theorem d_Mo_sentence_309 : decode M_Mo_sentence.2.1 309 = .ok (.invokevirtual 75, 3) := by decide +kernel
theorem d_Mo_sentence_312 : decode M_Mo_sentence.2.1 312 = .ok (.ifCond .eq 18, 3) := by decide +kernel
theorem d_Mo_sentence_315 : decode M_Mo_sentence.2.1 315 = .ok (.aload_n 0, 1) := by decide +kernel
theorem d_Mo_sentence_316 : decode M_Mo_sentence.2.1 316 = .ok (.invokevirtual 180, 3) := by decide +kernel
theorem d_Mo_sentence_319 : decode M_Mo_sentence.2.1 319 = .ok (.ifCond .ne 11, 3) := by decide +kernel
theorem d_Mo_sentence_322 : decode M_Mo_sentence.2.1 322 = .ok (.aload_n 0, 1) := by decide +kernel
theorem d_Mo_sentence_323 : decode M_Mo_sentence.2.1 323 = .ok (.aload_n 0, 1) := by decide +kernel
theorem d_Mo_sentence_324 : decode M_Mo_sentence.2.1 324 = .ok (.getfield 59, 3) := by decide +kernel
theorem d_Mo_sentence_327 : decode M_Mo_sentence.2.1 327 = .ok (.invokevirtual 87, 3) := by decide +kernel
theorem d_Mo_sentence_330 : decode M_Mo_sentence.2.1 330 = .ok (.aload_n 0, 1) := by decide +kernel
theorem d_Mo_sentence_331 : decode M_Mo_sentence.2.1 331 = .ok (.dup, 1) := by decide +kernel
theorem d_Mo_sentence_332 : decode M_Mo_sentence.2.1 332 = .ok (.getfield 59, 3) := by decide +kernel
theorem d_Mo_sentence_335 : decode M_Mo_sentence.2.1 335 = .ok (.iconst 1, 1) := by decide +kernel
theorem d_Mo_sentence_336 : decode M_Mo_sentence.2.1 336 = .ok (.iadd, 1) := by decide +kernel
theorem d_Mo_sentence_337 : decode M_Mo_sentence.2.1 337 = .ok (.putfield 59, 3) := by decide +kernel
theorem d_Mo_sentence_340 : decode M_Mo_sentence.2.1 340 = .ok (.return_, 1) := by decide +kernel
def reI (ml : Nat → Nat → Int64) (A : Nat) (q : reS) : Prop := ml 404 (A + 5) = Int64.ofNat q.1 ∧ ml 404 (A + 6) = (oR q.2.1).toInt64 ∧ ml 404 (A + 7) = Int64.ofNat q.2.2.1 ∧ ml 404 (A + 8) = oL q.2.2.2.1 ∧ ml 404 (A + 9) = oL q.2.2.2.2
abbrev v59 (A : Nat) : Nat → Prop := fun i => A + 5 ≤ i ∧ i ≤ A + 9
def seP (r : Nat ⊕ (reS × Nat)) (J A : Nat) (nx : Nat) (ct : Nat → Nat × Nat) (m0 : Nat → Nat → Int32) (ml : Nat → Nat → Int64) (mr : Nat → Nat → Option Nat) : Option Value → rx_S → Prop := fun v τ => v = none ∧ match r with
  | .inr (q, j') => ∃ ml', τ = (nx, ct, mS m0 (nI j') (-1), ml', mr) ∧ fL (v59 A) ml ml' ∧ reI ml' A q
  | .inl k => ∃ ml' w, τ = (nx, ct, mS m0 (nI w) (nI k), ml', mr) ∧ w ≤ J ∧ fL (v59 A) ml ml'
section
variable {nx : Nat} {ct : Nat → Nat × Nat} {m0 mi : Nat → Nat → Int32} {ml : Nat → Nat → Int64} {mr : Nat → Nat → Option Nat} {n m : Nat} {t : Nat → Int32}
theorem seP.mono {r : Nat ⊕ (reS × Nat)} {J J' A : Nat} {ml' : Nat → Nat → Int64} {v : Option Value} {τ : rx_S} (h : seP r J A nx ct m0 ml' mr v τ) (hJ : J ≤ J') (hf : fL (v59 A) ml ml') : seP r J' A nx ct m0 ml mr v τ := by
  obtain ⟨h1, h2⟩ := h
  refine ⟨h1, ?_⟩
  cases r with
  | inl k =>
    obtain ⟨a, w, b, c, d⟩ := h2
    exact ⟨a, w, b, by omega, hf.trans d (fun _ z => z) (fun _ z => z)⟩
  | inr q =>
    obtain ⟨a, b, c, d⟩ := h2
    exact ⟨a, b, hf.trans c (fun _ z => z) (fun _ z => z), d⟩
theorem seP.bad {J w k A : Nat} {ml' : Nat → Nat → Int64} (hw : w ≤ J) (hf : fL (v59 A) ml ml') : seP (.inl k) J A nx ct m0 ml mr none (nx, ct, mS m0 (nI w) (nI k), ml', mr) := ⟨rfl, ml', w, rfl, hw, hf⟩
theorem se_end {q : reS} {A j J : Nat} (hL : LAY nx ct mr) (h : PMs n m t m0) (hj : j < 3900) (hJ : j + 1 ≤ J) (hq : reI ml A q) : rx_W M_Mo_sentence 5 0 0 308 [(0, .ref 398)] [] (nx, ct, mS m0 (nI j) (-1), ml, mr) (pR (seP (semi n t q j) J A nx ct m0 ml mr)) := by
  unfold semi
  refine ru_aload_n d_Mo_sentence_308 rfl rfl ?_
  refine ru_callV (mc := 0) (ms := 0) d_Mo_sentence_309 lm_Mo_75 (sq_good hL) (rx_recv_is (ly hL 398 9 0) kx_Mo) (by decide) rfl (Nat.le_of_ble_eq_true rfl) ?_
  intro v τ h
  obtain ⟨rfl, rfl⟩ := h
  refine ru_if_eq (tgt := 330) d_Mo_sentence_312 (by decide) (fun h312 => absurd h312 (bI_ne0.mpr rfl)) (fun h312 => ?_)
  refine ru_aload_n d_Mo_sentence_315 rfl rfl ?_
  refine ru_callV (mc := 0) (ms := 0) d_Mo_sentence_316 lm_Mo_180 (sq_isSemicolon hL h (by omega) _) (rx_recv_is (ly hL 398 9 0) kx_Mo) (by decide) rfl (Nat.le_of_ble_eq_true rfl) ?_
  intro v τ h
  obtain ⟨rfl, rfl⟩ := h
  refine ru_if_ne (tgt := 330) d_Mo_sentence_319 (by decide) (fun h319 => ?_) (fun h319 => ?_)
  · skip
    replace h319 := bI_ne0.mp h319
    refine ru_aload_n d_Mo_sentence_330 rfl rfl ?_
    refine ru_dup d_Mo_sentence_331 rfl ?_
    refine ru_getI d_Mo_sentence_332 lf_Mo_59 (ly hL 398 9 0) rfl ?_
    refine ru_eqi mS_w ?_
    refine ru_iconst (v := 1) d_Mo_sentence_335 (by decide) ?_
    refine ru_iadd d_Mo_sentence_336 ?_
    refine ru_eqi (nm_add j 1 : _ = nI (j + 1)) ?_
    refine ru_putI d_Mo_sentence_337 lf_Mo_59 (ly hL 398 9 0) rfl (fun q hq => by cases hq; exact Or.inl rfl) ⟨rfl, rfl⟩ ?_
    refine ru_vret d_Mo_sentence_340 rfl ?_
    rw [mS_sw]
    first | (rw [cnd_t h319]; exact ⟨rfl, ml, rfl, fL.refl _ _, hq⟩) | (rw [cnd_f h319]; exact seP.bad hJ (fL.refl _ _))
  · skip
    replace h319 := bI_eq0.mp h319
    refine ru_aload_n d_Mo_sentence_322 rfl rfl ?_
    refine ru_aload_n d_Mo_sentence_323 rfl rfl ?_
    refine ru_getI d_Mo_sentence_324 lf_Mo_59 (ly hL 398 9 0) rfl ?_
    refine ru_eqi mS_w ?_
    refine ru_callV (mc := 0) (ms := 0) d_Mo_sentence_327 lm_Mo_87 (sq_fail hL _) (rx_recv_is (ly hL 398 9 0) kx_Mo) (by decide) rfl (Nat.le_of_ble_eq_true rfl) ?_
    intro v τ h
    obtain ⟨rfl, rfl⟩ := h
    refine ru_aload_n d_Mo_sentence_330 rfl rfl ?_
    refine ru_dup d_Mo_sentence_331 rfl ?_
    refine ru_getI d_Mo_sentence_332 lf_Mo_59 (ly hL 398 9 0) rfl ?_
    refine ru_eqi mS_w ?_
    refine ru_iconst (v := 1) d_Mo_sentence_335 (by decide) ?_
    refine ru_iadd d_Mo_sentence_336 ?_
    refine ru_eqi (nm_add j 1 : _ = nI (j + 1)) ?_
    refine ru_putI d_Mo_sentence_337 lf_Mo_59 (ly hL 398 9 0) rfl (fun q hq => by cases hq; exact Or.inl rfl) ⟨rfl, rfl⟩ ?_
    refine ru_vret d_Mo_sentence_340 rfl ?_
    rw [mS_sw]
    first | (rw [cnd_t h319]; exact ⟨rfl, ml, rfl, fL.refl _ _, hq⟩) | (rw [cnd_f h319]; exact seP.bad hJ (fL.refl _ _))
theorem se_bad308 {A κ w k J : Nat} {ml' : Nat → Nat → Int64} (hL : LAY nx ct mr) (hA : m0 398 14 = nI A) (hA2 : A + 12 ≤ 1440) (hκ : κ < 13) (hk2 : ml' 404 A = Int64.ofNat κ) (hk : k < 2 ^ 31) (hJ : w + 1 ≤ J) (hf : fL (v59 A) ml ml') : rx_W M_Mo_sentence 5 0 0 308 [(0, .ref 398)] [] (nx, ct, mS m0 (nI w) (nI k), ml', mr) (pR (seP (.inl k) J A nx ct m0 ml mr)) := by
  refine ru_aload_n d_Mo_sentence_308 rfl rfl ?_
  refine ru_callV (mc := 0) (ms := 0) d_Mo_sentence_309 lm_Mo_75 (sq_good hL) (rx_recv_is (ly hL 398 9 0) kx_Mo) (by decide) rfl (Nat.le_of_ble_eq_true rfl) ?_
  intro v τ h
  obtain ⟨rfl, rfl⟩ := h
  refine ru_if_eq (tgt := 330) d_Mo_sentence_312 (by decide) (fun h312 => ?_) (fun h312 => absurd (bI_f (nI_m1 hk)) h312)
  refine ru_aload_n d_Mo_sentence_330 rfl rfl ?_
  refine ru_dup d_Mo_sentence_331 rfl ?_
  refine ru_getI d_Mo_sentence_332 lf_Mo_59 (ly hL 398 9 0) rfl ?_
  refine ru_eqi mS_w ?_
  refine ru_iconst (v := 1) d_Mo_sentence_335 (by decide) ?_
  refine ru_iadd d_Mo_sentence_336 ?_
  refine ru_eqi (nm_add w 1 : _ = nI (w + 1)) ?_
  refine ru_putI d_Mo_sentence_337 lf_Mo_59 (ly hL 398 9 0) rfl (fun q hq => by cases hq; exact Or.inl rfl) ⟨rfl, rfl⟩ ?_
  refine ru_vret d_Mo_sentence_340 rfl ?_
  rw [mS_sw]
  exact seP.bad hJ hf
theorem se_bad304 {A κ w k J : Nat} {ml' : Nat → Nat → Int64} (hL : LAY nx ct mr) (hA : m0 398 14 = nI A) (hA2 : A + 12 ≤ 1440) (hκ : κ < 13) (hk2 : ml' 404 A = Int64.ofNat κ) (hk : k < 2 ^ 31) (hJ : w + 1 ≤ J) (hf : fL (v59 A) ml ml') : rx_W M_Mo_sentence 5 0 0 304 [(0, .ref 398)] [] (nx, ct, mS m0 (nI w) (nI k), ml', mr) (pR (seP (.inl k) J A nx ct m0 ml mr)) := by
  refine ru_aload_n d_Mo_sentence_304 rfl rfl ?_
  refine ru_callV (mc := 0) (ms := 0) d_Mo_sentence_305 lm_Mo_177 (sq_value0 hL hA hA2 hκ hk2 (nI_m1 hk)) (rx_recv_is (ly hL 398 9 0) kx_Mo) (by decide) rfl (Nat.le_of_ble_eq_true rfl) ?_
  intro v τ h
  obtain ⟨rfl, rfl⟩ := h
  refine ru_aload_n d_Mo_sentence_308 rfl rfl ?_
  refine ru_callV (mc := 0) (ms := 0) d_Mo_sentence_309 lm_Mo_75 (sq_good hL) (rx_recv_is (ly hL 398 9 0) kx_Mo) (by decide) rfl (Nat.le_of_ble_eq_true rfl) ?_
  intro v τ h
  obtain ⟨rfl, rfl⟩ := h
  refine ru_if_eq (tgt := 330) d_Mo_sentence_312 (by decide) (fun h312 => ?_) (fun h312 => absurd (bI_f (nI_m1 hk)) h312)
  refine ru_aload_n d_Mo_sentence_330 rfl rfl ?_
  refine ru_dup d_Mo_sentence_331 rfl ?_
  refine ru_getI d_Mo_sentence_332 lf_Mo_59 (ly hL 398 9 0) rfl ?_
  refine ru_eqi mS_w ?_
  refine ru_iconst (v := 1) d_Mo_sentence_335 (by decide) ?_
  refine ru_iadd d_Mo_sentence_336 ?_
  refine ru_eqi (nm_add w 1 : _ = nI (w + 1)) ?_
  refine ru_putI d_Mo_sentence_337 lf_Mo_59 (ly hL 398 9 0) rfl (fun q hq => by cases hq; exact Or.inl rfl) ⟨rfl, rfl⟩ ?_
  refine ru_vret d_Mo_sentence_340 rfl ?_
  rw [mS_sw]
  exact seP.bad hJ hf
theorem se_bad264 {A κ w k J : Nat} {ml' : Nat → Nat → Int64} (hL : LAY nx ct mr) (hA : m0 398 14 = nI A) (hA2 : A + 12 ≤ 1440) (hκ : κ < 13) (hk2 : ml' 404 A = Int64.ofNat κ) (hk : k < 2 ^ 31) (hJ : w + 1 ≤ J) (hf : fL (v59 A) ml ml') : rx_W M_Mo_sentence 5 0 0 264 [(0, .ref 398)] [] (nx, ct, mS m0 (nI w) (nI k), ml', mr) (pR (seP (.inl k) J A nx ct m0 ml mr)) := by
  refine ru_aload_n d_Mo_sentence_264 rfl rfl ?_
  refine ru_bipush (v := 18) d_Mo_sentence_265 (by decide) ?_
  refine ru_iconst (v := 1) d_Mo_sentence_267 (by decide) ?_
  refine ru_bipush (v := 14) d_Mo_sentence_268 (by decide) ?_
  refine ru_bipush (v := 11) d_Mo_sentence_270 (by decide) ?_
  refine ru_iconst (v := 0) d_Mo_sentence_272 (by decide) ?_
  refine ru_iconst (v := 0) d_Mo_sentence_273 (by decide) ?_
  refine ru_iconst (v := 0) d_Mo_sentence_274 (by decide) ?_
  refine ru_callS (mc := 0) (ms := 0) d_Mo_sentence_275 lm_Mo_68 (sp_Mo_word 18 1 14 11 0 0 0 _) (by decide) rfl (Nat.le_of_ble_eq_true rfl) ?_
  intro v τ h
  obtain ⟨rfl, rfl⟩ := h
  refine ru_callV (mc := 0) (ms := 0) d_Mo_sentence_278 lm_Mo_83 (sq_took0 hL (nI_m1 hk)) (rx_recv_is (ly hL 398 9 0) kx_Mo) (by decide) rfl (Nat.le_of_ble_eq_true rfl) ?_
  rintro v τ ⟨rfl, rfl⟩
  refine ru_if_eq (tgt := 304) d_Mo_sentence_281 (by decide) (fun h281 => ?_) (fun h281 => absurd h281 (by decide))
  refine ru_aload_n d_Mo_sentence_304 rfl rfl ?_
  refine ru_callV (mc := 0) (ms := 0) d_Mo_sentence_305 lm_Mo_177 (sq_value0 hL hA hA2 hκ hk2 (nI_m1 hk)) (rx_recv_is (ly hL 398 9 0) kx_Mo) (by decide) rfl (Nat.le_of_ble_eq_true rfl) ?_
  intro v τ h
  obtain ⟨rfl, rfl⟩ := h
  refine ru_aload_n d_Mo_sentence_308 rfl rfl ?_
  refine ru_callV (mc := 0) (ms := 0) d_Mo_sentence_309 lm_Mo_75 (sq_good hL) (rx_recv_is (ly hL 398 9 0) kx_Mo) (by decide) rfl (Nat.le_of_ble_eq_true rfl) ?_
  intro v τ h
  obtain ⟨rfl, rfl⟩ := h
  refine ru_if_eq (tgt := 330) d_Mo_sentence_312 (by decide) (fun h312 => ?_) (fun h312 => absurd (bI_f (nI_m1 hk)) h312)
  refine ru_aload_n d_Mo_sentence_330 rfl rfl ?_
  refine ru_dup d_Mo_sentence_331 rfl ?_
  refine ru_getI d_Mo_sentence_332 lf_Mo_59 (ly hL 398 9 0) rfl ?_
  refine ru_eqi mS_w ?_
  refine ru_iconst (v := 1) d_Mo_sentence_335 (by decide) ?_
  refine ru_iadd d_Mo_sentence_336 ?_
  refine ru_eqi (nm_add w 1 : _ = nI (w + 1)) ?_
  refine ru_putI d_Mo_sentence_337 lf_Mo_59 (ly hL 398 9 0) rfl (fun q hq => by cases hq; exact Or.inl rfl) ⟨rfl, rfl⟩ ?_
  refine ru_vret d_Mo_sentence_340 rfl ?_
  rw [mS_sw]
  exact seP.bad hJ hf
theorem se_bad236 {A κ w k J : Nat} {ml' : Nat → Nat → Int64} (hL : LAY nx ct mr) (hA : m0 398 14 = nI A) (hA2 : A + 12 ≤ 1440) (hκ : κ < 13) (hk2 : ml' 404 A = Int64.ofNat κ) (hk : k < 2 ^ 31) (hJ : w + 1 ≤ J) (hf : fL (v59 A) ml ml') : rx_W M_Mo_sentence 5 0 0 236 [(0, .ref 398)] [] (nx, ct, mS m0 (nI w) (nI k), ml', mr) (pR (seP (.inl k) J A nx ct m0 ml mr)) := by
  refine ru_aload_n d_Mo_sentence_236 rfl rfl ?_
  refine ru_ldc2 d_Mo_sentence_237 lc_Mo_175 ?_
  refine ru_callV (mc := 0) (ms := 0) d_Mo_sentence_240 lm_Mo_83 (sq_took0 hL (nI_m1 hk)) (rx_recv_is (ly hL 398 9 0) kx_Mo) (by decide) rfl (Nat.le_of_ble_eq_true rfl) ?_
  rintro v τ ⟨rfl, rfl⟩
  refine ru_if_eq (tgt := 264) d_Mo_sentence_243 (by decide) (fun h243 => ?_) (fun h243 => absurd h243 (by decide))
  refine ru_aload_n d_Mo_sentence_264 rfl rfl ?_
  refine ru_bipush (v := 18) d_Mo_sentence_265 (by decide) ?_
  refine ru_iconst (v := 1) d_Mo_sentence_267 (by decide) ?_
  refine ru_bipush (v := 14) d_Mo_sentence_268 (by decide) ?_
  refine ru_bipush (v := 11) d_Mo_sentence_270 (by decide) ?_
  refine ru_iconst (v := 0) d_Mo_sentence_272 (by decide) ?_
  refine ru_iconst (v := 0) d_Mo_sentence_273 (by decide) ?_
  refine ru_iconst (v := 0) d_Mo_sentence_274 (by decide) ?_
  refine ru_callS (mc := 0) (ms := 0) d_Mo_sentence_275 lm_Mo_68 (sp_Mo_word 18 1 14 11 0 0 0 _) (by decide) rfl (Nat.le_of_ble_eq_true rfl) ?_
  intro v τ h
  obtain ⟨rfl, rfl⟩ := h
  refine ru_callV (mc := 0) (ms := 0) d_Mo_sentence_278 lm_Mo_83 (sq_took0 hL (nI_m1 hk)) (rx_recv_is (ly hL 398 9 0) kx_Mo) (by decide) rfl (Nat.le_of_ble_eq_true rfl) ?_
  rintro v τ ⟨rfl, rfl⟩
  refine ru_if_eq (tgt := 304) d_Mo_sentence_281 (by decide) (fun h281 => ?_) (fun h281 => absurd h281 (by decide))
  refine ru_aload_n d_Mo_sentence_304 rfl rfl ?_
  refine ru_callV (mc := 0) (ms := 0) d_Mo_sentence_305 lm_Mo_177 (sq_value0 hL hA hA2 hκ hk2 (nI_m1 hk)) (rx_recv_is (ly hL 398 9 0) kx_Mo) (by decide) rfl (Nat.le_of_ble_eq_true rfl) ?_
  intro v τ h
  obtain ⟨rfl, rfl⟩ := h
  refine ru_aload_n d_Mo_sentence_308 rfl rfl ?_
  refine ru_callV (mc := 0) (ms := 0) d_Mo_sentence_309 lm_Mo_75 (sq_good hL) (rx_recv_is (ly hL 398 9 0) kx_Mo) (by decide) rfl (Nat.le_of_ble_eq_true rfl) ?_
  intro v τ h
  obtain ⟨rfl, rfl⟩ := h
  refine ru_if_eq (tgt := 330) d_Mo_sentence_312 (by decide) (fun h312 => ?_) (fun h312 => absurd (bI_f (nI_m1 hk)) h312)
  refine ru_aload_n d_Mo_sentence_330 rfl rfl ?_
  refine ru_dup d_Mo_sentence_331 rfl ?_
  refine ru_getI d_Mo_sentence_332 lf_Mo_59 (ly hL 398 9 0) rfl ?_
  refine ru_eqi mS_w ?_
  refine ru_iconst (v := 1) d_Mo_sentence_335 (by decide) ?_
  refine ru_iadd d_Mo_sentence_336 ?_
  refine ru_eqi (nm_add w 1 : _ = nI (w + 1)) ?_
  refine ru_putI d_Mo_sentence_337 lf_Mo_59 (ly hL 398 9 0) rfl (fun q hq => by cases hq; exact Or.inl rfl) ⟨rfl, rfl⟩ ?_
  refine ru_vret d_Mo_sentence_340 rfl ?_
  rw [mS_sw]
  exact seP.bad hJ hf
theorem se_bad232 {A κ w k J : Nat} {ml' : Nat → Nat → Int64} (hL : LAY nx ct mr) (hA : m0 398 14 = nI A) (hA2 : A + 12 ≤ 1440) (hκ : κ < 13) (hk2 : ml' 404 A = Int64.ofNat κ) (hk : k < 2 ^ 31) (hJ : w + 1 ≤ J) (hf : fL (v59 A) ml ml') : rx_W M_Mo_sentence 5 0 0 232 [(0, .ref 398)] [] (nx, ct, mS m0 (nI w) (nI k), ml', mr) (pR (seP (.inl k) J A nx ct m0 ml mr)) := by
  refine ru_aload_n d_Mo_sentence_232 rfl rfl ?_
  refine ru_callV (mc := 0) (ms := 0) d_Mo_sentence_233 lm_Mo_172 (sq_layer0 hL (nI_m1 hk)) (rx_recv_is (ly hL 398 9 0) kx_Mo) (by decide) rfl (Nat.le_of_ble_eq_true rfl) ?_
  intro v τ h
  obtain ⟨rfl, rfl⟩ := h
  refine ru_aload_n d_Mo_sentence_236 rfl rfl ?_
  refine ru_ldc2 d_Mo_sentence_237 lc_Mo_175 ?_
  refine ru_callV (mc := 0) (ms := 0) d_Mo_sentence_240 lm_Mo_83 (sq_took0 hL (nI_m1 hk)) (rx_recv_is (ly hL 398 9 0) kx_Mo) (by decide) rfl (Nat.le_of_ble_eq_true rfl) ?_
  rintro v τ ⟨rfl, rfl⟩
  refine ru_if_eq (tgt := 264) d_Mo_sentence_243 (by decide) (fun h243 => ?_) (fun h243 => absurd h243 (by decide))
  refine ru_aload_n d_Mo_sentence_264 rfl rfl ?_
  refine ru_bipush (v := 18) d_Mo_sentence_265 (by decide) ?_
  refine ru_iconst (v := 1) d_Mo_sentence_267 (by decide) ?_
  refine ru_bipush (v := 14) d_Mo_sentence_268 (by decide) ?_
  refine ru_bipush (v := 11) d_Mo_sentence_270 (by decide) ?_
  refine ru_iconst (v := 0) d_Mo_sentence_272 (by decide) ?_
  refine ru_iconst (v := 0) d_Mo_sentence_273 (by decide) ?_
  refine ru_iconst (v := 0) d_Mo_sentence_274 (by decide) ?_
  refine ru_callS (mc := 0) (ms := 0) d_Mo_sentence_275 lm_Mo_68 (sp_Mo_word 18 1 14 11 0 0 0 _) (by decide) rfl (Nat.le_of_ble_eq_true rfl) ?_
  intro v τ h
  obtain ⟨rfl, rfl⟩ := h
  refine ru_callV (mc := 0) (ms := 0) d_Mo_sentence_278 lm_Mo_83 (sq_took0 hL (nI_m1 hk)) (rx_recv_is (ly hL 398 9 0) kx_Mo) (by decide) rfl (Nat.le_of_ble_eq_true rfl) ?_
  rintro v τ ⟨rfl, rfl⟩
  refine ru_if_eq (tgt := 304) d_Mo_sentence_281 (by decide) (fun h281 => ?_) (fun h281 => absurd h281 (by decide))
  refine ru_aload_n d_Mo_sentence_304 rfl rfl ?_
  refine ru_callV (mc := 0) (ms := 0) d_Mo_sentence_305 lm_Mo_177 (sq_value0 hL hA hA2 hκ hk2 (nI_m1 hk)) (rx_recv_is (ly hL 398 9 0) kx_Mo) (by decide) rfl (Nat.le_of_ble_eq_true rfl) ?_
  intro v τ h
  obtain ⟨rfl, rfl⟩ := h
  refine ru_aload_n d_Mo_sentence_308 rfl rfl ?_
  refine ru_callV (mc := 0) (ms := 0) d_Mo_sentence_309 lm_Mo_75 (sq_good hL) (rx_recv_is (ly hL 398 9 0) kx_Mo) (by decide) rfl (Nat.le_of_ble_eq_true rfl) ?_
  intro v τ h
  obtain ⟨rfl, rfl⟩ := h
  refine ru_if_eq (tgt := 330) d_Mo_sentence_312 (by decide) (fun h312 => ?_) (fun h312 => absurd (bI_f (nI_m1 hk)) h312)
  refine ru_aload_n d_Mo_sentence_330 rfl rfl ?_
  refine ru_dup d_Mo_sentence_331 rfl ?_
  refine ru_getI d_Mo_sentence_332 lf_Mo_59 (ly hL 398 9 0) rfl ?_
  refine ru_eqi mS_w ?_
  refine ru_iconst (v := 1) d_Mo_sentence_335 (by decide) ?_
  refine ru_iadd d_Mo_sentence_336 ?_
  refine ru_eqi (nm_add w 1 : _ = nI (w + 1)) ?_
  refine ru_putI d_Mo_sentence_337 lf_Mo_59 (ly hL 398 9 0) rfl (fun q hq => by cases hq; exact Or.inl rfl) ⟨rfl, rfl⟩ ?_
  refine ru_vret d_Mo_sentence_340 rfl ?_
  rw [mS_sw]
  exact seP.bad hJ hf
theorem v89_59 {A : Nat} : ∀ i, v89 A i → v59 A i := fun i h => by
  rcases h with h | h
  · exact ⟨by omega, by omega⟩
  · exact ⟨by omega, by omega⟩
theorem pThing_lt {N : nmS} {j : Nat} : (∀ k, pThing N n t j = .inl k → k ≤ j + 1) ∧ ∀ o j', pThing N n t j = .inr (o, j') → j' ≤ j + 2 := by
  unfold pThing cnd
  constructor
  · intro k h
    repeat' split at h
    all_goals first | (cases h; omega) | cases h
  · intro o j' h
    repeat' split at h
    all_goals first | (cases h; omega) | cases h
theorem pLayer_lt {j : Nat} : (∀ k, pLayer n t j = .inl k → k ≤ j + 2) ∧ ∀ o j', pLayer n t j = .inr (o, j') → j' ≤ j + 3 := by
  unfold pLayer cnd
  constructor
  · intro k h
    repeat' split at h
    all_goals first | (cases h; omega) | cases h
  · intro o j' h
    repeat' split at h
    all_goals first | (cases h; omega) | cases h
theorem pEnds_lt {c : Prop} {j1 j3 : Nat} {D : Nat × Nat} {o2 : Option (Nat × Nat)} : (∀ k, pEnds n t c j1 D o2 j3 = .inl k → k ≤ j1 + 2 ∨ k ≤ j3) ∧ ∀ o j', pEnds n t c j1 D o2 j3 = .inr (o, j') → j' ≤ j3 + 1 := by
  unfold pEnds cnd
  constructor
  · intro k h
    repeat' split at h
    all_goals first | (cases h; omega) | cases h
  · intro o j' h
    repeat' split at h
    all_goals first | (cases h; omega) | cases h
theorem pVal_lt {c one : Prop} {j1 : Nat} : (∀ k, pVal n t c one j1 = .inl k → k ≤ j1 + 3) ∧ ∀ o j', pVal n t c one j1 = .inr (o, j') → j' ≤ j1 + 4 := by
  unfold pVal cnd
  constructor
  · intro k h
    repeat' split at h
    all_goals first | (cases h; omega) | (have := pEnds_lt.1 k h; omega)
  · intro o j' h
    repeat' split at h
    all_goals first | (have := pEnds_lt.2 o j' h; omega) | (cases h; omega) | cases h
theorem pSpan_lt {κ j : Nat} : (∀ k, pSpan n t κ j = .inl k → k ≤ j + 4) ∧ ∀ o j', pSpan n t κ j = .inr (o, j') → j' ≤ j + 5 := by
  have a1 := pVal_lt (n := n) (t := t) (c := κ = 5 ∨ κ = 9) (one := True) (j1 := j + 1)
  have a2 := pVal_lt (n := n) (t := t) (c := κ = 5 ∨ κ = 9) (one := False) (j1 := j)
  unfold pSpan cnd
  constructor
  · intro k h
    split at h
    · cases e : pVal n t (κ = 5 ∨ κ = 9) True (j + 1) with
      | inl x => rw [e] at h; cases h; have := a1.1 _ e; omega
      | inr x => rw [e] at h; cases h
    · split at h
      · cases e : pVal n t (κ = 5 ∨ κ = 9) True (j + 1) with
        | inl x => rw [e] at h; cases h; have := a1.1 _ e; omega
        | inr x => rw [e] at h; cases h
      · cases e : pVal n t (κ = 5 ∨ κ = 9) False j with
        | inl x => rw [e] at h; cases h; have := a2.1 _ e; omega
        | inr x => rw [e] at h; cases h
  · intro o j' h
    split at h
    · cases e : pVal n t (κ = 5 ∨ κ = 9) True (j + 1) with
      | inl x => rw [e] at h; cases h
      | inr x => rw [e] at h; cases h; have := a1.2 _ _ e; omega
    · split at h
      · cases e : pVal n t (κ = 5 ∨ κ = 9) True (j + 1) with
        | inl x => rw [e] at h; cases h
        | inr x => rw [e] at h; cases h; have := a1.2 _ _ e; omega
      · cases e : pVal n t (κ = 5 ∨ κ = 9) False j with
        | inl x => rw [e] at h; cases h
        | inr x => rw [e] at h; cases h; have := a2.2 _ _ e; omega
theorem se_span {A κ l r j J : Nat} {a : Option Nat} (hL : LAY nx ct mr) (h : PMs n m t m0) (hA : m0 398 14 = nI A) (hA2 : A + 12 ≤ 1440) (hκ : κ < 13) (hk : ml 404 A = Int64.ofNat κ) (h5 : ml 404 (A + 5) = Int64.ofNat l) (h6 : ml 404 (A + 6) = (oR a).toInt64) (h7 : ml 404 (A + 7) = Int64.ofNat r) (hj : j < 3600) (hJ : j + 6 ≤ J) : rx_W M_Mo_sentence 5 0 0 304 [(0, .ref 398)] [] (nx, ct, mS m0 (nI j) (-1), ml, mr) (pR (seP (rSpan n t κ l a r j) J A nx ct m0 ml mr)) := by
  have hV := sq_value (ml := ml) (j := j) hL h hA hA2 hκ hk (by omega)
  unfold vaP at hV
  unfold rSpan
  cases e : pSpan n t κ j with
  | inl k =>
    rw [e] at hV
    have hk9 := pSpan_lt.1 k e
    refine ru_aload_n d_Mo_sentence_304 rfl rfl ?_
    refine ru_callV (mc := 0) (ms := 0) d_Mo_sentence_305 lm_Mo_177 hV (rx_recv_is (ly hL 398 9 0) kx_Mo) (by decide) rfl (Nat.le_of_ble_eq_true rfl) ?_
    rintro v τ ⟨rfl, ml', w, rfl, hw, hf⟩
    have hf' : fL (v59 A) ml ml' := (fL.refl _ ml).trans hf (fun _ z => z) v89_59
    exact ru_to (se_bad308 hL hA hA2 hκ ((hf.2 A (by omega)).trans hk) (by omega) (by omega) hf') ⟨rfl, trivial⟩
  | inr q =>
    obtain ⟨e2, j4⟩ := q
    rw [e] at hV
    have hk9 := pSpan_lt.2 _ _ e
    refine ru_aload_n d_Mo_sentence_304 rfl rfl ?_
    refine ru_callV (mc := 0) (ms := 0) d_Mo_sentence_305 lm_Mo_177 hV (rx_recv_is (ly hL 398 9 0) kx_Mo) (by decide) rfl (Nat.le_of_ble_eq_true rfl) ?_
    rintro v τ ⟨rfl, ml', rfl, hf, h8, h9⟩
    have hf' : fL (v59 A) ml ml' := (fL.refl _ ml).trans hf (fun _ z => z) v89_59
    refine ru_to (ru_post (fun v τ z => z.mono (Nat.le_refl J) hf') (se_end (q := (l, a, r, e2)) hL h (by omega) (by omega) ?_)) ⟨rfl, trivial⟩
    exact ⟨(hf.2 _ (by omega)).trans h5, (hf.2 _ (by omega)).trans h6, (hf.2 _ (by omega)).trans h7, h8, h9⟩
theorem se_rank {A κ l j J : Nat} {a : Option Nat} (hL : LAY nx ct mr) (h : PMs n m t m0) (hA : m0 398 14 = nI A) (hA2 : A + 12 ≤ 1440) (hκ : κ < 13) (hk : ml 404 A = Int64.ofNat κ) (h5 : ml 404 (A + 5) = Int64.ofNat l) (h6 : ml 404 (A + 6) = (oR a).toInt64) (h7 : ml 404 (A + 7) = 0) (hj : j < 3500) (hJ : j + 8 ≤ J) : rx_W M_Mo_sentence 5 0 0 264 [(0, .ref 398)] [] (nx, ct, mS m0 (nI j) (-1), ml, mr) (pR (seP (rRank n t κ l a j) J A nx ct m0 ml mr)) := by
  have hT := sq_took (ml := ml) (j := j) hL h wv_12 (by omega)
  have hA' : ∀ w g, mS m0 w g 398 14 = nI A := fun w g => by rw [mS_k]; exact hA
  have hS := sq_small (ml := ml) (j := j + 1) (lo := 0) (hi := 99) hL h (by omega) (by decide) (by decide)
  unfold rRank pRank
  by_cases h12 : isW n t j 12
  · rw [bI_t h12, cnd_t h12] at hT
    rw [cnd_t h12]
    cases e : smallR n t (j + 1) 0 99 with
    | none =>
      rw [e] at hS
      refine ru_aload_n d_Mo_sentence_264 rfl rfl ?_
      refine ru_bipush (v := 18) d_Mo_sentence_265 (by decide) ?_
      refine ru_iconst (v := 1) d_Mo_sentence_267 (by decide) ?_
      refine ru_bipush (v := 14) d_Mo_sentence_268 (by decide) ?_
      refine ru_bipush (v := 11) d_Mo_sentence_270 (by decide) ?_
      refine ru_iconst (v := 0) d_Mo_sentence_272 (by decide) ?_
      refine ru_iconst (v := 0) d_Mo_sentence_273 (by decide) ?_
      refine ru_iconst (v := 0) d_Mo_sentence_274 (by decide) ?_
      refine ru_callS (mc := 0) (ms := 0) d_Mo_sentence_275 lm_Mo_68 (sp_Mo_word 18 1 14 11 0 0 0 _) (by decide) rfl (Nat.le_of_ble_eq_true rfl) ?_
      intro v τ h
      obtain ⟨rfl, rfl⟩ := h
      refine ru_callV (mc := 0) (ms := 0) d_Mo_sentence_278 lm_Mo_83 hT (rx_recv_is (ly hL 398 9 0) kx_Mo) (by decide) rfl (Nat.le_of_ble_eq_true rfl) ?_
      rintro v τ ⟨rfl, rfl⟩
      refine ru_if_eq (tgt := 304) d_Mo_sentence_281 (by decide) (fun h281 => absurd h281 (by decide)) (fun h281 => ?_)
      refine ru_aload_n d_Mo_sentence_284 rfl rfl ?_
      refine ru_getR d_Mo_sentence_285 lf_Mo_27 (ly hL 398 9 0) rfl (lr hL 398 8 404) ?_
      refine ru_aload_n d_Mo_sentence_288 rfl rfl ?_
      refine ru_getI d_Mo_sentence_289 lf_Mo_101 (ly hL 398 9 0) rfl ?_
      refine ru_eqi (hA' _ _) ?_
      refine ru_bipush (v := 7) d_Mo_sentence_292 (by decide) ?_
      refine ru_iadd d_Mo_sentence_294 ?_
      refine ru_eqi (nm_add A 7 : _ = nI (A + 7)) ?_
      refine ru_aload_n d_Mo_sentence_295 rfl rfl ?_
      refine ru_iconst (v := 0) d_Mo_sentence_296 (by decide) ?_
      refine ru_bipush (v := 99) d_Mo_sentence_297 (by decide) ?_
      refine ru_callV (mc := 0) (ms := 0) d_Mo_sentence_299 lm_Mo_110 hS (rx_recv_is (ly hL 398 9 0) kx_Mo) (by decide) rfl (Nat.le_of_ble_eq_true rfl) ?_
      rintro v τ ⟨x, rfl, rfl⟩
      refine ru_i2l d_Mo_sentence_302 ?_
      refine ru_lastN (j := (A + 7)) d_Mo_sentence_303 (ly hL 404 104 1440) (by omega) (by decide) ?_
      have hf' : fL (v59 A) ml (rx_u ml 404 (A + 7) x.toInt64) := (fL.refl _ ml).set _ ⟨by omega, by omega⟩
      exact ru_to (se_bad304 hL hA hA2 hκ ((hf'.2 A (by unfold v59; omega)).trans hk) (by omega) (by omega) hf') ⟨rfl, trivial⟩
    | some r =>
      rw [e] at hS
      refine ru_aload_n d_Mo_sentence_264 rfl rfl ?_
      refine ru_bipush (v := 18) d_Mo_sentence_265 (by decide) ?_
      refine ru_iconst (v := 1) d_Mo_sentence_267 (by decide) ?_
      refine ru_bipush (v := 14) d_Mo_sentence_268 (by decide) ?_
      refine ru_bipush (v := 11) d_Mo_sentence_270 (by decide) ?_
      refine ru_iconst (v := 0) d_Mo_sentence_272 (by decide) ?_
      refine ru_iconst (v := 0) d_Mo_sentence_273 (by decide) ?_
      refine ru_iconst (v := 0) d_Mo_sentence_274 (by decide) ?_
      refine ru_callS (mc := 0) (ms := 0) d_Mo_sentence_275 lm_Mo_68 (sp_Mo_word 18 1 14 11 0 0 0 _) (by decide) rfl (Nat.le_of_ble_eq_true rfl) ?_
      intro v τ h
      obtain ⟨rfl, rfl⟩ := h
      refine ru_callV (mc := 0) (ms := 0) d_Mo_sentence_278 lm_Mo_83 hT (rx_recv_is (ly hL 398 9 0) kx_Mo) (by decide) rfl (Nat.le_of_ble_eq_true rfl) ?_
      rintro v τ ⟨rfl, rfl⟩
      refine ru_if_eq (tgt := 304) d_Mo_sentence_281 (by decide) (fun h281 => absurd h281 (by decide)) (fun h281 => ?_)
      refine ru_aload_n d_Mo_sentence_284 rfl rfl ?_
      refine ru_getR d_Mo_sentence_285 lf_Mo_27 (ly hL 398 9 0) rfl (lr hL 398 8 404) ?_
      refine ru_aload_n d_Mo_sentence_288 rfl rfl ?_
      refine ru_getI d_Mo_sentence_289 lf_Mo_101 (ly hL 398 9 0) rfl ?_
      refine ru_eqi (hA' _ _) ?_
      refine ru_bipush (v := 7) d_Mo_sentence_292 (by decide) ?_
      refine ru_iadd d_Mo_sentence_294 ?_
      refine ru_eqi (nm_add A 7 : _ = nI (A + 7)) ?_
      refine ru_aload_n d_Mo_sentence_295 rfl rfl ?_
      refine ru_iconst (v := 0) d_Mo_sentence_296 (by decide) ?_
      refine ru_bipush (v := 99) d_Mo_sentence_297 (by decide) ?_
      refine ru_callV (mc := 0) (ms := 0) d_Mo_sentence_299 lm_Mo_110 hS (rx_recv_is (ly hL 398 9 0) kx_Mo) (by decide) rfl (Nat.le_of_ble_eq_true rfl) ?_
      rintro v τ ⟨x, rfl, rfl, rfl⟩
      refine ru_i2l d_Mo_sentence_302 ?_
      refine ru_lastN (j := (A + 7)) d_Mo_sentence_303 (ly hL 404 104 1440) (by omega) (by decide) ?_
      have hr : r < 2 ^ 31 := by unfold smallR at e; split at e; cases e; split at e; (next q => cases e; omega); cases e
      have hf' : fL (v59 A) ml (rx_u ml 404 (A + 7) (nI r).toInt64) := (fL.refl _ ml).set _ ⟨by omega, by omega⟩
      refine ru_to (ru_post (fun v τ z => z.mono (Nat.le_refl J) hf') (se_span (r := r) (a := a) (l := l) hL h hA hA2 hκ ((hf'.2 A (by unfold v59; omega)).trans hk) ?_ ?_ ?_ (by omega) (by omega))) ⟨rfl, trivial⟩
      · rw [rx_u_k _ _ (by omega)]; exact h5
      · rw [rx_u_k _ _ (by omega)]; exact h6
      · rw [rx_u_same, nl_i2l hr]
  · rw [bI_f h12, cnd_f h12] at hT
    rw [cnd_f h12]
    refine ru_aload_n d_Mo_sentence_264 rfl rfl ?_
    refine ru_bipush (v := 18) d_Mo_sentence_265 (by decide) ?_
    refine ru_iconst (v := 1) d_Mo_sentence_267 (by decide) ?_
    refine ru_bipush (v := 14) d_Mo_sentence_268 (by decide) ?_
    refine ru_bipush (v := 11) d_Mo_sentence_270 (by decide) ?_
    refine ru_iconst (v := 0) d_Mo_sentence_272 (by decide) ?_
    refine ru_iconst (v := 0) d_Mo_sentence_273 (by decide) ?_
    refine ru_iconst (v := 0) d_Mo_sentence_274 (by decide) ?_
    refine ru_callS (mc := 0) (ms := 0) d_Mo_sentence_275 lm_Mo_68 (sp_Mo_word 18 1 14 11 0 0 0 _) (by decide) rfl (Nat.le_of_ble_eq_true rfl) ?_
    intro v τ h
    obtain ⟨rfl, rfl⟩ := h
    refine ru_callV (mc := 0) (ms := 0) d_Mo_sentence_278 lm_Mo_83 hT (rx_recv_is (ly hL 398 9 0) kx_Mo) (by decide) rfl (Nat.le_of_ble_eq_true rfl) ?_
    rintro v τ ⟨rfl, rfl⟩
    refine ru_if_eq (tgt := 304) d_Mo_sentence_281 (by decide) (fun h281 => ?_) (fun h281 => absurd h281 (by decide))
    exact ru_to (se_span (r := 0) (a := a) (l := l) hL h hA hA2 hκ hk h5 h6 h7 (by omega) (by omega)) ⟨rfl, trivial⟩
theorem se_area {N : nmS} {A κ l j J : Nat} (hL : LAY nx ct mr) (h : PMs n m t m0) (hN : NmM N m0) (hA : m0 398 14 = nI A) (hA2 : A + 12 ≤ 1440) (hκ : κ < 13) (hk : ml 404 A = Int64.ofNat κ) (h5 : ml 404 (A + 5) = Int64.ofNat l) (h6 : ml 404 (A + 6) = -1) (h7 : ml 404 (A + 7) = 0) (hj : j < 3400) (hJ : j + 10 ≤ J) : rx_W M_Mo_sentence 5 0 0 236 [(0, .ref 398)] [] (nx, ct, mS m0 (nI j) (-1), ml, mr) (pR (seP (rArea N n t κ l j) J A nx ct m0 ml mr)) := by
  have hT := sq_took (ml := ml) (j := j) hL h wv_11 (by omega)
  have hA' : ∀ w g, mS m0 w g 398 14 = nI A := fun w g => by rw [mS_k]; exact hA
  have hS := sq_named (ml := ml) (j := j + 1) (a := 2) hL h hN (by decide) (by omega)
  unfold rArea pArea
  by_cases h12 : isW n t j 11
  · rw [bI_t h12, cnd_t h12] at hT
    rw [cnd_t h12]
    cases e : fnd N n t (j + 1) 2 with
    | none =>
      rw [e] at hS
      refine ru_aload_n d_Mo_sentence_236 rfl rfl ?_
      refine ru_ldc2 d_Mo_sentence_237 lc_Mo_175 ?_
      refine ru_callV (mc := 0) (ms := 0) d_Mo_sentence_240 lm_Mo_83 hT (rx_recv_is (ly hL 398 9 0) kx_Mo) (by decide) rfl (Nat.le_of_ble_eq_true rfl) ?_
      rintro v τ ⟨rfl, rfl⟩
      refine ru_if_eq (tgt := 264) d_Mo_sentence_243 (by decide) (fun h243 => absurd h243 (by decide)) (fun h243 => ?_)
      refine ru_aload_n d_Mo_sentence_246 rfl rfl ?_
      refine ru_getR d_Mo_sentence_247 lf_Mo_27 (ly hL 398 9 0) rfl (lr hL 398 8 404) ?_
      refine ru_aload_n d_Mo_sentence_250 rfl rfl ?_
      refine ru_getI d_Mo_sentence_251 lf_Mo_101 (ly hL 398 9 0) rfl ?_
      refine ru_eqi (hA' _ _) ?_
      refine ru_bipush (v := 6) d_Mo_sentence_254 (by decide) ?_
      refine ru_iadd d_Mo_sentence_256 ?_
      refine ru_eqi (nm_add A 6 : _ = nI (A + 6)) ?_
      refine ru_aload_n d_Mo_sentence_257 rfl rfl ?_
      refine ru_iconst (v := 2) d_Mo_sentence_258 (by decide) ?_
      refine ru_callV (mc := 0) (ms := 0) d_Mo_sentence_259 lm_Mo_91 hS (rx_recv_is (ly hL 398 9 0) kx_Mo) (by decide) rfl (Nat.le_of_ble_eq_true rfl) ?_
      rintro v τ ⟨rfl, rfl⟩
      refine ru_i2l d_Mo_sentence_262 ?_
      refine ru_lastN (j := (A + 6)) d_Mo_sentence_263 (ly hL 404 104 1440) (by omega) (by decide) ?_
      have hf' : ∀ x, fL (v59 A) ml (rx_u ml 404 (A + 6) x) := fun x => (fL.refl _ ml).set _ ⟨by omega, by omega⟩
      exact ru_to (se_bad264 hL hA hA2 hκ (((hf' _).2 A (by unfold v59; omega)).trans hk) (by omega) (by omega) (hf' _)) ⟨rfl, trivial⟩
    | some x =>
      rw [e] at hS
      have hx := fnd_lt e
      refine ru_aload_n d_Mo_sentence_236 rfl rfl ?_
      refine ru_ldc2 d_Mo_sentence_237 lc_Mo_175 ?_
      refine ru_callV (mc := 0) (ms := 0) d_Mo_sentence_240 lm_Mo_83 hT (rx_recv_is (ly hL 398 9 0) kx_Mo) (by decide) rfl (Nat.le_of_ble_eq_true rfl) ?_
      rintro v τ ⟨rfl, rfl⟩
      refine ru_if_eq (tgt := 264) d_Mo_sentence_243 (by decide) (fun h243 => absurd h243 (by decide)) (fun h243 => ?_)
      refine ru_aload_n d_Mo_sentence_246 rfl rfl ?_
      refine ru_getR d_Mo_sentence_247 lf_Mo_27 (ly hL 398 9 0) rfl (lr hL 398 8 404) ?_
      refine ru_aload_n d_Mo_sentence_250 rfl rfl ?_
      refine ru_getI d_Mo_sentence_251 lf_Mo_101 (ly hL 398 9 0) rfl ?_
      refine ru_eqi (hA' _ _) ?_
      refine ru_bipush (v := 6) d_Mo_sentence_254 (by decide) ?_
      refine ru_iadd d_Mo_sentence_256 ?_
      refine ru_eqi (nm_add A 6 : _ = nI (A + 6)) ?_
      refine ru_aload_n d_Mo_sentence_257 rfl rfl ?_
      refine ru_iconst (v := 2) d_Mo_sentence_258 (by decide) ?_
      refine ru_callV (mc := 0) (ms := 0) d_Mo_sentence_259 lm_Mo_91 hS (rx_recv_is (ly hL 398 9 0) kx_Mo) (by decide) rfl (Nat.le_of_ble_eq_true rfl) ?_
      rintro v τ ⟨rfl, rfl⟩
      refine ru_i2l d_Mo_sentence_262 ?_
      refine ru_lastN (j := (A + 6)) d_Mo_sentence_263 (ly hL 404 104 1440) (by omega) (by decide) ?_
      have hf' : ∀ x, fL (v59 A) ml (rx_u ml 404 (A + 6) x) := fun x => (fL.refl _ ml).set _ ⟨by omega, by omega⟩
      refine ru_to (ru_post (fun v τ z => z.mono (Nat.le_refl J) (hf' _)) (se_rank (a := some x) (l := l) hL h hA hA2 hκ (((hf' _).2 A (by unfold v59; omega)).trans hk) ?_ ?_ ?_ (by omega) (by omega))) ⟨rfl, trivial⟩
      · rw [rx_u_k _ _ (by omega)]; exact h5
      · rw [rx_u_same]; rfl
      · rw [rx_u_k _ _ (by omega)]; exact h7
  · rw [bI_f h12, cnd_f h12] at hT
    rw [cnd_f h12]
    refine ru_aload_n d_Mo_sentence_236 rfl rfl ?_
    refine ru_ldc2 d_Mo_sentence_237 lc_Mo_175 ?_
    refine ru_callV (mc := 0) (ms := 0) d_Mo_sentence_240 lm_Mo_83 hT (rx_recv_is (ly hL 398 9 0) kx_Mo) (by decide) rfl (Nat.le_of_ble_eq_true rfl) ?_
    rintro v τ ⟨rfl, rfl⟩
    refine ru_if_eq (tgt := 264) d_Mo_sentence_243 (by decide) (fun h243 => ?_) (fun h243 => absurd h243 (by decide))
    exact ru_to (se_rank (a := none) (l := l) hL h hA hA2 hκ hk h5 h6 h7 (by omega) (by omega)) ⟨rfl, trivial⟩
theorem se_layer {N : nmS} {A κ j J : Nat} (hL : LAY nx ct mr) (h : PMs n m t m0) (hN : NmM N m0) (hA : m0 398 14 = nI A) (hA2 : A + 12 ≤ 1440) (hκ : κ < 13) (hk : ml 404 A = Int64.ofNat κ) (h5 : ml 404 (A + 5) = 0) (h6 : ml 404 (A + 6) = -1) (h7 : ml 404 (A + 7) = 0) (hj : j < 3300) (hJ : j + 13 ≤ J) : rx_W M_Mo_sentence 5 0 0 232 [(0, .ref 398)] [] (nx, ct, mS m0 (nI j) (-1), ml, mr) (pR (seP (rLayer N n t κ j) J A nx ct m0 ml mr)) := by
  have hV := sq_layer (ml := ml) (j := j) hL h hA hA2 h5 (by omega)
  unfold laP at hV
  unfold rLayer
  cases e : pLayer n t j with
  | inl k =>
    rw [e] at hV
    have hk9 := pLayer_lt.1 k e
    refine ru_aload_n d_Mo_sentence_232 rfl rfl ?_
    refine ru_callV (mc := 0) (ms := 0) d_Mo_sentence_233 lm_Mo_172 hV (rx_recv_is (ly hL 398 9 0) kx_Mo) (by decide) rfl (Nat.le_of_ble_eq_true rfl) ?_
    rintro v τ ⟨rfl, ml', w, rfl, hw, hf⟩
    have hf' : fL (v59 A) ml ml' := (fL.refl _ ml).trans hf (fun _ z => z) (fun i z => by constructor <;> omega)
    exact ru_to (se_bad236 hL hA hA2 hκ ((hf.2 A (by omega)).trans hk) (by omega) (by omega) hf') ⟨rfl, trivial⟩
  | inr q =>
    obtain ⟨l, j4⟩ := q
    rw [e] at hV
    have hk9 := pLayer_lt.2 _ _ e
    refine ru_aload_n d_Mo_sentence_232 rfl rfl ?_
    refine ru_callV (mc := 0) (ms := 0) d_Mo_sentence_233 lm_Mo_172 hV (rx_recv_is (ly hL 398 9 0) kx_Mo) (by decide) rfl (Nat.le_of_ble_eq_true rfl) ?_
    rintro v τ ⟨rfl, ml', rfl, hf, h8⟩
    have hf' : fL (v59 A) ml ml' := (fL.refl _ ml).trans hf (fun _ z => z) (fun i z => by constructor <;> omega)
    exact ru_to (ru_post (fun v τ z => z.mono (Nat.le_refl J) hf') (se_area (l := l) hL h hN hA hA2 hκ ((hf.2 A (by omega)).trans hk) h8 ((hf.2 _ (by omega)).trans h6) ((hf.2 _ (by omega)).trans h7) (by omega) (by omega))) ⟨rfl, trivial⟩
end
