/-! The reference reads numbers and units -/
theorem d_Mo_tookNumber_0 : decode M_Mo_tookNumber.2.1 0 = .ok (.aload_n 0, 1) := by decide +kernel
theorem d_Mo_tookNumber_1 : decode M_Mo_tookNumber.2.1 1 = .ok (.invokevirtual 75, 3) := by decide +kernel
theorem d_Mo_tookNumber_4 : decode M_Mo_tookNumber.2.1 4 = .ok (.ifCond .eq 14, 3) := by decide +kernel
theorem d_Mo_tookNumber_7 : decode M_Mo_tookNumber.2.1 7 = .ok (.aload_n 0, 1) := by decide +kernel
theorem d_Mo_tookNumber_8 : decode M_Mo_tookNumber.2.1 8 = .ok (.getfield 59, 3) := by decide +kernel
theorem d_Mo_tookNumber_11 : decode M_Mo_tookNumber.2.1 11 = .ok (.aload_n 0, 1) := by decide +kernel
theorem d_Mo_tookNumber_12 : decode M_Mo_tookNumber.2.1 12 = .ok (.getfield 53, 3) := by decide +kernel
theorem d_Mo_tookNumber_15 : decode M_Mo_tookNumber.2.1 15 = .ok (.if_icmp .lt 5, 3) := by decide +kernel
theorem d_Mo_tookNumber_18 : decode M_Mo_tookNumber.2.1 18 = .ok (.iconst 0, 1) := by decide +kernel
theorem d_Mo_tookNumber_19 : decode M_Mo_tookNumber.2.1 19 = .ok (.ireturn, 1) := by decide +kernel
theorem d_Mo_tookNumber_20 : decode M_Mo_tookNumber.2.1 20 = .ok (.iconst 0, 1) := by decide +kernel
theorem d_Mo_tookNumber_21 : decode M_Mo_tookNumber.2.1 21 = .ok (.istore_n 1, 1) := by decide +kernel
theorem d_Mo_tookNumber_22 : decode M_Mo_tookNumber.2.1 22 = .ok (.aload_n 0, 1) := by decide +kernel
theorem d_Mo_tookNumber_23 : decode M_Mo_tookNumber.2.1 23 = .ok (.getfield 30, 3) := by decide +kernel
theorem d_Mo_tookNumber_26 : decode M_Mo_tookNumber.2.1 26 = .ok (.aload_n 0, 1) := by decide +kernel
theorem d_Mo_tookNumber_27 : decode M_Mo_tookNumber.2.1 27 = .ok (.getfield 59, 3) := by decide +kernel
theorem d_Mo_tookNumber_30 : decode M_Mo_tookNumber.2.1 30 = .ok (.iaload, 1) := by decide +kernel
theorem d_Mo_tookNumber_31 : decode M_Mo_tookNumber.2.1 31 = .ok (.istore_n 2, 1) := by decide +kernel
theorem d_Mo_tookNumber_32 : decode M_Mo_tookNumber.2.1 32 = .ok (.lconst 0, 1) := by decide +kernel
theorem d_Mo_tookNumber_33 : decode M_Mo_tookNumber.2.1 33 = .ok (.lstore_n 3, 1) := by decide +kernel
theorem d_Mo_tookNumber_34 : decode M_Mo_tookNumber.2.1 34 = .ok (.iload_n 2, 1) := by decide +kernel
theorem d_Mo_tookNumber_35 : decode M_Mo_tookNumber.2.1 35 = .ok (.aload_n 0, 1) := by decide +kernel
theorem d_Mo_tookNumber_36 : decode M_Mo_tookNumber.2.1 36 = .ok (.getfield 33, 3) := by decide +kernel
theorem d_Mo_tookNumber_39 : decode M_Mo_tookNumber.2.1 39 = .ok (.aload_n 0, 1) := by decide +kernel
theorem d_Mo_tookNumber_40 : decode M_Mo_tookNumber.2.1 40 = .ok (.getfield 59, 3) := by decide +kernel
theorem d_Mo_tookNumber_43 : decode M_Mo_tookNumber.2.1 43 = .ok (.iaload, 1) := by decide +kernel
theorem d_Mo_tookNumber_44 : decode M_Mo_tookNumber.2.1 44 = .ok (.if_icmp .ge 52, 3) := by decide +kernel
theorem d_Mo_tookNumber_47 : decode M_Mo_tookNumber.2.1 47 = .ok (.aload_n 0, 1) := by decide +kernel
theorem d_Mo_tookNumber_48 : decode M_Mo_tookNumber.2.1 48 = .ok (.getfield 7, 3) := by decide +kernel
theorem d_Mo_tookNumber_51 : decode M_Mo_tookNumber.2.1 51 = .ok (.iload_n 2, 1) := by decide +kernel
theorem d_Mo_tookNumber_52 : decode M_Mo_tookNumber.2.1 52 = .ok (.iaload, 1) := by decide +kernel
theorem d_Mo_tookNumber_53 : decode M_Mo_tookNumber.2.1 53 = .ok (.invokestatic 47, 3) := by decide +kernel
theorem d_Mo_tookNumber_56 : decode M_Mo_tookNumber.2.1 56 = .ok (.ifCond .eq 40, 3) := by decide +kernel
theorem d_Mo_tookNumber_59 : decode M_Mo_tookNumber.2.1 59 = .ok (.iload_n 1, 1) := by decide +kernel
theorem d_Mo_tookNumber_60 : decode M_Mo_tookNumber.2.1 60 = .ok (.bipush 10, 2) := by decide +kernel
theorem d_Mo_tookNumber_62 : decode M_Mo_tookNumber.2.1 62 = .ok (.if_icmp .ge 23, 3) := by decide +kernel
theorem d_Mo_tookNumber_65 : decode M_Mo_tookNumber.2.1 65 = .ok (.ldc2_w 114, 3) := by decide +kernel
theorem d_Mo_tookNumber_68 : decode M_Mo_tookNumber.2.1 68 = .ok (.lload_n 3, 1) := by decide +kernel
theorem d_Mo_tookNumber_69 : decode M_Mo_tookNumber.2.1 69 = .ok (.lmul, 1) := by decide +kernel
theorem d_Mo_tookNumber_70 : decode M_Mo_tookNumber.2.1 70 = .ok (.aload_n 0, 1) := by decide +kernel
theorem d_Mo_tookNumber_71 : decode M_Mo_tookNumber.2.1 71 = .ok (.getfield 7, 3) := by decide +kernel
theorem d_Mo_tookNumber_74 : decode M_Mo_tookNumber.2.1 74 = .ok (.iload_n 2, 1) := by decide +kernel
theorem d_Mo_tookNumber_75 : decode M_Mo_tookNumber.2.1 75 = .ok (.iaload, 1) := by decide +kernel
theorem d_Mo_tookNumber_76 : decode M_Mo_tookNumber.2.1 76 = .ok (.i2l, 1) := by decide +kernel
theorem d_Mo_tookNumber_77 : decode M_Mo_tookNumber.2.1 77 = .ok (.ladd, 1) := by decide +kernel
theorem d_Mo_tookNumber_78 : decode M_Mo_tookNumber.2.1 78 = .ok (.ldc2_w 116, 3) := by decide +kernel
theorem d_Mo_tookNumber_81 : decode M_Mo_tookNumber.2.1 81 = .ok (.lsub, 1) := by decide +kernel
theorem d_Mo_tookNumber_82 : decode M_Mo_tookNumber.2.1 82 = .ok (.goto 4, 3) := by decide +kernel
theorem d_Mo_tookNumber_85 : decode M_Mo_tookNumber.2.1 85 = .ok (.lload_n 3, 1) := by decide +kernel
theorem d_Mo_tookNumber_86 : decode M_Mo_tookNumber.2.1 86 = .ok (.lstore_n 3, 1) := by decide +kernel
theorem d_Mo_tookNumber_87 : decode M_Mo_tookNumber.2.1 87 = .ok (.iinc 1 1, 3) := by decide +kernel
theorem d_Mo_tookNumber_90 : decode M_Mo_tookNumber.2.1 90 = .ok (.iinc 2 1, 3) := by decide +kernel
theorem d_Mo_tookNumber_93 : decode M_Mo_tookNumber.2.1 93 = .ok (.goto (-59), 3) := by decide +kernel
theorem d_Mo_tookNumber_96 : decode M_Mo_tookNumber.2.1 96 = .ok (.iconst 0, 1) := by decide +kernel
theorem d_Mo_tookNumber_97 : decode M_Mo_tookNumber.2.1 97 = .ok (.istore 5, 2) := by decide +kernel
theorem d_Mo_tookNumber_99 : decode M_Mo_tookNumber.2.1 99 = .ok (.iload_n 2, 1) := by decide +kernel
theorem d_Mo_tookNumber_100 : decode M_Mo_tookNumber.2.1 100 = .ok (.aload_n 0, 1) := by decide +kernel
theorem d_Mo_tookNumber_101 : decode M_Mo_tookNumber.2.1 101 = .ok (.getfield 33, 3) := by decide +kernel
theorem d_Mo_tookNumber_104 : decode M_Mo_tookNumber.2.1 104 = .ok (.aload_n 0, 1) := by decide +kernel
theorem d_Mo_tookNumber_105 : decode M_Mo_tookNumber.2.1 105 = .ok (.getfield 59, 3) := by decide +kernel
theorem d_Mo_tookNumber_108 : decode M_Mo_tookNumber.2.1 108 = .ok (.iaload, 1) := by decide +kernel
theorem d_Mo_tookNumber_109 : decode M_Mo_tookNumber.2.1 109 = .ok (.if_icmp .ge 18, 3) := by decide +kernel
theorem d_Mo_tookNumber_112 : decode M_Mo_tookNumber.2.1 112 = .ok (.aload_n 0, 1) := by decide +kernel
theorem d_Mo_tookNumber_113 : decode M_Mo_tookNumber.2.1 113 = .ok (.getfield 7, 3) := by decide +kernel
theorem d_Mo_tookNumber_116 : decode M_Mo_tookNumber.2.1 116 = .ok (.iload_n 2, 1) := by decide +kernel
theorem d_Mo_tookNumber_117 : decode M_Mo_tookNumber.2.1 117 = .ok (.iaload, 1) := by decide +kernel
theorem d_Mo_tookNumber_118 : decode M_Mo_tookNumber.2.1 118 = .ok (.bipush 46, 2) := by decide +kernel
theorem d_Mo_tookNumber_120 : decode M_Mo_tookNumber.2.1 120 = .ok (.if_icmp .ne 7, 3) := by decide +kernel
theorem d_Mo_tookNumber_123 : decode M_Mo_tookNumber.2.1 123 = .ok (.iconst 1, 1) := by decide +kernel
theorem d_Mo_tookNumber_124 : decode M_Mo_tookNumber.2.1 124 = .ok (.goto 4, 3) := by decide +kernel
theorem d_Mo_tookNumber_127 : decode M_Mo_tookNumber.2.1 127 = .ok (.iconst 0, 1) := by decide +kernel
theorem d_Mo_tookNumber_128 : decode M_Mo_tookNumber.2.1 128 = .ok (.istore 6, 2) := by decide +kernel
theorem d_Mo_tookNumber_130 : decode M_Mo_tookNumber.2.1 130 = .ok (.iload 6, 2) := by decide +kernel
theorem d_Mo_tookNumber_132 : decode M_Mo_tookNumber.2.1 132 = .ok (.ifCond .eq 6, 3) := by decide +kernel
theorem d_Mo_tookNumber_135 : decode M_Mo_tookNumber.2.1 135 = .ok (.iinc 2 1, 3) := by decide +kernel
theorem d_Mo_tookNumber_138 : decode M_Mo_tookNumber.2.1 138 = .ok (.iload 6, 2) := by decide +kernel
theorem d_Mo_tookNumber_140 : decode M_Mo_tookNumber.2.1 140 = .ok (.ifCond .eq 66, 3) := by decide +kernel
theorem d_Mo_tookNumber_143 : decode M_Mo_tookNumber.2.1 143 = .ok (.iload_n 2, 1) := by decide +kernel
theorem d_Mo_tookNumber_144 : decode M_Mo_tookNumber.2.1 144 = .ok (.aload_n 0, 1) := by decide +kernel
theorem d_Mo_tookNumber_145 : decode M_Mo_tookNumber.2.1 145 = .ok (.getfield 33, 3) := by decide +kernel
theorem d_Mo_tookNumber_148 : decode M_Mo_tookNumber.2.1 148 = .ok (.aload_n 0, 1) := by decide +kernel
theorem d_Mo_tookNumber_149 : decode M_Mo_tookNumber.2.1 149 = .ok (.getfield 59, 3) := by decide +kernel
theorem d_Mo_tookNumber_152 : decode M_Mo_tookNumber.2.1 152 = .ok (.iaload, 1) := by decide +kernel
theorem d_Mo_tookNumber_153 : decode M_Mo_tookNumber.2.1 153 = .ok (.if_icmp .ge 53, 3) := by decide +kernel
theorem d_Mo_tookNumber_156 : decode M_Mo_tookNumber.2.1 156 = .ok (.aload_n 0, 1) := by decide +kernel
theorem d_Mo_tookNumber_157 : decode M_Mo_tookNumber.2.1 157 = .ok (.getfield 7, 3) := by decide +kernel
theorem d_Mo_tookNumber_160 : decode M_Mo_tookNumber.2.1 160 = .ok (.iload_n 2, 1) := by decide +kernel
theorem d_Mo_tookNumber_161 : decode M_Mo_tookNumber.2.1 161 = .ok (.iaload, 1) := by decide +kernel
theorem d_Mo_tookNumber_162 : decode M_Mo_tookNumber.2.1 162 = .ok (.invokestatic 47, 3) := by decide +kernel
theorem d_Mo_tookNumber_165 : decode M_Mo_tookNumber.2.1 165 = .ok (.ifCond .eq 41, 3) := by decide +kernel
theorem d_Mo_tookNumber_168 : decode M_Mo_tookNumber.2.1 168 = .ok (.iload 5, 2) := by decide +kernel
theorem d_Mo_tookNumber_170 : decode M_Mo_tookNumber.2.1 170 = .ok (.bipush 7, 2) := by decide +kernel
theorem d_Mo_tookNumber_172 : decode M_Mo_tookNumber.2.1 172 = .ok (.if_icmp .ge 23, 3) := by decide +kernel
theorem d_Mo_tookNumber_175 : decode M_Mo_tookNumber.2.1 175 = .ok (.ldc2_w 114, 3) := by decide +kernel
theorem d_Mo_tookNumber_178 : decode M_Mo_tookNumber.2.1 178 = .ok (.lload_n 3, 1) := by decide +kernel
theorem d_Mo_tookNumber_179 : decode M_Mo_tookNumber.2.1 179 = .ok (.lmul, 1) := by decide +kernel
theorem d_Mo_tookNumber_180 : decode M_Mo_tookNumber.2.1 180 = .ok (.aload_n 0, 1) := by decide +kernel
theorem d_Mo_tookNumber_181 : decode M_Mo_tookNumber.2.1 181 = .ok (.getfield 7, 3) := by decide +kernel
theorem d_Mo_tookNumber_184 : decode M_Mo_tookNumber.2.1 184 = .ok (.iload_n 2, 1) := by decide +kernel
theorem d_Mo_tookNumber_185 : decode M_Mo_tookNumber.2.1 185 = .ok (.iaload, 1) := by decide +kernel
theorem d_Mo_tookNumber_186 : decode M_Mo_tookNumber.2.1 186 = .ok (.i2l, 1) := by decide +kernel
theorem d_Mo_tookNumber_187 : decode M_Mo_tookNumber.2.1 187 = .ok (.ladd, 1) := by decide +kernel
theorem d_Mo_tookNumber_188 : decode M_Mo_tookNumber.2.1 188 = .ok (.ldc2_w 116, 3) := by decide +kernel
theorem d_Mo_tookNumber_191 : decode M_Mo_tookNumber.2.1 191 = .ok (.lsub, 1) := by decide +kernel
theorem d_Mo_tookNumber_192 : decode M_Mo_tookNumber.2.1 192 = .ok (.goto 4, 3) := by decide +kernel
theorem d_Mo_tookNumber_195 : decode M_Mo_tookNumber.2.1 195 = .ok (.lload_n 3, 1) := by decide +kernel
theorem d_Mo_tookNumber_196 : decode M_Mo_tookNumber.2.1 196 = .ok (.lstore_n 3, 1) := by decide +kernel
theorem d_Mo_tookNumber_197 : decode M_Mo_tookNumber.2.1 197 = .ok (.iinc 5 1, 3) := by decide +kernel
theorem d_Mo_tookNumber_200 : decode M_Mo_tookNumber.2.1 200 = .ok (.iinc 2 1, 3) := by decide +kernel
theorem d_Mo_tookNumber_203 : decode M_Mo_tookNumber.2.1 203 = .ok (.goto (-65), 3) := by decide +kernel
theorem d_Mo_tookNumber_206 : decode M_Mo_tookNumber.2.1 206 = .ok (.iload_n 2, 1) := by decide +kernel
theorem d_Mo_tookNumber_207 : decode M_Mo_tookNumber.2.1 207 = .ok (.aload_n 0, 1) := by decide +kernel
theorem d_Mo_tookNumber_208 : decode M_Mo_tookNumber.2.1 208 = .ok (.getfield 33, 3) := by decide +kernel
theorem d_Mo_tookNumber_211 : decode M_Mo_tookNumber.2.1 211 = .ok (.aload_n 0, 1) := by decide +kernel
theorem d_Mo_tookNumber_212 : decode M_Mo_tookNumber.2.1 212 = .ok (.getfield 59, 3) := by decide +kernel
theorem d_Mo_tookNumber_215 : decode M_Mo_tookNumber.2.1 215 = .ok (.iaload, 1) := by decide +kernel
theorem d_Mo_tookNumber_216 : decode M_Mo_tookNumber.2.1 216 = .ok (.if_icmp .ne 34, 3) := by decide +kernel
theorem d_Mo_tookNumber_219 : decode M_Mo_tookNumber.2.1 219 = .ok (.iload_n 1, 1) := by decide +kernel
theorem d_Mo_tookNumber_220 : decode M_Mo_tookNumber.2.1 220 = .ok (.ifCond .le 30, 3) := by decide +kernel
theorem d_Mo_tookNumber_223 : decode M_Mo_tookNumber.2.1 223 = .ok (.iload_n 1, 1) := by decide +kernel
theorem d_Mo_tookNumber_224 : decode M_Mo_tookNumber.2.1 224 = .ok (.bipush 10, 2) := by decide +kernel
theorem d_Mo_tookNumber_226 : decode M_Mo_tookNumber.2.1 226 = .ok (.if_icmp .ge 24, 3) := by decide +kernel
theorem d_Mo_tookNumber_229 : decode M_Mo_tookNumber.2.1 229 = .ok (.iload 6, 2) := by decide +kernel
theorem d_Mo_tookNumber_231 : decode M_Mo_tookNumber.2.1 231 = .ok (.ifCond .eq 15, 3) := by decide +kernel
theorem d_Mo_tookNumber_234 : decode M_Mo_tookNumber.2.1 234 = .ok (.iload 5, 2) := by decide +kernel
theorem d_Mo_tookNumber_236 : decode M_Mo_tookNumber.2.1 236 = .ok (.ifCond .le 14, 3) := by decide +kernel
theorem d_Mo_tookNumber_239 : decode M_Mo_tookNumber.2.1 239 = .ok (.iload 5, 2) := by decide +kernel
theorem d_Mo_tookNumber_241 : decode M_Mo_tookNumber.2.1 241 = .ok (.bipush 7, 2) := by decide +kernel
theorem d_Mo_tookNumber_243 : decode M_Mo_tookNumber.2.1 243 = .ok (.if_icmp .ge 7, 3) := by decide +kernel
theorem d_Mo_tookNumber_246 : decode M_Mo_tookNumber.2.1 246 = .ok (.iconst 1, 1) := by decide +kernel
theorem d_Mo_tookNumber_247 : decode M_Mo_tookNumber.2.1 247 = .ok (.goto 4, 3) := by decide +kernel
theorem d_Mo_tookNumber_250 : decode M_Mo_tookNumber.2.1 250 = .ok (.iconst 0, 1) := by decide +kernel
theorem d_Mo_tookNumber_251 : decode M_Mo_tookNumber.2.1 251 = .ok (.istore 7, 2) := by decide +kernel
theorem d_Mo_tookNumber_253 : decode M_Mo_tookNumber.2.1 253 = .ok (.iload 7, 2) := by decide +kernel
theorem d_Mo_tookNumber_255 : decode M_Mo_tookNumber.2.1 255 = .ok (.ifCond .ne 5, 3) := by decide +kernel
theorem d_Mo_tookNumber_258 : decode M_Mo_tookNumber.2.1 258 = .ok (.iconst 0, 1) := by decide +kernel
theorem d_Mo_tookNumber_259 : decode M_Mo_tookNumber.2.1 259 = .ok (.ireturn, 1) := by decide +kernel
theorem d_Mo_tookNumber_260 : decode M_Mo_tookNumber.2.1 260 = .ok (.iload 5, 2) := by decide +kernel
theorem d_Mo_tookNumber_262 : decode M_Mo_tookNumber.2.1 262 = .ok (.istore 8, 2) := by decide +kernel
theorem d_Mo_tookNumber_264 : decode M_Mo_tookNumber.2.1 264 = .ok (.iload 8, 2) := by decide +kernel
theorem d_Mo_tookNumber_266 : decode M_Mo_tookNumber.2.1 266 = .ok (.bipush 6, 2) := by decide +kernel
theorem d_Mo_tookNumber_268 : decode M_Mo_tookNumber.2.1 268 = .ok (.if_icmp .ge 15, 3) := by decide +kernel
theorem d_Mo_tookNumber_271 : decode M_Mo_tookNumber.2.1 271 = .ok (.ldc2_w 114, 3) := by decide +kernel
theorem d_Mo_tookNumber_274 : decode M_Mo_tookNumber.2.1 274 = .ok (.lload_n 3, 1) := by decide +kernel
theorem d_Mo_tookNumber_275 : decode M_Mo_tookNumber.2.1 275 = .ok (.lmul, 1) := by decide +kernel
theorem d_Mo_tookNumber_276 : decode M_Mo_tookNumber.2.1 276 = .ok (.lstore_n 3, 1) := by decide +kernel
theorem d_Mo_tookNumber_277 : decode M_Mo_tookNumber.2.1 277 = .ok (.iinc 8 1, 3) := by decide +kernel
theorem d_Mo_tookNumber_280 : decode M_Mo_tookNumber.2.1 280 = .ok (.goto (-16), 3) := by decide +kernel
theorem d_Mo_tookNumber_283 : decode M_Mo_tookNumber.2.1 283 = .ok (.aload_n 0, 1) := by decide +kernel
theorem d_Mo_tookNumber_284 : decode M_Mo_tookNumber.2.1 284 = .ok (.lload_n 3, 1) := by decide +kernel
theorem d_Mo_tookNumber_285 : decode M_Mo_tookNumber.2.1 285 = .ok (.putfield 118, 3) := by decide +kernel
theorem d_Mo_tookNumber_288 : decode M_Mo_tookNumber.2.1 288 = .ok (.aload_n 0, 1) := by decide +kernel
theorem d_Mo_tookNumber_289 : decode M_Mo_tookNumber.2.1 289 = .ok (.dup, 1) := by decide +kernel
theorem d_Mo_tookNumber_290 : decode M_Mo_tookNumber.2.1 290 = .ok (.getfield 59, 3) := by decide +kernel
theorem d_Mo_tookNumber_293 : decode M_Mo_tookNumber.2.1 293 = .ok (.iconst 1, 1) := by decide +kernel
theorem d_Mo_tookNumber_294 : decode M_Mo_tookNumber.2.1 294 = .ok (.iadd, 1) := by decide +kernel
theorem d_Mo_tookNumber_295 : decode M_Mo_tookNumber.2.1 295 = .ok (.putfield 59, 3) := by decide +kernel
theorem d_Mo_tookNumber_298 : decode M_Mo_tookNumber.2.1 298 = .ok (.iconst 1, 1) := by decide +kernel
theorem d_Mo_tookNumber_299 : decode M_Mo_tookNumber.2.1 299 = .ok (.ireturn, 1) := by decide +kernel
section
variable {e : Nat} {t : Nat → Int32}
theorem de_step {i : Nat} (h : i < e) (hb : isDig (t i)) : de e t (e - i) i = de e t (e - (i + 1)) (i + 1) := by
  obtain ⟨f, hf⟩ : ∃ f, e - i = f + 1 := ⟨e - i - 1, by omega⟩
  rw [hf, show e - (i + 1) = f by omega]
  show (if i < e ∧ 48 ≤ (t i).toInt ∧ (t i).toInt ≤ 57 then _ else _) = _
  rw [if_pos ⟨h, hb⟩]
theorem de_stop {i f : Nat} (h : ¬ (i < e ∧ isDig (t i))) : de e t f i = i := by
  cases f with
  | zero => rfl
  | succ f =>
    exact if_neg h
theorem de_dig : ∀ f i, f = e - i → i ≤ e → ∀ x, i ≤ x → x < de e t f i → isDig (t x)
  | 0, i, hf, hi, x, h1, h2 => by
    unfold de at h2
    omega
  | f + 1, i, hf, hi, x, h1, h2 => by
    by_cases hd : isDig (t i)
    · by_cases q : x = i
      · subst q; exact hd
      · refine de_dig f (i + 1) (by omega) (by omega) x (by omega) ?_
        rw [hf, de_step (by omega) hd, show e - (i + 1) = f by omega] at h2
        exact h2
    · rw [hf, de_stop (fun z => hd z.2)] at h2
      omega
theorem dvF_snoc : ∀ c k v, dvF t (c + 1) k v = 10 * dvF t c k v + ((t (k + c)).toInt - 48).toNat
  | 0, k, v => rfl
  | c + 1, k, v => by
    show dvF t (c + 1) (k + 1) _ = 10 * dvF t c (k + 1) _ + _
    rw [dvF_snoc c (k + 1), show k + 1 + c = k + (c + 1) by omega]
theorem dvF_lin : ∀ c k v, dvF t c k v = v * 10 ^ c + dvF t c k 0
  | 0, k, v => by
    show v = v * 1 + 0
    omega
  | c + 1, k, v => by
    rw [dvF_snoc, dvF_snoc, dvF_lin c k v, Nat.pow_succ]
    have : v * (10 ^ c * 10) = 10 * (v * 10 ^ c) := by rw [← Nat.mul_assoc, Nat.mul_comm]
    omega
end
theorem e_mil : (10 : Nat) ^ 6 = 1000000 := by decide
theorem nl_dig {v : Nat} {c : Int32} (hc : isDig c) : Int64.ofNat (10 * v) + c.toInt64 - 48 = Int64.ofNat (10 * v + (c.toInt - 48).toNat) := by
  obtain ⟨d, hd, e⟩ := nI_of (x := c) (by rw [il, i_0]; unfold isDig at hc; omega)
  have h1 : c.toInt = d := by rw [e, nI_toInt hd]
  unfold isDig at hc
  rw [e, nl_i2l hd, nl_add, show (48 : Int64) = Int64.ofNat 48 from rfl, nl_sub (by omega), nI_toInt hd]
  congr 1
  omega
section
variable {nx : Nat} {ct : Nat → Nat × Nat} {m0 : Nat → Nat → Int32} {ml : Nat → Nat → Int64} {mr : Nat → Nat → Option Nat} {n m : Nat} {t : Nat → Int32}
def tnP (n : Nat) (t : Nat → Int32) (j : Nat) (nx : Nat) (ct : Nat → Nat × Nat) (m0 : Nat → Nat → Int32) (ml : Nat → Nat → Int64) (mr : Nat → Nat → Option Nat) : Option Value → rx_S → Prop := fun v τ => match amt n t j with
  | some A => v = some (.int 1) ∧ τ = (nx, ct, mS m0 (nI (j + 1)) (-1), rx_u ml 398 17 (Int64.ofNat (A.1 * 1000000 + A.2)), mr)
  | none => v = some (.int 0) ∧ τ = (nx, ct, mS m0 (nI j) (-1), ml, mr)
theorem sq_tookNumber {j : Nat} (hL : LAY nx ct mr) (h : PMs n m t m0) (hj : j < 4000) : rx_Calls y_Mo_tookNumber M_Mo_tookNumber 1 0 0 [.ref 398] (nx, ct, mS m0 (nI j) (-1), ml, mr) (tnP n t j nx ct m0 ml mr) := by
  refine rx_enter (by decide) rfl rfl (Nat.le_of_ble_eq_true rfl) ?_
  generalize hp : tnP n t j nx ct m0 ml mr = post
  have hle := tk_le (n := n) (t := t) j
  have hn := h.2.2.1
  have ht : mS m0 (nI j) (-1) 399 = t := by rw [mS_r]; exact h.2.1
  have h9 : mS m0 (nI j) (-1) 398 9 = nI m := by rw [mS_k]; exact h.2.2.2.2.1
  have hmn := h.2.2.2.2.2.1
  have hno : amt n t j = none → post (some (.int 0)) (nx, ct, mS m0 (nI j) (-1), ml, mr) := by
    intro e
    rw [← hp]
    unfold tnP
    rw [e]
    exact ⟨rfl, rfl⟩
  by_cases hjm : m ≤ j
  · have e : amt n t j = none := by
      unfold amt
      rw [tk_end h.2.2.2.2.2.2.2 j hjm]
      dsimp only
      rw [de_stop (by omega)]
      exact if_pos (by omega)
    refine ru_aload_n d_Mo_tookNumber_0 rfl rfl ?_
    refine ru_callV (mc := 0) (ms := 0) d_Mo_tookNumber_1 lm_Mo_75 (sq_good hL) (rx_recv_is (ly hL 398 9 0) kx_Mo) (by decide) rfl (Nat.le_of_ble_eq_true rfl) ?_
    intro v τ h
    obtain ⟨rfl, rfl⟩ := h
    refine ru_if_eq (tgt := 18) d_Mo_tookNumber_4 (by decide) (fun h4 => absurd h4 (bI_ne0.mpr rfl)) (fun h4 => ?_)
    refine ru_aload_n d_Mo_tookNumber_7 rfl rfl ?_
    refine ru_getI d_Mo_tookNumber_8 lf_Mo_59 (ly hL 398 9 0) rfl ?_
    refine ru_eqi mS_w ?_
    refine ru_aload_n d_Mo_tookNumber_11 rfl rfl ?_
    refine ru_getI d_Mo_tookNumber_12 lf_Mo_53 (ly hL 398 9 0) rfl ?_
    refine ru_eqi h9 ?_
    refine ru_icmp_lt (tgt := 20) d_Mo_tookNumber_15 (by decide) (fun h15 => absurd h15 (nI_nlt (by omega) (by omega))) (fun h15 => ?_)
    replace h15 := nm_nlt (a := j) (b := m) (by omega) (by omega) h15
    refine ru_iconst (v := 0) d_Mo_tookNumber_18 (by decide) ?_
    refine ru_zret (ty := .boolean) d_Mo_tookNumber_19 rfl rfl ?_
    exact hno e
  replace hjm : j < m := by omega
  have a7 := h.2.2.2.2.2.2.1 j hjm
  have a7' : mS m0 (nI j) (-1) 405 j = nI (tk n t j).1 := by rw [mS_r]; exact a7.1
  have a8' : mS m0 (nI j) (-1) 406 j = nI (tk n t j).2 := by rw [mS_r]; exact a7.2.1
  -- the places are filled up
  have fill : ∀ A, amt n t j = some A → ∀ f k v, f = 6 - k → k ≤ 6 → v * 10 ^ f = A.1 * 1000000 + A.2 → rx_W M_Mo_tookNumber 1 0 0 264 [(0, .ref 398), (3, .long (Int64.ofNat v)), (8, .int (nI k))] [] (nx, ct, mS m0 (nI j) (-1), ml, mr) (pR post) := by
    intro A hA f
    induction f with
    | zero =>
      intro k v hf hk hv
      refine ru_iload d_Mo_tookNumber_264 rfl ?_
      refine ru_bipush (v := 6) d_Mo_tookNumber_266 (by decide) ?_
      refine ru_icmp_ge (tgt := 283) d_Mo_tookNumber_268 (by decide) (fun h268 => ?_) (fun h268 => absurd (nI_le (a := 6) (by omega) (by omega)) h268)
      replace h268 := nm_le (a := 6) (b := k) (by omega) (by omega) h268
      refine ru_aload_n d_Mo_tookNumber_283 rfl rfl ?_
      refine ru_lload_n d_Mo_tookNumber_284 rfl rfl ?_
      refine ru_putL d_Mo_tookNumber_285 lf_Mo_118 (ly hL 398 9 0) rfl (fun q hq => by cases hq; exact Or.inl rfl) ?_
      refine ru_aload_n d_Mo_tookNumber_288 rfl rfl ?_
      refine ru_dup d_Mo_tookNumber_289 rfl ?_
      refine ru_getI d_Mo_tookNumber_290 lf_Mo_59 (ly hL 398 9 0) rfl ?_
      refine ru_eqi mS_w ?_
      refine ru_iconst (v := 1) d_Mo_tookNumber_293 (by decide) ?_
      refine ru_iadd d_Mo_tookNumber_294 ?_
      refine ru_eqi (nm_add j 1 : _ = nI (j + 1)) ?_
      refine ru_putI d_Mo_tookNumber_295 lf_Mo_59 (ly hL 398 9 0) rfl (fun q hq => by cases hq; exact Or.inl rfl) ⟨rfl, rfl⟩ ?_
      refine ru_iconst (v := 1) d_Mo_tookNumber_298 (by decide) ?_
      refine ru_zret (ty := .boolean) d_Mo_tookNumber_299 rfl rfl ?_
      rw [← hp]
      unfold tnP
      rw [hA, mS_sw]
      dsimp only
      rw [← hv, Nat.pow_zero, Nat.mul_one]
      exact ⟨rfl, rfl⟩
    | succ f ih =>
      intro k v hf hk hv
      refine ru_iload d_Mo_tookNumber_264 rfl ?_
      refine ru_bipush (v := 6) d_Mo_tookNumber_266 (by decide) ?_
      refine ru_icmp_ge (tgt := 283) d_Mo_tookNumber_268 (by decide) (fun h268 => absurd h268 (nI_ge (b := 6) (by omega) (by omega))) (fun h268 => ?_)
      replace h268 := nm_nle (a := 6) (b := k) (by omega) (by omega) h268
      refine ru_ldc2 d_Mo_tookNumber_271 lc_Mo_114 ?_
      refine ru_lload_n d_Mo_tookNumber_274 rfl rfl ?_
      refine ru_lmul d_Mo_tookNumber_275 ?_
      refine ru_eql (nl_mul 10 v : _ = Int64.ofNat (10 * v)) ?_
      refine ru_lstore_n d_Mo_tookNumber_276 rfl (by decide) ?_
      refine ru_iinc (v := nI (k + 1)) d_Mo_tookNumber_277 rfl (nm_inc _ 1) (by decide) ?_
      refine ru_goto (tgt := 264) d_Mo_tookNumber_280 (by decide) ?_
      exact ru_to (ih (k + 1) (10 * v) (by omega) (by omega) (by rw [← hv, Nat.pow_succ, ← Nat.mul_assoc, Nat.mul_comm 10 v, Nat.mul_assoc v 10, Nat.mul_comm 10, Nat.mul_assoc])) ⟨rfl, rfl, rfl, trivial⟩
  generalize hb : (tk n t j).1 = b at a7' a7 hle
  generalize he : (tk n t j).2 = e at a8' a7 hle
  have hamt : amt n t j = (if de e t (e - b) b - b < 1 ∨ 9 < de e t (e - b) b - b then none else if de e t (e - b) b = e then some (dvF t (de e t (e - b) b - b) b 0, 0) else if (t (de e t (e - b) b)).toInt = 46 ∧ de e t (e - (de e t (e - b) b + 1)) (de e t (e - b) b + 1) = e ∧ 1 ≤ e - (de e t (e - b) b + 1) ∧ e - (de e t (e - b) b + 1) ≤ 6 then some (dvF t (de e t (e - b) b - b) b 0, dvF t (e - (de e t (e - b) b + 1)) (de e t (e - b) b + 1) 0 * 10 ^ (6 - (e - (de e t (e - b) b + 1)))) else none) := by
    unfold amt
    rw [hb, he]
  -- the second loop
  have loop2 : ∀ (p W : Nat) (K : ∀ (q : Nat) (v : Int64), q = de e t (e - (p + 1)) (p + 1) → (p - b ≤ 9 → q - (p + 1) ≤ 7 → v = Int64.ofNat (dvF t (q - (p + 1)) (p + 1) W)) → rx_W M_Mo_tookNumber 1 0 0 206 [(0, .ref 398), (1, .int (nI (p - b))), (2, .int (nI q)), (3, .long v), (5, .int (nI (q - (p + 1)))), (6, .int 1)] [] (nx, ct, mS m0 (nI j) (-1), ml, mr) (pR post)), p < e → b ≤ p → ∀ f i (v : Int64), f = e - i → i ≤ e → p + 1 ≤ i → de e t (e - (p + 1)) (p + 1) = de e t f i → (p - b ≤ 9 → i - (p + 1) ≤ 7 → v = Int64.ofNat (dvF t (i - (p + 1)) (p + 1) W)) → rx_W M_Mo_tookNumber 1 0 0 138 [(0, .ref 398), (1, .int (nI (p - b))), (2, .int (nI i)), (3, .long v), (5, .int (nI (i - (p + 1)))), (6, .int 1)] [] (nx, ct, mS m0 (nI j) (-1), ml, mr) (pR post) := by
    intro p W K hpe hbp f
    induction f with
    | zero =>
      intro i v hf hi hpi hd hv
      refine ru_iload d_Mo_tookNumber_138 rfl ?_
      refine ru_if_eq (tgt := 206) d_Mo_tookNumber_140 (by decide) (fun h140 => absurd h140 (by decide)) (fun h140 => ?_)
      refine ru_iload_n d_Mo_tookNumber_143 rfl rfl ?_
      refine ru_aload_n d_Mo_tookNumber_144 rfl rfl ?_
      refine ru_getR d_Mo_tookNumber_145 lf_Mo_33 (ly hL 398 9 0) rfl (lr hL 398 11 406) ?_
      refine ru_aload_n d_Mo_tookNumber_148 rfl rfl ?_
      refine ru_getI d_Mo_tookNumber_149 lf_Mo_59 (ly hL 398 9 0) rfl ?_
      refine ru_eqi mS_w ?_
      refine ru_ialdN (j := j) d_Mo_tookNumber_152 (ly hL 406 100 3001) (by omega) (by decide) ?_
      refine ru_eqi a8' ?_
      refine ru_icmp_ge (tgt := 206) d_Mo_tookNumber_153 (by decide) (fun h153 => ?_) (fun h153 => absurd (nI_le (by omega) (by omega)) h153)
      replace h153 := nm_le (a := e) (b := i) (by omega) (by omega) h153
      exact ru_to (K i v hd.symm hv) ⟨rfl, rfl, rfl, rfl, rfl, rfl, trivial⟩
    | succ f ih =>
      intro i v hf hi hpi hd hv
      have hs : i + 1 - (p + 1) = i - (p + 1) + 1 := by omega
      refine ru_iload d_Mo_tookNumber_138 rfl ?_
      refine ru_if_eq (tgt := 206) d_Mo_tookNumber_140 (by decide) (fun h140 => absurd h140 (by decide)) (fun h140 => ?_)
      refine ru_iload_n d_Mo_tookNumber_143 rfl rfl ?_
      refine ru_aload_n d_Mo_tookNumber_144 rfl rfl ?_
      refine ru_getR d_Mo_tookNumber_145 lf_Mo_33 (ly hL 398 9 0) rfl (lr hL 398 11 406) ?_
      refine ru_aload_n d_Mo_tookNumber_148 rfl rfl ?_
      refine ru_getI d_Mo_tookNumber_149 lf_Mo_59 (ly hL 398 9 0) rfl ?_
      refine ru_eqi mS_w ?_
      refine ru_ialdN (j := j) d_Mo_tookNumber_152 (ly hL 406 100 3001) (by omega) (by decide) ?_
      refine ru_eqi a8' ?_
      refine ru_icmp_ge (tgt := 206) d_Mo_tookNumber_153 (by decide) (fun h153 => absurd h153 (nI_ge (by omega) (by omega))) (fun h153 => ?_)
      replace h153 := nm_nle (a := e) (b := i) (by omega) (by omega) h153
      refine ru_aload_n d_Mo_tookNumber_156 rfl rfl ?_
      refine ru_getR d_Mo_tookNumber_157 lf_Mo_7 (ly hL 398 9 0) rfl (lr hL 398 1 399) ?_
      refine ru_iload_n d_Mo_tookNumber_160 rfl rfl ?_
      refine ru_ialdN (j := i) d_Mo_tookNumber_161 (ly hL 399 100 3000) (by omega) (by decide) ?_
      rw [ht]
      refine ru_callS (mc := 0) (ms := 0) d_Mo_tookNumber_162 lm_Mo_47 (sp_Mo_isDigit _ _) (by decide) rfl (Nat.le_of_ble_eq_true rfl) ?_
      intro v τ h
      obtain ⟨rfl, rfl⟩ := h
      refine ru_if_eq (tgt := 206) d_Mo_tookNumber_165 (by decide) (fun h165 => ?_) (fun h165 => ?_)
      · skip
        replace h165 := bI_eq0.mp h165
        rw [hf, de_stop (fun z => h165 z.2)] at hd
        exact ru_to (K i v hd.symm hv) ⟨rfl, rfl, rfl, rfl, rfl, rfl, trivial⟩
      · skip
        replace h165 := bI_ne0.mp h165
        refine ru_iload d_Mo_tookNumber_168 rfl ?_
        refine ru_bipush (v := 7) d_Mo_tookNumber_170 (by decide) ?_
        refine ru_icmp_ge (tgt := 195) d_Mo_tookNumber_172 (by decide) (fun h172 => ?_) (fun h172 => ?_)
        · skip
          replace h172 := nm_le (a := 7) (b := (i-(p+1))) (by omega) (by omega) h172
          refine ru_lload_n d_Mo_tookNumber_195 rfl rfl ?_
          refine ru_lstore_n d_Mo_tookNumber_196 rfl (by decide) ?_
          refine ru_iinc (v := nI ((i-(p+1)) + 1)) d_Mo_tookNumber_197 rfl (nm_inc _ 1) (by decide) ?_
          refine ru_iinc (v := nI (i + 1)) d_Mo_tookNumber_200 rfl (nm_inc _ 1) (by decide) ?_
          refine ru_goto (tgt := 138) d_Mo_tookNumber_203 (by decide) ?_
          rw [hf, de_step (by omega) h165, show e - (i + 1) = f by omega] at hd
          refine ru_to (ih (i + 1) _ (by omega) (by omega) (by omega) hd ?_) ⟨rfl, rfl, rfl, rfl, by rw [hs]; rfl, rfl, trivial⟩
          intro z1 z2
          first | (exfalso; omega) | (rw [hs, dvF_snoc, hv z1 (by omega), show p + 1 + (i - (p + 1)) = i by omega]; exact (congrArg (fun x => x + (t i).toInt64 - 48) (nl_mul 10 _)).trans (nl_dig h165))
        · skip
          replace h172 := nm_nle (a := 7) (b := (i-(p+1))) (by omega) (by omega) h172
          refine ru_ldc2 d_Mo_tookNumber_175 lc_Mo_114 ?_
          refine ru_lload_n d_Mo_tookNumber_178 rfl rfl ?_
          refine ru_lmul d_Mo_tookNumber_179 ?_
          refine ru_aload_n d_Mo_tookNumber_180 rfl rfl ?_
          refine ru_getR d_Mo_tookNumber_181 lf_Mo_7 (ly hL 398 9 0) rfl (lr hL 398 1 399) ?_
          refine ru_iload_n d_Mo_tookNumber_184 rfl rfl ?_
          refine ru_ialdN (j := i) d_Mo_tookNumber_185 (ly hL 399 100 3000) (by omega) (by decide) ?_
          rw [ht]
          refine ru_i2l d_Mo_tookNumber_186 ?_
          refine ru_ladd d_Mo_tookNumber_187 ?_
          refine ru_ldc2 d_Mo_tookNumber_188 lc_Mo_116 ?_
          refine ru_lsub d_Mo_tookNumber_191 ?_
          refine ru_goto (tgt := 196) d_Mo_tookNumber_192 (by decide) ?_
          refine ru_lstore_n d_Mo_tookNumber_196 rfl (by decide) ?_
          refine ru_iinc (v := nI ((i-(p+1)) + 1)) d_Mo_tookNumber_197 rfl (nm_inc _ 1) (by decide) ?_
          refine ru_iinc (v := nI (i + 1)) d_Mo_tookNumber_200 rfl (nm_inc _ 1) (by decide) ?_
          refine ru_goto (tgt := 138) d_Mo_tookNumber_203 (by decide) ?_
          rw [hf, de_step (by omega) h165, show e - (i + 1) = f by omega] at hd
          refine ru_to (ih (i + 1) _ (by omega) (by omega) (by omega) hd ?_) ⟨rfl, rfl, rfl, rfl, by rw [hs]; rfl, rfl, trivial⟩
          intro z1 z2
          first | (exfalso; omega) | (rw [hs, dvF_snoc, hv z1 (by omega), show p + 1 + (i - (p + 1)) = i by omega]; exact (congrArg (fun x => x + (t i).toInt64 - 48) (nl_mul 10 _)).trans (nl_dig h165))
  -- behind the whole part
  have mid : ∀ (p : Nat) (v : Int64), p = de e t (e - b) b → b ≤ p → p ≤ e → (p - b ≤ 10 → v = Int64.ofNat (dvF t (p - b) b 0)) → rx_W M_Mo_tookNumber 1 0 0 96 [(0, .ref 398), (1, .int (nI (p - b))), (2, .int (nI p)), (3, .long v)] [] (nx, ct, mS m0 (nI j) (-1), ml, mr) (pR post) := by
    intro p v hpd hbp hpe hv
    rw [← hpd] at hamt
    by_cases h46 : p < e ∧ t p = 46
    · have hK : ∀ (q : Nat) (v' : Int64), q = de e t (e - (p + 1)) (p + 1) → (p - b ≤ 9 → q - (p + 1) ≤ 7 → v' = Int64.ofNat (dvF t (q - (p + 1)) (p + 1) (dvF t (p - b) b 0))) → rx_W M_Mo_tookNumber 1 0 0 206 [(0, .ref 398), (1, .int (nI (p - b))), (2, .int (nI q)), (3, .long v'), (5, .int (nI (q - (p + 1)))), (6, .int 1)] [] (nx, ct, mS m0 (nI j) (-1), ml, mr) (pR post) := by
        intro q v' hq hv'
        have hqe := de_le e t (e - (p + 1)) (p + 1) (by omega)
        rw [← hq] at hamt hqe
        have h46' : (t p).toInt = 46 := by rw [h46.2, i_46]
        refine ru_iload_n d_Mo_tookNumber_206 rfl rfl ?_
        refine ru_aload_n d_Mo_tookNumber_207 rfl rfl ?_
        refine ru_getR d_Mo_tookNumber_208 lf_Mo_33 (ly hL 398 9 0) rfl (lr hL 398 11 406) ?_
        refine ru_aload_n d_Mo_tookNumber_211 rfl rfl ?_
        refine ru_getI d_Mo_tookNumber_212 lf_Mo_59 (ly hL 398 9 0) rfl ?_
        refine ru_eqi mS_w ?_
        refine ru_ialdN (j := j) d_Mo_tookNumber_215 (ly hL 406 100 3001) (by omega) (by decide) ?_
        refine ru_eqi a8' ?_
        refine ru_icmp_ne (tgt := 250) d_Mo_tookNumber_216 (by decide) (fun h216 => ?_) (fun h216 => ?_)
        · skip
          replace h216 := nm_ne (a := q) (b := e) (by omega) (by omega) h216
          refine ru_iconst (v := 0) d_Mo_tookNumber_250 (by decide) ?_
          refine ru_istore d_Mo_tookNumber_251 (by decide) ?_
          refine ru_iload d_Mo_tookNumber_253 rfl ?_
          refine ru_if_ne (tgt := 260) d_Mo_tookNumber_255 (by decide) (fun h255 => absurd h255 (by decide)) (fun h255 => ?_)
          refine ru_iconst (v := 0) d_Mo_tookNumber_258 (by decide) ?_
          refine ru_zret (ty := .boolean) d_Mo_tookNumber_259 rfl rfl ?_
          exact hno (by rw [hamt]; by_cases h10 : p - b < 1 ∨ 9 < p - b; (exact if_pos h10); rw [if_neg h10, if_neg (by omega)]; exact if_neg (by omega))
        · skip
          replace h216 := nm_eq (a := q) (b := e) (by omega) (by omega) h216
          refine ru_iload_n d_Mo_tookNumber_219 rfl rfl ?_
          refine ru_if_le (tgt := 250) d_Mo_tookNumber_220 (by decide) (fun h220 => ?_) (fun h220 => ?_)
          · skip
            replace h220 := nm_le (a := (p-b)) (b := 0) (by omega) (by omega) h220
            refine ru_iconst (v := 0) d_Mo_tookNumber_250 (by decide) ?_
            refine ru_istore d_Mo_tookNumber_251 (by decide) ?_
            refine ru_iload d_Mo_tookNumber_253 rfl ?_
            refine ru_if_ne (tgt := 260) d_Mo_tookNumber_255 (by decide) (fun h255 => absurd h255 (by decide)) (fun h255 => ?_)
            refine ru_iconst (v := 0) d_Mo_tookNumber_258 (by decide) ?_
            refine ru_zret (ty := .boolean) d_Mo_tookNumber_259 rfl rfl ?_
            exact hno (by rw [hamt]; by_cases h10 : p - b < 1 ∨ 9 < p - b; (exact if_pos h10); rw [if_neg h10, if_neg (by omega)]; exact if_neg (by omega))
          · skip
            replace h220 := nm_nle (a := (p-b)) (b := 0) (by omega) (by omega) h220
            refine ru_iload_n d_Mo_tookNumber_223 rfl rfl ?_
            refine ru_bipush (v := 10) d_Mo_tookNumber_224 (by decide) ?_
            refine ru_icmp_ge (tgt := 250) d_Mo_tookNumber_226 (by decide) (fun h226 => ?_) (fun h226 => ?_)
            · skip
              replace h226 := nm_le (a := 10) (b := (p-b)) (by omega) (by omega) h226
              refine ru_iconst (v := 0) d_Mo_tookNumber_250 (by decide) ?_
              refine ru_istore d_Mo_tookNumber_251 (by decide) ?_
              refine ru_iload d_Mo_tookNumber_253 rfl ?_
              refine ru_if_ne (tgt := 260) d_Mo_tookNumber_255 (by decide) (fun h255 => absurd h255 (by decide)) (fun h255 => ?_)
              refine ru_iconst (v := 0) d_Mo_tookNumber_258 (by decide) ?_
              refine ru_zret (ty := .boolean) d_Mo_tookNumber_259 rfl rfl ?_
              exact hno (by rw [hamt]; by_cases h10 : p - b < 1 ∨ 9 < p - b; (exact if_pos h10); rw [if_neg h10, if_neg (by omega)]; exact if_neg (by omega))
            · skip
              replace h226 := nm_nle (a := 10) (b := (p-b)) (by omega) (by omega) h226
              refine ru_iload d_Mo_tookNumber_229 rfl ?_
              refine ru_if_eq (tgt := 246) d_Mo_tookNumber_231 (by decide) (fun h231 => absurd h231 (by decide)) (fun h231 => ?_)
              refine ru_iload d_Mo_tookNumber_234 rfl ?_
              refine ru_if_le (tgt := 250) d_Mo_tookNumber_236 (by decide) (fun h236 => ?_) (fun h236 => ?_)
              · skip
                replace h236 := nm_le (a := (q-(p+1))) (b := 0) (by omega) (by omega) h236
                refine ru_iconst (v := 0) d_Mo_tookNumber_250 (by decide) ?_
                refine ru_istore d_Mo_tookNumber_251 (by decide) ?_
                refine ru_iload d_Mo_tookNumber_253 rfl ?_
                refine ru_if_ne (tgt := 260) d_Mo_tookNumber_255 (by decide) (fun h255 => absurd h255 (by decide)) (fun h255 => ?_)
                refine ru_iconst (v := 0) d_Mo_tookNumber_258 (by decide) ?_
                refine ru_zret (ty := .boolean) d_Mo_tookNumber_259 rfl rfl ?_
                exact hno (by rw [hamt]; by_cases h10 : p - b < 1 ∨ 9 < p - b; (exact if_pos h10); rw [if_neg h10, if_neg (by omega)]; exact if_neg (by omega))
              · skip
                replace h236 := nm_nle (a := (q-(p+1))) (b := 0) (by omega) (by omega) h236
                refine ru_iload d_Mo_tookNumber_239 rfl ?_
                refine ru_bipush (v := 7) d_Mo_tookNumber_241 (by decide) ?_
                refine ru_icmp_ge (tgt := 250) d_Mo_tookNumber_243 (by decide) (fun h243 => ?_) (fun h243 => ?_)
                · skip
                  replace h243 := nm_le (a := 7) (b := (q-(p+1))) (by omega) (by omega) h243
                  refine ru_iconst (v := 0) d_Mo_tookNumber_250 (by decide) ?_
                  refine ru_istore d_Mo_tookNumber_251 (by decide) ?_
                  refine ru_iload d_Mo_tookNumber_253 rfl ?_
                  refine ru_if_ne (tgt := 260) d_Mo_tookNumber_255 (by decide) (fun h255 => absurd h255 (by decide)) (fun h255 => ?_)
                  refine ru_iconst (v := 0) d_Mo_tookNumber_258 (by decide) ?_
                  refine ru_zret (ty := .boolean) d_Mo_tookNumber_259 rfl rfl ?_
                  exact hno (by rw [hamt]; by_cases h10 : p - b < 1 ∨ 9 < p - b; (exact if_pos h10); rw [if_neg h10, if_neg (by omega)]; exact if_neg (by omega))
                · skip
                  replace h243 := nm_nle (a := 7) (b := (q-(p+1))) (by omega) (by omega) h243
                  refine ru_iconst (v := 1) d_Mo_tookNumber_246 (by decide) ?_
                  refine ru_goto (tgt := 251) d_Mo_tookNumber_247 (by decide) ?_
                  refine ru_istore d_Mo_tookNumber_251 (by decide) ?_
                  refine ru_iload d_Mo_tookNumber_253 rfl ?_
                  refine ru_if_ne (tgt := 260) d_Mo_tookNumber_255 (by decide) (fun h255 => ?_) (fun h255 => absurd h255 (by decide))
                  refine ru_iload d_Mo_tookNumber_260 rfl ?_
                  refine ru_istore d_Mo_tookNumber_262 (by decide) ?_
                  have hA := hamt
                  rw [if_neg (by omega), if_neg (by omega), if_pos ⟨h46', by omega, by omega, by omega⟩] at hA
                  obtain rfl := hv' (by omega) (by omega)
                  subst h216
                  refine ru_to (fill _ hA (6 - (q - (p + 1))) (q - (p + 1)) _ rfl (by omega) ?_) ⟨rfl, rfl, rfl, trivial⟩
                  rw [dvF_lin, Nat.add_mul, Nat.mul_assoc, ← Nat.pow_add, show q - (p + 1) + (6 - (q - (p + 1))) = 6 by omega, e_mil]
      refine ru_iconst (v := 0) d_Mo_tookNumber_96 (by decide) ?_
      refine ru_istore d_Mo_tookNumber_97 (by decide) ?_
      refine ru_iload_n d_Mo_tookNumber_99 rfl rfl ?_
      refine ru_aload_n d_Mo_tookNumber_100 rfl rfl ?_
      refine ru_getR d_Mo_tookNumber_101 lf_Mo_33 (ly hL 398 9 0) rfl (lr hL 398 11 406) ?_
      refine ru_aload_n d_Mo_tookNumber_104 rfl rfl ?_
      refine ru_getI d_Mo_tookNumber_105 lf_Mo_59 (ly hL 398 9 0) rfl ?_
      refine ru_eqi mS_w ?_
      refine ru_ialdN (j := j) d_Mo_tookNumber_108 (ly hL 406 100 3001) (by omega) (by decide) ?_
      refine ru_eqi a8' ?_
      refine ru_icmp_ge (tgt := 127) d_Mo_tookNumber_109 (by decide) (fun h109 => absurd h109 (nI_ge (by omega) (by omega))) (fun h109 => ?_)
      replace h109 := nm_nle (a := e) (b := p) (by omega) (by omega) h109
      refine ru_aload_n d_Mo_tookNumber_112 rfl rfl ?_
      refine ru_getR d_Mo_tookNumber_113 lf_Mo_7 (ly hL 398 9 0) rfl (lr hL 398 1 399) ?_
      refine ru_iload_n d_Mo_tookNumber_116 rfl rfl ?_
      refine ru_ialdN (j := p) d_Mo_tookNumber_117 (ly hL 399 100 3000) (by omega) (by decide) ?_
      rw [ht, h46.2]
      refine ru_bipush (v := 46) d_Mo_tookNumber_118 (by decide) ?_
      refine ru_icmp_ne (tgt := 127) d_Mo_tookNumber_120 (by decide) (fun h120 => absurd h120 (by decide)) (fun h120 => ?_)
      refine ru_iconst (v := 1) d_Mo_tookNumber_123 (by decide) ?_
      refine ru_goto (tgt := 128) d_Mo_tookNumber_124 (by decide) ?_
      refine ru_istore d_Mo_tookNumber_128 (by decide) ?_
      refine ru_iload d_Mo_tookNumber_130 rfl ?_
      refine ru_if_eq (tgt := 138) d_Mo_tookNumber_132 (by decide) (fun h132 => absurd h132 (by decide)) (fun h132 => ?_)
      refine ru_iinc (v := nI (p + 1)) d_Mo_tookNumber_135 rfl (nm_inc _ 1) (by decide) ?_
      exact ru_to (loop2 p _ hK h46.1 hbp _ (p + 1) v rfl (by omega) (Nat.le_refl _) rfl (fun z1 _ => by rw [Nat.sub_self]; exact hv (by omega))) ⟨rfl, rfl, rfl, rfl, by rw [Nat.sub_self]; rfl, rfl, trivial⟩
    · by_cases hpe2 : p = e
      · skip
        refine ru_iconst (v := 0) d_Mo_tookNumber_96 (by decide) ?_
        refine ru_istore d_Mo_tookNumber_97 (by decide) ?_
        refine ru_iload_n d_Mo_tookNumber_99 rfl rfl ?_
        refine ru_aload_n d_Mo_tookNumber_100 rfl rfl ?_
        refine ru_getR d_Mo_tookNumber_101 lf_Mo_33 (ly hL 398 9 0) rfl (lr hL 398 11 406) ?_
        refine ru_aload_n d_Mo_tookNumber_104 rfl rfl ?_
        refine ru_getI d_Mo_tookNumber_105 lf_Mo_59 (ly hL 398 9 0) rfl ?_
        refine ru_eqi mS_w ?_
        refine ru_ialdN (j := j) d_Mo_tookNumber_108 (ly hL 406 100 3001) (by omega) (by decide) ?_
        refine ru_eqi a8' ?_
        refine ru_icmp_ge (tgt := 127) d_Mo_tookNumber_109 (by decide) (fun h109 => ?_) (fun h109 => absurd (nI_le (by omega) (by omega)) h109)
        replace h109 := nm_le (a := e) (b := p) (by omega) (by omega) h109
        refine ru_iconst (v := 0) d_Mo_tookNumber_127 (by decide) ?_
        refine ru_istore d_Mo_tookNumber_128 (by decide) ?_
        refine ru_iload d_Mo_tookNumber_130 rfl ?_
        refine ru_if_eq (tgt := 138) d_Mo_tookNumber_132 (by decide) (fun h132 => ?_) (fun h132 => absurd h132 (by decide))
        refine ru_iload d_Mo_tookNumber_138 rfl ?_
        refine ru_if_eq (tgt := 206) d_Mo_tookNumber_140 (by decide) (fun h140 => ?_) (fun h140 => absurd h140 (by decide))
        refine ru_iload_n d_Mo_tookNumber_206 rfl rfl ?_
        refine ru_aload_n d_Mo_tookNumber_207 rfl rfl ?_
        refine ru_getR d_Mo_tookNumber_208 lf_Mo_33 (ly hL 398 9 0) rfl (lr hL 398 11 406) ?_
        refine ru_aload_n d_Mo_tookNumber_211 rfl rfl ?_
        refine ru_getI d_Mo_tookNumber_212 lf_Mo_59 (ly hL 398 9 0) rfl ?_
        refine ru_eqi mS_w ?_
        refine ru_ialdN (j := j) d_Mo_tookNumber_215 (ly hL 406 100 3001) (by omega) (by decide) ?_
        refine ru_eqi a8' ?_
        refine ru_icmp_ne (tgt := 250) d_Mo_tookNumber_216 (by decide) (fun h216 => ?_) (fun h216 => ?_)
        · skip
          replace h216 := nm_ne (a := p) (b := e) (by omega) (by omega) h216
          refine ru_iconst (v := 0) d_Mo_tookNumber_250 (by decide) ?_
          refine ru_istore d_Mo_tookNumber_251 (by decide) ?_
          refine ru_iload d_Mo_tookNumber_253 rfl ?_
          refine ru_if_ne (tgt := 260) d_Mo_tookNumber_255 (by decide) (fun h255 => absurd h255 (by decide)) (fun h255 => ?_)
          refine ru_iconst (v := 0) d_Mo_tookNumber_258 (by decide) ?_
          refine ru_zret (ty := .boolean) d_Mo_tookNumber_259 rfl rfl ?_
          exact hno (by rw [hamt]; first | exact if_pos (by omega) | (exfalso; omega))
        · skip
          replace h216 := nm_eq (a := p) (b := e) (by omega) (by omega) h216
          refine ru_iload_n d_Mo_tookNumber_219 rfl rfl ?_
          refine ru_if_le (tgt := 250) d_Mo_tookNumber_220 (by decide) (fun h220 => ?_) (fun h220 => ?_)
          · skip
            replace h220 := nm_le (a := (p-b)) (b := 0) (by omega) (by omega) h220
            refine ru_iconst (v := 0) d_Mo_tookNumber_250 (by decide) ?_
            refine ru_istore d_Mo_tookNumber_251 (by decide) ?_
            refine ru_iload d_Mo_tookNumber_253 rfl ?_
            refine ru_if_ne (tgt := 260) d_Mo_tookNumber_255 (by decide) (fun h255 => absurd h255 (by decide)) (fun h255 => ?_)
            refine ru_iconst (v := 0) d_Mo_tookNumber_258 (by decide) ?_
            refine ru_zret (ty := .boolean) d_Mo_tookNumber_259 rfl rfl ?_
            exact hno (by rw [hamt]; first | exact if_pos (by omega) | (exfalso; omega))
          · skip
            replace h220 := nm_nle (a := (p-b)) (b := 0) (by omega) (by omega) h220
            refine ru_iload_n d_Mo_tookNumber_223 rfl rfl ?_
            refine ru_bipush (v := 10) d_Mo_tookNumber_224 (by decide) ?_
            refine ru_icmp_ge (tgt := 250) d_Mo_tookNumber_226 (by decide) (fun h226 => ?_) (fun h226 => ?_)
            · skip
              replace h226 := nm_le (a := 10) (b := (p-b)) (by omega) (by omega) h226
              refine ru_iconst (v := 0) d_Mo_tookNumber_250 (by decide) ?_
              refine ru_istore d_Mo_tookNumber_251 (by decide) ?_
              refine ru_iload d_Mo_tookNumber_253 rfl ?_
              refine ru_if_ne (tgt := 260) d_Mo_tookNumber_255 (by decide) (fun h255 => absurd h255 (by decide)) (fun h255 => ?_)
              refine ru_iconst (v := 0) d_Mo_tookNumber_258 (by decide) ?_
              refine ru_zret (ty := .boolean) d_Mo_tookNumber_259 rfl rfl ?_
              exact hno (by rw [hamt]; first | exact if_pos (by omega) | (exfalso; omega))
            · skip
              replace h226 := nm_nle (a := 10) (b := (p-b)) (by omega) (by omega) h226
              refine ru_iload d_Mo_tookNumber_229 rfl ?_
              refine ru_if_eq (tgt := 246) d_Mo_tookNumber_231 (by decide) (fun h231 => ?_) (fun h231 => absurd h231 (by decide))
              refine ru_iconst (v := 1) d_Mo_tookNumber_246 (by decide) ?_
              refine ru_goto (tgt := 251) d_Mo_tookNumber_247 (by decide) ?_
              refine ru_istore d_Mo_tookNumber_251 (by decide) ?_
              refine ru_iload d_Mo_tookNumber_253 rfl ?_
              refine ru_if_ne (tgt := 260) d_Mo_tookNumber_255 (by decide) (fun h255 => ?_) (fun h255 => absurd h255 (by decide))
              refine ru_iload d_Mo_tookNumber_260 rfl ?_
              refine ru_istore d_Mo_tookNumber_262 (by decide) ?_
              have hA := hamt
              rw [if_neg (by omega), if_pos hpe2] at hA
              obtain rfl := hv (by omega)
              exact ru_to (fill _ hA 6 0 _ rfl (by omega) (by rw [e_mil, Nat.add_zero])) ⟨rfl, rfl, rfl, trivial⟩
      · have hne : ¬ t p = 46 := fun z => h46 ⟨by omega, z⟩
        have hne2 : ¬ (t p).toInt = 46 := fun z => hne (by rw [iq, i_46]; exact z)
        refine ru_iconst (v := 0) d_Mo_tookNumber_96 (by decide) ?_
        refine ru_istore d_Mo_tookNumber_97 (by decide) ?_
        refine ru_iload_n d_Mo_tookNumber_99 rfl rfl ?_
        refine ru_aload_n d_Mo_tookNumber_100 rfl rfl ?_
        refine ru_getR d_Mo_tookNumber_101 lf_Mo_33 (ly hL 398 9 0) rfl (lr hL 398 11 406) ?_
        refine ru_aload_n d_Mo_tookNumber_104 rfl rfl ?_
        refine ru_getI d_Mo_tookNumber_105 lf_Mo_59 (ly hL 398 9 0) rfl ?_
        refine ru_eqi mS_w ?_
        refine ru_ialdN (j := j) d_Mo_tookNumber_108 (ly hL 406 100 3001) (by omega) (by decide) ?_
        refine ru_eqi a8' ?_
        refine ru_icmp_ge (tgt := 127) d_Mo_tookNumber_109 (by decide) (fun h109 => absurd h109 (nI_ge (by omega) (by omega))) (fun h109 => ?_)
        replace h109 := nm_nle (a := e) (b := p) (by omega) (by omega) h109
        refine ru_aload_n d_Mo_tookNumber_112 rfl rfl ?_
        refine ru_getR d_Mo_tookNumber_113 lf_Mo_7 (ly hL 398 9 0) rfl (lr hL 398 1 399) ?_
        refine ru_iload_n d_Mo_tookNumber_116 rfl rfl ?_
        refine ru_ialdN (j := p) d_Mo_tookNumber_117 (ly hL 399 100 3000) (by omega) (by decide) ?_
        rw [ht]
        refine ru_bipush (v := 46) d_Mo_tookNumber_118 (by decide) ?_
        refine ru_icmp_ne (tgt := 127) d_Mo_tookNumber_120 (by decide) (fun h120 => ?_) (fun h120 => absurd h120 hne)
        refine ru_iconst (v := 0) d_Mo_tookNumber_127 (by decide) ?_
        refine ru_istore d_Mo_tookNumber_128 (by decide) ?_
        refine ru_iload d_Mo_tookNumber_130 rfl ?_
        refine ru_if_eq (tgt := 138) d_Mo_tookNumber_132 (by decide) (fun h132 => ?_) (fun h132 => absurd h132 (by decide))
        refine ru_iload d_Mo_tookNumber_138 rfl ?_
        refine ru_if_eq (tgt := 206) d_Mo_tookNumber_140 (by decide) (fun h140 => ?_) (fun h140 => absurd h140 (by decide))
        refine ru_iload_n d_Mo_tookNumber_206 rfl rfl ?_
        refine ru_aload_n d_Mo_tookNumber_207 rfl rfl ?_
        refine ru_getR d_Mo_tookNumber_208 lf_Mo_33 (ly hL 398 9 0) rfl (lr hL 398 11 406) ?_
        refine ru_aload_n d_Mo_tookNumber_211 rfl rfl ?_
        refine ru_getI d_Mo_tookNumber_212 lf_Mo_59 (ly hL 398 9 0) rfl ?_
        refine ru_eqi mS_w ?_
        refine ru_ialdN (j := j) d_Mo_tookNumber_215 (ly hL 406 100 3001) (by omega) (by decide) ?_
        refine ru_eqi a8' ?_
        refine ru_icmp_ne (tgt := 250) d_Mo_tookNumber_216 (by decide) (fun h216 => ?_) (fun h216 => ?_)
        · skip
          replace h216 := nm_ne (a := p) (b := e) (by omega) (by omega) h216
          refine ru_iconst (v := 0) d_Mo_tookNumber_250 (by decide) ?_
          refine ru_istore d_Mo_tookNumber_251 (by decide) ?_
          refine ru_iload d_Mo_tookNumber_253 rfl ?_
          refine ru_if_ne (tgt := 260) d_Mo_tookNumber_255 (by decide) (fun h255 => absurd h255 (by decide)) (fun h255 => ?_)
          refine ru_iconst (v := 0) d_Mo_tookNumber_258 (by decide) ?_
          refine ru_zret (ty := .boolean) d_Mo_tookNumber_259 rfl rfl ?_
          exact hno (by rw [hamt]; by_cases h10 : p - b < 1 ∨ 9 < p - b; (exact if_pos h10); rw [if_neg h10, if_neg (by omega)]; exact if_neg (by omega))
        · skip
          replace h216 := nm_eq (a := p) (b := e) (by omega) (by omega) h216
          exfalso; omega
  have loop1 : ∀ f i (v : Int64), f = e - i → i ≤ e → b ≤ i → de e t (e - b) b = de e t f i → (i - b ≤ 10 → v = Int64.ofNat (dvF t (i - b) b 0)) → rx_W M_Mo_tookNumber 1 0 0 34 [(0, .ref 398), (1, .int (nI (i - b))), (2, .int (nI i)), (3, .long v)] [] (nx, ct, mS m0 (nI j) (-1), ml, mr) (pR post) := by
    intro f
    induction f with
    | zero =>
      intro i v hf hi hpi hd hv
      refine ru_iload_n d_Mo_tookNumber_34 rfl rfl ?_
      refine ru_aload_n d_Mo_tookNumber_35 rfl rfl ?_
      refine ru_getR d_Mo_tookNumber_36 lf_Mo_33 (ly hL 398 9 0) rfl (lr hL 398 11 406) ?_
      refine ru_aload_n d_Mo_tookNumber_39 rfl rfl ?_
      refine ru_getI d_Mo_tookNumber_40 lf_Mo_59 (ly hL 398 9 0) rfl ?_
      refine ru_eqi mS_w ?_
      refine ru_ialdN (j := j) d_Mo_tookNumber_43 (ly hL 406 100 3001) (by omega) (by decide) ?_
      refine ru_eqi a8' ?_
      refine ru_icmp_ge (tgt := 96) d_Mo_tookNumber_44 (by decide) (fun h44 => ?_) (fun h44 => absurd (nI_le (by omega) (by omega)) h44)
      replace h44 := nm_le (a := e) (b := i) (by omega) (by omega) h44
      exact ru_to (mid i v hd.symm hpi hi hv) ⟨rfl, rfl, rfl, rfl, trivial⟩
    | succ f ih =>
      intro i v hf hi hpi hd hv
      have hs : i + 1 - b = i - b + 1 := by omega
      refine ru_iload_n d_Mo_tookNumber_34 rfl rfl ?_
      refine ru_aload_n d_Mo_tookNumber_35 rfl rfl ?_
      refine ru_getR d_Mo_tookNumber_36 lf_Mo_33 (ly hL 398 9 0) rfl (lr hL 398 11 406) ?_
      refine ru_aload_n d_Mo_tookNumber_39 rfl rfl ?_
      refine ru_getI d_Mo_tookNumber_40 lf_Mo_59 (ly hL 398 9 0) rfl ?_
      refine ru_eqi mS_w ?_
      refine ru_ialdN (j := j) d_Mo_tookNumber_43 (ly hL 406 100 3001) (by omega) (by decide) ?_
      refine ru_eqi a8' ?_
      refine ru_icmp_ge (tgt := 96) d_Mo_tookNumber_44 (by decide) (fun h44 => absurd h44 (nI_ge (by omega) (by omega))) (fun h44 => ?_)
      replace h44 := nm_nle (a := e) (b := i) (by omega) (by omega) h44
      refine ru_aload_n d_Mo_tookNumber_47 rfl rfl ?_
      refine ru_getR d_Mo_tookNumber_48 lf_Mo_7 (ly hL 398 9 0) rfl (lr hL 398 1 399) ?_
      refine ru_iload_n d_Mo_tookNumber_51 rfl rfl ?_
      refine ru_ialdN (j := i) d_Mo_tookNumber_52 (ly hL 399 100 3000) (by omega) (by decide) ?_
      rw [ht]
      refine ru_callS (mc := 0) (ms := 0) d_Mo_tookNumber_53 lm_Mo_47 (sp_Mo_isDigit _ _) (by decide) rfl (Nat.le_of_ble_eq_true rfl) ?_
      intro v τ h
      obtain ⟨rfl, rfl⟩ := h
      refine ru_if_eq (tgt := 96) d_Mo_tookNumber_56 (by decide) (fun h56 => ?_) (fun h56 => ?_)
      · skip
        replace h56 := bI_eq0.mp h56
        rw [hf, de_stop (fun z => h56 z.2)] at hd
        exact ru_to (mid i v hd.symm hpi hi hv) ⟨rfl, rfl, rfl, rfl, trivial⟩
      · skip
        replace h56 := bI_ne0.mp h56
        refine ru_iload_n d_Mo_tookNumber_59 rfl rfl ?_
        refine ru_bipush (v := 10) d_Mo_tookNumber_60 (by decide) ?_
        refine ru_icmp_ge (tgt := 85) d_Mo_tookNumber_62 (by decide) (fun h62 => ?_) (fun h62 => ?_)
        · skip
          replace h62 := nm_le (a := 10) (b := (i-b)) (by omega) (by omega) h62
          refine ru_lload_n d_Mo_tookNumber_85 rfl rfl ?_
          refine ru_lstore_n d_Mo_tookNumber_86 rfl (by decide) ?_
          refine ru_iinc (v := nI ((i-b) + 1)) d_Mo_tookNumber_87 rfl (nm_inc _ 1) (by decide) ?_
          refine ru_iinc (v := nI (i + 1)) d_Mo_tookNumber_90 rfl (nm_inc _ 1) (by decide) ?_
          refine ru_goto (tgt := 34) d_Mo_tookNumber_93 (by decide) ?_
          rw [hf, de_step (by omega) h56, show e - (i + 1) = f by omega] at hd
          refine ru_to (ih (i + 1) _ (by omega) (by omega) (by omega) hd ?_) ⟨rfl, by rw [hs]; rfl, rfl, rfl, trivial⟩
          intro z1
          first | (exfalso; omega) | (rw [hs, dvF_snoc, hv (by omega), show b + (i - b) = i by omega]; exact (congrArg (fun x => x + (t i).toInt64 - 48) (nl_mul 10 _)).trans (nl_dig h56))
        · skip
          replace h62 := nm_nle (a := 10) (b := (i-b)) (by omega) (by omega) h62
          refine ru_ldc2 d_Mo_tookNumber_65 lc_Mo_114 ?_
          refine ru_lload_n d_Mo_tookNumber_68 rfl rfl ?_
          refine ru_lmul d_Mo_tookNumber_69 ?_
          refine ru_aload_n d_Mo_tookNumber_70 rfl rfl ?_
          refine ru_getR d_Mo_tookNumber_71 lf_Mo_7 (ly hL 398 9 0) rfl (lr hL 398 1 399) ?_
          refine ru_iload_n d_Mo_tookNumber_74 rfl rfl ?_
          refine ru_ialdN (j := i) d_Mo_tookNumber_75 (ly hL 399 100 3000) (by omega) (by decide) ?_
          rw [ht]
          refine ru_i2l d_Mo_tookNumber_76 ?_
          refine ru_ladd d_Mo_tookNumber_77 ?_
          refine ru_ldc2 d_Mo_tookNumber_78 lc_Mo_116 ?_
          refine ru_lsub d_Mo_tookNumber_81 ?_
          refine ru_goto (tgt := 86) d_Mo_tookNumber_82 (by decide) ?_
          refine ru_lstore_n d_Mo_tookNumber_86 rfl (by decide) ?_
          refine ru_iinc (v := nI ((i-b) + 1)) d_Mo_tookNumber_87 rfl (nm_inc _ 1) (by decide) ?_
          refine ru_iinc (v := nI (i + 1)) d_Mo_tookNumber_90 rfl (nm_inc _ 1) (by decide) ?_
          refine ru_goto (tgt := 34) d_Mo_tookNumber_93 (by decide) ?_
          rw [hf, de_step (by omega) h56, show e - (i + 1) = f by omega] at hd
          refine ru_to (ih (i + 1) _ (by omega) (by omega) (by omega) hd ?_) ⟨rfl, by rw [hs]; rfl, rfl, rfl, trivial⟩
          intro z1
          first | (exfalso; omega) | (rw [hs, dvF_snoc, hv (by omega), show b + (i - b) = i by omega]; exact (congrArg (fun x => x + (t i).toInt64 - 48) (nl_mul 10 _)).trans (nl_dig h56))
  refine ru_aload_n d_Mo_tookNumber_0 rfl rfl ?_
  refine ru_callV (mc := 0) (ms := 0) d_Mo_tookNumber_1 lm_Mo_75 (sq_good hL) (rx_recv_is (ly hL 398 9 0) kx_Mo) (by decide) rfl (Nat.le_of_ble_eq_true rfl) ?_
  intro v τ h
  obtain ⟨rfl, rfl⟩ := h
  refine ru_if_eq (tgt := 18) d_Mo_tookNumber_4 (by decide) (fun h4 => absurd h4 (bI_ne0.mpr rfl)) (fun h4 => ?_)
  refine ru_aload_n d_Mo_tookNumber_7 rfl rfl ?_
  refine ru_getI d_Mo_tookNumber_8 lf_Mo_59 (ly hL 398 9 0) rfl ?_
  refine ru_eqi mS_w ?_
  refine ru_aload_n d_Mo_tookNumber_11 rfl rfl ?_
  refine ru_getI d_Mo_tookNumber_12 lf_Mo_53 (ly hL 398 9 0) rfl ?_
  refine ru_eqi h9 ?_
  refine ru_icmp_lt (tgt := 20) d_Mo_tookNumber_15 (by decide) (fun h15 => ?_) (fun h15 => absurd (nI_lt (by omega) (by omega)) h15)
  replace h15 := nm_lt (a := j) (b := m) (by omega) (by omega) h15
  refine ru_iconst (v := 0) d_Mo_tookNumber_20 (by decide) ?_
  refine ru_istore_n d_Mo_tookNumber_21 rfl (by decide) ?_
  refine ru_aload_n d_Mo_tookNumber_22 rfl rfl ?_
  refine ru_getR d_Mo_tookNumber_23 lf_Mo_30 (ly hL 398 9 0) rfl (lr hL 398 10 405) ?_
  refine ru_aload_n d_Mo_tookNumber_26 rfl rfl ?_
  refine ru_getI d_Mo_tookNumber_27 lf_Mo_59 (ly hL 398 9 0) rfl ?_
  refine ru_eqi mS_w ?_
  refine ru_ialdN (j := j) d_Mo_tookNumber_30 (ly hL 405 100 3001) (by omega) (by decide) ?_
  refine ru_eqi a7' ?_
  refine ru_istore_n d_Mo_tookNumber_31 rfl (by decide) ?_
  refine ru_lconst (v := 0) d_Mo_tookNumber_32 (by decide) ?_
  refine ru_lstore_n d_Mo_tookNumber_33 rfl (by decide) ?_
  exact ru_to (loop1 _ b 0 rfl (by omega) (Nat.le_refl _) rfl (fun _ => by rw [Nat.sub_self]; rfl)) ⟨rfl, by rw [Nat.sub_self]; rfl, rfl, rfl, trivial⟩
end
