/-! The reference reads things, layers, lines, kinds -/
theorem d_Mo_kindWord_0 : decode M_Mo_kindWord.2.1 0 = .ok (.iload_n 0, 1) := by decide +kernel
theorem d_Mo_kindWord_1 : decode M_Mo_kindWord.2.1 1 = .ok (.tableswitch 238 0 11 #[63, 76, 91, 104, 120, 134, 150, 166, 180, 195, 209, 223], 63) := by decide +kernel
theorem d_Mo_kindWord_64 : decode M_Mo_kindWord.2.1 64 = .ok (.bipush 7, 2) := by decide +kernel
theorem d_Mo_kindWord_66 : decode M_Mo_kindWord.2.1 66 = .ok (.iconst 1, 1) := by decide +kernel
theorem d_Mo_kindWord_67 : decode M_Mo_kindWord.2.1 67 = .ok (.bipush 16, 2) := by decide +kernel
theorem d_Mo_kindWord_69 : decode M_Mo_kindWord.2.1 69 = .ok (.iconst 0, 1) := by decide +kernel
theorem d_Mo_kindWord_70 : decode M_Mo_kindWord.2.1 70 = .ok (.iconst 0, 1) := by decide +kernel
theorem d_Mo_kindWord_71 : decode M_Mo_kindWord.2.1 71 = .ok (.iconst 0, 1) := by decide +kernel
theorem d_Mo_kindWord_72 : decode M_Mo_kindWord.2.1 72 = .ok (.iconst 0, 1) := by decide +kernel
theorem d_Mo_kindWord_73 : decode M_Mo_kindWord.2.1 73 = .ok (.invokestatic 68, 3) := by decide +kernel
theorem d_Mo_kindWord_76 : decode M_Mo_kindWord.2.1 76 = .ok (.lreturn, 1) := by decide +kernel
theorem d_Mo_kindWord_77 : decode M_Mo_kindWord.2.1 77 = .ok (.bipush 23, 2) := by decide +kernel
theorem d_Mo_kindWord_79 : decode M_Mo_kindWord.2.1 79 = .ok (.bipush 9, 2) := by decide +kernel
theorem d_Mo_kindWord_81 : decode M_Mo_kindWord.2.1 81 = .ok (.iconst 4, 1) := by decide +kernel
theorem d_Mo_kindWord_82 : decode M_Mo_kindWord.2.1 82 = .ok (.bipush 20, 2) := by decide +kernel
theorem d_Mo_kindWord_84 : decode M_Mo_kindWord.2.1 84 = .ok (.bipush 8, 2) := by decide +kernel
theorem d_Mo_kindWord_86 : decode M_Mo_kindWord.2.1 86 = .ok (.iconst 0, 1) := by decide +kernel
theorem d_Mo_kindWord_87 : decode M_Mo_kindWord.2.1 87 = .ok (.iconst 0, 1) := by decide +kernel
theorem d_Mo_kindWord_88 : decode M_Mo_kindWord.2.1 88 = .ok (.invokestatic 68, 3) := by decide +kernel
theorem d_Mo_kindWord_91 : decode M_Mo_kindWord.2.1 91 = .ok (.lreturn, 1) := by decide +kernel
theorem d_Mo_kindWord_92 : decode M_Mo_kindWord.2.1 92 = .ok (.bipush 22, 2) := by decide +kernel
theorem d_Mo_kindWord_94 : decode M_Mo_kindWord.2.1 94 = .ok (.bipush 9, 2) := by decide +kernel
theorem d_Mo_kindWord_96 : decode M_Mo_kindWord.2.1 96 = .ok (.iconst 1, 1) := by decide +kernel
theorem d_Mo_kindWord_97 : decode M_Mo_kindWord.2.1 97 = .ok (.iconst 0, 1) := by decide +kernel
theorem d_Mo_kindWord_98 : decode M_Mo_kindWord.2.1 98 = .ok (.iconst 0, 1) := by decide +kernel
theorem d_Mo_kindWord_99 : decode M_Mo_kindWord.2.1 99 = .ok (.iconst 0, 1) := by decide +kernel
theorem d_Mo_kindWord_100 : decode M_Mo_kindWord.2.1 100 = .ok (.iconst 0, 1) := by decide +kernel
theorem d_Mo_kindWord_101 : decode M_Mo_kindWord.2.1 101 = .ok (.invokestatic 68, 3) := by decide +kernel
theorem d_Mo_kindWord_104 : decode M_Mo_kindWord.2.1 104 = .ok (.lreturn, 1) := by decide +kernel
theorem d_Mo_kindWord_105 : decode M_Mo_kindWord.2.1 105 = .ok (.bipush 12, 2) := by decide +kernel
theorem d_Mo_kindWord_107 : decode M_Mo_kindWord.2.1 107 = .ok (.iconst 5, 1) := by decide +kernel
theorem d_Mo_kindWord_108 : decode M_Mo_kindWord.2.1 108 = .ok (.bipush 14, 2) := by decide +kernel
theorem d_Mo_kindWord_110 : decode M_Mo_kindWord.2.1 110 = .ok (.bipush 7, 2) := by decide +kernel
theorem d_Mo_kindWord_112 : decode M_Mo_kindWord.2.1 112 = .ok (.bipush 20, 2) := by decide +kernel
theorem d_Mo_kindWord_114 : decode M_Mo_kindWord.2.1 114 = .ok (.bipush 8, 2) := by decide +kernel
theorem d_Mo_kindWord_116 : decode M_Mo_kindWord.2.1 116 = .ok (.iconst 0, 1) := by decide +kernel
theorem d_Mo_kindWord_117 : decode M_Mo_kindWord.2.1 117 = .ok (.invokestatic 68, 3) := by decide +kernel
theorem d_Mo_kindWord_120 : decode M_Mo_kindWord.2.1 120 = .ok (.lreturn, 1) := by decide +kernel
theorem d_Mo_kindWord_121 : decode M_Mo_kindWord.2.1 121 = .ok (.bipush 19, 2) := by decide +kernel
theorem d_Mo_kindWord_123 : decode M_Mo_kindWord.2.1 123 = .ok (.bipush 11, 2) := by decide +kernel
theorem d_Mo_kindWord_125 : decode M_Mo_kindWord.2.1 125 = .ok (.iconst 5, 1) := by decide +kernel
theorem d_Mo_kindWord_126 : decode M_Mo_kindWord.2.1 126 = .ok (.bipush 23, 2) := by decide +kernel
theorem d_Mo_kindWord_128 : decode M_Mo_kindWord.2.1 128 = .ok (.iconst 0, 1) := by decide +kernel
theorem d_Mo_kindWord_129 : decode M_Mo_kindWord.2.1 129 = .ok (.iconst 0, 1) := by decide +kernel
theorem d_Mo_kindWord_130 : decode M_Mo_kindWord.2.1 130 = .ok (.iconst 0, 1) := by decide +kernel
theorem d_Mo_kindWord_131 : decode M_Mo_kindWord.2.1 131 = .ok (.invokestatic 68, 3) := by decide +kernel
theorem d_Mo_kindWord_134 : decode M_Mo_kindWord.2.1 134 = .ok (.lreturn, 1) := by decide +kernel
theorem d_Mo_kindWord_135 : decode M_Mo_kindWord.2.1 135 = .ok (.bipush 20, 2) := by decide +kernel
theorem d_Mo_kindWord_137 : decode M_Mo_kindWord.2.1 137 = .ok (.bipush 21, 2) := by decide +kernel
theorem d_Mo_kindWord_139 : decode M_Mo_kindWord.2.1 139 = .ok (.bipush 18, 2) := by decide +kernel
theorem d_Mo_kindWord_141 : decode M_Mo_kindWord.2.1 141 = .ok (.bipush 14, 2) := by decide +kernel
theorem d_Mo_kindWord_143 : decode M_Mo_kindWord.2.1 143 = .ok (.bipush 19, 2) := by decide +kernel
theorem d_Mo_kindWord_145 : decode M_Mo_kindWord.2.1 145 = .ok (.iconst 0, 1) := by decide +kernel
theorem d_Mo_kindWord_146 : decode M_Mo_kindWord.2.1 146 = .ok (.iconst 0, 1) := by decide +kernel
theorem d_Mo_kindWord_147 : decode M_Mo_kindWord.2.1 147 = .ok (.invokestatic 68, 3) := by decide +kernel
theorem d_Mo_kindWord_150 : decode M_Mo_kindWord.2.1 150 = .ok (.lreturn, 1) := by decide +kernel
theorem d_Mo_kindWord_151 : decode M_Mo_kindWord.2.1 151 = .ok (.bipush 8, 2) := by decide +kernel
theorem d_Mo_kindWord_153 : decode M_Mo_kindWord.2.1 153 = .ok (.iconst 5, 1) := by decide +kernel
theorem d_Mo_kindWord_154 : decode M_Mo_kindWord.2.1 154 = .ok (.bipush 9, 2) := by decide +kernel
theorem d_Mo_kindWord_156 : decode M_Mo_kindWord.2.1 156 = .ok (.bipush 7, 2) := by decide +kernel
theorem d_Mo_kindWord_158 : decode M_Mo_kindWord.2.1 158 = .ok (.bipush 8, 2) := by decide +kernel
theorem d_Mo_kindWord_160 : decode M_Mo_kindWord.2.1 160 = .ok (.bipush 20, 2) := by decide +kernel
theorem d_Mo_kindWord_162 : decode M_Mo_kindWord.2.1 162 = .ok (.iconst 0, 1) := by decide +kernel
theorem d_Mo_kindWord_163 : decode M_Mo_kindWord.2.1 163 = .ok (.invokestatic 68, 3) := by decide +kernel
theorem d_Mo_kindWord_166 : decode M_Mo_kindWord.2.1 166 = .ok (.lreturn, 1) := by decide +kernel
theorem d_Mo_kindWord_167 : decode M_Mo_kindWord.2.1 167 = .ok (.bipush 13, 2) := by decide +kernel
theorem d_Mo_kindWord_169 : decode M_Mo_kindWord.2.1 169 = .ok (.iconst 1, 1) := by decide +kernel
theorem d_Mo_kindWord_170 : decode M_Mo_kindWord.2.1 170 = .ok (.bipush 19, 2) := by decide +kernel
theorem d_Mo_kindWord_172 : decode M_Mo_kindWord.2.1 172 = .ok (.bipush 11, 2) := by decide +kernel
theorem d_Mo_kindWord_174 : decode M_Mo_kindWord.2.1 174 = .ok (.iconst 0, 1) := by decide +kernel
theorem d_Mo_kindWord_175 : decode M_Mo_kindWord.2.1 175 = .ok (.iconst 0, 1) := by decide +kernel
theorem d_Mo_kindWord_176 : decode M_Mo_kindWord.2.1 176 = .ok (.iconst 0, 1) := by decide +kernel
theorem d_Mo_kindWord_177 : decode M_Mo_kindWord.2.1 177 = .ok (.invokestatic 68, 3) := by decide +kernel
theorem d_Mo_kindWord_180 : decode M_Mo_kindWord.2.1 180 = .ok (.lreturn, 1) := by decide +kernel
theorem d_Mo_kindWord_181 : decode M_Mo_kindWord.2.1 181 = .ok (.bipush 19, 2) := by decide +kernel
theorem d_Mo_kindWord_183 : decode M_Mo_kindWord.2.1 183 = .ok (.bipush 9, 2) := by decide +kernel
theorem d_Mo_kindWord_185 : decode M_Mo_kindWord.2.1 185 = .ok (.bipush 12, 2) := by decide +kernel
theorem d_Mo_kindWord_187 : decode M_Mo_kindWord.2.1 187 = .ok (.bipush 11, 2) := by decide +kernel
theorem d_Mo_kindWord_189 : decode M_Mo_kindWord.2.1 189 = .ok (.iconst 0, 1) := by decide +kernel
theorem d_Mo_kindWord_190 : decode M_Mo_kindWord.2.1 190 = .ok (.iconst 0, 1) := by decide +kernel
theorem d_Mo_kindWord_191 : decode M_Mo_kindWord.2.1 191 = .ok (.iconst 0, 1) := by decide +kernel
theorem d_Mo_kindWord_192 : decode M_Mo_kindWord.2.1 192 = .ok (.invokestatic 68, 3) := by decide +kernel
theorem d_Mo_kindWord_195 : decode M_Mo_kindWord.2.1 195 = .ok (.lreturn, 1) := by decide +kernel
theorem d_Mo_kindWord_196 : decode M_Mo_kindWord.2.1 196 = .ok (.bipush 20, 2) := by decide +kernel
theorem d_Mo_kindWord_198 : decode M_Mo_kindWord.2.1 198 = .ok (.iconst 5, 1) := by decide +kernel
theorem d_Mo_kindWord_199 : decode M_Mo_kindWord.2.1 199 = .ok (.bipush 19, 2) := by decide +kernel
theorem d_Mo_kindWord_201 : decode M_Mo_kindWord.2.1 201 = .ok (.bipush 20, 2) := by decide +kernel
theorem d_Mo_kindWord_203 : decode M_Mo_kindWord.2.1 203 = .ok (.iconst 0, 1) := by decide +kernel
theorem d_Mo_kindWord_204 : decode M_Mo_kindWord.2.1 204 = .ok (.iconst 0, 1) := by decide +kernel
theorem d_Mo_kindWord_205 : decode M_Mo_kindWord.2.1 205 = .ok (.iconst 0, 1) := by decide +kernel
theorem d_Mo_kindWord_206 : decode M_Mo_kindWord.2.1 206 = .ok (.invokestatic 68, 3) := by decide +kernel
theorem d_Mo_kindWord_209 : decode M_Mo_kindWord.2.1 209 = .ok (.lreturn, 1) := by decide +kernel
theorem d_Mo_kindWord_210 : decode M_Mo_kindWord.2.1 210 = .ok (.bipush 16, 2) := by decide +kernel
theorem d_Mo_kindWord_212 : decode M_Mo_kindWord.2.1 212 = .ok (.bipush 12, 2) := by decide +kernel
theorem d_Mo_kindWord_214 : decode M_Mo_kindWord.2.1 214 = .ok (.iconst 1, 1) := by decide +kernel
theorem d_Mo_kindWord_215 : decode M_Mo_kindWord.2.1 215 = .ok (.bipush 14, 2) := by decide +kernel
theorem d_Mo_kindWord_217 : decode M_Mo_kindWord.2.1 217 = .ok (.iconst 5, 1) := by decide +kernel
theorem d_Mo_kindWord_218 : decode M_Mo_kindWord.2.1 218 = .ok (.iconst 0, 1) := by decide +kernel
theorem d_Mo_kindWord_219 : decode M_Mo_kindWord.2.1 219 = .ok (.iconst 0, 1) := by decide +kernel
theorem d_Mo_kindWord_220 : decode M_Mo_kindWord.2.1 220 = .ok (.invokestatic 68, 3) := by decide +kernel
theorem d_Mo_kindWord_223 : decode M_Mo_kindWord.2.1 223 = .ok (.lreturn, 1) := by decide +kernel
theorem d_Mo_kindWord_224 : decode M_Mo_kindWord.2.1 224 = .ok (.bipush 18, 2) := by decide +kernel
theorem d_Mo_kindWord_226 : decode M_Mo_kindWord.2.1 226 = .ok (.bipush 9, 2) := by decide +kernel
theorem d_Mo_kindWord_228 : decode M_Mo_kindWord.2.1 228 = .ok (.bipush 14, 2) := by decide +kernel
theorem d_Mo_kindWord_230 : decode M_Mo_kindWord.2.1 230 = .ok (.bipush 7, 2) := by decide +kernel
theorem d_Mo_kindWord_232 : decode M_Mo_kindWord.2.1 232 = .ok (.iconst 0, 1) := by decide +kernel
theorem d_Mo_kindWord_233 : decode M_Mo_kindWord.2.1 233 = .ok (.iconst 0, 1) := by decide +kernel
theorem d_Mo_kindWord_234 : decode M_Mo_kindWord.2.1 234 = .ok (.iconst 0, 1) := by decide +kernel
theorem d_Mo_kindWord_235 : decode M_Mo_kindWord.2.1 235 = .ok (.invokestatic 68, 3) := by decide +kernel
theorem d_Mo_kindWord_238 : decode M_Mo_kindWord.2.1 238 = .ok (.lreturn, 1) := by decide +kernel
theorem d_Mo_kindWord_239 : decode M_Mo_kindWord.2.1 239 = .ok (.bipush 23, 2) := by decide +kernel
theorem d_Mo_kindWord_241 : decode M_Mo_kindWord.2.1 241 = .ok (.iconst 1, 1) := by decide +kernel
theorem d_Mo_kindWord_242 : decode M_Mo_kindWord.2.1 242 = .ok (.bipush 9, 2) := by decide +kernel
theorem d_Mo_kindWord_244 : decode M_Mo_kindWord.2.1 244 = .ok (.bipush 22, 2) := by decide +kernel
theorem d_Mo_kindWord_246 : decode M_Mo_kindWord.2.1 246 = .ok (.iconst 5, 1) := by decide +kernel
theorem d_Mo_kindWord_247 : decode M_Mo_kindWord.2.1 247 = .ok (.iconst 0, 1) := by decide +kernel
theorem d_Mo_kindWord_248 : decode M_Mo_kindWord.2.1 248 = .ok (.iconst 0, 1) := by decide +kernel
theorem d_Mo_kindWord_249 : decode M_Mo_kindWord.2.1 249 = .ok (.invokestatic 68, 3) := by decide +kernel
theorem d_Mo_kindWord_252 : decode M_Mo_kindWord.2.1 252 = .ok (.lreturn, 1) := by decide +kernel
theorem d_Mo_layer_0 : decode M_Mo_layer.2.1 0 = .ok (.aload_n 0, 1) := by decide +kernel
theorem d_Mo_layer_1 : decode M_Mo_layer.2.1 1 = .ok (.ldc2_w 104, 3) := by decide +kernel
theorem d_Mo_layer_4 : decode M_Mo_layer.2.1 4 = .ok (.invokevirtual 83, 3) := by decide +kernel
theorem d_Mo_layer_7 : decode M_Mo_layer.2.1 7 = .ok (.ifCond .ne 4, 3) := by decide +kernel
theorem d_Mo_layer_10 : decode M_Mo_layer.2.1 10 = .ok (.return_, 1) := by decide +kernel
theorem d_Mo_layer_11 : decode M_Mo_layer.2.1 11 = .ok (.aload_n 0, 1) := by decide +kernel
theorem d_Mo_layer_12 : decode M_Mo_layer.2.1 12 = .ok (.bipush 20, 2) := by decide +kernel
theorem d_Mo_layer_14 : decode M_Mo_layer.2.1 14 = .ok (.bipush 15, 2) := by decide +kernel
theorem d_Mo_layer_16 : decode M_Mo_layer.2.1 16 = .ok (.bipush 16, 2) := by decide +kernel
theorem d_Mo_layer_18 : decode M_Mo_layer.2.1 18 = .ok (.iconst 0, 1) := by decide +kernel
theorem d_Mo_layer_19 : decode M_Mo_layer.2.1 19 = .ok (.iconst 0, 1) := by decide +kernel
theorem d_Mo_layer_20 : decode M_Mo_layer.2.1 20 = .ok (.iconst 0, 1) := by decide +kernel
theorem d_Mo_layer_21 : decode M_Mo_layer.2.1 21 = .ok (.iconst 0, 1) := by decide +kernel
theorem d_Mo_layer_22 : decode M_Mo_layer.2.1 22 = .ok (.invokestatic 68, 3) := by decide +kernel
theorem d_Mo_layer_25 : decode M_Mo_layer.2.1 25 = .ok (.invokevirtual 83, 3) := by decide +kernel
theorem d_Mo_layer_28 : decode M_Mo_layer.2.1 28 = .ok (.ifCond .eq 18, 3) := by decide +kernel
theorem d_Mo_layer_31 : decode M_Mo_layer.2.1 31 = .ok (.aload_n 0, 1) := by decide +kernel
theorem d_Mo_layer_32 : decode M_Mo_layer.2.1 32 = .ok (.getfield 27, 3) := by decide +kernel
theorem d_Mo_layer_35 : decode M_Mo_layer.2.1 35 = .ok (.aload_n 0, 1) := by decide +kernel
theorem d_Mo_layer_36 : decode M_Mo_layer.2.1 36 = .ok (.getfield 101, 3) := by decide +kernel
theorem d_Mo_layer_39 : decode M_Mo_layer.2.1 39 = .ok (.iconst 5, 1) := by decide +kernel
theorem d_Mo_layer_40 : decode M_Mo_layer.2.1 40 = .ok (.iadd, 1) := by decide +kernel
theorem d_Mo_layer_41 : decode M_Mo_layer.2.1 41 = .ok (.lconst 1, 1) := by decide +kernel
theorem d_Mo_layer_42 : decode M_Mo_layer.2.1 42 = .ok (.lastore, 1) := by decide +kernel
theorem d_Mo_layer_43 : decode M_Mo_layer.2.1 43 = .ok (.goto 120, 3) := by decide +kernel
theorem d_Mo_layer_46 : decode M_Mo_layer.2.1 46 = .ok (.aload_n 0, 1) := by decide +kernel
theorem d_Mo_layer_47 : decode M_Mo_layer.2.1 47 = .ok (.iconst 2, 1) := by decide +kernel
theorem d_Mo_layer_48 : decode M_Mo_layer.2.1 48 = .ok (.bipush 15, 2) := by decide +kernel
theorem d_Mo_layer_50 : decode M_Mo_layer.2.1 50 = .ok (.bipush 20, 2) := by decide +kernel
theorem d_Mo_layer_52 : decode M_Mo_layer.2.1 52 = .ok (.bipush 20, 2) := by decide +kernel
theorem d_Mo_layer_54 : decode M_Mo_layer.2.1 54 = .ok (.bipush 15, 2) := by decide +kernel
theorem d_Mo_layer_56 : decode M_Mo_layer.2.1 56 = .ok (.bipush 13, 2) := by decide +kernel
theorem d_Mo_layer_58 : decode M_Mo_layer.2.1 58 = .ok (.iconst 0, 1) := by decide +kernel
theorem d_Mo_layer_59 : decode M_Mo_layer.2.1 59 = .ok (.invokestatic 68, 3) := by decide +kernel
theorem d_Mo_layer_62 : decode M_Mo_layer.2.1 62 = .ok (.invokevirtual 83, 3) := by decide +kernel
theorem d_Mo_layer_65 : decode M_Mo_layer.2.1 65 = .ok (.ifCond .eq 20, 3) := by decide +kernel
theorem d_Mo_layer_68 : decode M_Mo_layer.2.1 68 = .ok (.aload_n 0, 1) := by decide +kernel
theorem d_Mo_layer_69 : decode M_Mo_layer.2.1 69 = .ok (.getfield 27, 3) := by decide +kernel
theorem d_Mo_layer_72 : decode M_Mo_layer.2.1 72 = .ok (.aload_n 0, 1) := by decide +kernel
theorem d_Mo_layer_73 : decode M_Mo_layer.2.1 73 = .ok (.getfield 101, 3) := by decide +kernel
theorem d_Mo_layer_76 : decode M_Mo_layer.2.1 76 = .ok (.iconst 5, 1) := by decide +kernel
theorem d_Mo_layer_77 : decode M_Mo_layer.2.1 77 = .ok (.iadd, 1) := by decide +kernel
theorem d_Mo_layer_78 : decode M_Mo_layer.2.1 78 = .ok (.ldc2_w 106, 3) := by decide +kernel
theorem d_Mo_layer_81 : decode M_Mo_layer.2.1 81 = .ok (.lastore, 1) := by decide +kernel
theorem d_Mo_layer_82 : decode M_Mo_layer.2.1 82 = .ok (.goto 81, 3) := by decide +kernel
theorem d_Mo_layer_85 : decode M_Mo_layer.2.1 85 = .ok (.aload_n 0, 1) := by decide +kernel
theorem d_Mo_layer_86 : decode M_Mo_layer.2.1 86 = .ok (.bipush 9, 2) := by decide +kernel
theorem d_Mo_layer_88 : decode M_Mo_layer.2.1 88 = .ok (.bipush 14, 2) := by decide +kernel
theorem d_Mo_layer_90 : decode M_Mo_layer.2.1 90 = .ok (.bipush 14, 2) := by decide +kernel
theorem d_Mo_layer_92 : decode M_Mo_layer.2.1 92 = .ok (.iconst 5, 1) := by decide +kernel
theorem d_Mo_layer_93 : decode M_Mo_layer.2.1 93 = .ok (.bipush 18, 2) := by decide +kernel
theorem d_Mo_layer_95 : decode M_Mo_layer.2.1 95 = .ok (.iconst 0, 1) := by decide +kernel
theorem d_Mo_layer_96 : decode M_Mo_layer.2.1 96 = .ok (.iconst 0, 1) := by decide +kernel
theorem d_Mo_layer_97 : decode M_Mo_layer.2.1 97 = .ok (.invokestatic 68, 3) := by decide +kernel
theorem d_Mo_layer_100 : decode M_Mo_layer.2.1 100 = .ok (.invokevirtual 83, 3) := by decide +kernel
theorem d_Mo_layer_103 : decode M_Mo_layer.2.1 103 = .ok (.ifCond .eq 20, 3) := by decide +kernel
theorem d_Mo_layer_106 : decode M_Mo_layer.2.1 106 = .ok (.aload_n 0, 1) := by decide +kernel
theorem d_Mo_layer_107 : decode M_Mo_layer.2.1 107 = .ok (.getfield 27, 3) := by decide +kernel
theorem d_Mo_layer_110 : decode M_Mo_layer.2.1 110 = .ok (.aload_n 0, 1) := by decide +kernel
theorem d_Mo_layer_111 : decode M_Mo_layer.2.1 111 = .ok (.getfield 101, 3) := by decide +kernel
theorem d_Mo_layer_114 : decode M_Mo_layer.2.1 114 = .ok (.iconst 5, 1) := by decide +kernel
theorem d_Mo_layer_115 : decode M_Mo_layer.2.1 115 = .ok (.iadd, 1) := by decide +kernel
theorem d_Mo_layer_116 : decode M_Mo_layer.2.1 116 = .ok (.ldc2_w 108, 3) := by decide +kernel
theorem d_Mo_layer_119 : decode M_Mo_layer.2.1 119 = .ok (.lastore, 1) := by decide +kernel
theorem d_Mo_layer_120 : decode M_Mo_layer.2.1 120 = .ok (.goto 43, 3) := by decide +kernel
theorem d_Mo_layer_123 : decode M_Mo_layer.2.1 123 = .ok (.aload_n 0, 1) := by decide +kernel
theorem d_Mo_layer_124 : decode M_Mo_layer.2.1 124 = .ok (.bipush 12, 2) := by decide +kernel
theorem d_Mo_layer_126 : decode M_Mo_layer.2.1 126 = .ok (.iconst 1, 1) := by decide +kernel
theorem d_Mo_layer_127 : decode M_Mo_layer.2.1 127 = .ok (.bipush 25, 2) := by decide +kernel
theorem d_Mo_layer_129 : decode M_Mo_layer.2.1 129 = .ok (.iconst 5, 1) := by decide +kernel
theorem d_Mo_layer_130 : decode M_Mo_layer.2.1 130 = .ok (.bipush 18, 2) := by decide +kernel
theorem d_Mo_layer_132 : decode M_Mo_layer.2.1 132 = .ok (.iconst 0, 1) := by decide +kernel
theorem d_Mo_layer_133 : decode M_Mo_layer.2.1 133 = .ok (.iconst 0, 1) := by decide +kernel
theorem d_Mo_layer_134 : decode M_Mo_layer.2.1 134 = .ok (.invokestatic 68, 3) := by decide +kernel
theorem d_Mo_layer_137 : decode M_Mo_layer.2.1 137 = .ok (.invokevirtual 97, 3) := by decide +kernel
theorem d_Mo_layer_140 : decode M_Mo_layer.2.1 140 = .ok (.aload_n 0, 1) := by decide +kernel
theorem d_Mo_layer_141 : decode M_Mo_layer.2.1 141 = .ok (.getfield 27, 3) := by decide +kernel
theorem d_Mo_layer_144 : decode M_Mo_layer.2.1 144 = .ok (.aload_n 0, 1) := by decide +kernel
theorem d_Mo_layer_145 : decode M_Mo_layer.2.1 145 = .ok (.getfield 101, 3) := by decide +kernel
theorem d_Mo_layer_148 : decode M_Mo_layer.2.1 148 = .ok (.iconst 5, 1) := by decide +kernel
theorem d_Mo_layer_149 : decode M_Mo_layer.2.1 149 = .ok (.iadd, 1) := by decide +kernel
theorem d_Mo_layer_150 : decode M_Mo_layer.2.1 150 = .ok (.ldc2_w 108, 3) := by decide +kernel
theorem d_Mo_layer_153 : decode M_Mo_layer.2.1 153 = .ok (.aload_n 0, 1) := by decide +kernel
theorem d_Mo_layer_154 : decode M_Mo_layer.2.1 154 = .ok (.iconst 1, 1) := by decide +kernel
theorem d_Mo_layer_155 : decode M_Mo_layer.2.1 155 = .ok (.bipush 32, 2) := by decide +kernel
theorem d_Mo_layer_157 : decode M_Mo_layer.2.1 157 = .ok (.invokevirtual 110, 3) := by decide +kernel
theorem d_Mo_layer_160 : decode M_Mo_layer.2.1 160 = .ok (.i2l, 1) := by decide +kernel
theorem d_Mo_layer_161 : decode M_Mo_layer.2.1 161 = .ok (.ladd, 1) := by decide +kernel
theorem d_Mo_layer_162 : decode M_Mo_layer.2.1 162 = .ok (.lastore, 1) := by decide +kernel
theorem d_Mo_layer_163 : decode M_Mo_layer.2.1 163 = .ok (.return_, 1) := by decide +kernel
theorem d_Mo_lineOf_0 : decode M_Mo_lineOf.2.1 0 = .ok (.iconst 0, 1) := by decide +kernel
theorem d_Mo_lineOf_1 : decode M_Mo_lineOf.2.1 1 = .ok (.istore_n 2, 1) := by decide +kernel
theorem d_Mo_lineOf_2 : decode M_Mo_lineOf.2.1 2 = .ok (.iconst 0, 1) := by decide +kernel
theorem d_Mo_lineOf_3 : decode M_Mo_lineOf.2.1 3 = .ok (.istore_n 3, 1) := by decide +kernel
theorem d_Mo_lineOf_4 : decode M_Mo_lineOf.2.1 4 = .ok (.iload_n 3, 1) := by decide +kernel
theorem d_Mo_lineOf_5 : decode M_Mo_lineOf.2.1 5 = .ok (.iload_n 1, 1) := by decide +kernel
theorem d_Mo_lineOf_6 : decode M_Mo_lineOf.2.1 6 = .ok (.if_icmp .ge 28, 3) := by decide +kernel
theorem d_Mo_lineOf_9 : decode M_Mo_lineOf.2.1 9 = .ok (.iload_n 2, 1) := by decide +kernel
theorem d_Mo_lineOf_10 : decode M_Mo_lineOf.2.1 10 = .ok (.aload_n 0, 1) := by decide +kernel
theorem d_Mo_lineOf_11 : decode M_Mo_lineOf.2.1 11 = .ok (.getfield 7, 3) := by decide +kernel
theorem d_Mo_lineOf_14 : decode M_Mo_lineOf.2.1 14 = .ok (.iload_n 3, 1) := by decide +kernel
theorem d_Mo_lineOf_15 : decode M_Mo_lineOf.2.1 15 = .ok (.iaload, 1) := by decide +kernel
theorem d_Mo_lineOf_16 : decode M_Mo_lineOf.2.1 16 = .ok (.bipush 10, 2) := by decide +kernel
theorem d_Mo_lineOf_18 : decode M_Mo_lineOf.2.1 18 = .ok (.if_icmp .ne 7, 3) := by decide +kernel
theorem d_Mo_lineOf_21 : decode M_Mo_lineOf.2.1 21 = .ok (.iconst 1, 1) := by decide +kernel
theorem d_Mo_lineOf_22 : decode M_Mo_lineOf.2.1 22 = .ok (.goto 4, 3) := by decide +kernel
theorem d_Mo_lineOf_25 : decode M_Mo_lineOf.2.1 25 = .ok (.iconst 0, 1) := by decide +kernel
theorem d_Mo_lineOf_26 : decode M_Mo_lineOf.2.1 26 = .ok (.iadd, 1) := by decide +kernel
theorem d_Mo_lineOf_27 : decode M_Mo_lineOf.2.1 27 = .ok (.istore_n 2, 1) := by decide +kernel
theorem d_Mo_lineOf_28 : decode M_Mo_lineOf.2.1 28 = .ok (.iinc 3 1, 3) := by decide +kernel
theorem d_Mo_lineOf_31 : decode M_Mo_lineOf.2.1 31 = .ok (.goto (-27), 3) := by decide +kernel
theorem d_Mo_lineOf_34 : decode M_Mo_lineOf.2.1 34 = .ok (.iload_n 2, 1) := by decide +kernel
theorem d_Mo_lineOf_35 : decode M_Mo_lineOf.2.1 35 = .ok (.ireturn, 1) := by decide +kernel
theorem d_Mo_thing_0 : decode M_Mo_thing.2.1 0 = .ok (.iconst (-1), 1) := by decide +kernel
theorem d_Mo_thing_1 : decode M_Mo_thing.2.1 1 = .ok (.istore_n 2, 1) := by decide +kernel
theorem d_Mo_thing_2 : decode M_Mo_thing.2.1 2 = .ok (.iconst (-1), 1) := by decide +kernel
theorem d_Mo_thing_3 : decode M_Mo_thing.2.1 3 = .ok (.istore_n 3, 1) := by decide +kernel
theorem d_Mo_thing_4 : decode M_Mo_thing.2.1 4 = .ok (.aload_n 0, 1) := by decide +kernel
theorem d_Mo_thing_5 : decode M_Mo_thing.2.1 5 = .ok (.iconst 3, 1) := by decide +kernel
theorem d_Mo_thing_6 : decode M_Mo_thing.2.1 6 = .ok (.bipush 12, 2) := by decide +kernel
theorem d_Mo_thing_8 : decode M_Mo_thing.2.1 8 = .ok (.iconst 1, 1) := by decide +kernel
theorem d_Mo_thing_9 : decode M_Mo_thing.2.1 9 = .ok (.bipush 19, 2) := by decide +kernel
theorem d_Mo_thing_11 : decode M_Mo_thing.2.1 11 = .ok (.bipush 19, 2) := by decide +kernel
theorem d_Mo_thing_13 : decode M_Mo_thing.2.1 13 = .ok (.iconst 0, 1) := by decide +kernel
theorem d_Mo_thing_14 : decode M_Mo_thing.2.1 14 = .ok (.iconst 0, 1) := by decide +kernel
theorem d_Mo_thing_15 : decode M_Mo_thing.2.1 15 = .ok (.invokestatic 68, 3) := by decide +kernel
theorem d_Mo_thing_18 : decode M_Mo_thing.2.1 18 = .ok (.invokevirtual 83, 3) := by decide +kernel
theorem d_Mo_thing_21 : decode M_Mo_thing.2.1 21 = .ok (.ifCond .eq 14, 3) := by decide +kernel
theorem d_Mo_thing_24 : decode M_Mo_thing.2.1 24 = .ok (.iconst 0, 1) := by decide +kernel
theorem d_Mo_thing_25 : decode M_Mo_thing.2.1 25 = .ok (.istore_n 2, 1) := by decide +kernel
theorem d_Mo_thing_26 : decode M_Mo_thing.2.1 26 = .ok (.aload_n 0, 1) := by decide +kernel
theorem d_Mo_thing_27 : decode M_Mo_thing.2.1 27 = .ok (.iconst 0, 1) := by decide +kernel
theorem d_Mo_thing_28 : decode M_Mo_thing.2.1 28 = .ok (.invokevirtual 91, 3) := by decide +kernel
theorem d_Mo_thing_31 : decode M_Mo_thing.2.1 31 = .ok (.istore_n 3, 1) := by decide +kernel
theorem d_Mo_thing_32 : decode M_Mo_thing.2.1 32 = .ok (.goto 40, 3) := by decide +kernel
theorem d_Mo_thing_35 : decode M_Mo_thing.2.1 35 = .ok (.aload_n 0, 1) := by decide +kernel
theorem d_Mo_thing_36 : decode M_Mo_thing.2.1 36 = .ok (.bipush 14, 2) := by decide +kernel
theorem d_Mo_thing_38 : decode M_Mo_thing.2.1 38 = .ok (.iconst 5, 1) := by decide +kernel
theorem d_Mo_thing_39 : decode M_Mo_thing.2.1 39 = .ok (.bipush 20, 2) := by decide +kernel
theorem d_Mo_thing_41 : decode M_Mo_thing.2.1 41 = .ok (.iconst 0, 1) := by decide +kernel
theorem d_Mo_thing_42 : decode M_Mo_thing.2.1 42 = .ok (.iconst 0, 1) := by decide +kernel
theorem d_Mo_thing_43 : decode M_Mo_thing.2.1 43 = .ok (.iconst 0, 1) := by decide +kernel
theorem d_Mo_thing_44 : decode M_Mo_thing.2.1 44 = .ok (.iconst 0, 1) := by decide +kernel
theorem d_Mo_thing_45 : decode M_Mo_thing.2.1 45 = .ok (.invokestatic 68, 3) := by decide +kernel
theorem d_Mo_thing_48 : decode M_Mo_thing.2.1 48 = .ok (.invokevirtual 83, 3) := by decide +kernel
theorem d_Mo_thing_51 : decode M_Mo_thing.2.1 51 = .ok (.ifCond .eq 14, 3) := by decide +kernel
theorem d_Mo_thing_54 : decode M_Mo_thing.2.1 54 = .ok (.iconst 1, 1) := by decide +kernel
theorem d_Mo_thing_55 : decode M_Mo_thing.2.1 55 = .ok (.istore_n 2, 1) := by decide +kernel
theorem d_Mo_thing_56 : decode M_Mo_thing.2.1 56 = .ok (.aload_n 0, 1) := by decide +kernel
theorem d_Mo_thing_57 : decode M_Mo_thing.2.1 57 = .ok (.iconst 1, 1) := by decide +kernel
theorem d_Mo_thing_58 : decode M_Mo_thing.2.1 58 = .ok (.invokevirtual 91, 3) := by decide +kernel
theorem d_Mo_thing_61 : decode M_Mo_thing.2.1 61 = .ok (.istore_n 3, 1) := by decide +kernel
theorem d_Mo_thing_62 : decode M_Mo_thing.2.1 62 = .ok (.goto 10, 3) := by decide +kernel
theorem d_Mo_thing_65 : decode M_Mo_thing.2.1 65 = .ok (.aload_n 0, 1) := by decide +kernel
theorem d_Mo_thing_66 : decode M_Mo_thing.2.1 66 = .ok (.ldc2_w 95, 3) := by decide +kernel
theorem d_Mo_thing_69 : decode M_Mo_thing.2.1 69 = .ok (.invokevirtual 97, 3) := by decide +kernel
theorem d_Mo_thing_72 : decode M_Mo_thing.2.1 72 = .ok (.aload_n 0, 1) := by decide +kernel
theorem d_Mo_thing_73 : decode M_Mo_thing.2.1 73 = .ok (.getfield 27, 3) := by decide +kernel
theorem d_Mo_thing_76 : decode M_Mo_thing.2.1 76 = .ok (.aload_n 0, 1) := by decide +kernel
theorem d_Mo_thing_77 : decode M_Mo_thing.2.1 77 = .ok (.getfield 101, 3) := by decide +kernel
theorem d_Mo_thing_80 : decode M_Mo_thing.2.1 80 = .ok (.iload_n 1, 1) := by decide +kernel
theorem d_Mo_thing_81 : decode M_Mo_thing.2.1 81 = .ok (.iadd, 1) := by decide +kernel
theorem d_Mo_thing_82 : decode M_Mo_thing.2.1 82 = .ok (.iload_n 2, 1) := by decide +kernel
theorem d_Mo_thing_83 : decode M_Mo_thing.2.1 83 = .ok (.i2l, 1) := by decide +kernel
theorem d_Mo_thing_84 : decode M_Mo_thing.2.1 84 = .ok (.lastore, 1) := by decide +kernel
theorem d_Mo_thing_85 : decode M_Mo_thing.2.1 85 = .ok (.aload_n 0, 1) := by decide +kernel
theorem d_Mo_thing_86 : decode M_Mo_thing.2.1 86 = .ok (.getfield 27, 3) := by decide +kernel
theorem d_Mo_thing_89 : decode M_Mo_thing.2.1 89 = .ok (.aload_n 0, 1) := by decide +kernel
theorem d_Mo_thing_90 : decode M_Mo_thing.2.1 90 = .ok (.getfield 101, 3) := by decide +kernel
theorem d_Mo_thing_93 : decode M_Mo_thing.2.1 93 = .ok (.iload_n 1, 1) := by decide +kernel
theorem d_Mo_thing_94 : decode M_Mo_thing.2.1 94 = .ok (.iadd, 1) := by decide +kernel
theorem d_Mo_thing_95 : decode M_Mo_thing.2.1 95 = .ok (.iconst 1, 1) := by decide +kernel
theorem d_Mo_thing_96 : decode M_Mo_thing.2.1 96 = .ok (.iadd, 1) := by decide +kernel
theorem d_Mo_thing_97 : decode M_Mo_thing.2.1 97 = .ok (.iload_n 3, 1) := by decide +kernel
theorem d_Mo_thing_98 : decode M_Mo_thing.2.1 98 = .ok (.i2l, 1) := by decide +kernel
theorem d_Mo_thing_99 : decode M_Mo_thing.2.1 99 = .ok (.lastore, 1) := by decide +kernel
theorem d_Mo_thing_100 : decode M_Mo_thing.2.1 100 = .ok (.return_, 1) := by decide +kernel
theorem wv_0 : wOK 0 (wordV 2 5 20 23 5 5 14) := by unfold wOK; decide
theorem wv_1 : wOK 1 486 := by unfold wOK; decide
theorem wv_2 : wOK 2 1497 := by unfold wOK; decide
theorem wv_3 : wOK 3 (wordV 3 12 1 19 19 0 0) := by unfold wOK; decide
theorem wv_4 : wOK 4 (wordV 14 5 20 0 0 0 0) := by unfold wOK; decide
theorem wv_5 : wOK 5 1476 := by unfold wOK; decide
theorem wv_6 : wOK 6 494 := by unfold wOK; decide
theorem wv_7 : wOK 7 (wordV 12 1 25 5 18 0 0) := by unfold wOK; decide
theorem wv_8 : wOK 8 (wordV 20 15 16 0 0 0 0) := by unfold wOK; decide
theorem wv_9 : wOK 9 (wordV 2 15 20 20 15 13 0) := by unfold wOK; decide
theorem wv_10 : wOK 10 (wordV 9 14 14 5 18 0 0) := by unfold wOK; decide
theorem wv_11 : wOK 11 302 := by unfold wOK; decide
theorem wv_12 : wOK 12 (wordV 18 1 14 11 0 0 0) := by unfold wOK; decide
def kwV (i : Nat) : Int64 := ([wordV 7 1 16 0 0 0 0, wordV 23 9 4 20 8 0 0, wordV 22 9 1 0 0 0 0, wordV 12 5 14 7 20 8 0, wordV 19 11 5 23 0 0 0, wordV 20 21 18 14 19 0 0, wordV 8 5 9 7 8 20 0, wordV 13 1 19 11 0 0 0, wordV 19 9 12 11 0 0 0, wordV 20 5 19 20 0 0 0, wordV 16 12 1 14 5 0 0, wordV 18 9 14 7 0 0 0, wordV 23 1 9 22 5 0 0] : List Int64).getD i 0
theorem wv_k : ∀ i, i < 13 → (1 ≤ (rx_tx (rx_kw i - 30)).length ∧ (rx_tx (rx_kw i - 30)).length ≤ 7) ∧ (∀ x, x < (rx_tx (rx_kw i - 30)).length → 97 ≤ ((rx_tx (rx_kw i - 30)).getD x 0).toInt ∧ ((rx_tx (rx_kw i - 30)).getD x 0).toInt ≤ 122) ∧ kwV i = Int64.ofNat (gE (fun x => (rx_tx (rx_kw i - 30)).getD x 0) 0 (rx_tx (rx_kw i - 30)).length) := by decide
theorem kw_inj : ∀ i, i < 13 → ∀ k, k < 13 → rx_tx (rx_kw i - 30) = rx_tx (rx_kw k - 30) → i = k := by decide
theorem nthF_none {P : Nat → Prop} : ∀ f i, nthF P f i 0 = none → ∀ x, i ≤ x → x < i + f → ¬ P x
  | 0, i, _, x, h1, h2 => by omega
  | f + 1, i, h, x, h1, h2 => by
    unfold nthF at h
    by_cases q : P i
    · rw [if_pos q, if_pos rfl] at h; cases h
    · rw [if_neg q] at h
      by_cases e : x = i
      · subst e; exact q
      · exact nthF_none f (i + 1) h x (by omega) (by omega)
theorem nthF_some {P : Nat → Prop} : ∀ f i k, nthF P f i 0 = some k → (i ≤ k ∧ k < i + f) ∧ P k
  | 0, i, k, h => by cases h
  | f + 1, i, k, h => by
    unfold nthF at h
    by_cases q : P i
    · rw [if_pos q, if_pos rfl] at h
      cases h
      exact ⟨⟨by omega, by omega⟩, q⟩
    · rw [if_neg q] at h
      have := nthF_some f (i + 1) k h
      exact ⟨⟨by omega, by omega⟩, this.2⟩
theorem knd_iff {n : Nat} {t : Nat → Int32} {j i : Nat} (hi : i < 13) : isW n t j (rx_kw i - 30) ↔ knd n t j = some i := by
  unfold knd
  constructor
  · intro h
    cases e : nthF (fun i => isW n t j (rx_kw i - 30)) 13 0 0 with
    | none => exact absurd h (nthF_none 13 0 e i (by omega) (by omega))
    | some k =>
      have := nthF_some 13 0 k e
      rw [kw_inj k (by omega) i hi (isW_one this.2 h)]
  · intro h
    exact (nthF_some 13 0 i h).2
theorem knd_lt {n : Nat} {t : Nat → Int32} {j κ : Nat} (h : knd n t j = some κ) : κ < 13 := by
  have := nthF_some 13 0 κ h
  omega
section
variable {nx : Nat} {ct : Nat → Nat × Nat} {m0 mi : Nat → Nat → Int32} {ml : Nat → Nat → Int64} {mr : Nat → Nat → Option Nat} {n m : Nat} {t : Nat → Int32}
theorem sp_Mo_kindWord_0 (σ : rx_S) : rx_Calls y_Mo_kindWord M_Mo_kindWord 1 0 0 [.int (nI 0)] σ (fun v τ => v = some (.long (kwV 0)) ∧ τ = σ) := by
  refine rx_enter (by decide) rfl rfl (Nat.le_of_ble_eq_true rfl) ?_
  refine ru_iload_n d_Mo_kindWord_0 rfl rfl ?_
  refine ru_tableIn (tgt := 64) d_Mo_kindWord_1 (by decide) (by decide) rfl (by decide) ?_
  refine ru_bipush (v := 7) d_Mo_kindWord_64 (by decide) ?_
  refine ru_iconst (v := 1) d_Mo_kindWord_66 (by decide) ?_
  refine ru_bipush (v := 16) d_Mo_kindWord_67 (by decide) ?_
  refine ru_iconst (v := 0) d_Mo_kindWord_69 (by decide) ?_
  refine ru_iconst (v := 0) d_Mo_kindWord_70 (by decide) ?_
  refine ru_iconst (v := 0) d_Mo_kindWord_71 (by decide) ?_
  refine ru_iconst (v := 0) d_Mo_kindWord_72 (by decide) ?_
  refine ru_callS (mc := 0) (ms := 0) d_Mo_kindWord_73 lm_Mo_68 (sp_Mo_word 7 1 16 0 0 0 0 _) (by decide) rfl (Nat.le_of_ble_eq_true rfl) ?_
  intro v τ h
  obtain ⟨rfl, rfl⟩ := h
  refine ru_lret d_Mo_kindWord_76 rfl ?_
  exact ⟨rfl, rfl⟩
theorem sp_Mo_kindWord_1 (σ : rx_S) : rx_Calls y_Mo_kindWord M_Mo_kindWord 1 0 0 [.int (nI 1)] σ (fun v τ => v = some (.long (kwV 1)) ∧ τ = σ) := by
  refine rx_enter (by decide) rfl rfl (Nat.le_of_ble_eq_true rfl) ?_
  refine ru_iload_n d_Mo_kindWord_0 rfl rfl ?_
  refine ru_tableIn (tgt := 77) d_Mo_kindWord_1 (by decide) (by decide) rfl (by decide) ?_
  refine ru_bipush (v := 23) d_Mo_kindWord_77 (by decide) ?_
  refine ru_bipush (v := 9) d_Mo_kindWord_79 (by decide) ?_
  refine ru_iconst (v := 4) d_Mo_kindWord_81 (by decide) ?_
  refine ru_bipush (v := 20) d_Mo_kindWord_82 (by decide) ?_
  refine ru_bipush (v := 8) d_Mo_kindWord_84 (by decide) ?_
  refine ru_iconst (v := 0) d_Mo_kindWord_86 (by decide) ?_
  refine ru_iconst (v := 0) d_Mo_kindWord_87 (by decide) ?_
  refine ru_callS (mc := 0) (ms := 0) d_Mo_kindWord_88 lm_Mo_68 (sp_Mo_word 23 9 4 20 8 0 0 _) (by decide) rfl (Nat.le_of_ble_eq_true rfl) ?_
  intro v τ h
  obtain ⟨rfl, rfl⟩ := h
  refine ru_lret d_Mo_kindWord_91 rfl ?_
  exact ⟨rfl, rfl⟩
theorem sp_Mo_kindWord_2 (σ : rx_S) : rx_Calls y_Mo_kindWord M_Mo_kindWord 1 0 0 [.int (nI 2)] σ (fun v τ => v = some (.long (kwV 2)) ∧ τ = σ) := by
  refine rx_enter (by decide) rfl rfl (Nat.le_of_ble_eq_true rfl) ?_
  refine ru_iload_n d_Mo_kindWord_0 rfl rfl ?_
  refine ru_tableIn (tgt := 92) d_Mo_kindWord_1 (by decide) (by decide) rfl (by decide) ?_
  refine ru_bipush (v := 22) d_Mo_kindWord_92 (by decide) ?_
  refine ru_bipush (v := 9) d_Mo_kindWord_94 (by decide) ?_
  refine ru_iconst (v := 1) d_Mo_kindWord_96 (by decide) ?_
  refine ru_iconst (v := 0) d_Mo_kindWord_97 (by decide) ?_
  refine ru_iconst (v := 0) d_Mo_kindWord_98 (by decide) ?_
  refine ru_iconst (v := 0) d_Mo_kindWord_99 (by decide) ?_
  refine ru_iconst (v := 0) d_Mo_kindWord_100 (by decide) ?_
  refine ru_callS (mc := 0) (ms := 0) d_Mo_kindWord_101 lm_Mo_68 (sp_Mo_word 22 9 1 0 0 0 0 _) (by decide) rfl (Nat.le_of_ble_eq_true rfl) ?_
  intro v τ h
  obtain ⟨rfl, rfl⟩ := h
  refine ru_lret d_Mo_kindWord_104 rfl ?_
  exact ⟨rfl, rfl⟩
theorem sp_Mo_kindWord_3 (σ : rx_S) : rx_Calls y_Mo_kindWord M_Mo_kindWord 1 0 0 [.int (nI 3)] σ (fun v τ => v = some (.long (kwV 3)) ∧ τ = σ) := by
  refine rx_enter (by decide) rfl rfl (Nat.le_of_ble_eq_true rfl) ?_
  refine ru_iload_n d_Mo_kindWord_0 rfl rfl ?_
  refine ru_tableIn (tgt := 105) d_Mo_kindWord_1 (by decide) (by decide) rfl (by decide) ?_
  refine ru_bipush (v := 12) d_Mo_kindWord_105 (by decide) ?_
  refine ru_iconst (v := 5) d_Mo_kindWord_107 (by decide) ?_
  refine ru_bipush (v := 14) d_Mo_kindWord_108 (by decide) ?_
  refine ru_bipush (v := 7) d_Mo_kindWord_110 (by decide) ?_
  refine ru_bipush (v := 20) d_Mo_kindWord_112 (by decide) ?_
  refine ru_bipush (v := 8) d_Mo_kindWord_114 (by decide) ?_
  refine ru_iconst (v := 0) d_Mo_kindWord_116 (by decide) ?_
  refine ru_callS (mc := 0) (ms := 0) d_Mo_kindWord_117 lm_Mo_68 (sp_Mo_word 12 5 14 7 20 8 0 _) (by decide) rfl (Nat.le_of_ble_eq_true rfl) ?_
  intro v τ h
  obtain ⟨rfl, rfl⟩ := h
  refine ru_lret d_Mo_kindWord_120 rfl ?_
  exact ⟨rfl, rfl⟩
theorem sp_Mo_kindWord_4 (σ : rx_S) : rx_Calls y_Mo_kindWord M_Mo_kindWord 1 0 0 [.int (nI 4)] σ (fun v τ => v = some (.long (kwV 4)) ∧ τ = σ) := by
  refine rx_enter (by decide) rfl rfl (Nat.le_of_ble_eq_true rfl) ?_
  refine ru_iload_n d_Mo_kindWord_0 rfl rfl ?_
  refine ru_tableIn (tgt := 121) d_Mo_kindWord_1 (by decide) (by decide) rfl (by decide) ?_
  refine ru_bipush (v := 19) d_Mo_kindWord_121 (by decide) ?_
  refine ru_bipush (v := 11) d_Mo_kindWord_123 (by decide) ?_
  refine ru_iconst (v := 5) d_Mo_kindWord_125 (by decide) ?_
  refine ru_bipush (v := 23) d_Mo_kindWord_126 (by decide) ?_
  refine ru_iconst (v := 0) d_Mo_kindWord_128 (by decide) ?_
  refine ru_iconst (v := 0) d_Mo_kindWord_129 (by decide) ?_
  refine ru_iconst (v := 0) d_Mo_kindWord_130 (by decide) ?_
  refine ru_callS (mc := 0) (ms := 0) d_Mo_kindWord_131 lm_Mo_68 (sp_Mo_word 19 11 5 23 0 0 0 _) (by decide) rfl (Nat.le_of_ble_eq_true rfl) ?_
  intro v τ h
  obtain ⟨rfl, rfl⟩ := h
  refine ru_lret d_Mo_kindWord_134 rfl ?_
  exact ⟨rfl, rfl⟩
theorem sp_Mo_kindWord_5 (σ : rx_S) : rx_Calls y_Mo_kindWord M_Mo_kindWord 1 0 0 [.int (nI 5)] σ (fun v τ => v = some (.long (kwV 5)) ∧ τ = σ) := by
  refine rx_enter (by decide) rfl rfl (Nat.le_of_ble_eq_true rfl) ?_
  refine ru_iload_n d_Mo_kindWord_0 rfl rfl ?_
  refine ru_tableIn (tgt := 135) d_Mo_kindWord_1 (by decide) (by decide) rfl (by decide) ?_
  refine ru_bipush (v := 20) d_Mo_kindWord_135 (by decide) ?_
  refine ru_bipush (v := 21) d_Mo_kindWord_137 (by decide) ?_
  refine ru_bipush (v := 18) d_Mo_kindWord_139 (by decide) ?_
  refine ru_bipush (v := 14) d_Mo_kindWord_141 (by decide) ?_
  refine ru_bipush (v := 19) d_Mo_kindWord_143 (by decide) ?_
  refine ru_iconst (v := 0) d_Mo_kindWord_145 (by decide) ?_
  refine ru_iconst (v := 0) d_Mo_kindWord_146 (by decide) ?_
  refine ru_callS (mc := 0) (ms := 0) d_Mo_kindWord_147 lm_Mo_68 (sp_Mo_word 20 21 18 14 19 0 0 _) (by decide) rfl (Nat.le_of_ble_eq_true rfl) ?_
  intro v τ h
  obtain ⟨rfl, rfl⟩ := h
  refine ru_lret d_Mo_kindWord_150 rfl ?_
  exact ⟨rfl, rfl⟩
theorem sp_Mo_kindWord_6 (σ : rx_S) : rx_Calls y_Mo_kindWord M_Mo_kindWord 1 0 0 [.int (nI 6)] σ (fun v τ => v = some (.long (kwV 6)) ∧ τ = σ) := by
  refine rx_enter (by decide) rfl rfl (Nat.le_of_ble_eq_true rfl) ?_
  refine ru_iload_n d_Mo_kindWord_0 rfl rfl ?_
  refine ru_tableIn (tgt := 151) d_Mo_kindWord_1 (by decide) (by decide) rfl (by decide) ?_
  refine ru_bipush (v := 8) d_Mo_kindWord_151 (by decide) ?_
  refine ru_iconst (v := 5) d_Mo_kindWord_153 (by decide) ?_
  refine ru_bipush (v := 9) d_Mo_kindWord_154 (by decide) ?_
  refine ru_bipush (v := 7) d_Mo_kindWord_156 (by decide) ?_
  refine ru_bipush (v := 8) d_Mo_kindWord_158 (by decide) ?_
  refine ru_bipush (v := 20) d_Mo_kindWord_160 (by decide) ?_
  refine ru_iconst (v := 0) d_Mo_kindWord_162 (by decide) ?_
  refine ru_callS (mc := 0) (ms := 0) d_Mo_kindWord_163 lm_Mo_68 (sp_Mo_word 8 5 9 7 8 20 0 _) (by decide) rfl (Nat.le_of_ble_eq_true rfl) ?_
  intro v τ h
  obtain ⟨rfl, rfl⟩ := h
  refine ru_lret d_Mo_kindWord_166 rfl ?_
  exact ⟨rfl, rfl⟩
theorem sp_Mo_kindWord_7 (σ : rx_S) : rx_Calls y_Mo_kindWord M_Mo_kindWord 1 0 0 [.int (nI 7)] σ (fun v τ => v = some (.long (kwV 7)) ∧ τ = σ) := by
  refine rx_enter (by decide) rfl rfl (Nat.le_of_ble_eq_true rfl) ?_
  refine ru_iload_n d_Mo_kindWord_0 rfl rfl ?_
  refine ru_tableIn (tgt := 167) d_Mo_kindWord_1 (by decide) (by decide) rfl (by decide) ?_
  refine ru_bipush (v := 13) d_Mo_kindWord_167 (by decide) ?_
  refine ru_iconst (v := 1) d_Mo_kindWord_169 (by decide) ?_
  refine ru_bipush (v := 19) d_Mo_kindWord_170 (by decide) ?_
  refine ru_bipush (v := 11) d_Mo_kindWord_172 (by decide) ?_
  refine ru_iconst (v := 0) d_Mo_kindWord_174 (by decide) ?_
  refine ru_iconst (v := 0) d_Mo_kindWord_175 (by decide) ?_
  refine ru_iconst (v := 0) d_Mo_kindWord_176 (by decide) ?_
  refine ru_callS (mc := 0) (ms := 0) d_Mo_kindWord_177 lm_Mo_68 (sp_Mo_word 13 1 19 11 0 0 0 _) (by decide) rfl (Nat.le_of_ble_eq_true rfl) ?_
  intro v τ h
  obtain ⟨rfl, rfl⟩ := h
  refine ru_lret d_Mo_kindWord_180 rfl ?_
  exact ⟨rfl, rfl⟩
theorem sp_Mo_kindWord_8 (σ : rx_S) : rx_Calls y_Mo_kindWord M_Mo_kindWord 1 0 0 [.int (nI 8)] σ (fun v τ => v = some (.long (kwV 8)) ∧ τ = σ) := by
  refine rx_enter (by decide) rfl rfl (Nat.le_of_ble_eq_true rfl) ?_
  refine ru_iload_n d_Mo_kindWord_0 rfl rfl ?_
  refine ru_tableIn (tgt := 181) d_Mo_kindWord_1 (by decide) (by decide) rfl (by decide) ?_
  refine ru_bipush (v := 19) d_Mo_kindWord_181 (by decide) ?_
  refine ru_bipush (v := 9) d_Mo_kindWord_183 (by decide) ?_
  refine ru_bipush (v := 12) d_Mo_kindWord_185 (by decide) ?_
  refine ru_bipush (v := 11) d_Mo_kindWord_187 (by decide) ?_
  refine ru_iconst (v := 0) d_Mo_kindWord_189 (by decide) ?_
  refine ru_iconst (v := 0) d_Mo_kindWord_190 (by decide) ?_
  refine ru_iconst (v := 0) d_Mo_kindWord_191 (by decide) ?_
  refine ru_callS (mc := 0) (ms := 0) d_Mo_kindWord_192 lm_Mo_68 (sp_Mo_word 19 9 12 11 0 0 0 _) (by decide) rfl (Nat.le_of_ble_eq_true rfl) ?_
  intro v τ h
  obtain ⟨rfl, rfl⟩ := h
  refine ru_lret d_Mo_kindWord_195 rfl ?_
  exact ⟨rfl, rfl⟩
theorem sp_Mo_kindWord_9 (σ : rx_S) : rx_Calls y_Mo_kindWord M_Mo_kindWord 1 0 0 [.int (nI 9)] σ (fun v τ => v = some (.long (kwV 9)) ∧ τ = σ) := by
  refine rx_enter (by decide) rfl rfl (Nat.le_of_ble_eq_true rfl) ?_
  refine ru_iload_n d_Mo_kindWord_0 rfl rfl ?_
  refine ru_tableIn (tgt := 196) d_Mo_kindWord_1 (by decide) (by decide) rfl (by decide) ?_
  refine ru_bipush (v := 20) d_Mo_kindWord_196 (by decide) ?_
  refine ru_iconst (v := 5) d_Mo_kindWord_198 (by decide) ?_
  refine ru_bipush (v := 19) d_Mo_kindWord_199 (by decide) ?_
  refine ru_bipush (v := 20) d_Mo_kindWord_201 (by decide) ?_
  refine ru_iconst (v := 0) d_Mo_kindWord_203 (by decide) ?_
  refine ru_iconst (v := 0) d_Mo_kindWord_204 (by decide) ?_
  refine ru_iconst (v := 0) d_Mo_kindWord_205 (by decide) ?_
  refine ru_callS (mc := 0) (ms := 0) d_Mo_kindWord_206 lm_Mo_68 (sp_Mo_word 20 5 19 20 0 0 0 _) (by decide) rfl (Nat.le_of_ble_eq_true rfl) ?_
  intro v τ h
  obtain ⟨rfl, rfl⟩ := h
  refine ru_lret d_Mo_kindWord_209 rfl ?_
  exact ⟨rfl, rfl⟩
theorem sp_Mo_kindWord_10 (σ : rx_S) : rx_Calls y_Mo_kindWord M_Mo_kindWord 1 0 0 [.int (nI 10)] σ (fun v τ => v = some (.long (kwV 10)) ∧ τ = σ) := by
  refine rx_enter (by decide) rfl rfl (Nat.le_of_ble_eq_true rfl) ?_
  refine ru_iload_n d_Mo_kindWord_0 rfl rfl ?_
  refine ru_tableIn (tgt := 210) d_Mo_kindWord_1 (by decide) (by decide) rfl (by decide) ?_
  refine ru_bipush (v := 16) d_Mo_kindWord_210 (by decide) ?_
  refine ru_bipush (v := 12) d_Mo_kindWord_212 (by decide) ?_
  refine ru_iconst (v := 1) d_Mo_kindWord_214 (by decide) ?_
  refine ru_bipush (v := 14) d_Mo_kindWord_215 (by decide) ?_
  refine ru_iconst (v := 5) d_Mo_kindWord_217 (by decide) ?_
  refine ru_iconst (v := 0) d_Mo_kindWord_218 (by decide) ?_
  refine ru_iconst (v := 0) d_Mo_kindWord_219 (by decide) ?_
  refine ru_callS (mc := 0) (ms := 0) d_Mo_kindWord_220 lm_Mo_68 (sp_Mo_word 16 12 1 14 5 0 0 _) (by decide) rfl (Nat.le_of_ble_eq_true rfl) ?_
  intro v τ h
  obtain ⟨rfl, rfl⟩ := h
  refine ru_lret d_Mo_kindWord_223 rfl ?_
  exact ⟨rfl, rfl⟩
theorem sp_Mo_kindWord_11 (σ : rx_S) : rx_Calls y_Mo_kindWord M_Mo_kindWord 1 0 0 [.int (nI 11)] σ (fun v τ => v = some (.long (kwV 11)) ∧ τ = σ) := by
  refine rx_enter (by decide) rfl rfl (Nat.le_of_ble_eq_true rfl) ?_
  refine ru_iload_n d_Mo_kindWord_0 rfl rfl ?_
  refine ru_tableIn (tgt := 224) d_Mo_kindWord_1 (by decide) (by decide) rfl (by decide) ?_
  refine ru_bipush (v := 18) d_Mo_kindWord_224 (by decide) ?_
  refine ru_bipush (v := 9) d_Mo_kindWord_226 (by decide) ?_
  refine ru_bipush (v := 14) d_Mo_kindWord_228 (by decide) ?_
  refine ru_bipush (v := 7) d_Mo_kindWord_230 (by decide) ?_
  refine ru_iconst (v := 0) d_Mo_kindWord_232 (by decide) ?_
  refine ru_iconst (v := 0) d_Mo_kindWord_233 (by decide) ?_
  refine ru_iconst (v := 0) d_Mo_kindWord_234 (by decide) ?_
  refine ru_callS (mc := 0) (ms := 0) d_Mo_kindWord_235 lm_Mo_68 (sp_Mo_word 18 9 14 7 0 0 0 _) (by decide) rfl (Nat.le_of_ble_eq_true rfl) ?_
  intro v τ h
  obtain ⟨rfl, rfl⟩ := h
  refine ru_lret d_Mo_kindWord_238 rfl ?_
  exact ⟨rfl, rfl⟩
theorem sp_Mo_kindWord_12 (σ : rx_S) : rx_Calls y_Mo_kindWord M_Mo_kindWord 1 0 0 [.int (nI 12)] σ (fun v τ => v = some (.long (kwV 12)) ∧ τ = σ) := by
  refine rx_enter (by decide) rfl rfl (Nat.le_of_ble_eq_true rfl) ?_
  refine ru_iload_n d_Mo_kindWord_0 rfl rfl ?_
  refine ru_tableOut (tgt := 239) d_Mo_kindWord_1 (by decide) (by decide) ?_
  refine ru_bipush (v := 23) d_Mo_kindWord_239 (by decide) ?_
  refine ru_iconst (v := 1) d_Mo_kindWord_241 (by decide) ?_
  refine ru_bipush (v := 9) d_Mo_kindWord_242 (by decide) ?_
  refine ru_bipush (v := 22) d_Mo_kindWord_244 (by decide) ?_
  refine ru_iconst (v := 5) d_Mo_kindWord_246 (by decide) ?_
  refine ru_iconst (v := 0) d_Mo_kindWord_247 (by decide) ?_
  refine ru_iconst (v := 0) d_Mo_kindWord_248 (by decide) ?_
  refine ru_callS (mc := 0) (ms := 0) d_Mo_kindWord_249 lm_Mo_68 (sp_Mo_word 23 1 9 22 5 0 0 _) (by decide) rfl (Nat.le_of_ble_eq_true rfl) ?_
  intro v τ h
  obtain ⟨rfl, rfl⟩ := h
  refine ru_lret d_Mo_kindWord_252 rfl ?_
  exact ⟨rfl, rfl⟩
theorem sp_Mo_kindWord {k : Nat} (hk : k < 13) (σ : rx_S) : rx_Calls y_Mo_kindWord M_Mo_kindWord 1 0 0 [.int (nI k)] σ (fun v τ => v = some (.long (kwV k)) ∧ τ = σ) := by
  obtain rfl | rfl | rfl | rfl | rfl | rfl | rfl | rfl | rfl | rfl | rfl | rfl | rfl : k = 0 ∨ k = 1 ∨ k = 2 ∨ k = 3 ∨ k = 4 ∨ k = 5 ∨ k = 6 ∨ k = 7 ∨ k = 8 ∨ k = 9 ∨ k = 10 ∨ k = 11 ∨ k = 12 := by omega
  · exact sp_Mo_kindWord_0 σ
  · exact sp_Mo_kindWord_1 σ
  · exact sp_Mo_kindWord_2 σ
  · exact sp_Mo_kindWord_3 σ
  · exact sp_Mo_kindWord_4 σ
  · exact sp_Mo_kindWord_5 σ
  · exact sp_Mo_kindWord_6 σ
  · exact sp_Mo_kindWord_7 σ
  · exact sp_Mo_kindWord_8 σ
  · exact sp_Mo_kindWord_9 σ
  · exact sp_Mo_kindWord_10 σ
  · exact sp_Mo_kindWord_11 σ
  · exact sp_Mo_kindWord_12 σ
theorem sp_Mo_lineOf {p : Nat} (hL : LAY nx ct mr) (ht : mi 399 = t) (hp : p ≤ 3000) : rx_Calls y_Mo_lineOf M_Mo_lineOf 0 0 0 [.ref 398, .int (nI p)] (nx, ct, mi, ml, mr) (fun v τ => v = some (.int (nI (lnF t p))) ∧ τ = (nx, ct, mi, ml, mr)) := by
  refine rx_enter (by decide) rfl rfl (Nat.le_of_ble_eq_true rfl) ?_
  have loop : ∀ f i, i ≤ p → f = p - i → rx_W M_Mo_lineOf 0 0 0 4 [(0, .ref 398), (1, .int (nI p)), (2, .int (nI (lnF t i))), (3, .int (nI i))] [] (nx, ct, mi, ml, mr) (pR (fun v τ => v = some (.int (nI (lnF t p))) ∧ τ = (nx, ct, mi, ml, mr))) := by
    intro f
    induction f with
    | zero =>
      intro i hi hf
      have e : i = p := by omega
      subst e
      refine ru_iload_n d_Mo_lineOf_4 rfl rfl ?_
      refine ru_iload_n d_Mo_lineOf_5 rfl rfl ?_
      refine ru_icmp_ge (tgt := 34) d_Mo_lineOf_6 (by decide) (fun h6 => ?_) (fun h6 => absurd (nI_le (by omega) (by omega)) h6)
      replace h6 := nm_le (a := i) (b := i) (by omega) (by omega) h6
      refine ru_iload_n d_Mo_lineOf_34 rfl rfl ?_
      refine ru_iret d_Mo_lineOf_35 rfl ?_
      exact ⟨rfl, rfl⟩
    | succ f ih =>
      intro i hi hf
      have e : lnF t (i + 1) = lnF t i + (if (t i).toInt = 10 then 1 else 0) := rfl
      have ih' := ih (i + 1) (by omega) (by omega)
      rw [e] at ih'
      generalize lnF t i = c at ih'
      refine ru_iload_n d_Mo_lineOf_4 rfl rfl ?_
      refine ru_iload_n d_Mo_lineOf_5 rfl rfl ?_
      refine ru_icmp_ge (tgt := 34) d_Mo_lineOf_6 (by decide) (fun h6 => absurd h6 (nI_ge (by omega) (by omega))) (fun h6 => ?_)
      replace h6 := nm_nle (a := p) (b := i) (by omega) (by omega) h6
      refine ru_iload_n d_Mo_lineOf_9 rfl rfl ?_
      refine ru_aload_n d_Mo_lineOf_10 rfl rfl ?_
      refine ru_getR d_Mo_lineOf_11 lf_Mo_7 (ly hL 398 9 0) rfl (lr hL 398 1 399) ?_
      refine ru_iload_n d_Mo_lineOf_14 rfl rfl ?_
      refine ru_ialdN (j := i) d_Mo_lineOf_15 (ly hL 399 100 3000) (by omega) (by decide) ?_
      rw [ht]
      refine ru_bipush (v := 10) d_Mo_lineOf_16 (by decide) ?_
      refine ru_icmp_ne (tgt := 25) d_Mo_lineOf_18 (by decide) (fun h18 => ?_) (fun h18 => ?_)
      · skip
        refine ru_iconst (v := 0) d_Mo_lineOf_25 (by decide) ?_
        refine ru_iadd d_Mo_lineOf_26 ?_
        refine ru_eqi (nm_add c 0 : _ = nI (c + 0)) ?_
        refine ru_istore_n d_Mo_lineOf_27 rfl (by decide) ?_
        refine ru_iinc (v := nI (i + 1)) d_Mo_lineOf_28 rfl (nm_inc _ 1) (by decide) ?_
        refine ru_goto (tgt := 4) d_Mo_lineOf_31 (by decide) ?_
        first | (rw [if_pos (by rw [h18, i_10])] at ih'; exact ru_to ih' ⟨rfl, rfl, rfl, rfl, trivial⟩) | (rw [if_neg (fun z => h18 (by rw [iq, i_10]; exact z))] at ih'; exact ru_to ih' ⟨rfl, rfl, rfl, rfl, trivial⟩)
      · skip
        refine ru_iconst (v := 1) d_Mo_lineOf_21 (by decide) ?_
        refine ru_goto (tgt := 26) d_Mo_lineOf_22 (by decide) ?_
        refine ru_iadd d_Mo_lineOf_26 ?_
        refine ru_eqi (nm_add c 1 : _ = nI (c + 1)) ?_
        refine ru_istore_n d_Mo_lineOf_27 rfl (by decide) ?_
        refine ru_iinc (v := nI (i + 1)) d_Mo_lineOf_28 rfl (nm_inc _ 1) (by decide) ?_
        refine ru_goto (tgt := 4) d_Mo_lineOf_31 (by decide) ?_
        first | (rw [if_pos (by rw [h18, i_10])] at ih'; exact ru_to ih' ⟨rfl, rfl, rfl, rfl, trivial⟩) | (rw [if_neg (fun z => h18 (by rw [iq, i_10]; exact z))] at ih'; exact ru_to ih' ⟨rfl, rfl, rfl, rfl, trivial⟩)
  refine ru_iconst (v := 0) d_Mo_lineOf_0 (by decide) ?_
  refine ru_istore_n d_Mo_lineOf_1 rfl (by decide) ?_
  refine ru_iconst (v := 0) d_Mo_lineOf_2 (by decide) ?_
  refine ru_istore_n d_Mo_lineOf_3 rfl (by decide) ?_
  exact ru_to (loop p 0 (by omega) rfl) ⟨rfl, rfl, rfl, rfl, trivial⟩
def kO : Option Nat → Int32
  | none => -1
  | some s => nI (s / 16)
def tO : Option Nat → Int32
  | none => -1
  | some s => nI (s % 16)
theorem fnd_lt {N : nmS} {j a x : Nat} (h : fnd N n t j a = some x) : x < 16 := by
  have := nthF_some 16 0 x h
  omega
def thP (r : Nat ⊕ (Option Nat × Nat)) (J B : Nat) (nx : Nat) (ct : Nat → Nat × Nat) (m0 : Nat → Nat → Int32) (ml : Nat → Nat → Int64) (mr : Nat → Nat → Option Nat) : Option Value → rx_S → Prop := fun v τ => v = none ∧ match r with
  | .inr (o, j') => ∃ ml', τ = (nx, ct, mS m0 (nI j') (-1), ml', mr) ∧ fL (fun i => i = B ∨ i = B + 1) ml ml' ∧ ml' 404 B = (kO o).toInt64 ∧ ml' 404 (B + 1) = (tO o).toInt64
  | .inl k => ∃ ml' w, τ = (nx, ct, mS m0 (nI w) (nI k), ml', mr) ∧ w ≤ J ∧ fL (fun i => i = B ∨ i = B + 1) ml ml'
theorem th_end {A wh : Nat} {w g x y : Int32} (hL : LAY nx ct mr) (hA : m0 398 14 = nI A) (hA2 : A + 12 ≤ 1440) (hw : wh ≤ 3) : rx_W M_Mo_thing 4 0 0 72 [(0, .ref 398), (1, .int (nI wh)), (2, .int x), (3, .int y)] [] (nx, ct, mS m0 w g, ml, mr) (pR (fun v τ => v = none ∧ τ = (nx, ct, mS m0 w g, rx_u (rx_u ml 404 (A + wh) x.toInt64) 404 (A + wh + 1) y.toInt64, mr))) := by
  have hA' : mS m0 w g 398 14 = nI A := by rw [mS_k]; exact hA
  refine ru_aload_n d_Mo_thing_72 rfl rfl ?_
  refine ru_getR d_Mo_thing_73 lf_Mo_27 (ly hL 398 9 0) rfl (lr hL 398 8 404) ?_
  refine ru_aload_n d_Mo_thing_76 rfl rfl ?_
  refine ru_getI d_Mo_thing_77 lf_Mo_101 (ly hL 398 9 0) rfl ?_
  refine ru_eqi hA' ?_
  refine ru_iload_n d_Mo_thing_80 rfl rfl ?_
  refine ru_iadd d_Mo_thing_81 ?_
  refine ru_eqi (nm_add A wh : _ = nI (A + wh)) ?_
  refine ru_iload_n d_Mo_thing_82 rfl rfl ?_
  refine ru_i2l d_Mo_thing_83 ?_
  refine ru_lastN (j := (A + wh)) d_Mo_thing_84 (ly hL 404 104 1440) (by omega) (by decide) ?_
  refine ru_aload_n d_Mo_thing_85 rfl rfl ?_
  refine ru_getR d_Mo_thing_86 lf_Mo_27 (ly hL 398 9 0) rfl (lr hL 398 8 404) ?_
  refine ru_aload_n d_Mo_thing_89 rfl rfl ?_
  refine ru_getI d_Mo_thing_90 lf_Mo_101 (ly hL 398 9 0) rfl ?_
  refine ru_eqi hA' ?_
  refine ru_iload_n d_Mo_thing_93 rfl rfl ?_
  refine ru_iadd d_Mo_thing_94 ?_
  refine ru_eqi (nm_add A wh : _ = nI (A + wh)) ?_
  refine ru_iconst (v := 1) d_Mo_thing_95 (by decide) ?_
  refine ru_iadd d_Mo_thing_96 ?_
  refine ru_eqi (nm_add (A + wh) 1 : _ = nI ((A + wh) + 1)) ?_
  refine ru_iload_n d_Mo_thing_97 rfl rfl ?_
  refine ru_i2l d_Mo_thing_98 ?_
  refine ru_lastN (j := ((A + wh) + 1)) d_Mo_thing_99 (ly hL 404 104 1440) (by omega) (by decide) ?_
  refine ru_vret d_Mo_thing_100 rfl ?_
  exact ⟨rfl, rfl⟩
theorem sq_thing {N : nmS} {A wh j : Nat} (hL : LAY nx ct mr) (h : PMs n m t m0) (hN : NmM N m0) (hA : m0 398 14 = nI A) (hA2 : A + 12 ≤ 1440) (hw : wh ≤ 3) (hj : j < 3700) : rx_Calls y_Mo_thing M_Mo_thing 4 0 0 [.ref 398, .int (nI wh)] (nx, ct, mS m0 (nI j) (-1), ml, mr) (thP (pThing N n t j) (j + 2) (A + wh) nx ct m0 ml mr) := by
  refine rx_enter (by decide) rfl rfl (Nat.le_of_ble_eq_true rfl) ?_
  have end_ : ∀ (w g x y : Int32) (post : Option Value → rx_S → Prop), post none (nx, ct, mS m0 w g, rx_u (rx_u ml 404 (A + wh) x.toInt64) 404 (A + wh + 1) y.toInt64, mr) → rx_W M_Mo_thing 4 0 0 72 [(0, .ref 398), (1, .int (nI wh)), (2, .int x), (3, .int y)] [] (nx, ct, mS m0 w g, ml, mr) (pR post) := fun w g x y post hp => ru_post (fun v τ q => by obtain ⟨rfl, rfl⟩ := q; exact hp) (th_end hL hA hA2 hw)
  have hfr : ∀ x y : Int64, fL (fun i => i = A + wh ∨ i = A + wh + 1) ml (rx_u (rx_u ml 404 (A + wh) x) 404 (A + wh + 1) y) := fun x y => ((fL.refl _ ml).set x (Or.inl rfl)).set y (Or.inr rfl)
  have hlo : ∀ x y : Int64, rx_u (rx_u ml 404 (A + wh) x) 404 (A + wh + 1) y 404 (A + wh) = x := fun x y => by rw [rx_u_k _ _ (by omega), rx_u_same]
  have hhi : ∀ x y : Int64, rx_u (rx_u ml 404 (A + wh) x) 404 (A + wh + 1) y 404 (A + wh + 1) = y := fun x y => rx_u_same _ _ _ _
  have hT3 := sq_took (ml := ml) (j := j) hL h wv_3 (by omega)
  have hT4 := sq_took (ml := ml) (j := j) hL h wv_4 (by omega)
  have hX := sq_expect (ml := ml) (j := j) hL h wv_2 (by omega)
  unfold thP pThing
  by_cases h3 : isW n t j 3
  · have h2 : ¬ isW n t j 2 := fun z => absurd (isW_one z h3) (by decide)
    rw [cnd_f h2, cnd_t h3]
    rw [bI_t h3, cnd_t h3] at hT3
    have hN0 := sq_named (ml := ml) (a := 0) (j := j + 1) hL h hN (by decide) (by omega)
    cases e : fnd N n t (j + 1) 0 with
    | none =>
      rw [e] at hN0
      refine ru_iconst (v := (-1)) d_Mo_thing_0 (by decide) ?_
      refine ru_istore_n d_Mo_thing_1 rfl (by decide) ?_
      refine ru_iconst (v := (-1)) d_Mo_thing_2 (by decide) ?_
      refine ru_istore_n d_Mo_thing_3 rfl (by decide) ?_
      refine ru_aload_n d_Mo_thing_4 rfl rfl ?_
      refine ru_iconst (v := 3) d_Mo_thing_5 (by decide) ?_
      refine ru_bipush (v := 12) d_Mo_thing_6 (by decide) ?_
      refine ru_iconst (v := 1) d_Mo_thing_8 (by decide) ?_
      refine ru_bipush (v := 19) d_Mo_thing_9 (by decide) ?_
      refine ru_bipush (v := 19) d_Mo_thing_11 (by decide) ?_
      refine ru_iconst (v := 0) d_Mo_thing_13 (by decide) ?_
      refine ru_iconst (v := 0) d_Mo_thing_14 (by decide) ?_
      refine ru_callS (mc := 0) (ms := 0) d_Mo_thing_15 lm_Mo_68 (sp_Mo_word 3 12 1 19 19 0 0 _) (by decide) rfl (Nat.le_of_ble_eq_true rfl) ?_
      intro v τ h
      obtain ⟨rfl, rfl⟩ := h
      refine ru_callV (mc := 0) (ms := 0) d_Mo_thing_18 lm_Mo_83 hT3 (rx_recv_is (ly hL 398 9 0) kx_Mo) (by decide) rfl (Nat.le_of_ble_eq_true rfl) ?_
      rintro v τ ⟨rfl, rfl⟩
      refine ru_if_eq (tgt := 35) d_Mo_thing_21 (by decide) (fun h21 => absurd h21 (by decide)) (fun h21 => ?_)
      refine ru_iconst (v := 0) d_Mo_thing_24 (by decide) ?_
      refine ru_istore_n d_Mo_thing_25 rfl (by decide) ?_
      refine ru_aload_n d_Mo_thing_26 rfl rfl ?_
      refine ru_iconst (v := 0) d_Mo_thing_27 (by decide) ?_
      refine ru_callV (mc := 0) (ms := 0) d_Mo_thing_28 lm_Mo_91 hN0 (rx_recv_is (ly hL 398 9 0) kx_Mo) (by decide) rfl (Nat.le_of_ble_eq_true rfl) ?_
      rintro v τ ⟨rfl, rfl⟩
      refine ru_istore_n d_Mo_thing_31 rfl (by decide) ?_
      refine ru_goto (tgt := 72) d_Mo_thing_32 (by decide) ?_
      refine ru_to (end_ _ _ _ _ _ ?_) ⟨rfl, rfl, rfl, rfl, trivial⟩
      exact ⟨rfl, _, j + 1, rfl, by omega, hfr _ _⟩
    | some x =>
      rw [e] at hN0
      have hx := fnd_lt e
      have ek : kO (some x) = 0 := by show nI (x / 16) = 0; rw [show x / 16 = 0 by omega]; rfl
      have et : tO (some x) = nI x := by show nI (x % 16) = nI x; rw [show x % 16 = x by omega]
      dsimp only
      rw [ek, et]
      refine ru_iconst (v := (-1)) d_Mo_thing_0 (by decide) ?_
      refine ru_istore_n d_Mo_thing_1 rfl (by decide) ?_
      refine ru_iconst (v := (-1)) d_Mo_thing_2 (by decide) ?_
      refine ru_istore_n d_Mo_thing_3 rfl (by decide) ?_
      refine ru_aload_n d_Mo_thing_4 rfl rfl ?_
      refine ru_iconst (v := 3) d_Mo_thing_5 (by decide) ?_
      refine ru_bipush (v := 12) d_Mo_thing_6 (by decide) ?_
      refine ru_iconst (v := 1) d_Mo_thing_8 (by decide) ?_
      refine ru_bipush (v := 19) d_Mo_thing_9 (by decide) ?_
      refine ru_bipush (v := 19) d_Mo_thing_11 (by decide) ?_
      refine ru_iconst (v := 0) d_Mo_thing_13 (by decide) ?_
      refine ru_iconst (v := 0) d_Mo_thing_14 (by decide) ?_
      refine ru_callS (mc := 0) (ms := 0) d_Mo_thing_15 lm_Mo_68 (sp_Mo_word 3 12 1 19 19 0 0 _) (by decide) rfl (Nat.le_of_ble_eq_true rfl) ?_
      intro v τ h
      obtain ⟨rfl, rfl⟩ := h
      refine ru_callV (mc := 0) (ms := 0) d_Mo_thing_18 lm_Mo_83 hT3 (rx_recv_is (ly hL 398 9 0) kx_Mo) (by decide) rfl (Nat.le_of_ble_eq_true rfl) ?_
      rintro v τ ⟨rfl, rfl⟩
      refine ru_if_eq (tgt := 35) d_Mo_thing_21 (by decide) (fun h21 => absurd h21 (by decide)) (fun h21 => ?_)
      refine ru_iconst (v := 0) d_Mo_thing_24 (by decide) ?_
      refine ru_istore_n d_Mo_thing_25 rfl (by decide) ?_
      refine ru_aload_n d_Mo_thing_26 rfl rfl ?_
      refine ru_iconst (v := 0) d_Mo_thing_27 (by decide) ?_
      refine ru_callV (mc := 0) (ms := 0) d_Mo_thing_28 lm_Mo_91 hN0 (rx_recv_is (ly hL 398 9 0) kx_Mo) (by decide) rfl (Nat.le_of_ble_eq_true rfl) ?_
      rintro v τ ⟨rfl, rfl⟩
      refine ru_istore_n d_Mo_thing_31 rfl (by decide) ?_
      refine ru_goto (tgt := 72) d_Mo_thing_32 (by decide) ?_
      refine ru_to (end_ _ _ _ _ _ ?_) ⟨rfl, rfl, rfl, rfl, trivial⟩
      exact ⟨rfl, _, rfl, hfr _ _, hlo _ _, hhi _ _⟩
  · rw [bI_f h3, cnd_f h3] at hT3
    by_cases h4 : isW n t j 4
    · have h2 : ¬ isW n t j 2 := fun z => absurd (isW_one z h4) (by decide)
      rw [cnd_f h2, cnd_f h3, cnd_t h4]
      rw [bI_t h4, cnd_t h4] at hT4
      have hN0 := sq_named (ml := ml) (a := 1) (j := j + 1) hL h hN (by decide) (by omega)
      cases e : fnd N n t (j + 1) 1 with
      | none =>
        rw [e] at hN0
        refine ru_iconst (v := (-1)) d_Mo_thing_0 (by decide) ?_
        refine ru_istore_n d_Mo_thing_1 rfl (by decide) ?_
        refine ru_iconst (v := (-1)) d_Mo_thing_2 (by decide) ?_
        refine ru_istore_n d_Mo_thing_3 rfl (by decide) ?_
        refine ru_aload_n d_Mo_thing_4 rfl rfl ?_
        refine ru_iconst (v := 3) d_Mo_thing_5 (by decide) ?_
        refine ru_bipush (v := 12) d_Mo_thing_6 (by decide) ?_
        refine ru_iconst (v := 1) d_Mo_thing_8 (by decide) ?_
        refine ru_bipush (v := 19) d_Mo_thing_9 (by decide) ?_
        refine ru_bipush (v := 19) d_Mo_thing_11 (by decide) ?_
        refine ru_iconst (v := 0) d_Mo_thing_13 (by decide) ?_
        refine ru_iconst (v := 0) d_Mo_thing_14 (by decide) ?_
        refine ru_callS (mc := 0) (ms := 0) d_Mo_thing_15 lm_Mo_68 (sp_Mo_word 3 12 1 19 19 0 0 _) (by decide) rfl (Nat.le_of_ble_eq_true rfl) ?_
        intro v τ h
        obtain ⟨rfl, rfl⟩ := h
        refine ru_callV (mc := 0) (ms := 0) d_Mo_thing_18 lm_Mo_83 hT3 (rx_recv_is (ly hL 398 9 0) kx_Mo) (by decide) rfl (Nat.le_of_ble_eq_true rfl) ?_
        rintro v τ ⟨rfl, rfl⟩
        refine ru_if_eq (tgt := 35) d_Mo_thing_21 (by decide) (fun h21 => ?_) (fun h21 => absurd h21 (by decide))
        refine ru_aload_n d_Mo_thing_35 rfl rfl ?_
        refine ru_bipush (v := 14) d_Mo_thing_36 (by decide) ?_
        refine ru_iconst (v := 5) d_Mo_thing_38 (by decide) ?_
        refine ru_bipush (v := 20) d_Mo_thing_39 (by decide) ?_
        refine ru_iconst (v := 0) d_Mo_thing_41 (by decide) ?_
        refine ru_iconst (v := 0) d_Mo_thing_42 (by decide) ?_
        refine ru_iconst (v := 0) d_Mo_thing_43 (by decide) ?_
        refine ru_iconst (v := 0) d_Mo_thing_44 (by decide) ?_
        refine ru_callS (mc := 0) (ms := 0) d_Mo_thing_45 lm_Mo_68 (sp_Mo_word 14 5 20 0 0 0 0 _) (by decide) rfl (Nat.le_of_ble_eq_true rfl) ?_
        intro v τ h
        obtain ⟨rfl, rfl⟩ := h
        refine ru_callV (mc := 0) (ms := 0) d_Mo_thing_48 lm_Mo_83 hT4 (rx_recv_is (ly hL 398 9 0) kx_Mo) (by decide) rfl (Nat.le_of_ble_eq_true rfl) ?_
        rintro v τ ⟨rfl, rfl⟩
        refine ru_if_eq (tgt := 65) d_Mo_thing_51 (by decide) (fun h51 => absurd h51 (by decide)) (fun h51 => ?_)
        refine ru_iconst (v := 1) d_Mo_thing_54 (by decide) ?_
        refine ru_istore_n d_Mo_thing_55 rfl (by decide) ?_
        refine ru_aload_n d_Mo_thing_56 rfl rfl ?_
        refine ru_iconst (v := 1) d_Mo_thing_57 (by decide) ?_
        refine ru_callV (mc := 0) (ms := 0) d_Mo_thing_58 lm_Mo_91 hN0 (rx_recv_is (ly hL 398 9 0) kx_Mo) (by decide) rfl (Nat.le_of_ble_eq_true rfl) ?_
        rintro v τ ⟨rfl, rfl⟩
        refine ru_istore_n d_Mo_thing_61 rfl (by decide) ?_
        refine ru_goto (tgt := 72) d_Mo_thing_62 (by decide) ?_
        refine ru_to (end_ _ _ _ _ _ ?_) ⟨rfl, rfl, rfl, rfl, trivial⟩
        exact ⟨rfl, _, j + 1, rfl, by omega, hfr _ _⟩
      | some x =>
        rw [e] at hN0
        have hx := fnd_lt e
        have ek : kO (some (16 + x)) = 1 := by show nI ((16 + x) / 16) = 1; rw [show (16 + x) / 16 = 1 by omega]; rfl
        have et : tO (some (16 + x)) = nI x := by show nI ((16 + x) % 16) = nI x; rw [show (16 + x) % 16 = x by omega]
        dsimp only
        rw [ek, et]
        refine ru_iconst (v := (-1)) d_Mo_thing_0 (by decide) ?_
        refine ru_istore_n d_Mo_thing_1 rfl (by decide) ?_
        refine ru_iconst (v := (-1)) d_Mo_thing_2 (by decide) ?_
        refine ru_istore_n d_Mo_thing_3 rfl (by decide) ?_
        refine ru_aload_n d_Mo_thing_4 rfl rfl ?_
        refine ru_iconst (v := 3) d_Mo_thing_5 (by decide) ?_
        refine ru_bipush (v := 12) d_Mo_thing_6 (by decide) ?_
        refine ru_iconst (v := 1) d_Mo_thing_8 (by decide) ?_
        refine ru_bipush (v := 19) d_Mo_thing_9 (by decide) ?_
        refine ru_bipush (v := 19) d_Mo_thing_11 (by decide) ?_
        refine ru_iconst (v := 0) d_Mo_thing_13 (by decide) ?_
        refine ru_iconst (v := 0) d_Mo_thing_14 (by decide) ?_
        refine ru_callS (mc := 0) (ms := 0) d_Mo_thing_15 lm_Mo_68 (sp_Mo_word 3 12 1 19 19 0 0 _) (by decide) rfl (Nat.le_of_ble_eq_true rfl) ?_
        intro v τ h
        obtain ⟨rfl, rfl⟩ := h
        refine ru_callV (mc := 0) (ms := 0) d_Mo_thing_18 lm_Mo_83 hT3 (rx_recv_is (ly hL 398 9 0) kx_Mo) (by decide) rfl (Nat.le_of_ble_eq_true rfl) ?_
        rintro v τ ⟨rfl, rfl⟩
        refine ru_if_eq (tgt := 35) d_Mo_thing_21 (by decide) (fun h21 => ?_) (fun h21 => absurd h21 (by decide))
        refine ru_aload_n d_Mo_thing_35 rfl rfl ?_
        refine ru_bipush (v := 14) d_Mo_thing_36 (by decide) ?_
        refine ru_iconst (v := 5) d_Mo_thing_38 (by decide) ?_
        refine ru_bipush (v := 20) d_Mo_thing_39 (by decide) ?_
        refine ru_iconst (v := 0) d_Mo_thing_41 (by decide) ?_
        refine ru_iconst (v := 0) d_Mo_thing_42 (by decide) ?_
        refine ru_iconst (v := 0) d_Mo_thing_43 (by decide) ?_
        refine ru_iconst (v := 0) d_Mo_thing_44 (by decide) ?_
        refine ru_callS (mc := 0) (ms := 0) d_Mo_thing_45 lm_Mo_68 (sp_Mo_word 14 5 20 0 0 0 0 _) (by decide) rfl (Nat.le_of_ble_eq_true rfl) ?_
        intro v τ h
        obtain ⟨rfl, rfl⟩ := h
        refine ru_callV (mc := 0) (ms := 0) d_Mo_thing_48 lm_Mo_83 hT4 (rx_recv_is (ly hL 398 9 0) kx_Mo) (by decide) rfl (Nat.le_of_ble_eq_true rfl) ?_
        rintro v τ ⟨rfl, rfl⟩
        refine ru_if_eq (tgt := 65) d_Mo_thing_51 (by decide) (fun h51 => absurd h51 (by decide)) (fun h51 => ?_)
        refine ru_iconst (v := 1) d_Mo_thing_54 (by decide) ?_
        refine ru_istore_n d_Mo_thing_55 rfl (by decide) ?_
        refine ru_aload_n d_Mo_thing_56 rfl rfl ?_
        refine ru_iconst (v := 1) d_Mo_thing_57 (by decide) ?_
        refine ru_callV (mc := 0) (ms := 0) d_Mo_thing_58 lm_Mo_91 hN0 (rx_recv_is (ly hL 398 9 0) kx_Mo) (by decide) rfl (Nat.le_of_ble_eq_true rfl) ?_
        rintro v τ ⟨rfl, rfl⟩
        refine ru_istore_n d_Mo_thing_61 rfl (by decide) ?_
        refine ru_goto (tgt := 72) d_Mo_thing_62 (by decide) ?_
        refine ru_to (end_ _ _ _ _ _ ?_) ⟨rfl, rfl, rfl, rfl, trivial⟩
        exact ⟨rfl, _, rfl, hfr _ _, hlo _ _, hhi _ _⟩
    · rw [bI_f h4, cnd_f h4] at hT4
      rw [cnd_f h3, cnd_f h4]
      by_cases h2 : isW n t j 2
      · rw [cnd_t h2]
        rw [cnd_t h2] at hX
        refine ru_iconst (v := (-1)) d_Mo_thing_0 (by decide) ?_
        refine ru_istore_n d_Mo_thing_1 rfl (by decide) ?_
        refine ru_iconst (v := (-1)) d_Mo_thing_2 (by decide) ?_
        refine ru_istore_n d_Mo_thing_3 rfl (by decide) ?_
        refine ru_aload_n d_Mo_thing_4 rfl rfl ?_
        refine ru_iconst (v := 3) d_Mo_thing_5 (by decide) ?_
        refine ru_bipush (v := 12) d_Mo_thing_6 (by decide) ?_
        refine ru_iconst (v := 1) d_Mo_thing_8 (by decide) ?_
        refine ru_bipush (v := 19) d_Mo_thing_9 (by decide) ?_
        refine ru_bipush (v := 19) d_Mo_thing_11 (by decide) ?_
        refine ru_iconst (v := 0) d_Mo_thing_13 (by decide) ?_
        refine ru_iconst (v := 0) d_Mo_thing_14 (by decide) ?_
        refine ru_callS (mc := 0) (ms := 0) d_Mo_thing_15 lm_Mo_68 (sp_Mo_word 3 12 1 19 19 0 0 _) (by decide) rfl (Nat.le_of_ble_eq_true rfl) ?_
        intro v τ h
        obtain ⟨rfl, rfl⟩ := h
        refine ru_callV (mc := 0) (ms := 0) d_Mo_thing_18 lm_Mo_83 hT3 (rx_recv_is (ly hL 398 9 0) kx_Mo) (by decide) rfl (Nat.le_of_ble_eq_true rfl) ?_
        rintro v τ ⟨rfl, rfl⟩
        refine ru_if_eq (tgt := 35) d_Mo_thing_21 (by decide) (fun h21 => ?_) (fun h21 => absurd h21 (by decide))
        refine ru_aload_n d_Mo_thing_35 rfl rfl ?_
        refine ru_bipush (v := 14) d_Mo_thing_36 (by decide) ?_
        refine ru_iconst (v := 5) d_Mo_thing_38 (by decide) ?_
        refine ru_bipush (v := 20) d_Mo_thing_39 (by decide) ?_
        refine ru_iconst (v := 0) d_Mo_thing_41 (by decide) ?_
        refine ru_iconst (v := 0) d_Mo_thing_42 (by decide) ?_
        refine ru_iconst (v := 0) d_Mo_thing_43 (by decide) ?_
        refine ru_iconst (v := 0) d_Mo_thing_44 (by decide) ?_
        refine ru_callS (mc := 0) (ms := 0) d_Mo_thing_45 lm_Mo_68 (sp_Mo_word 14 5 20 0 0 0 0 _) (by decide) rfl (Nat.le_of_ble_eq_true rfl) ?_
        intro v τ h
        obtain ⟨rfl, rfl⟩ := h
        refine ru_callV (mc := 0) (ms := 0) d_Mo_thing_48 lm_Mo_83 hT4 (rx_recv_is (ly hL 398 9 0) kx_Mo) (by decide) rfl (Nat.le_of_ble_eq_true rfl) ?_
        rintro v τ ⟨rfl, rfl⟩
        refine ru_if_eq (tgt := 65) d_Mo_thing_51 (by decide) (fun h51 => ?_) (fun h51 => absurd h51 (by decide))
        refine ru_aload_n d_Mo_thing_65 rfl rfl ?_
        refine ru_ldc2 d_Mo_thing_66 lc_Mo_95 ?_
        refine ru_callV (mc := 0) (ms := 0) d_Mo_thing_69 lm_Mo_97 hX (rx_recv_is (ly hL 398 9 0) kx_Mo) (by decide) rfl (Nat.le_of_ble_eq_true rfl) ?_
        rintro v τ ⟨rfl, rfl⟩
        refine ru_to (end_ _ _ _ _ _ ?_) ⟨rfl, rfl, rfl, rfl, trivial⟩
        exact ⟨rfl, _, rfl, hfr _ _, hlo _ _, hhi _ _⟩
      · rw [cnd_f h2]
        rw [cnd_f h2] at hX
        refine ru_iconst (v := (-1)) d_Mo_thing_0 (by decide) ?_
        refine ru_istore_n d_Mo_thing_1 rfl (by decide) ?_
        refine ru_iconst (v := (-1)) d_Mo_thing_2 (by decide) ?_
        refine ru_istore_n d_Mo_thing_3 rfl (by decide) ?_
        refine ru_aload_n d_Mo_thing_4 rfl rfl ?_
        refine ru_iconst (v := 3) d_Mo_thing_5 (by decide) ?_
        refine ru_bipush (v := 12) d_Mo_thing_6 (by decide) ?_
        refine ru_iconst (v := 1) d_Mo_thing_8 (by decide) ?_
        refine ru_bipush (v := 19) d_Mo_thing_9 (by decide) ?_
        refine ru_bipush (v := 19) d_Mo_thing_11 (by decide) ?_
        refine ru_iconst (v := 0) d_Mo_thing_13 (by decide) ?_
        refine ru_iconst (v := 0) d_Mo_thing_14 (by decide) ?_
        refine ru_callS (mc := 0) (ms := 0) d_Mo_thing_15 lm_Mo_68 (sp_Mo_word 3 12 1 19 19 0 0 _) (by decide) rfl (Nat.le_of_ble_eq_true rfl) ?_
        intro v τ h
        obtain ⟨rfl, rfl⟩ := h
        refine ru_callV (mc := 0) (ms := 0) d_Mo_thing_18 lm_Mo_83 hT3 (rx_recv_is (ly hL 398 9 0) kx_Mo) (by decide) rfl (Nat.le_of_ble_eq_true rfl) ?_
        rintro v τ ⟨rfl, rfl⟩
        refine ru_if_eq (tgt := 35) d_Mo_thing_21 (by decide) (fun h21 => ?_) (fun h21 => absurd h21 (by decide))
        refine ru_aload_n d_Mo_thing_35 rfl rfl ?_
        refine ru_bipush (v := 14) d_Mo_thing_36 (by decide) ?_
        refine ru_iconst (v := 5) d_Mo_thing_38 (by decide) ?_
        refine ru_bipush (v := 20) d_Mo_thing_39 (by decide) ?_
        refine ru_iconst (v := 0) d_Mo_thing_41 (by decide) ?_
        refine ru_iconst (v := 0) d_Mo_thing_42 (by decide) ?_
        refine ru_iconst (v := 0) d_Mo_thing_43 (by decide) ?_
        refine ru_iconst (v := 0) d_Mo_thing_44 (by decide) ?_
        refine ru_callS (mc := 0) (ms := 0) d_Mo_thing_45 lm_Mo_68 (sp_Mo_word 14 5 20 0 0 0 0 _) (by decide) rfl (Nat.le_of_ble_eq_true rfl) ?_
        intro v τ h
        obtain ⟨rfl, rfl⟩ := h
        refine ru_callV (mc := 0) (ms := 0) d_Mo_thing_48 lm_Mo_83 hT4 (rx_recv_is (ly hL 398 9 0) kx_Mo) (by decide) rfl (Nat.le_of_ble_eq_true rfl) ?_
        rintro v τ ⟨rfl, rfl⟩
        refine ru_if_eq (tgt := 65) d_Mo_thing_51 (by decide) (fun h51 => ?_) (fun h51 => absurd h51 (by decide))
        refine ru_aload_n d_Mo_thing_65 rfl rfl ?_
        refine ru_ldc2 d_Mo_thing_66 lc_Mo_95 ?_
        refine ru_callV (mc := 0) (ms := 0) d_Mo_thing_69 lm_Mo_97 hX (rx_recv_is (ly hL 398 9 0) kx_Mo) (by decide) rfl (Nat.le_of_ble_eq_true rfl) ?_
        rintro v τ ⟨rfl, rfl⟩
        refine ru_to (end_ _ _ _ _ _ ?_) ⟨rfl, rfl, rfl, rfl, trivial⟩
        exact ⟨rfl, _, j, rfl, by omega, hfr _ _⟩
theorem sq_thing0 {A wh : Nat} {w g : Int32} (hL : LAY nx ct mr) (hA : m0 398 14 = nI A) (hA2 : A + 12 ≤ 1440) (hw : wh ≤ 3) (hg : ¬ g = -1) : rx_Calls y_Mo_thing M_Mo_thing 4 0 0 [.ref 398, .int (nI wh)] (nx, ct, mS m0 w g, ml, mr) (fun v τ => v = none ∧ ∃ ml', τ = (nx, ct, mS m0 w g, ml', mr) ∧ fL (fun i => i = A + wh ∨ i = A + wh + 1) ml ml') := by
  refine rx_enter (by decide) rfl rfl (Nat.le_of_ble_eq_true rfl) ?_
  refine ru_iconst (v := (-1)) d_Mo_thing_0 (by decide) ?_
  refine ru_istore_n d_Mo_thing_1 rfl (by decide) ?_
  refine ru_iconst (v := (-1)) d_Mo_thing_2 (by decide) ?_
  refine ru_istore_n d_Mo_thing_3 rfl (by decide) ?_
  refine ru_aload_n d_Mo_thing_4 rfl rfl ?_
  refine ru_iconst (v := 3) d_Mo_thing_5 (by decide) ?_
  refine ru_bipush (v := 12) d_Mo_thing_6 (by decide) ?_
  refine ru_iconst (v := 1) d_Mo_thing_8 (by decide) ?_
  refine ru_bipush (v := 19) d_Mo_thing_9 (by decide) ?_
  refine ru_bipush (v := 19) d_Mo_thing_11 (by decide) ?_
  refine ru_iconst (v := 0) d_Mo_thing_13 (by decide) ?_
  refine ru_iconst (v := 0) d_Mo_thing_14 (by decide) ?_
  refine ru_callS (mc := 0) (ms := 0) d_Mo_thing_15 lm_Mo_68 (sp_Mo_word 3 12 1 19 19 0 0 _) (by decide) rfl (Nat.le_of_ble_eq_true rfl) ?_
  intro v τ h
  obtain ⟨rfl, rfl⟩ := h
  refine ru_callV (mc := 0) (ms := 0) d_Mo_thing_18 lm_Mo_83 (sq_took0 hL hg) (rx_recv_is (ly hL 398 9 0) kx_Mo) (by decide) rfl (Nat.le_of_ble_eq_true rfl) ?_
  rintro v τ ⟨rfl, rfl⟩
  refine ru_if_eq (tgt := 35) d_Mo_thing_21 (by decide) (fun h21 => ?_) (fun h21 => absurd h21 (by decide))
  refine ru_aload_n d_Mo_thing_35 rfl rfl ?_
  refine ru_bipush (v := 14) d_Mo_thing_36 (by decide) ?_
  refine ru_iconst (v := 5) d_Mo_thing_38 (by decide) ?_
  refine ru_bipush (v := 20) d_Mo_thing_39 (by decide) ?_
  refine ru_iconst (v := 0) d_Mo_thing_41 (by decide) ?_
  refine ru_iconst (v := 0) d_Mo_thing_42 (by decide) ?_
  refine ru_iconst (v := 0) d_Mo_thing_43 (by decide) ?_
  refine ru_iconst (v := 0) d_Mo_thing_44 (by decide) ?_
  refine ru_callS (mc := 0) (ms := 0) d_Mo_thing_45 lm_Mo_68 (sp_Mo_word 14 5 20 0 0 0 0 _) (by decide) rfl (Nat.le_of_ble_eq_true rfl) ?_
  intro v τ h
  obtain ⟨rfl, rfl⟩ := h
  refine ru_callV (mc := 0) (ms := 0) d_Mo_thing_48 lm_Mo_83 (sq_took0 hL hg) (rx_recv_is (ly hL 398 9 0) kx_Mo) (by decide) rfl (Nat.le_of_ble_eq_true rfl) ?_
  rintro v τ ⟨rfl, rfl⟩
  refine ru_if_eq (tgt := 65) d_Mo_thing_51 (by decide) (fun h51 => ?_) (fun h51 => absurd h51 (by decide))
  refine ru_aload_n d_Mo_thing_65 rfl rfl ?_
  refine ru_ldc2 d_Mo_thing_66 lc_Mo_95 ?_
  refine ru_callV (mc := 0) (ms := 0) d_Mo_thing_69 lm_Mo_97 (sq_expect0 hL hg) (rx_recv_is (ly hL 398 9 0) kx_Mo) (by decide) rfl (Nat.le_of_ble_eq_true rfl) ?_
  rintro v τ ⟨rfl, rfl⟩
  refine ru_to (ru_post ?_ (th_end hL hA hA2 hw)) ⟨rfl, rfl, rfl, rfl, trivial⟩
  rintro v τ ⟨rfl, rfl⟩
  exact ⟨rfl, _, rfl, ((fL.refl _ ml).set _ (Or.inl rfl)).set _ (Or.inr rfl)⟩
def laP (r : Nat ⊕ (Nat × Nat)) (J A : Nat) (nx : Nat) (ct : Nat → Nat × Nat) (m0 : Nat → Nat → Int32) (ml : Nat → Nat → Int64) (mr : Nat → Nat → Option Nat) : Option Value → rx_S → Prop := fun v τ => v = none ∧ match r with
  | .inr (l, j') => ∃ ml', τ = (nx, ct, mS m0 (nI j') (-1), ml', mr) ∧ fL (fun i => i = A + 5) ml ml' ∧ ml' 404 (A + 5) = Int64.ofNat l
  | .inl k => ∃ ml' w, τ = (nx, ct, mS m0 (nI w) (nI k), ml', mr) ∧ w ≤ J ∧ fL (fun i => i = A + 5) ml ml'
theorem sq_layer {A j : Nat} (hL : LAY nx ct mr) (h : PMs n m t m0) (hA : m0 398 14 = nI A) (hA2 : A + 12 ≤ 1440) (h5 : ml 404 (A + 5) = 0) (hj : j < 3700) : rx_Calls y_Mo_layer M_Mo_layer 4 0 0 [.ref 398] (nx, ct, mS m0 (nI j) (-1), ml, mr) (laP (pLayer n t j) (j + 3) A nx ct m0 ml mr) := by
  refine rx_enter (by decide) rfl rfl (Nat.le_of_ble_eq_true rfl) ?_
  have hA' : ∀ w g, mS m0 w g 398 14 = nI A := fun w g => by rw [mS_k]; exact hA
  have hfr : ∀ x : Int64, fL (fun i => i = A + 5) ml (rx_u ml 404 (A + 5) x) := fun x => (fL.refl _ ml).set x rfl
  have hT6 := sq_took (ml := ml) (j := j) hL h wv_6 (by omega)
  have hT8 := sq_took (ml := ml) (j := j + 1) hL h wv_8 (by omega)
  have hT9 := sq_took (ml := ml) (j := j + 1) hL h wv_9 (by omega)
  have hT10 := sq_took (ml := ml) (j := j + 1) hL h wv_10 (by omega)
  have hX := sq_expect (ml := ml) (j := j + 1) hL h wv_7 (by omega)
  unfold laP pLayer
  by_cases h6 : isW n t j 6
  · rw [cnd_t h6]
    rw [bI_t h6, cnd_t h6] at hT6
    by_cases h8 : isW n t (j + 1) 8
    · rw [bI_t h8, cnd_t h8] at hT8
      have h7 : ¬ isW n t (j + 1) 7 := fun z => absurd (isW_one z h8) (by decide)
      rw [cnd_f h7, cnd_t h8]
      refine ru_aload_n d_Mo_layer_0 rfl rfl ?_
      refine ru_ldc2 d_Mo_layer_1 lc_Mo_104 ?_
      refine ru_callV (mc := 0) (ms := 0) d_Mo_layer_4 lm_Mo_83 hT6 (rx_recv_is (ly hL 398 9 0) kx_Mo) (by decide) rfl (Nat.le_of_ble_eq_true rfl) ?_
      rintro v τ ⟨rfl, rfl⟩
      refine ru_if_ne (tgt := 11) d_Mo_layer_7 (by decide) (fun h7 => ?_) (fun h7 => absurd h7 (by decide))
      refine ru_aload_n d_Mo_layer_11 rfl rfl ?_
      refine ru_bipush (v := 20) d_Mo_layer_12 (by decide) ?_
      refine ru_bipush (v := 15) d_Mo_layer_14 (by decide) ?_
      refine ru_bipush (v := 16) d_Mo_layer_16 (by decide) ?_
      refine ru_iconst (v := 0) d_Mo_layer_18 (by decide) ?_
      refine ru_iconst (v := 0) d_Mo_layer_19 (by decide) ?_
      refine ru_iconst (v := 0) d_Mo_layer_20 (by decide) ?_
      refine ru_iconst (v := 0) d_Mo_layer_21 (by decide) ?_
      refine ru_callS (mc := 0) (ms := 0) d_Mo_layer_22 lm_Mo_68 (sp_Mo_word 20 15 16 0 0 0 0 _) (by decide) rfl (Nat.le_of_ble_eq_true rfl) ?_
      intro v τ h
      obtain ⟨rfl, rfl⟩ := h
      refine ru_callV (mc := 0) (ms := 0) d_Mo_layer_25 lm_Mo_83 hT8 (rx_recv_is (ly hL 398 9 0) kx_Mo) (by decide) rfl (Nat.le_of_ble_eq_true rfl) ?_
      rintro v τ ⟨rfl, rfl⟩
      refine ru_if_eq (tgt := 46) d_Mo_layer_28 (by decide) (fun h28 => absurd h28 (by decide)) (fun h28 => ?_)
      refine ru_aload_n d_Mo_layer_31 rfl rfl ?_
      refine ru_getR d_Mo_layer_32 lf_Mo_27 (ly hL 398 9 0) rfl (lr hL 398 8 404) ?_
      refine ru_aload_n d_Mo_layer_35 rfl rfl ?_
      refine ru_getI d_Mo_layer_36 lf_Mo_101 (ly hL 398 9 0) rfl ?_
      refine ru_eqi (hA' _ _) ?_
      refine ru_iconst (v := 5) d_Mo_layer_39 (by decide) ?_
      refine ru_iadd d_Mo_layer_40 ?_
      refine ru_eqi (nm_add A 5 : _ = nI (A + 5)) ?_
      refine ru_lconst (v := 1) d_Mo_layer_41 (by decide) ?_
      refine ru_lastN (j := (A + 5)) d_Mo_layer_42 (ly hL 404 104 1440) (by omega) (by decide) ?_
      refine ru_goto (tgt := 163) d_Mo_layer_43 (by decide) ?_
      refine ru_vret d_Mo_layer_163 rfl ?_
      exact ⟨rfl, _, rfl, hfr _, rx_u_same _ _ _ _⟩
    · rw [bI_f h8, cnd_f h8] at hT8
      by_cases h9 : isW n t (j + 1) 9
      · rw [bI_t h9, cnd_t h9] at hT9
        have h7 : ¬ isW n t (j + 1) 7 := fun z => absurd (isW_one z h9) (by decide)
        rw [cnd_f h7, cnd_f h8, cnd_t h9]
        refine ru_aload_n d_Mo_layer_0 rfl rfl ?_
        refine ru_ldc2 d_Mo_layer_1 lc_Mo_104 ?_
        refine ru_callV (mc := 0) (ms := 0) d_Mo_layer_4 lm_Mo_83 hT6 (rx_recv_is (ly hL 398 9 0) kx_Mo) (by decide) rfl (Nat.le_of_ble_eq_true rfl) ?_
        rintro v τ ⟨rfl, rfl⟩
        refine ru_if_ne (tgt := 11) d_Mo_layer_7 (by decide) (fun h7 => ?_) (fun h7 => absurd h7 (by decide))
        refine ru_aload_n d_Mo_layer_11 rfl rfl ?_
        refine ru_bipush (v := 20) d_Mo_layer_12 (by decide) ?_
        refine ru_bipush (v := 15) d_Mo_layer_14 (by decide) ?_
        refine ru_bipush (v := 16) d_Mo_layer_16 (by decide) ?_
        refine ru_iconst (v := 0) d_Mo_layer_18 (by decide) ?_
        refine ru_iconst (v := 0) d_Mo_layer_19 (by decide) ?_
        refine ru_iconst (v := 0) d_Mo_layer_20 (by decide) ?_
        refine ru_iconst (v := 0) d_Mo_layer_21 (by decide) ?_
        refine ru_callS (mc := 0) (ms := 0) d_Mo_layer_22 lm_Mo_68 (sp_Mo_word 20 15 16 0 0 0 0 _) (by decide) rfl (Nat.le_of_ble_eq_true rfl) ?_
        intro v τ h
        obtain ⟨rfl, rfl⟩ := h
        refine ru_callV (mc := 0) (ms := 0) d_Mo_layer_25 lm_Mo_83 hT8 (rx_recv_is (ly hL 398 9 0) kx_Mo) (by decide) rfl (Nat.le_of_ble_eq_true rfl) ?_
        rintro v τ ⟨rfl, rfl⟩
        refine ru_if_eq (tgt := 46) d_Mo_layer_28 (by decide) (fun h28 => ?_) (fun h28 => absurd h28 (by decide))
        refine ru_aload_n d_Mo_layer_46 rfl rfl ?_
        refine ru_iconst (v := 2) d_Mo_layer_47 (by decide) ?_
        refine ru_bipush (v := 15) d_Mo_layer_48 (by decide) ?_
        refine ru_bipush (v := 20) d_Mo_layer_50 (by decide) ?_
        refine ru_bipush (v := 20) d_Mo_layer_52 (by decide) ?_
        refine ru_bipush (v := 15) d_Mo_layer_54 (by decide) ?_
        refine ru_bipush (v := 13) d_Mo_layer_56 (by decide) ?_
        refine ru_iconst (v := 0) d_Mo_layer_58 (by decide) ?_
        refine ru_callS (mc := 0) (ms := 0) d_Mo_layer_59 lm_Mo_68 (sp_Mo_word 2 15 20 20 15 13 0 _) (by decide) rfl (Nat.le_of_ble_eq_true rfl) ?_
        intro v τ h
        obtain ⟨rfl, rfl⟩ := h
        refine ru_callV (mc := 0) (ms := 0) d_Mo_layer_62 lm_Mo_83 hT9 (rx_recv_is (ly hL 398 9 0) kx_Mo) (by decide) rfl (Nat.le_of_ble_eq_true rfl) ?_
        rintro v τ ⟨rfl, rfl⟩
        refine ru_if_eq (tgt := 85) d_Mo_layer_65 (by decide) (fun h65 => absurd h65 (by decide)) (fun h65 => ?_)
        refine ru_aload_n d_Mo_layer_68 rfl rfl ?_
        refine ru_getR d_Mo_layer_69 lf_Mo_27 (ly hL 398 9 0) rfl (lr hL 398 8 404) ?_
        refine ru_aload_n d_Mo_layer_72 rfl rfl ?_
        refine ru_getI d_Mo_layer_73 lf_Mo_101 (ly hL 398 9 0) rfl ?_
        refine ru_eqi (hA' _ _) ?_
        refine ru_iconst (v := 5) d_Mo_layer_76 (by decide) ?_
        refine ru_iadd d_Mo_layer_77 ?_
        refine ru_eqi (nm_add A 5 : _ = nI (A + 5)) ?_
        refine ru_ldc2 d_Mo_layer_78 lc_Mo_106 ?_
        refine ru_lastN (j := (A + 5)) d_Mo_layer_81 (ly hL 404 104 1440) (by omega) (by decide) ?_
        refine ru_goto (tgt := 163) d_Mo_layer_82 (by decide) ?_
        refine ru_vret d_Mo_layer_163 rfl ?_
        exact ⟨rfl, _, rfl, hfr _, rx_u_same _ _ _ _⟩
      · rw [bI_f h9, cnd_f h9] at hT9
        by_cases h10 : isW n t (j + 1) 10
        · rw [bI_t h10, cnd_t h10] at hT10
          have h7 : ¬ isW n t (j + 1) 7 := fun z => absurd (isW_one z h10) (by decide)
          rw [cnd_f h7, cnd_f h8, cnd_f h9, cnd_t h10]
          refine ru_aload_n d_Mo_layer_0 rfl rfl ?_
          refine ru_ldc2 d_Mo_layer_1 lc_Mo_104 ?_
          refine ru_callV (mc := 0) (ms := 0) d_Mo_layer_4 lm_Mo_83 hT6 (rx_recv_is (ly hL 398 9 0) kx_Mo) (by decide) rfl (Nat.le_of_ble_eq_true rfl) ?_
          rintro v τ ⟨rfl, rfl⟩
          refine ru_if_ne (tgt := 11) d_Mo_layer_7 (by decide) (fun h7 => ?_) (fun h7 => absurd h7 (by decide))
          refine ru_aload_n d_Mo_layer_11 rfl rfl ?_
          refine ru_bipush (v := 20) d_Mo_layer_12 (by decide) ?_
          refine ru_bipush (v := 15) d_Mo_layer_14 (by decide) ?_
          refine ru_bipush (v := 16) d_Mo_layer_16 (by decide) ?_
          refine ru_iconst (v := 0) d_Mo_layer_18 (by decide) ?_
          refine ru_iconst (v := 0) d_Mo_layer_19 (by decide) ?_
          refine ru_iconst (v := 0) d_Mo_layer_20 (by decide) ?_
          refine ru_iconst (v := 0) d_Mo_layer_21 (by decide) ?_
          refine ru_callS (mc := 0) (ms := 0) d_Mo_layer_22 lm_Mo_68 (sp_Mo_word 20 15 16 0 0 0 0 _) (by decide) rfl (Nat.le_of_ble_eq_true rfl) ?_
          intro v τ h
          obtain ⟨rfl, rfl⟩ := h
          refine ru_callV (mc := 0) (ms := 0) d_Mo_layer_25 lm_Mo_83 hT8 (rx_recv_is (ly hL 398 9 0) kx_Mo) (by decide) rfl (Nat.le_of_ble_eq_true rfl) ?_
          rintro v τ ⟨rfl, rfl⟩
          refine ru_if_eq (tgt := 46) d_Mo_layer_28 (by decide) (fun h28 => ?_) (fun h28 => absurd h28 (by decide))
          refine ru_aload_n d_Mo_layer_46 rfl rfl ?_
          refine ru_iconst (v := 2) d_Mo_layer_47 (by decide) ?_
          refine ru_bipush (v := 15) d_Mo_layer_48 (by decide) ?_
          refine ru_bipush (v := 20) d_Mo_layer_50 (by decide) ?_
          refine ru_bipush (v := 20) d_Mo_layer_52 (by decide) ?_
          refine ru_bipush (v := 15) d_Mo_layer_54 (by decide) ?_
          refine ru_bipush (v := 13) d_Mo_layer_56 (by decide) ?_
          refine ru_iconst (v := 0) d_Mo_layer_58 (by decide) ?_
          refine ru_callS (mc := 0) (ms := 0) d_Mo_layer_59 lm_Mo_68 (sp_Mo_word 2 15 20 20 15 13 0 _) (by decide) rfl (Nat.le_of_ble_eq_true rfl) ?_
          intro v τ h
          obtain ⟨rfl, rfl⟩ := h
          refine ru_callV (mc := 0) (ms := 0) d_Mo_layer_62 lm_Mo_83 hT9 (rx_recv_is (ly hL 398 9 0) kx_Mo) (by decide) rfl (Nat.le_of_ble_eq_true rfl) ?_
          rintro v τ ⟨rfl, rfl⟩
          refine ru_if_eq (tgt := 85) d_Mo_layer_65 (by decide) (fun h65 => ?_) (fun h65 => absurd h65 (by decide))
          refine ru_aload_n d_Mo_layer_85 rfl rfl ?_
          refine ru_bipush (v := 9) d_Mo_layer_86 (by decide) ?_
          refine ru_bipush (v := 14) d_Mo_layer_88 (by decide) ?_
          refine ru_bipush (v := 14) d_Mo_layer_90 (by decide) ?_
          refine ru_iconst (v := 5) d_Mo_layer_92 (by decide) ?_
          refine ru_bipush (v := 18) d_Mo_layer_93 (by decide) ?_
          refine ru_iconst (v := 0) d_Mo_layer_95 (by decide) ?_
          refine ru_iconst (v := 0) d_Mo_layer_96 (by decide) ?_
          refine ru_callS (mc := 0) (ms := 0) d_Mo_layer_97 lm_Mo_68 (sp_Mo_word 9 14 14 5 18 0 0 _) (by decide) rfl (Nat.le_of_ble_eq_true rfl) ?_
          intro v τ h
          obtain ⟨rfl, rfl⟩ := h
          refine ru_callV (mc := 0) (ms := 0) d_Mo_layer_100 lm_Mo_83 hT10 (rx_recv_is (ly hL 398 9 0) kx_Mo) (by decide) rfl (Nat.le_of_ble_eq_true rfl) ?_
          rintro v τ ⟨rfl, rfl⟩
          refine ru_if_eq (tgt := 123) d_Mo_layer_103 (by decide) (fun h103 => absurd h103 (by decide)) (fun h103 => ?_)
          refine ru_aload_n d_Mo_layer_106 rfl rfl ?_
          refine ru_getR d_Mo_layer_107 lf_Mo_27 (ly hL 398 9 0) rfl (lr hL 398 8 404) ?_
          refine ru_aload_n d_Mo_layer_110 rfl rfl ?_
          refine ru_getI d_Mo_layer_111 lf_Mo_101 (ly hL 398 9 0) rfl ?_
          refine ru_eqi (hA' _ _) ?_
          refine ru_iconst (v := 5) d_Mo_layer_114 (by decide) ?_
          refine ru_iadd d_Mo_layer_115 ?_
          refine ru_eqi (nm_add A 5 : _ = nI (A + 5)) ?_
          refine ru_ldc2 d_Mo_layer_116 lc_Mo_108 ?_
          refine ru_lastN (j := (A + 5)) d_Mo_layer_119 (ly hL 404 104 1440) (by omega) (by decide) ?_
          refine ru_goto (tgt := 163) d_Mo_layer_120 (by decide) ?_
          refine ru_vret d_Mo_layer_163 rfl ?_
          exact ⟨rfl, _, rfl, hfr _, rx_u_same _ _ _ _⟩
        · rw [bI_f h10, cnd_f h10] at hT10
          by_cases h7 : isW n t (j + 1) 7
          · rw [cnd_t h7] at hX
            rw [cnd_t h7]
            have hS := sq_small (ml := ml) (j := j + 2) (lo := 1) (hi := 32) hL h (by omega) (by decide) (by decide)
            cases e : smallR n t (j + 2) 1 32 with
            | none =>
              rw [e] at hS
              refine ru_aload_n d_Mo_layer_0 rfl rfl ?_
              refine ru_ldc2 d_Mo_layer_1 lc_Mo_104 ?_
              refine ru_callV (mc := 0) (ms := 0) d_Mo_layer_4 lm_Mo_83 hT6 (rx_recv_is (ly hL 398 9 0) kx_Mo) (by decide) rfl (Nat.le_of_ble_eq_true rfl) ?_
              rintro v τ ⟨rfl, rfl⟩
              refine ru_if_ne (tgt := 11) d_Mo_layer_7 (by decide) (fun h7 => ?_) (fun h7 => absurd h7 (by decide))
              refine ru_aload_n d_Mo_layer_11 rfl rfl ?_
              refine ru_bipush (v := 20) d_Mo_layer_12 (by decide) ?_
              refine ru_bipush (v := 15) d_Mo_layer_14 (by decide) ?_
              refine ru_bipush (v := 16) d_Mo_layer_16 (by decide) ?_
              refine ru_iconst (v := 0) d_Mo_layer_18 (by decide) ?_
              refine ru_iconst (v := 0) d_Mo_layer_19 (by decide) ?_
              refine ru_iconst (v := 0) d_Mo_layer_20 (by decide) ?_
              refine ru_iconst (v := 0) d_Mo_layer_21 (by decide) ?_
              refine ru_callS (mc := 0) (ms := 0) d_Mo_layer_22 lm_Mo_68 (sp_Mo_word 20 15 16 0 0 0 0 _) (by decide) rfl (Nat.le_of_ble_eq_true rfl) ?_
              intro v τ h
              obtain ⟨rfl, rfl⟩ := h
              refine ru_callV (mc := 0) (ms := 0) d_Mo_layer_25 lm_Mo_83 hT8 (rx_recv_is (ly hL 398 9 0) kx_Mo) (by decide) rfl (Nat.le_of_ble_eq_true rfl) ?_
              rintro v τ ⟨rfl, rfl⟩
              refine ru_if_eq (tgt := 46) d_Mo_layer_28 (by decide) (fun h28 => ?_) (fun h28 => absurd h28 (by decide))
              refine ru_aload_n d_Mo_layer_46 rfl rfl ?_
              refine ru_iconst (v := 2) d_Mo_layer_47 (by decide) ?_
              refine ru_bipush (v := 15) d_Mo_layer_48 (by decide) ?_
              refine ru_bipush (v := 20) d_Mo_layer_50 (by decide) ?_
              refine ru_bipush (v := 20) d_Mo_layer_52 (by decide) ?_
              refine ru_bipush (v := 15) d_Mo_layer_54 (by decide) ?_
              refine ru_bipush (v := 13) d_Mo_layer_56 (by decide) ?_
              refine ru_iconst (v := 0) d_Mo_layer_58 (by decide) ?_
              refine ru_callS (mc := 0) (ms := 0) d_Mo_layer_59 lm_Mo_68 (sp_Mo_word 2 15 20 20 15 13 0 _) (by decide) rfl (Nat.le_of_ble_eq_true rfl) ?_
              intro v τ h
              obtain ⟨rfl, rfl⟩ := h
              refine ru_callV (mc := 0) (ms := 0) d_Mo_layer_62 lm_Mo_83 hT9 (rx_recv_is (ly hL 398 9 0) kx_Mo) (by decide) rfl (Nat.le_of_ble_eq_true rfl) ?_
              rintro v τ ⟨rfl, rfl⟩
              refine ru_if_eq (tgt := 85) d_Mo_layer_65 (by decide) (fun h65 => ?_) (fun h65 => absurd h65 (by decide))
              refine ru_aload_n d_Mo_layer_85 rfl rfl ?_
              refine ru_bipush (v := 9) d_Mo_layer_86 (by decide) ?_
              refine ru_bipush (v := 14) d_Mo_layer_88 (by decide) ?_
              refine ru_bipush (v := 14) d_Mo_layer_90 (by decide) ?_
              refine ru_iconst (v := 5) d_Mo_layer_92 (by decide) ?_
              refine ru_bipush (v := 18) d_Mo_layer_93 (by decide) ?_
              refine ru_iconst (v := 0) d_Mo_layer_95 (by decide) ?_
              refine ru_iconst (v := 0) d_Mo_layer_96 (by decide) ?_
              refine ru_callS (mc := 0) (ms := 0) d_Mo_layer_97 lm_Mo_68 (sp_Mo_word 9 14 14 5 18 0 0 _) (by decide) rfl (Nat.le_of_ble_eq_true rfl) ?_
              intro v τ h
              obtain ⟨rfl, rfl⟩ := h
              refine ru_callV (mc := 0) (ms := 0) d_Mo_layer_100 lm_Mo_83 hT10 (rx_recv_is (ly hL 398 9 0) kx_Mo) (by decide) rfl (Nat.le_of_ble_eq_true rfl) ?_
              rintro v τ ⟨rfl, rfl⟩
              refine ru_if_eq (tgt := 123) d_Mo_layer_103 (by decide) (fun h103 => ?_) (fun h103 => absurd h103 (by decide))
              refine ru_aload_n d_Mo_layer_123 rfl rfl ?_
              refine ru_bipush (v := 12) d_Mo_layer_124 (by decide) ?_
              refine ru_iconst (v := 1) d_Mo_layer_126 (by decide) ?_
              refine ru_bipush (v := 25) d_Mo_layer_127 (by decide) ?_
              refine ru_iconst (v := 5) d_Mo_layer_129 (by decide) ?_
              refine ru_bipush (v := 18) d_Mo_layer_130 (by decide) ?_
              refine ru_iconst (v := 0) d_Mo_layer_132 (by decide) ?_
              refine ru_iconst (v := 0) d_Mo_layer_133 (by decide) ?_
              refine ru_callS (mc := 0) (ms := 0) d_Mo_layer_134 lm_Mo_68 (sp_Mo_word 12 1 25 5 18 0 0 _) (by decide) rfl (Nat.le_of_ble_eq_true rfl) ?_
              intro v τ h
              obtain ⟨rfl, rfl⟩ := h
              refine ru_callV (mc := 0) (ms := 0) d_Mo_layer_137 lm_Mo_97 hX (rx_recv_is (ly hL 398 9 0) kx_Mo) (by decide) rfl (Nat.le_of_ble_eq_true rfl) ?_
              rintro v τ ⟨rfl, rfl⟩
              refine ru_aload_n d_Mo_layer_140 rfl rfl ?_
              refine ru_getR d_Mo_layer_141 lf_Mo_27 (ly hL 398 9 0) rfl (lr hL 398 8 404) ?_
              refine ru_aload_n d_Mo_layer_144 rfl rfl ?_
              refine ru_getI d_Mo_layer_145 lf_Mo_101 (ly hL 398 9 0) rfl ?_
              refine ru_eqi (hA' _ _) ?_
              refine ru_iconst (v := 5) d_Mo_layer_148 (by decide) ?_
              refine ru_iadd d_Mo_layer_149 ?_
              refine ru_eqi (nm_add A 5 : _ = nI (A + 5)) ?_
              refine ru_ldc2 d_Mo_layer_150 lc_Mo_108 ?_
              refine ru_aload_n d_Mo_layer_153 rfl rfl ?_
              refine ru_iconst (v := 1) d_Mo_layer_154 (by decide) ?_
              refine ru_bipush (v := 32) d_Mo_layer_155 (by decide) ?_
              refine ru_callV (mc := 0) (ms := 0) d_Mo_layer_157 lm_Mo_110 hS (rx_recv_is (ly hL 398 9 0) kx_Mo) (by decide) rfl (Nat.le_of_ble_eq_true rfl) ?_
              rintro v τ ⟨x, rfl, rfl⟩
              refine ru_i2l d_Mo_layer_160 ?_
              refine ru_ladd d_Mo_layer_161 ?_
              refine ru_lastN (j := (A + 5)) d_Mo_layer_162 (ly hL 404 104 1440) (by omega) (by decide) ?_
              refine ru_vret d_Mo_layer_163 rfl ?_
              exact ⟨rfl, _, j + 3, rfl, by omega, hfr _⟩
            | some v =>
              rw [e] at hS
              have hv : v ≤ 32 := by
                unfold smallR at e
                split at e
                · cases e
                · split at e
                  · next q => cases e; exact q.2
                  · cases e
              refine ru_aload_n d_Mo_layer_0 rfl rfl ?_
              refine ru_ldc2 d_Mo_layer_1 lc_Mo_104 ?_
              refine ru_callV (mc := 0) (ms := 0) d_Mo_layer_4 lm_Mo_83 hT6 (rx_recv_is (ly hL 398 9 0) kx_Mo) (by decide) rfl (Nat.le_of_ble_eq_true rfl) ?_
              rintro v τ ⟨rfl, rfl⟩
              refine ru_if_ne (tgt := 11) d_Mo_layer_7 (by decide) (fun h7 => ?_) (fun h7 => absurd h7 (by decide))
              refine ru_aload_n d_Mo_layer_11 rfl rfl ?_
              refine ru_bipush (v := 20) d_Mo_layer_12 (by decide) ?_
              refine ru_bipush (v := 15) d_Mo_layer_14 (by decide) ?_
              refine ru_bipush (v := 16) d_Mo_layer_16 (by decide) ?_
              refine ru_iconst (v := 0) d_Mo_layer_18 (by decide) ?_
              refine ru_iconst (v := 0) d_Mo_layer_19 (by decide) ?_
              refine ru_iconst (v := 0) d_Mo_layer_20 (by decide) ?_
              refine ru_iconst (v := 0) d_Mo_layer_21 (by decide) ?_
              refine ru_callS (mc := 0) (ms := 0) d_Mo_layer_22 lm_Mo_68 (sp_Mo_word 20 15 16 0 0 0 0 _) (by decide) rfl (Nat.le_of_ble_eq_true rfl) ?_
              intro v τ h
              obtain ⟨rfl, rfl⟩ := h
              refine ru_callV (mc := 0) (ms := 0) d_Mo_layer_25 lm_Mo_83 hT8 (rx_recv_is (ly hL 398 9 0) kx_Mo) (by decide) rfl (Nat.le_of_ble_eq_true rfl) ?_
              rintro v τ ⟨rfl, rfl⟩
              refine ru_if_eq (tgt := 46) d_Mo_layer_28 (by decide) (fun h28 => ?_) (fun h28 => absurd h28 (by decide))
              refine ru_aload_n d_Mo_layer_46 rfl rfl ?_
              refine ru_iconst (v := 2) d_Mo_layer_47 (by decide) ?_
              refine ru_bipush (v := 15) d_Mo_layer_48 (by decide) ?_
              refine ru_bipush (v := 20) d_Mo_layer_50 (by decide) ?_
              refine ru_bipush (v := 20) d_Mo_layer_52 (by decide) ?_
              refine ru_bipush (v := 15) d_Mo_layer_54 (by decide) ?_
              refine ru_bipush (v := 13) d_Mo_layer_56 (by decide) ?_
              refine ru_iconst (v := 0) d_Mo_layer_58 (by decide) ?_
              refine ru_callS (mc := 0) (ms := 0) d_Mo_layer_59 lm_Mo_68 (sp_Mo_word 2 15 20 20 15 13 0 _) (by decide) rfl (Nat.le_of_ble_eq_true rfl) ?_
              intro v τ h
              obtain ⟨rfl, rfl⟩ := h
              refine ru_callV (mc := 0) (ms := 0) d_Mo_layer_62 lm_Mo_83 hT9 (rx_recv_is (ly hL 398 9 0) kx_Mo) (by decide) rfl (Nat.le_of_ble_eq_true rfl) ?_
              rintro v τ ⟨rfl, rfl⟩
              refine ru_if_eq (tgt := 85) d_Mo_layer_65 (by decide) (fun h65 => ?_) (fun h65 => absurd h65 (by decide))
              refine ru_aload_n d_Mo_layer_85 rfl rfl ?_
              refine ru_bipush (v := 9) d_Mo_layer_86 (by decide) ?_
              refine ru_bipush (v := 14) d_Mo_layer_88 (by decide) ?_
              refine ru_bipush (v := 14) d_Mo_layer_90 (by decide) ?_
              refine ru_iconst (v := 5) d_Mo_layer_92 (by decide) ?_
              refine ru_bipush (v := 18) d_Mo_layer_93 (by decide) ?_
              refine ru_iconst (v := 0) d_Mo_layer_95 (by decide) ?_
              refine ru_iconst (v := 0) d_Mo_layer_96 (by decide) ?_
              refine ru_callS (mc := 0) (ms := 0) d_Mo_layer_97 lm_Mo_68 (sp_Mo_word 9 14 14 5 18 0 0 _) (by decide) rfl (Nat.le_of_ble_eq_true rfl) ?_
              intro v τ h
              obtain ⟨rfl, rfl⟩ := h
              refine ru_callV (mc := 0) (ms := 0) d_Mo_layer_100 lm_Mo_83 hT10 (rx_recv_is (ly hL 398 9 0) kx_Mo) (by decide) rfl (Nat.le_of_ble_eq_true rfl) ?_
              rintro v τ ⟨rfl, rfl⟩
              refine ru_if_eq (tgt := 123) d_Mo_layer_103 (by decide) (fun h103 => ?_) (fun h103 => absurd h103 (by decide))
              refine ru_aload_n d_Mo_layer_123 rfl rfl ?_
              refine ru_bipush (v := 12) d_Mo_layer_124 (by decide) ?_
              refine ru_iconst (v := 1) d_Mo_layer_126 (by decide) ?_
              refine ru_bipush (v := 25) d_Mo_layer_127 (by decide) ?_
              refine ru_iconst (v := 5) d_Mo_layer_129 (by decide) ?_
              refine ru_bipush (v := 18) d_Mo_layer_130 (by decide) ?_
              refine ru_iconst (v := 0) d_Mo_layer_132 (by decide) ?_
              refine ru_iconst (v := 0) d_Mo_layer_133 (by decide) ?_
              refine ru_callS (mc := 0) (ms := 0) d_Mo_layer_134 lm_Mo_68 (sp_Mo_word 12 1 25 5 18 0 0 _) (by decide) rfl (Nat.le_of_ble_eq_true rfl) ?_
              intro v τ h
              obtain ⟨rfl, rfl⟩ := h
              refine ru_callV (mc := 0) (ms := 0) d_Mo_layer_137 lm_Mo_97 hX (rx_recv_is (ly hL 398 9 0) kx_Mo) (by decide) rfl (Nat.le_of_ble_eq_true rfl) ?_
              rintro v τ ⟨rfl, rfl⟩
              refine ru_aload_n d_Mo_layer_140 rfl rfl ?_
              refine ru_getR d_Mo_layer_141 lf_Mo_27 (ly hL 398 9 0) rfl (lr hL 398 8 404) ?_
              refine ru_aload_n d_Mo_layer_144 rfl rfl ?_
              refine ru_getI d_Mo_layer_145 lf_Mo_101 (ly hL 398 9 0) rfl ?_
              refine ru_eqi (hA' _ _) ?_
              refine ru_iconst (v := 5) d_Mo_layer_148 (by decide) ?_
              refine ru_iadd d_Mo_layer_149 ?_
              refine ru_eqi (nm_add A 5 : _ = nI (A + 5)) ?_
              refine ru_ldc2 d_Mo_layer_150 lc_Mo_108 ?_
              refine ru_aload_n d_Mo_layer_153 rfl rfl ?_
              refine ru_iconst (v := 1) d_Mo_layer_154 (by decide) ?_
              refine ru_bipush (v := 32) d_Mo_layer_155 (by decide) ?_
              refine ru_callV (mc := 0) (ms := 0) d_Mo_layer_157 lm_Mo_110 hS (rx_recv_is (ly hL 398 9 0) kx_Mo) (by decide) rfl (Nat.le_of_ble_eq_true rfl) ?_
              rintro v' τ ⟨x, rfl, rfl, rfl⟩
              refine ru_i2l d_Mo_layer_160 ?_
              refine ru_eql (nl_i2l (a := v) (by omega)) ?_
              refine ru_ladd d_Mo_layer_161 ?_
              refine ru_eql (nl_add 3 v : _ = Int64.ofNat (3 + v)) ?_
              refine ru_lastN (j := (A + 5)) d_Mo_layer_162 (ly hL 404 104 1440) (by omega) (by decide) ?_
              refine ru_vret d_Mo_layer_163 rfl ?_
              exact ⟨rfl, _, rfl, hfr _, rx_u_same _ _ _ _⟩
          · rw [cnd_f h7] at hX
            rw [cnd_f h7, cnd_f h8, cnd_f h9, cnd_f h10]
            have hS := sq_small0 (ml := ml) (j := j + 1) (g := nI (j + 1)) (a := 1) (b := 32) hL h (by omega) (nI_m1 (by omega)) (w := 0)
            refine ru_aload_n d_Mo_layer_0 rfl rfl ?_
            refine ru_ldc2 d_Mo_layer_1 lc_Mo_104 ?_
            refine ru_callV (mc := 0) (ms := 0) d_Mo_layer_4 lm_Mo_83 hT6 (rx_recv_is (ly hL 398 9 0) kx_Mo) (by decide) rfl (Nat.le_of_ble_eq_true rfl) ?_
            rintro v τ ⟨rfl, rfl⟩
            refine ru_if_ne (tgt := 11) d_Mo_layer_7 (by decide) (fun h7 => ?_) (fun h7 => absurd h7 (by decide))
            refine ru_aload_n d_Mo_layer_11 rfl rfl ?_
            refine ru_bipush (v := 20) d_Mo_layer_12 (by decide) ?_
            refine ru_bipush (v := 15) d_Mo_layer_14 (by decide) ?_
            refine ru_bipush (v := 16) d_Mo_layer_16 (by decide) ?_
            refine ru_iconst (v := 0) d_Mo_layer_18 (by decide) ?_
            refine ru_iconst (v := 0) d_Mo_layer_19 (by decide) ?_
            refine ru_iconst (v := 0) d_Mo_layer_20 (by decide) ?_
            refine ru_iconst (v := 0) d_Mo_layer_21 (by decide) ?_
            refine ru_callS (mc := 0) (ms := 0) d_Mo_layer_22 lm_Mo_68 (sp_Mo_word 20 15 16 0 0 0 0 _) (by decide) rfl (Nat.le_of_ble_eq_true rfl) ?_
            intro v τ h
            obtain ⟨rfl, rfl⟩ := h
            refine ru_callV (mc := 0) (ms := 0) d_Mo_layer_25 lm_Mo_83 hT8 (rx_recv_is (ly hL 398 9 0) kx_Mo) (by decide) rfl (Nat.le_of_ble_eq_true rfl) ?_
            rintro v τ ⟨rfl, rfl⟩
            refine ru_if_eq (tgt := 46) d_Mo_layer_28 (by decide) (fun h28 => ?_) (fun h28 => absurd h28 (by decide))
            refine ru_aload_n d_Mo_layer_46 rfl rfl ?_
            refine ru_iconst (v := 2) d_Mo_layer_47 (by decide) ?_
            refine ru_bipush (v := 15) d_Mo_layer_48 (by decide) ?_
            refine ru_bipush (v := 20) d_Mo_layer_50 (by decide) ?_
            refine ru_bipush (v := 20) d_Mo_layer_52 (by decide) ?_
            refine ru_bipush (v := 15) d_Mo_layer_54 (by decide) ?_
            refine ru_bipush (v := 13) d_Mo_layer_56 (by decide) ?_
            refine ru_iconst (v := 0) d_Mo_layer_58 (by decide) ?_
            refine ru_callS (mc := 0) (ms := 0) d_Mo_layer_59 lm_Mo_68 (sp_Mo_word 2 15 20 20 15 13 0 _) (by decide) rfl (Nat.le_of_ble_eq_true rfl) ?_
            intro v τ h
            obtain ⟨rfl, rfl⟩ := h
            refine ru_callV (mc := 0) (ms := 0) d_Mo_layer_62 lm_Mo_83 hT9 (rx_recv_is (ly hL 398 9 0) kx_Mo) (by decide) rfl (Nat.le_of_ble_eq_true rfl) ?_
            rintro v τ ⟨rfl, rfl⟩
            refine ru_if_eq (tgt := 85) d_Mo_layer_65 (by decide) (fun h65 => ?_) (fun h65 => absurd h65 (by decide))
            refine ru_aload_n d_Mo_layer_85 rfl rfl ?_
            refine ru_bipush (v := 9) d_Mo_layer_86 (by decide) ?_
            refine ru_bipush (v := 14) d_Mo_layer_88 (by decide) ?_
            refine ru_bipush (v := 14) d_Mo_layer_90 (by decide) ?_
            refine ru_iconst (v := 5) d_Mo_layer_92 (by decide) ?_
            refine ru_bipush (v := 18) d_Mo_layer_93 (by decide) ?_
            refine ru_iconst (v := 0) d_Mo_layer_95 (by decide) ?_
            refine ru_iconst (v := 0) d_Mo_layer_96 (by decide) ?_
            refine ru_callS (mc := 0) (ms := 0) d_Mo_layer_97 lm_Mo_68 (sp_Mo_word 9 14 14 5 18 0 0 _) (by decide) rfl (Nat.le_of_ble_eq_true rfl) ?_
            intro v τ h
            obtain ⟨rfl, rfl⟩ := h
            refine ru_callV (mc := 0) (ms := 0) d_Mo_layer_100 lm_Mo_83 hT10 (rx_recv_is (ly hL 398 9 0) kx_Mo) (by decide) rfl (Nat.le_of_ble_eq_true rfl) ?_
            rintro v τ ⟨rfl, rfl⟩
            refine ru_if_eq (tgt := 123) d_Mo_layer_103 (by decide) (fun h103 => ?_) (fun h103 => absurd h103 (by decide))
            refine ru_aload_n d_Mo_layer_123 rfl rfl ?_
            refine ru_bipush (v := 12) d_Mo_layer_124 (by decide) ?_
            refine ru_iconst (v := 1) d_Mo_layer_126 (by decide) ?_
            refine ru_bipush (v := 25) d_Mo_layer_127 (by decide) ?_
            refine ru_iconst (v := 5) d_Mo_layer_129 (by decide) ?_
            refine ru_bipush (v := 18) d_Mo_layer_130 (by decide) ?_
            refine ru_iconst (v := 0) d_Mo_layer_132 (by decide) ?_
            refine ru_iconst (v := 0) d_Mo_layer_133 (by decide) ?_
            refine ru_callS (mc := 0) (ms := 0) d_Mo_layer_134 lm_Mo_68 (sp_Mo_word 12 1 25 5 18 0 0 _) (by decide) rfl (Nat.le_of_ble_eq_true rfl) ?_
            intro v τ h
            obtain ⟨rfl, rfl⟩ := h
            refine ru_callV (mc := 0) (ms := 0) d_Mo_layer_137 lm_Mo_97 hX (rx_recv_is (ly hL 398 9 0) kx_Mo) (by decide) rfl (Nat.le_of_ble_eq_true rfl) ?_
            rintro v τ ⟨rfl, rfl⟩
            refine ru_aload_n d_Mo_layer_140 rfl rfl ?_
            refine ru_getR d_Mo_layer_141 lf_Mo_27 (ly hL 398 9 0) rfl (lr hL 398 8 404) ?_
            refine ru_aload_n d_Mo_layer_144 rfl rfl ?_
            refine ru_getI d_Mo_layer_145 lf_Mo_101 (ly hL 398 9 0) rfl ?_
            refine ru_eqi (hA' _ _) ?_
            refine ru_iconst (v := 5) d_Mo_layer_148 (by decide) ?_
            refine ru_iadd d_Mo_layer_149 ?_
            refine ru_eqi (nm_add A 5 : _ = nI (A + 5)) ?_
            refine ru_ldc2 d_Mo_layer_150 lc_Mo_108 ?_
            refine ru_aload_n d_Mo_layer_153 rfl rfl ?_
            refine ru_iconst (v := 1) d_Mo_layer_154 (by decide) ?_
            refine ru_bipush (v := 32) d_Mo_layer_155 (by decide) ?_
            refine ru_callV (mc := 0) (ms := 0) d_Mo_layer_157 lm_Mo_110 hS (rx_recv_is (ly hL 398 9 0) kx_Mo) (by decide) rfl (Nat.le_of_ble_eq_true rfl) ?_
            rintro v τ ⟨x, rfl, rfl⟩
            refine ru_i2l d_Mo_layer_160 ?_
            refine ru_ladd d_Mo_layer_161 ?_
            refine ru_lastN (j := (A + 5)) d_Mo_layer_162 (ly hL 404 104 1440) (by omega) (by decide) ?_
            refine ru_vret d_Mo_layer_163 rfl ?_
            exact ⟨rfl, _, j + 2, rfl, by omega, hfr _⟩
  · rw [cnd_f h6]
    rw [bI_f h6, cnd_f h6] at hT6
    refine ru_aload_n d_Mo_layer_0 rfl rfl ?_
    refine ru_ldc2 d_Mo_layer_1 lc_Mo_104 ?_
    refine ru_callV (mc := 0) (ms := 0) d_Mo_layer_4 lm_Mo_83 hT6 (rx_recv_is (ly hL 398 9 0) kx_Mo) (by decide) rfl (Nat.le_of_ble_eq_true rfl) ?_
    rintro v τ ⟨rfl, rfl⟩
    refine ru_if_ne (tgt := 11) d_Mo_layer_7 (by decide) (fun h7 => absurd h7 (by decide)) (fun h7 => ?_)
    refine ru_vret d_Mo_layer_10 rfl ?_
    exact ⟨rfl, _, rfl, fL.refl _ _, h5⟩
theorem sq_layer0 {w g : Int32} (hL : LAY nx ct mr) (hg : ¬ g = -1) : rx_Calls y_Mo_layer M_Mo_layer 4 0 0 [.ref 398] (nx, ct, mS m0 w g, ml, mr) (fun v τ => v = none ∧ τ = (nx, ct, mS m0 w g, ml, mr)) := by
  refine rx_enter (by decide) rfl rfl (Nat.le_of_ble_eq_true rfl) ?_
  refine ru_aload_n d_Mo_layer_0 rfl rfl ?_
  refine ru_ldc2 d_Mo_layer_1 lc_Mo_104 ?_
  refine ru_callV (mc := 0) (ms := 0) d_Mo_layer_4 lm_Mo_83 (sq_took0 hL hg) (rx_recv_is (ly hL 398 9 0) kx_Mo) (by decide) rfl (Nat.le_of_ble_eq_true rfl) ?_
  rintro v τ ⟨rfl, rfl⟩
  refine ru_if_ne (tgt := 11) d_Mo_layer_7 (by decide) (fun h7 => absurd h7 (by decide)) (fun h7 => ?_)
  refine ru_vret d_Mo_layer_10 rfl ?_
  exact ⟨rfl, rfl⟩
end
