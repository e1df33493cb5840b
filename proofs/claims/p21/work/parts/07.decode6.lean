theorem dX7_tryRuler_167 : decode cX7_tryRuler 167 = .ok (.iand, 1) := by decide +kernel
theorem dX7_tryRuler_168 : decode cX7_tryRuler 168 = .ok (.ifCond .ne 58, 3) := by decide +kernel
theorem dX7_tryRuler_171 : decode cX7_tryRuler 171 = .ok (.iload 12, 2) := by decide +kernel
theorem dX7_tryRuler_173 : decode cX7_tryRuler 173 = .ok (.iload 16, 2) := by decide +kernel
theorem dX7_tryRuler_175 : decode cX7_tryRuler 175 = .ok (.ior, 1) := by decide +kernel
theorem dX7_tryRuler_176 : decode cX7_tryRuler 176 = .ok (.istore 17, 2) := by decide +kernel
theorem dX7_tryRuler_178 : decode cX7_tryRuler 178 = .ok (.iload_n 2, 1) := by decide +kernel
theorem dX7_tryRuler_179 : decode cX7_tryRuler 179 = .ok (.iload 10, 2) := by decide +kernel
theorem dX7_tryRuler_181 : decode cX7_tryRuler 181 = .ok (.iconst (-1), 1) := by decide +kernel
theorem dX7_tryRuler_182 : decode cX7_tryRuler 182 = .ok (.ixor, 1) := by decide +kernel
theorem dX7_tryRuler_183 : decode cX7_tryRuler 183 = .ok (.iand, 1) := by decide +kernel
theorem dX7_tryRuler_184 : decode cX7_tryRuler 184 = .ok (.iload 17, 2) := by decide +kernel
theorem dX7_tryRuler_186 : decode cX7_tryRuler 186 = .ok (.iload 10, 2) := by decide +kernel
theorem dX7_tryRuler_188 : decode cX7_tryRuler 188 = .ok (.iand, 1) := by decide +kernel
theorem dX7_tryRuler_189 : decode cX7_tryRuler 189 = .ok (.ior, 1) := by decide +kernel
theorem dX7_tryRuler_190 : decode cX7_tryRuler 190 = .ok (.istore 18, 2) := by decide +kernel
theorem dX7_tryRuler_192 : decode cX7_tryRuler 192 = .ok (.iload_n 3, 1) := by decide +kernel
theorem dX7_tryRuler_193 : decode cX7_tryRuler 193 = .ok (.iload 17, 2) := by decide +kernel
theorem dX7_tryRuler_195 : decode cX7_tryRuler 195 = .ok (.iload_n 2, 1) := by decide +kernel
theorem dX7_tryRuler_196 : decode cX7_tryRuler 196 = .ok (.ixor, 1) := by decide +kernel
theorem dX7_tryRuler_197 : decode cX7_tryRuler 197 = .ok (.iand, 1) := by decide +kernel
theorem dX7_tryRuler_198 : decode cX7_tryRuler 198 = .ok (.i2l, 1) := by decide +kernel
theorem dX7_tryRuler_199 : decode cX7_tryRuler 199 = .ok (.lstore 19, 2) := by decide +kernel
theorem dX7_tryRuler_201 : decode cX7_tryRuler 201 = .ok (.aload_n 0, 1) := by decide +kernel
theorem dX7_tryRuler_202 : decode cX7_tryRuler 202 = .ok (.iload_n 1, 1) := by decide +kernel
theorem dX7_tryRuler_203 : decode cX7_tryRuler 203 = .ok (.iconst 1, 1) := by decide +kernel
theorem dX7_tryRuler_204 : decode cX7_tryRuler 204 = .ok (.iadd, 1) := by decide +kernel
theorem dX7_tryRuler_205 : decode cX7_tryRuler 205 = .ok (.iload 18, 2) := by decide +kernel
theorem dX7_tryRuler_207 : decode cX7_tryRuler 207 = .ok (.lload 4, 2) := by decide +kernel
theorem dX7_tryRuler_209 : decode cX7_tryRuler 209 = .ok (.lload 19, 2) := by decide +kernel
theorem dX7_tryRuler_211 : decode cX7_tryRuler 211 = .ok (.iload 8, 2) := by decide +kernel
theorem dX7_tryRuler_213 : decode cX7_tryRuler 213 = .ok (.lshl, 1) := by decide +kernel
theorem dX7_tryRuler_214 : decode cX7_tryRuler 214 = .ok (.lor, 1) := by decide +kernel
theorem dX7_tryRuler_215 : decode cX7_tryRuler 215 = .ok (.iload 6, 2) := by decide +kernel
theorem dX7_tryRuler_217 : decode cX7_tryRuler 217 = .ok (.iload 15, 2) := by decide +kernel
theorem dX7_tryRuler_219 : decode cX7_tryRuler 219 = .ok (.iload 13, 2) := by decide +kernel
theorem dX7_tryRuler_221 : decode cX7_tryRuler 221 = .ok (.ishl, 1) := by decide +kernel
theorem dX7_tryRuler_222 : decode cX7_tryRuler 222 = .ok (.ior, 1) := by decide +kernel
theorem dX7_tryRuler_223 : decode cX7_tryRuler 223 = .ok (.invokevirtual 82, 3) := by decide +kernel
theorem dX7_tryRuler_226 : decode cX7_tryRuler 226 = .ok (.iinc 15 1, 3) := by decide +kernel
theorem dX7_tryRuler_229 : decode cX7_tryRuler 229 = .ok (.goto (-90), 3) := by decide +kernel
theorem dX7_tryRuler_232 : decode cX7_tryRuler 232 = .ok (.return_, 1) := by decide +kernel
theorem dX7_tryViews_0 : decode cX7_tryViews 0 = .ok (.iload_n 1, 1) := by decide +kernel
theorem dX7_tryViews_1 : decode cX7_tryViews 1 = .ok (.iconst 2, 1) := by decide +kernel
theorem dX7_tryViews_2 : decode cX7_tryViews 2 = .ok (.imul, 1) := by decide +kernel
theorem dX7_tryViews_3 : decode cX7_tryViews 3 = .ok (.iconst 1, 1) := by decide +kernel
theorem dX7_tryViews_4 : decode cX7_tryViews 4 = .ok (.iadd, 1) := by decide +kernel
theorem dX7_tryViews_5 : decode cX7_tryViews 5 = .ok (.bipush 9, 2) := by decide +kernel
theorem dX7_tryViews_7 : decode cX7_tryViews 7 = .ok (.imul, 1) := by decide +kernel
theorem dX7_tryViews_8 : decode cX7_tryViews 8 = .ok (.istore 7, 2) := by decide +kernel
theorem dX7_tryViews_10 : decode cX7_tryViews 10 = .ok (.iload 5, 2) := by decide +kernel
theorem dX7_tryViews_12 : decode cX7_tryViews 12 = .ok (.sipush 511, 3) := by decide +kernel
theorem dX7_tryViews_15 : decode cX7_tryViews 15 = .ok (.iand, 1) := by decide +kernel
theorem dX7_tryViews_16 : decode cX7_tryViews 16 = .ok (.invokestatic 53, 3) := by decide +kernel
theorem dX7_tryViews_19 : decode cX7_tryViews 19 = .ok (.istore 8, 2) := by decide +kernel
theorem dX7_tryViews_21 : decode cX7_tryViews 21 = .ok (.iload 5, 2) := by decide +kernel
theorem dX7_tryViews_23 : decode cX7_tryViews 23 = .ok (.bipush 9, 2) := by decide +kernel
theorem dX7_tryViews_25 : decode cX7_tryViews 25 = .ok (.iushr, 1) := by decide +kernel
theorem dX7_tryViews_26 : decode cX7_tryViews 26 = .ok (.invokestatic 53, 3) := by decide +kernel
theorem dX7_tryViews_29 : decode cX7_tryViews 29 = .ok (.istore 9, 2) := by decide +kernel
theorem dX7_tryViews_31 : decode cX7_tryViews 31 = .ok (.iconst 0, 1) := by decide +kernel
theorem dX7_tryViews_32 : decode cX7_tryViews 32 = .ok (.istore 10, 2) := by decide +kernel
theorem dX7_tryViews_34 : decode cX7_tryViews 34 = .ok (.iconst 0, 1) := by decide +kernel
theorem dX7_tryViews_35 : decode cX7_tryViews 35 = .ok (.istore 11, 2) := by decide +kernel
theorem dX7_tryViews_37 : decode cX7_tryViews 37 = .ok (.iload 11, 2) := by decide +kernel
theorem dX7_tryViews_39 : decode cX7_tryViews 39 = .ok (.aload_n 0, 1) := by decide +kernel
theorem dX7_tryViews_40 : decode cX7_tryViews 40 = .ok (.getfield 59, 3) := by decide +kernel
theorem dX7_tryViews_43 : decode cX7_tryViews 43 = .ok (.if_icmp .gt 47, 3) := by decide +kernel
theorem dX7_tryViews_46 : decode cX7_tryViews 46 = .ok (.aload_n 0, 1) := by decide +kernel
theorem dX7_tryViews_47 : decode cX7_tryViews 47 = .ok (.getfield 12, 3) := by decide +kernel
theorem dX7_tryViews_50 : decode cX7_tryViews 50 = .ok (.iload 8, 2) := by decide +kernel
theorem dX7_tryViews_52 : decode cX7_tryViews 52 = .ok (.aload_n 0, 1) := by decide +kernel
theorem dX7_tryViews_53 : decode cX7_tryViews 53 = .ok (.getfield 59, 3) := by decide +kernel
theorem dX7_tryViews_56 : decode cX7_tryViews 56 = .ok (.iadd, 1) := by decide +kernel
theorem dX7_tryViews_57 : decode cX7_tryViews 57 = .ok (.iload 11, 2) := by decide +kernel
theorem dX7_tryViews_59 : decode cX7_tryViews 59 = .ok (.isub, 1) := by decide +kernel
theorem dX7_tryViews_60 : decode cX7_tryViews 60 = .ok (.iload 9, 2) := by decide +kernel
theorem dX7_tryViews_62 : decode cX7_tryViews 62 = .ok (.iload 11, 2) := by decide +kernel
theorem dX7_tryViews_64 : decode cX7_tryViews 64 = .ok (.iadd, 1) := by decide +kernel
theorem dX7_tryViews_65 : decode cX7_tryViews 65 = .ok (.invokevirtual 127, 3) := by decide +kernel
theorem dX7_tryViews_68 : decode cX7_tryViews 68 = .ok (.istore 12, 2) := by decide +kernel
theorem dX7_tryViews_70 : decode cX7_tryViews 70 = .ok (.aload_n 0, 1) := by decide +kernel
theorem dX7_tryViews_71 : decode cX7_tryViews 71 = .ok (.iload 7, 2) := by decide +kernel
theorem dX7_tryViews_73 : decode cX7_tryViews 73 = .ok (.iload 10, 2) := by decide +kernel
theorem dX7_tryViews_75 : decode cX7_tryViews 75 = .ok (.iload 12, 2) := by decide +kernel
theorem dX7_tryViews_77 : decode cX7_tryViews 77 = .ok (.iload 11, 2) := by decide +kernel
theorem dX7_tryViews_79 : decode cX7_tryViews 79 = .ok (.invokevirtual 110, 3) := by decide +kernel
theorem dX7_tryViews_82 : decode cX7_tryViews 82 = .ok (.istore 10, 2) := by decide +kernel
theorem dX7_tryViews_84 : decode cX7_tryViews 84 = .ok (.iinc 11 1, 3) := by decide +kernel
theorem dX7_tryViews_87 : decode cX7_tryViews 87 = .ok (.goto (-50), 3) := by decide +kernel
theorem dX7_tryViews_90 : decode cX7_tryViews 90 = .ok (.aload_n 0, 1) := by decide +kernel
theorem dX7_tryViews_91 : decode cX7_tryViews 91 = .ok (.getfield 22, 3) := by decide +kernel
theorem dX7_tryViews_94 : decode cX7_tryViews 94 = .ok (.iload_n 1, 1) := by decide +kernel
theorem dX7_tryViews_95 : decode cX7_tryViews 95 = .ok (.iaload, 1) := by decide +kernel
theorem dX7_tryViews_96 : decode cX7_tryViews 96 = .ok (.aload_n 0, 1) := by decide +kernel
theorem dX7_tryViews_97 : decode cX7_tryViews 97 = .ok (.getfield 12, 3) := by decide +kernel
theorem dX7_tryViews_100 : decode cX7_tryViews 100 = .ok (.getfield 93, 3) := by decide +kernel
theorem dX7_tryViews_103 : decode cX7_tryViews 103 = .ok (.ifCond .ne 15, 3) := by decide +kernel
theorem dX7_tryViews_106 : decode cX7_tryViews 106 = .ok (.aload_n 0, 1) := by decide +kernel
theorem dX7_tryViews_107 : decode cX7_tryViews 107 = .ok (.getfield 59, 3) := by decide +kernel
theorem dX7_tryViews_110 : decode cX7_tryViews 110 = .ok (.aload_n 0, 1) := by decide +kernel
theorem dX7_tryViews_111 : decode cX7_tryViews 111 = .ok (.getfield 62, 3) := by decide +kernel
theorem dX7_tryViews_114 : decode cX7_tryViews 114 = .ok (.imul, 1) := by decide +kernel
theorem dX7_tryViews_115 : decode cX7_tryViews 115 = .ok (.goto 4, 3) := by decide +kernel
theorem dX7_tryViews_118 : decode cX7_tryViews 118 = .ok (.iconst 0, 1) := by decide +kernel
theorem dX7_tryViews_119 : decode cX7_tryViews 119 = .ok (.iadd, 1) := by decide +kernel
theorem dX7_tryViews_120 : decode cX7_tryViews 120 = .ok (.istore 11, 2) := by decide +kernel
theorem dX7_tryViews_122 : decode cX7_tryViews 122 = .ok (.aload_n 0, 1) := by decide +kernel
theorem dX7_tryViews_123 : decode cX7_tryViews 123 = .ok (.iload 10, 2) := by decide +kernel
theorem dX7_tryViews_125 : decode cX7_tryViews 125 = .ok (.invokevirtual 114, 3) := by decide +kernel
theorem dX7_tryViews_128 : decode cX7_tryViews 128 = .ok (.istore 12, 2) := by decide +kernel
theorem dX7_tryViews_130 : decode cX7_tryViews 130 = .ok (.iconst 0, 1) := by decide +kernel
theorem dX7_tryViews_131 : decode cX7_tryViews 131 = .ok (.istore 13, 2) := by decide +kernel
theorem dX7_tryViews_133 : decode cX7_tryViews 133 = .ok (.iload 13, 2) := by decide +kernel
theorem dX7_tryViews_135 : decode cX7_tryViews 135 = .ok (.iload 12, 2) := by decide +kernel
theorem dX7_tryViews_137 : decode cX7_tryViews 137 = .ok (.if_icmp .ge 143, 3) := by decide +kernel
theorem dX7_tryViews_140 : decode cX7_tryViews 140 = .ok (.aload_n 0, 1) := by decide +kernel
theorem dX7_tryViews_141 : decode cX7_tryViews 141 = .ok (.invokevirtual 117, 3) := by decide +kernel
theorem dX7_tryViews_144 : decode cX7_tryViews 144 = .ok (.ifCond .ne 136, 3) := by decide +kernel
theorem dX7_tryViews_147 : decode cX7_tryViews 147 = .ok (.iload_n 2, 1) := by decide +kernel
theorem dX7_tryViews_148 : decode cX7_tryViews 148 = .ok (.istore 14, 2) := by decide +kernel
theorem dX7_tryViews_150 : decode cX7_tryViews 150 = .ok (.iconst 0, 1) := by decide +kernel
theorem dX7_tryViews_151 : decode cX7_tryViews 151 = .ok (.istore 15, 2) := by decide +kernel
theorem dX7_tryViews_153 : decode cX7_tryViews 153 = .ok (.iload 13, 2) := by decide +kernel
theorem dX7_tryViews_155 : decode cX7_tryViews 155 = .ok (.istore 16, 2) := by decide +kernel
theorem dX7_tryViews_157 : decode cX7_tryViews 157 = .ok (.iload 6, 2) := by decide +kernel
theorem dX7_tryViews_159 : decode cX7_tryViews 159 = .ok (.istore 17, 2) := by decide +kernel
theorem dX7_tryViews_161 : decode cX7_tryViews 161 = .ok (.iconst 0, 1) := by decide +kernel
theorem dX7_tryViews_162 : decode cX7_tryViews 162 = .ok (.istore 18, 2) := by decide +kernel
theorem dX7_tryViews_164 : decode cX7_tryViews 164 = .ok (.iload 18, 2) := by decide +kernel
theorem dX7_tryViews_166 : decode cX7_tryViews 166 = .ok (.aload_n 0, 1) := by decide +kernel
theorem dX7_tryViews_167 : decode cX7_tryViews 167 = .ok (.getfield 62, 3) := by decide +kernel
theorem dX7_tryViews_170 : decode cX7_tryViews 170 = .ok (.if_icmp .ge 92, 3) := by decide +kernel
theorem dX7_tryViews_173 : decode cX7_tryViews 173 = .ok (.iload 7, 2) := by decide +kernel
theorem dX7_tryViews_175 : decode cX7_tryViews 175 = .ok (.iload 16, 2) := by decide +kernel
theorem dX7_tryViews_177 : decode cX7_tryViews 177 = .ok (.iload 10, 2) := by decide +kernel
theorem dX7_tryViews_179 : decode cX7_tryViews 179 = .ok (.irem, 1) := by decide +kernel
theorem dX7_tryViews_180 : decode cX7_tryViews 180 = .ok (.iadd, 1) := by decide +kernel
theorem dX7_tryViews_181 : decode cX7_tryViews 181 = .ok (.istore 19, 2) := by decide +kernel
theorem dX7_tryViews_183 : decode cX7_tryViews 183 = .ok (.iload 16, 2) := by decide +kernel
theorem dX7_tryViews_185 : decode cX7_tryViews 185 = .ok (.iload 10, 2) := by decide +kernel
theorem dX7_tryViews_187 : decode cX7_tryViews 187 = .ok (.idiv, 1) := by decide +kernel
theorem dX7_tryViews_188 : decode cX7_tryViews 188 = .ok (.istore 16, 2) := by decide +kernel
theorem dX7_tryViews_190 : decode cX7_tryViews 190 = .ok (.iload 14, 2) := by decide +kernel
theorem dX7_tryViews_192 : decode cX7_tryViews 192 = .ok (.iconst 1, 1) := by decide +kernel
theorem dX7_tryViews_193 : decode cX7_tryViews 193 = .ok (.aload_n 0, 1) := by decide +kernel
theorem dX7_tryViews_194 : decode cX7_tryViews 194 = .ok (.getfield 18, 3) := by decide +kernel
theorem dX7_tryViews_197 : decode cX7_tryViews 197 = .ok (.iload 18, 2) := by decide +kernel
theorem dX7_tryViews_199 : decode cX7_tryViews 199 = .ok (.iaload, 1) := by decide +kernel
theorem dX7_tryViews_200 : decode cX7_tryViews 200 = .ok (.ishl, 1) := by decide +kernel
theorem dX7_tryViews_201 : decode cX7_tryViews 201 = .ok (.aload_n 0, 1) := by decide +kernel
theorem dX7_tryViews_202 : decode cX7_tryViews 202 = .ok (.getfield 25, 3) := by decide +kernel
theorem dX7_tryViews_205 : decode cX7_tryViews 205 = .ok (.iload 19, 2) := by decide +kernel
theorem dX7_tryViews_207 : decode cX7_tryViews 207 = .ok (.iaload, 1) := by decide +kernel
theorem dX7_tryViews_208 : decode cX7_tryViews 208 = .ok (.invokestatic 130, 3) := by decide +kernel
theorem dX7_tryViews_211 : decode cX7_tryViews 211 = .ok (.istore 14, 2) := by decide +kernel
theorem dX7_tryViews_213 : decode cX7_tryViews 213 = .ok (.iload 15, 2) := by decide +kernel
theorem dX7_tryViews_215 : decode cX7_tryViews 215 = .ok (.aload_n 0, 1) := by decide +kernel
theorem dX7_tryViews_216 : decode cX7_tryViews 216 = .ok (.getfield 25, 3) := by decide +kernel
theorem dX7_tryViews_219 : decode cX7_tryViews 219 = .ok (.iload 19, 2) := by decide +kernel
theorem dX7_tryViews_221 : decode cX7_tryViews 221 = .ok (.iaload, 1) := by decide +kernel
theorem dX7_tryViews_222 : decode cX7_tryViews 222 = .ok (.iconst 4, 1) := by decide +kernel
theorem dX7_tryViews_223 : decode cX7_tryViews 223 = .ok (.idiv, 1) := by decide +kernel
theorem dX7_tryViews_224 : decode cX7_tryViews 224 = .ok (.aload_n 0, 1) := by decide +kernel
theorem dX7_tryViews_225 : decode cX7_tryViews 225 = .ok (.getfield 18, 3) := by decide +kernel
theorem dX7_tryViews_228 : decode cX7_tryViews 228 = .ok (.iload 18, 2) := by decide +kernel
theorem dX7_tryViews_230 : decode cX7_tryViews 230 = .ok (.iaload, 1) := by decide +kernel
theorem dX7_tryViews_231 : decode cX7_tryViews 231 = .ok (.ishl, 1) := by decide +kernel
theorem dX7_tryViews_232 : decode cX7_tryViews 232 = .ok (.ior, 1) := by decide +kernel
theorem dX7_tryViews_233 : decode cX7_tryViews 233 = .ok (.istore 15, 2) := by decide +kernel
theorem dX7_tryViews_235 : decode cX7_tryViews 235 = .ok (.iload 17, 2) := by decide +kernel
theorem dX7_tryViews_237 : decode cX7_tryViews 237 = .ok (.aload_n 0, 1) := by decide +kernel
theorem dX7_tryViews_238 : decode cX7_tryViews 238 = .ok (.aload_n 0, 1) := by decide +kernel
theorem dX7_tryViews_239 : decode cX7_tryViews 239 = .ok (.getfield 28, 3) := by decide +kernel
theorem dX7_tryViews_242 : decode cX7_tryViews 242 = .ok (.iload 19, 2) := by decide +kernel
theorem dX7_tryViews_244 : decode cX7_tryViews 244 = .ok (.iaload, 1) := by decide +kernel
theorem dX7_tryViews_245 : decode cX7_tryViews 245 = .ok (.iload 11, 2) := by decide +kernel
theorem dX7_tryViews_247 : decode cX7_tryViews 247 = .ok (.iload 18, 2) := by decide +kernel
theorem dX7_tryViews_249 : decode cX7_tryViews 249 = .ok (.iadd, 1) := by decide +kernel
theorem dX7_tryViews_250 : decode cX7_tryViews 250 = .ok (.invokevirtual 124, 3) := by decide +kernel
theorem dX7_tryViews_253 : decode cX7_tryViews 253 = .ok (.ior, 1) := by decide +kernel
theorem dX7_tryViews_254 : decode cX7_tryViews 254 = .ok (.istore 17, 2) := by decide +kernel
theorem dX7_tryViews_256 : decode cX7_tryViews 256 = .ok (.iinc 18 1, 3) := by decide +kernel
theorem dX7_tryViews_259 : decode cX7_tryViews 259 = .ok (.goto (-95), 3) := by decide +kernel
theorem dX7_tryViews_262 : decode cX7_tryViews 262 = .ok (.aload_n 0, 1) := by decide +kernel
theorem dX7_tryViews_263 : decode cX7_tryViews 263 = .ok (.iload_n 1, 1) := by decide +kernel
theorem dX7_tryViews_264 : decode cX7_tryViews 264 = .ok (.iload 14, 2) := by decide +kernel
theorem dX7_tryViews_266 : decode cX7_tryViews 266 = .ok (.iload 15, 2) := by decide +kernel
theorem dX7_tryViews_268 : decode cX7_tryViews 268 = .ok (.lload_n 3, 1) := by decide +kernel
theorem dX7_tryViews_269 : decode cX7_tryViews 269 = .ok (.iload 17, 2) := by decide +kernel
theorem dX7_tryViews_271 : decode cX7_tryViews 271 = .ok (.invokevirtual 134, 3) := by decide +kernel
theorem dX7_tryViews_274 : decode cX7_tryViews 274 = .ok (.iinc 13 1, 3) := by decide +kernel
theorem dX7_tryViews_277 : decode cX7_tryViews 277 = .ok (.goto (-144), 3) := by decide +kernel
theorem dX7_tryViews_280 : decode cX7_tryViews 280 = .ok (.return_, 1) := by decide +kernel
theorem dX7_wordOf_0 : decode cX7_wordOf 0 = .ok (.iload_n 0, 1) := by decide +kernel
theorem dX7_wordOf_1 : decode cX7_wordOf 1 = .ok (.iconst 2, 1) := by decide +kernel
theorem dX7_wordOf_2 : decode cX7_wordOf 2 = .ok (.if_icmp .ne 7, 3) := by decide +kernel
theorem dX7_wordOf_5 : decode cX7_wordOf 5 = .ok (.iconst 0, 1) := by decide +kernel
theorem dX7_wordOf_6 : decode cX7_wordOf 6 = .ok (.goto 11, 3) := by decide +kernel
theorem dX7_wordOf_9 : decode cX7_wordOf 9 = .ok (.iconst 1, 1) := by decide +kernel
theorem dX7_wordOf_10 : decode cX7_wordOf 10 = .ok (.iload_n 1, 1) := by decide +kernel
theorem dX7_wordOf_11 : decode cX7_wordOf 11 = .ok (.iload_n 0, 1) := by decide +kernel
theorem dX7_wordOf_12 : decode cX7_wordOf 12 = .ok (.bipush 9, 2) := by decide +kernel
theorem dX7_wordOf_14 : decode cX7_wordOf 14 = .ok (.imul, 1) := by decide +kernel
theorem dX7_wordOf_15 : decode cX7_wordOf 15 = .ok (.iadd, 1) := by decide +kernel
theorem dX7_wordOf_16 : decode cX7_wordOf 16 = .ok (.ishl, 1) := by decide +kernel
theorem dX7_wordOf_17 : decode cX7_wordOf 17 = .ok (.ireturn, 1) := by decide +kernel
theorem dX8_add_0 : decode cX8_add 0 = .ok (.aload_n 0, 1) := by decide +kernel
theorem dX8_add_1 : decode cX8_add 1 = .ok (.getfield 19, 3) := by decide +kernel
theorem dX8_add_4 : decode cX8_add 4 = .ok (.aload_n 0, 1) := by decide +kernel
theorem dX8_add_5 : decode cX8_add 5 = .ok (.getfield 11, 3) := by decide +kernel
theorem dX8_add_8 : decode cX8_add 8 = .ok (.arraylength, 1) := by decide +kernel
theorem dX8_add_9 : decode cX8_add 9 = .ok (.if_icmp .ge 23, 3) := by decide +kernel
theorem dX8_add_12 : decode cX8_add 12 = .ok (.aload_n 0, 1) := by decide +kernel
theorem dX8_add_13 : decode cX8_add 13 = .ok (.getfield 11, 3) := by decide +kernel
theorem dX8_add_16 : decode cX8_add 16 = .ok (.aload_n 0, 1) := by decide +kernel
theorem dX8_add_17 : decode cX8_add 17 = .ok (.getfield 19, 3) := by decide +kernel
theorem dX8_add_20 : decode cX8_add 20 = .ok (.iload_n 1, 1) := by decide +kernel
theorem dX8_add_21 : decode cX8_add 21 = .ok (.iastore, 1) := by decide +kernel
theorem dX8_add_22 : decode cX8_add 22 = .ok (.aload_n 0, 1) := by decide +kernel
theorem dX8_add_23 : decode cX8_add 23 = .ok (.dup, 1) := by decide +kernel
theorem dX8_add_24 : decode cX8_add 24 = .ok (.getfield 19, 3) := by decide +kernel
theorem dX8_add_27 : decode cX8_add 27 = .ok (.iconst 1, 1) := by decide +kernel
theorem dX8_add_28 : decode cX8_add 28 = .ok (.iadd, 1) := by decide +kernel
theorem dX8_add_29 : decode cX8_add 29 = .ok (.putfield 19, 3) := by decide +kernel
theorem dX8_add_32 : decode cX8_add 32 = .ok (.return_, 1) := by decide +kernel
theorem dX8_digitAt_0 : decode cX8_digitAt 0 = .ok (.iload_n 1, 1) := by decide +kernel
theorem dX8_digitAt_1 : decode cX8_digitAt 1 = .ok (.ifCond .lt 28, 3) := by decide +kernel
theorem dX8_digitAt_4 : decode cX8_digitAt 4 = .ok (.iload_n 1, 1) := by decide +kernel
theorem dX8_digitAt_5 : decode cX8_digitAt 5 = .ok (.aload_n 0, 1) := by decide +kernel
theorem dX8_digitAt_6 : decode cX8_digitAt 6 = .ok (.invokevirtual 52, 3) := by decide +kernel
theorem dX8_digitAt_9 : decode cX8_digitAt 9 = .ok (.if_icmp .ge 20, 3) := by decide +kernel
theorem dX8_digitAt_12 : decode cX8_digitAt 12 = .ok (.aload_n 0, 1) := by decide +kernel
theorem dX8_digitAt_13 : decode cX8_digitAt 13 = .ok (.getfield 11, 3) := by decide +kernel
theorem dX8_digitAt_16 : decode cX8_digitAt 16 = .ok (.aload_n 0, 1) := by decide +kernel
theorem dX8_digitAt_17 : decode cX8_digitAt 17 = .ok (.getfield 42, 3) := by decide +kernel
theorem dX8_digitAt_20 : decode cX8_digitAt 20 = .ok (.iload_n 1, 1) := by decide +kernel
theorem dX8_digitAt_21 : decode cX8_digitAt 21 = .ok (.iadd, 1) := by decide +kernel
theorem dX8_digitAt_22 : decode cX8_digitAt 22 = .ok (.iaload, 1) := by decide +kernel
theorem dX8_digitAt_23 : decode cX8_digitAt 23 = .ok (.bipush 48, 2) := by decide +kernel
theorem dX8_digitAt_25 : decode cX8_digitAt 25 = .ok (.isub, 1) := by decide +kernel
theorem dX8_digitAt_26 : decode cX8_digitAt 26 = .ok (.goto 4, 3) := by decide +kernel
theorem dX8_digitAt_29 : decode cX8_digitAt 29 = .ok (.iconst (-1), 1) := by decide +kernel
theorem dX8_digitAt_30 : decode cX8_digitAt 30 = .ok (.ireturn, 1) := by decide +kernel
theorem dX8_digits_0 : decode cX8_digits 0 = .ok (.aload_n 0, 1) := by decide +kernel
theorem dX8_digits_1 : decode cX8_digits 1 = .ok (.getfield 45, 3) := by decide +kernel
theorem dX8_digits_4 : decode cX8_digits 4 = .ok (.iconst 3, 1) := by decide +kernel
theorem dX8_digits_5 : decode cX8_digits 5 = .ok (.if_icmp .ne 15, 3) := by decide +kernel
theorem dX8_digits_8 : decode cX8_digits 8 = .ok (.aload_n 0, 1) := by decide +kernel
theorem dX8_digits_9 : decode cX8_digits 9 = .ok (.getfield 36, 3) := by decide +kernel
theorem dX8_digits_12 : decode cX8_digits 12 = .ok (.aload_n 0, 1) := by decide +kernel
theorem dX8_digits_13 : decode cX8_digits 13 = .ok (.getfield 42, 3) := by decide +kernel
theorem dX8_digits_16 : decode cX8_digits 16 = .ok (.isub, 1) := by decide +kernel
theorem dX8_digits_17 : decode cX8_digits 17 = .ok (.goto 4, 3) := by decide +kernel
theorem dX8_digits_20 : decode cX8_digits 20 = .ok (.iconst 0, 1) := by decide +kernel
theorem dX8_digits_21 : decode cX8_digits 21 = .ok (.ireturn, 1) := by decide +kernel
theorem dX8_firstPart_0 : decode cX8_firstPart 0 = .ok (.aload_n 0, 1) := by decide +kernel
theorem dX8_firstPart_1 : decode cX8_firstPart 1 = .ok (.iconst 0, 1) := by decide +kernel
theorem dX8_firstPart_2 : decode cX8_firstPart 2 = .ok (.putfield 36, 3) := by decide +kernel
theorem dX8_firstPart_5 : decode cX8_firstPart 5 = .ok (.aload_n 0, 1) := by decide +kernel
theorem dX8_firstPart_6 : decode cX8_firstPart 6 = .ok (.invokevirtual 39, 3) := by decide +kernel
theorem dX8_firstPart_9 : decode cX8_firstPart 9 = .ok (.return_, 1) := by decide +kernel
theorem dX8_init_0 : decode cX8_init 0 = .ok (.aload_n 0, 1) := by decide +kernel
theorem dX8_init_1 : decode cX8_init 1 = .ok (.invokespecial 3, 3) := by decide +kernel
theorem dX8_init_4 : decode cX8_init 4 = .ok (.aload_n 0, 1) := by decide +kernel
theorem dX8_init_5 : decode cX8_init 5 = .ok (.sipush 520, 3) := by decide +kernel
theorem dX8_init_8 : decode cX8_init 8 = .ok (.newarray .int, 2) := by decide +kernel
theorem dX8_init_10 : decode cX8_init 10 = .ok (.putfield 11, 3) := by decide +kernel
theorem dX8_init_13 : decode cX8_init 13 = .ok (.return_, 1) := by decide +kernel
theorem dX8_isWord_0 : decode cX8_isWord 0 = .ok (.aload_n 0, 1) := by decide +kernel
theorem dX8_isWord_1 : decode cX8_isWord 1 = .ok (.getfield 45, 3) := by decide +kernel
theorem dX8_isWord_4 : decode cX8_isWord 4 = .ok (.iconst 2, 1) := by decide +kernel
theorem dX8_isWord_5 : decode cX8_isWord 5 = .ok (.if_icmp .ne 19, 3) := by decide +kernel
theorem dX8_isWord_8 : decode cX8_isWord 8 = .ok (.aload_n 0, 1) := by decide +kernel
theorem dX8_isWord_9 : decode cX8_isWord 9 = .ok (.getfield 36, 3) := by decide +kernel
theorem dX8_isWord_12 : decode cX8_isWord 12 = .ok (.aload_n 0, 1) := by decide +kernel
theorem dX8_isWord_13 : decode cX8_isWord 13 = .ok (.getfield 42, 3) := by decide +kernel
theorem dX8_isWord_16 : decode cX8_isWord 16 = .ok (.isub, 1) := by decide +kernel
theorem dX8_isWord_17 : decode cX8_isWord 17 = .ok (.aload_n 1, 1) := by decide +kernel
theorem dX8_isWord_18 : decode cX8_isWord 18 = .ok (.invokevirtual 23, 3) := by decide +kernel
theorem dX8_isWord_21 : decode cX8_isWord 21 = .ok (.if_icmp .eq 5, 3) := by decide +kernel
theorem dX8_isWord_24 : decode cX8_isWord 24 = .ok (.iconst 0, 1) := by decide +kernel
theorem dX8_isWord_25 : decode cX8_isWord 25 = .ok (.ireturn, 1) := by decide +kernel
theorem dX8_isWord_26 : decode cX8_isWord 26 = .ok (.iconst 0, 1) := by decide +kernel
theorem dX8_isWord_27 : decode cX8_isWord 27 = .ok (.istore_n 2, 1) := by decide +kernel
theorem dX8_isWord_28 : decode cX8_isWord 28 = .ok (.iload_n 2, 1) := by decide +kernel
theorem dX8_isWord_29 : decode cX8_isWord 29 = .ok (.aload_n 1, 1) := by decide +kernel
theorem dX8_isWord_30 : decode cX8_isWord 30 = .ok (.invokevirtual 23, 3) := by decide +kernel
theorem dX8_isWord_33 : decode cX8_isWord 33 = .ok (.if_icmp .ge 30, 3) := by decide +kernel
theorem dX8_isWord_36 : decode cX8_isWord 36 = .ok (.aload_n 0, 1) := by decide +kernel
theorem dX8_isWord_37 : decode cX8_isWord 37 = .ok (.getfield 11, 3) := by decide +kernel
theorem dX8_isWord_40 : decode cX8_isWord 40 = .ok (.aload_n 0, 1) := by decide +kernel
theorem dX8_isWord_41 : decode cX8_isWord 41 = .ok (.getfield 42, 3) := by decide +kernel
theorem dX8_isWord_44 : decode cX8_isWord 44 = .ok (.iload_n 2, 1) := by decide +kernel
theorem dX8_isWord_45 : decode cX8_isWord 45 = .ok (.iadd, 1) := by decide +kernel
theorem dX8_isWord_46 : decode cX8_isWord 46 = .ok (.iaload, 1) := by decide +kernel
theorem dX8_isWord_47 : decode cX8_isWord 47 = .ok (.aload_n 1, 1) := by decide +kernel
theorem dX8_isWord_48 : decode cX8_isWord 48 = .ok (.iload_n 2, 1) := by decide +kernel
theorem dX8_isWord_49 : decode cX8_isWord 49 = .ok (.invokevirtual 28, 3) := by decide +kernel
theorem dX8_isWord_52 : decode cX8_isWord 52 = .ok (.if_icmp .eq 5, 3) := by decide +kernel
theorem dX8_isWord_55 : decode cX8_isWord 55 = .ok (.iconst 0, 1) := by decide +kernel
theorem dX8_isWord_56 : decode cX8_isWord 56 = .ok (.ireturn, 1) := by decide +kernel
theorem dX8_isWord_57 : decode cX8_isWord 57 = .ok (.iinc 2 1, 3) := by decide +kernel
theorem dX8_isWord_60 : decode cX8_isWord 60 = .ok (.goto (-32), 3) := by decide +kernel
theorem dX8_isWord_63 : decode cX8_isWord 63 = .ok (.iconst 1, 1) := by decide +kernel
theorem dX8_isWord_64 : decode cX8_isWord 64 = .ok (.ireturn, 1) := by decide +kernel
theorem dX8_kindOf_0 : decode cX8_kindOf 0 = .ok (.iload_n 0, 1) := by decide +kernel
theorem dX8_kindOf_1 : decode cX8_kindOf 1 = .ok (.bipush 97, 2) := by decide +kernel
theorem dX8_kindOf_3 : decode cX8_kindOf 3 = .ok (.if_icmp .lt 11, 3) := by decide +kernel
theorem dX8_kindOf_6 : decode cX8_kindOf 6 = .ok (.iload_n 0, 1) := by decide +kernel
theorem dX8_kindOf_7 : decode cX8_kindOf 7 = .ok (.bipush 122, 2) := by decide +kernel
theorem dX8_kindOf_9 : decode cX8_kindOf 9 = .ok (.if_icmp .gt 5, 3) := by decide +kernel
theorem dX8_kindOf_12 : decode cX8_kindOf 12 = .ok (.iconst 2, 1) := by decide +kernel
theorem dX8_kindOf_13 : decode cX8_kindOf 13 = .ok (.ireturn, 1) := by decide +kernel
theorem dX8_kindOf_14 : decode cX8_kindOf 14 = .ok (.iload_n 0, 1) := by decide +kernel
theorem dX8_kindOf_15 : decode cX8_kindOf 15 = .ok (.bipush 48, 2) := by decide +kernel
theorem dX8_kindOf_17 : decode cX8_kindOf 17 = .ok (.if_icmp .lt 11, 3) := by decide +kernel
theorem dX8_kindOf_20 : decode cX8_kindOf 20 = .ok (.iload_n 0, 1) := by decide +kernel
theorem dX8_kindOf_21 : decode cX8_kindOf 21 = .ok (.bipush 57, 2) := by decide +kernel
theorem dX8_kindOf_23 : decode cX8_kindOf 23 = .ok (.if_icmp .gt 5, 3) := by decide +kernel
theorem dX8_kindOf_26 : decode cX8_kindOf 26 = .ok (.iconst 3, 1) := by decide +kernel
theorem dX8_kindOf_27 : decode cX8_kindOf 27 = .ok (.ireturn, 1) := by decide +kernel
theorem dX8_kindOf_28 : decode cX8_kindOf 28 = .ok (.iload_n 0, 1) := by decide +kernel
theorem dX8_kindOf_29 : decode cX8_kindOf 29 = .ok (.bipush 59, 2) := by decide +kernel
theorem dX8_kindOf_31 : decode cX8_kindOf 31 = .ok (.if_icmp .ne 7, 3) := by decide +kernel
theorem dX8_kindOf_34 : decode cX8_kindOf 34 = .ok (.iconst 1, 1) := by decide +kernel
theorem dX8_kindOf_35 : decode cX8_kindOf 35 = .ok (.goto 4, 3) := by decide +kernel
theorem dX8_kindOf_38 : decode cX8_kindOf 38 = .ok (.iconst 4, 1) := by decide +kernel
theorem dX8_kindOf_39 : decode cX8_kindOf 39 = .ok (.ireturn, 1) := by decide +kernel
theorem dX8_nextPart_0 : decode cX8_nextPart 0 = .ok (.aload_n 0, 1) := by decide +kernel
theorem dX8_nextPart_1 : decode cX8_nextPart 1 = .ok (.getfield 36, 3) := by decide +kernel
theorem dX8_nextPart_4 : decode cX8_nextPart 4 = .ok (.istore_n 1, 1) := by decide +kernel
theorem dX8_nextPart_5 : decode cX8_nextPart 5 = .ok (.iload_n 1, 1) := by decide +kernel
theorem dX8_nextPart_6 : decode cX8_nextPart 6 = .ok (.aload_n 0, 1) := by decide +kernel
theorem dX8_nextPart_7 : decode cX8_nextPart 7 = .ok (.getfield 19, 3) := by decide +kernel
theorem dX8_nextPart_10 : decode cX8_nextPart 10 = .ok (.if_icmp .ge 20, 3) := by decide +kernel
theorem dX8_nextPart_13 : decode cX8_nextPart 13 = .ok (.aload_n 0, 1) := by decide +kernel
theorem dX8_nextPart_14 : decode cX8_nextPart 14 = .ok (.getfield 11, 3) := by decide +kernel
theorem dX8_nextPart_17 : decode cX8_nextPart 17 = .ok (.iload_n 1, 1) := by decide +kernel
theorem dX8_nextPart_18 : decode cX8_nextPart 18 = .ok (.iaload, 1) := by decide +kernel
theorem dX8_nextPart_19 : decode cX8_nextPart 19 = .ok (.bipush 32, 2) := by decide +kernel
theorem dX8_nextPart_21 : decode cX8_nextPart 21 = .ok (.if_icmp .ne 9, 3) := by decide +kernel
theorem dX8_nextPart_24 : decode cX8_nextPart 24 = .ok (.iinc 1 1, 3) := by decide +kernel
theorem dX8_nextPart_27 : decode cX8_nextPart 27 = .ok (.goto (-22), 3) := by decide +kernel
theorem dX8_nextPart_30 : decode cX8_nextPart 30 = .ok (.aload_n 0, 1) := by decide +kernel
theorem dX8_nextPart_31 : decode cX8_nextPart 31 = .ok (.iload_n 1, 1) := by decide +kernel
theorem dX8_nextPart_32 : decode cX8_nextPart 32 = .ok (.putfield 42, 3) := by decide +kernel
theorem dX8_nextPart_35 : decode cX8_nextPart 35 = .ok (.aload_n 0, 1) := by decide +kernel
theorem dX8_nextPart_36 : decode cX8_nextPart 36 = .ok (.iconst 0, 1) := by decide +kernel
theorem dX8_nextPart_37 : decode cX8_nextPart 37 = .ok (.putfield 45, 3) := by decide +kernel
theorem dX8_nextPart_40 : decode cX8_nextPart 40 = .ok (.iload_n 1, 1) := by decide +kernel
theorem dX8_nextPart_41 : decode cX8_nextPart 41 = .ok (.aload_n 0, 1) := by decide +kernel
theorem dX8_nextPart_42 : decode cX8_nextPart 42 = .ok (.getfield 19, 3) := by decide +kernel
theorem dX8_nextPart_45 : decode cX8_nextPart 45 = .ok (.if_icmp .ge 19, 3) := by decide +kernel
theorem dX8_nextPart_48 : decode cX8_nextPart 48 = .ok (.aload_n 0, 1) := by decide +kernel
theorem dX8_nextPart_49 : decode cX8_nextPart 49 = .ok (.aload_n 0, 1) := by decide +kernel
theorem dX8_nextPart_50 : decode cX8_nextPart 50 = .ok (.getfield 11, 3) := by decide +kernel
theorem dX8_nextPart_53 : decode cX8_nextPart 53 = .ok (.iload_n 1, 1) := by decide +kernel
theorem dX8_nextPart_54 : decode cX8_nextPart 54 = .ok (.iaload, 1) := by decide +kernel
theorem dX8_nextPart_55 : decode cX8_nextPart 55 = .ok (.invokestatic 48, 3) := by decide +kernel
theorem dX8_nextPart_58 : decode cX8_nextPart 58 = .ok (.putfield 45, 3) := by decide +kernel
theorem dX8_nextPart_61 : decode cX8_nextPart 61 = .ok (.iinc 1 1, 3) := by decide +kernel
theorem dX8_nextPart_64 : decode cX8_nextPart 64 = .ok (.aload_n 0, 1) := by decide +kernel
theorem dX8_nextPart_65 : decode cX8_nextPart 65 = .ok (.getfield 45, 3) := by decide +kernel
theorem dX8_nextPart_68 : decode cX8_nextPart 68 = .ok (.iconst 2, 1) := by decide +kernel
theorem dX8_nextPart_69 : decode cX8_nextPart 69 = .ok (.if_icmp .eq 11, 3) := by decide +kernel
theorem dX8_nextPart_72 : decode cX8_nextPart 72 = .ok (.aload_n 0, 1) := by decide +kernel
theorem dX8_nextPart_73 : decode cX8_nextPart 73 = .ok (.getfield 45, 3) := by decide +kernel
theorem dX8_nextPart_76 : decode cX8_nextPart 76 = .ok (.iconst 3, 1) := by decide +kernel
theorem dX8_nextPart_77 : decode cX8_nextPart 77 = .ok (.if_icmp .ne 7, 3) := by decide +kernel
theorem dX8_nextPart_80 : decode cX8_nextPart 80 = .ok (.iconst 1, 1) := by decide +kernel
theorem dX8_nextPart_81 : decode cX8_nextPart 81 = .ok (.goto 4, 3) := by decide +kernel
theorem dX8_nextPart_84 : decode cX8_nextPart 84 = .ok (.iconst 0, 1) := by decide +kernel
theorem dX8_nextPart_85 : decode cX8_nextPart 85 = .ok (.istore_n 2, 1) := by decide +kernel
theorem dX8_nextPart_86 : decode cX8_nextPart 86 = .ok (.iload_n 2, 1) := by decide +kernel
theorem dX8_nextPart_87 : decode cX8_nextPart 87 = .ok (.ifCond .eq 33, 3) := by decide +kernel
theorem dX8_nextPart_90 : decode cX8_nextPart 90 = .ok (.iload_n 1, 1) := by decide +kernel
theorem dX8_nextPart_91 : decode cX8_nextPart 91 = .ok (.aload_n 0, 1) := by decide +kernel
theorem dX8_nextPart_92 : decode cX8_nextPart 92 = .ok (.getfield 19, 3) := by decide +kernel
theorem dX8_nextPart_95 : decode cX8_nextPart 95 = .ok (.if_icmp .ge 25, 3) := by decide +kernel
theorem dX8_nextPart_98 : decode cX8_nextPart 98 = .ok (.aload_n 0, 1) := by decide +kernel
theorem dX8_nextPart_99 : decode cX8_nextPart 99 = .ok (.getfield 11, 3) := by decide +kernel
theorem dX8_nextPart_102 : decode cX8_nextPart 102 = .ok (.iload_n 1, 1) := by decide +kernel
theorem dX8_nextPart_103 : decode cX8_nextPart 103 = .ok (.iaload, 1) := by decide +kernel
theorem dX8_nextPart_104 : decode cX8_nextPart 104 = .ok (.invokestatic 48, 3) := by decide +kernel
theorem dX8_nextPart_107 : decode cX8_nextPart 107 = .ok (.aload_n 0, 1) := by decide +kernel
theorem dX8_nextPart_108 : decode cX8_nextPart 108 = .ok (.getfield 45, 3) := by decide +kernel
theorem dX8_nextPart_111 : decode cX8_nextPart 111 = .ok (.if_icmp .ne 9, 3) := by decide +kernel
theorem dX8_nextPart_114 : decode cX8_nextPart 114 = .ok (.iinc 1 1, 3) := by decide +kernel
theorem dX8_nextPart_117 : decode cX8_nextPart 117 = .ok (.goto (-31), 3) := by decide +kernel
theorem dX8_nextPart_120 : decode cX8_nextPart 120 = .ok (.aload_n 0, 1) := by decide +kernel
theorem dX8_nextPart_121 : decode cX8_nextPart 121 = .ok (.iload_n 1, 1) := by decide +kernel
theorem dX8_nextPart_122 : decode cX8_nextPart 122 = .ok (.putfield 36, 3) := by decide +kernel
theorem dX8_nextPart_125 : decode cX8_nextPart 125 = .ok (.return_, 1) := by decide +kernel
theorem dX8_number_0 : decode cX8_number 0 = .ok (.aload_n 0, 1) := by decide +kernel
theorem dX8_number_1 : decode cX8_number 1 = .ok (.invokevirtual 52, 3) := by decide +kernel
theorem dX8_number_4 : decode cX8_number 4 = .ok (.iconst 1, 1) := by decide +kernel
theorem dX8_number_5 : decode cX8_number 5 = .ok (.if_icmp .ne 11, 3) := by decide +kernel
theorem dX8_number_8 : decode cX8_number 8 = .ok (.aload_n 0, 1) := by decide +kernel
theorem dX8_number_9 : decode cX8_number 9 = .ok (.iconst 0, 1) := by decide +kernel
theorem dX8_number_10 : decode cX8_number 10 = .ok (.invokevirtual 55, 3) := by decide +kernel
theorem dX8_number_13 : decode cX8_number 13 = .ok (.goto 4, 3) := by decide +kernel
theorem dX8_number_16 : decode cX8_number 16 = .ok (.iconst (-1), 1) := by decide +kernel
theorem dX8_number_17 : decode cX8_number 17 = .ok (.istore_n 3, 1) := by decide +kernel
theorem dX8_number_18 : decode cX8_number 18 = .ok (.iload_n 3, 1) := by decide +kernel
theorem dX8_number_19 : decode cX8_number 19 = .ok (.iload_n 1, 1) := by decide +kernel
theorem dX8_number_20 : decode cX8_number 20 = .ok (.if_icmp .lt 8, 3) := by decide +kernel
theorem dX8_number_23 : decode cX8_number 23 = .ok (.iload_n 3, 1) := by decide +kernel
theorem dX8_number_24 : decode cX8_number 24 = .ok (.iload_n 2, 1) := by decide +kernel
theorem dX8_number_25 : decode cX8_number 25 = .ok (.if_icmp .le 7, 3) := by decide +kernel
theorem dX8_number_28 : decode cX8_number 28 = .ok (.iconst (-1), 1) := by decide +kernel
theorem dX8_number_29 : decode cX8_number 29 = .ok (.goto 4, 3) := by decide +kernel
theorem dX8_number_32 : decode cX8_number 32 = .ok (.iload_n 3, 1) := by decide +kernel
theorem dX8_number_33 : decode cX8_number 33 = .ok (.ireturn, 1) := by decide +kernel
theorem dX8_put_0 : decode cX8_put 0 = .ok (.bipush 24, 2) := by decide +kernel
theorem dX8_put_2 : decode cX8_put 2 = .ok (.istore_n 2, 1) := by decide +kernel
theorem dX8_put_3 : decode cX8_put 3 = .ok (.iload_n 2, 1) := by decide +kernel
theorem dX8_put_4 : decode cX8_put 4 = .ok (.ifCond .lt 26, 3) := by decide +kernel
theorem dX8_put_7 : decode cX8_put 7 = .ok (.iload_n 1, 1) := by decide +kernel
theorem dX8_put_8 : decode cX8_put 8 = .ok (.iload_n 2, 1) := by decide +kernel
theorem dX8_put_9 : decode cX8_put 9 = .ok (.iushr, 1) := by decide +kernel
theorem dX8_put_10 : decode cX8_put 10 = .ok (.sipush 255, 3) := by decide +kernel
theorem dX8_put_13 : decode cX8_put 13 = .ok (.iand, 1) := by decide +kernel
theorem dX8_put_14 : decode cX8_put 14 = .ok (.istore_n 3, 1) := by decide +kernel
theorem dX8_put_15 : decode cX8_put 15 = .ok (.iload_n 3, 1) := by decide +kernel
theorem dX8_put_16 : decode cX8_put 16 = .ok (.ifCond .eq 8, 3) := by decide +kernel
theorem dX8_put_19 : decode cX8_put 19 = .ok (.aload_n 0, 1) := by decide +kernel
theorem dX8_put_20 : decode cX8_put 20 = .ok (.iload_n 3, 1) := by decide +kernel
theorem dX8_put_21 : decode cX8_put 21 = .ok (.invokevirtual 15, 3) := by decide +kernel
theorem dX8_put_24 : decode cX8_put 24 = .ok (.iinc 2 (-8), 3) := by decide +kernel
theorem dX8_put_27 : decode cX8_put 27 = .ok (.goto (-24), 3) := by decide +kernel
theorem dX8_put_30 : decode cX8_put 30 = .ok (.return_, 1) := by decide +kernel
theorem dX8_write_0 : decode cX8_write 0 = .ok (.iconst 0, 1) := by decide +kernel
theorem dX8_write_1 : decode cX8_write 1 = .ok (.istore_n 2, 1) := by decide +kernel
theorem dX8_write_2 : decode cX8_write 2 = .ok (.iload_n 2, 1) := by decide +kernel
theorem dX8_write_3 : decode cX8_write 3 = .ok (.aload_n 1, 1) := by decide +kernel
theorem dX8_write_4 : decode cX8_write 4 = .ok (.invokevirtual 23, 3) := by decide +kernel
theorem dX8_write_7 : decode cX8_write 7 = .ok (.if_icmp .ge 18, 3) := by decide +kernel
theorem dX8_write_10 : decode cX8_write 10 = .ok (.aload_n 0, 1) := by decide +kernel
theorem dX8_write_11 : decode cX8_write 11 = .ok (.aload_n 1, 1) := by decide +kernel
theorem dX8_write_12 : decode cX8_write 12 = .ok (.iload_n 2, 1) := by decide +kernel
theorem dX8_write_13 : decode cX8_write 13 = .ok (.invokevirtual 28, 3) := by decide +kernel
theorem dX8_write_16 : decode cX8_write 16 = .ok (.invokevirtual 15, 3) := by decide +kernel
theorem dX8_write_19 : decode cX8_write 19 = .ok (.iinc 2 1, 3) := by decide +kernel
theorem dX8_write_22 : decode cX8_write 22 = .ok (.goto (-20), 3) := by decide +kernel
theorem dX8_write_25 : decode cX8_write 25 = .ok (.return_, 1) := by decide +kernel
theorem dX8_writeNumber_0 : decode cX8_writeNumber 0 = .ok (.aload_n 0, 1) := by decide +kernel
theorem dX8_writeNumber_1 : decode cX8_writeNumber 1 = .ok (.aload_n 1, 1) := by decide +kernel
theorem dX8_writeNumber_2 : decode cX8_writeNumber 2 = .ok (.invokevirtual 32, 3) := by decide +kernel
theorem dX8_writeNumber_5 : decode cX8_writeNumber 5 = .ok (.aload_n 0, 1) := by decide +kernel
theorem dX8_writeNumber_6 : decode cX8_writeNumber 6 = .ok (.bipush 48, 2) := by decide +kernel
theorem dX8_writeNumber_8 : decode cX8_writeNumber 8 = .ok (.iload_n 2, 1) := by decide +kernel
theorem dX8_writeNumber_9 : decode cX8_writeNumber 9 = .ok (.iadd, 1) := by decide +kernel
theorem dX8_writeNumber_10 : decode cX8_writeNumber 10 = .ok (.invokevirtual 15, 3) := by decide +kernel
theorem dX8_writeNumber_13 : decode cX8_writeNumber 13 = .ok (.return_, 1) := by decide +kernel
theorem dX9_init_0 : decode cX9_init 0 = .ok (.aload_n 0, 1) := by decide +kernel
theorem dX9_init_1 : decode cX9_init 1 = .ok (.invokespecial 1, 3) := by decide +kernel
theorem dX9_init_4 : decode cX9_init 4 = .ok (.return_, 1) := by decide +kernel
