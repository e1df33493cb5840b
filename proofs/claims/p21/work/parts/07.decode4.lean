theorem dX11_sends_118 : decode cX11_sends 118 = .ok (.iload_n 2, 1) := by decide +kernel
theorem dX11_sends_119 : decode cX11_sends 119 = .ok (.iload 4, 2) := by decide +kernel
theorem dX11_sends_121 : decode cX11_sends 121 = .ok (.iload 6, 2) := by decide +kernel
theorem dX11_sends_123 : decode cX11_sends 123 = .ok (.iload 5, 2) := by decide +kernel
theorem dX11_sends_125 : decode cX11_sends 125 = .ok (.invokevirtual 290, 3) := by decide +kernel
theorem dX11_sends_128 : decode cX11_sends 128 = .ok (.istore 7, 2) := by decide +kernel
theorem dX11_sends_130 : decode cX11_sends 130 = .ok (.aload_n 0, 1) := by decide +kernel
theorem dX11_sends_131 : decode cX11_sends 131 = .ok (.getfield 47, 3) := by decide +kernel
theorem dX11_sends_134 : decode cX11_sends 134 = .ok (.bipush 9, 2) := by decide +kernel
theorem dX11_sends_136 : decode cX11_sends 136 = .ok (.iload 4, 2) := by decide +kernel
theorem dX11_sends_138 : decode cX11_sends 138 = .ok (.imul, 1) := by decide +kernel
theorem dX11_sends_139 : decode cX11_sends 139 = .ok (.iload 6, 2) := by decide +kernel
theorem dX11_sends_141 : decode cX11_sends 141 = .ok (.iadd, 1) := by decide +kernel
theorem dX11_sends_142 : decode cX11_sends 142 = .ok (.iload 7, 2) := by decide +kernel
theorem dX11_sends_144 : decode cX11_sends 144 = .ok (.iastore, 1) := by decide +kernel
theorem dX11_sends_145 : decode cX11_sends 145 = .ok (.iload 7, 2) := by decide +kernel
theorem dX11_sends_147 : decode cX11_sends 147 = .ok (.iconst 2, 1) := by decide +kernel
theorem dX11_sends_148 : decode cX11_sends 148 = .ok (.if_icmp .eq 46, 3) := by decide +kernel
theorem dX11_sends_151 : decode cX11_sends 151 = .ok (.iload 4, 2) := by decide +kernel
theorem dX11_sends_153 : decode cX11_sends 153 = .ok (.iload 6, 2) := by decide +kernel
theorem dX11_sends_155 : decode cX11_sends 155 = .ok (.if_icmp .ne 6, 3) := by decide +kernel
theorem dX11_sends_158 : decode cX11_sends 158 = .ok (.goto 36, 3) := by decide +kernel
theorem dX11_sends_161 : decode cX11_sends 161 = .ok (.aload_n 0, 1) := by decide +kernel
theorem dX11_sends_162 : decode cX11_sends 162 = .ok (.dup, 1) := by decide +kernel
theorem dX11_sends_163 : decode cX11_sends 163 = .ok (.getfield 254, 3) := by decide +kernel
theorem dX11_sends_166 : decode cX11_sends 166 = .ok (.iconst 1, 1) := by decide +kernel
theorem dX11_sends_167 : decode cX11_sends 167 = .ok (.iadd, 1) := by decide +kernel
theorem dX11_sends_168 : decode cX11_sends 168 = .ok (.putfield 254, 3) := by decide +kernel
theorem dX11_sends_171 : decode cX11_sends 171 = .ok (.aload_n 0, 1) := by decide +kernel
theorem dX11_sends_172 : decode cX11_sends 172 = .ok (.dup, 1) := by decide +kernel
theorem dX11_sends_173 : decode cX11_sends 173 = .ok (.getfield 257, 3) := by decide +kernel
theorem dX11_sends_176 : decode cX11_sends 176 = .ok (.aload_n 0, 1) := by decide +kernel
theorem dX11_sends_177 : decode cX11_sends 177 = .ok (.iload 4, 2) := by decide +kernel
theorem dX11_sends_179 : decode cX11_sends 179 = .ok (.invokevirtual 274, 3) := by decide +kernel
theorem dX11_sends_182 : decode cX11_sends 182 = .ok (.ifCond .eq 7, 3) := by decide +kernel
theorem dX11_sends_185 : decode cX11_sends 185 = .ok (.iconst 0, 1) := by decide +kernel
theorem dX11_sends_186 : decode cX11_sends 186 = .ok (.goto 4, 3) := by decide +kernel
theorem dX11_sends_189 : decode cX11_sends 189 = .ok (.iconst 1, 1) := by decide +kernel
theorem dX11_sends_190 : decode cX11_sends 190 = .ok (.iadd, 1) := by decide +kernel
theorem dX11_sends_191 : decode cX11_sends 191 = .ok (.putfield 257, 3) := by decide +kernel
theorem dX11_sends_194 : decode cX11_sends 194 = .ok (.iinc 6 1, 3) := by decide +kernel
theorem dX11_sends_197 : decode cX11_sends 197 = .ok (.goto (-90), 3) := by decide +kernel
theorem dX11_sends_200 : decode cX11_sends 200 = .ok (.iinc 4 1, 3) := by decide +kernel
theorem dX11_sends_203 : decode cX11_sends 203 = .ok (.goto (-160), 3) := by decide +kernel
theorem dX11_sends_206 : decode cX11_sends 206 = .ok (.return_, 1) := by decide +kernel
theorem dX11_shown_0 : decode cX11_shown 0 = .ok (.aload_n 0, 1) := by decide +kernel
theorem dX11_shown_1 : decode cX11_shown 1 = .ok (.iconst 0, 1) := by decide +kernel
theorem dX11_shown_2 : decode cX11_shown 2 = .ok (.putfield 80, 3) := by decide +kernel
theorem dX11_shown_5 : decode cX11_shown 5 = .ok (.iload_n 1, 1) := by decide +kernel
theorem dX11_shown_6 : decode cX11_shown 6 = .ok (.i2l, 1) := by decide +kernel
theorem dX11_shown_7 : decode cX11_shown 7 = .ok (.lconst 0, 1) := by decide +kernel
theorem dX11_shown_8 : decode cX11_shown 8 = .ok (.aload_n 0, 1) := by decide +kernel
theorem dX11_shown_9 : decode cX11_shown 9 = .ok (.invokevirtual 358, 3) := by decide +kernel
theorem dX11_shown_12 : decode cX11_shown 12 = .ok (.iconst 1, 1) := by decide +kernel
theorem dX11_shown_13 : decode cX11_shown 13 = .ok (.isub, 1) := by decide +kernel
theorem dX11_shown_14 : decode cX11_shown 14 = .ok (.i2l, 1) := by decide +kernel
theorem dX11_shown_15 : decode cX11_shown 15 = .ok (.invokestatic 132, 3) := by decide +kernel
theorem dX11_shown_18 : decode cX11_shown 18 = .ok (.ifCond .ne 5, 3) := by decide +kernel
theorem dX11_shown_21 : decode cX11_shown 21 = .ok (.iconst (-1), 1) := by decide +kernel
theorem dX11_shown_22 : decode cX11_shown 22 = .ok (.ireturn, 1) := by decide +kernel
theorem dX11_shown_23 : decode cX11_shown 23 = .ok (.iload_n 1, 1) := by decide +kernel
theorem dX11_shown_24 : decode cX11_shown 24 = .ok (.aload_n 0, 1) := by decide +kernel
theorem dX11_shown_25 : decode cX11_shown 25 = .ok (.getfield 215, 3) := by decide +kernel
theorem dX11_shown_28 : decode cX11_shown 28 = .ok (.irem, 1) := by decide +kernel
theorem dX11_shown_29 : decode cX11_shown 29 = .ok (.istore_n 3, 1) := by decide +kernel
theorem dX11_shown_30 : decode cX11_shown 30 = .ok (.aload_n 0, 1) := by decide +kernel
theorem dX11_shown_31 : decode cX11_shown 31 = .ok (.iconst 0, 1) := by decide +kernel
theorem dX11_shown_32 : decode cX11_shown 32 = .ok (.putfield 448, 3) := by decide +kernel
theorem dX11_shown_35 : decode cX11_shown 35 = .ok (.aload_n 0, 1) := by decide +kernel
theorem dX11_shown_36 : decode cX11_shown 36 = .ok (.ldc_w 423, 3) := by decide +kernel
theorem dX11_shown_39 : decode cX11_shown 39 = .ok (.invokevirtual 453, 3) := by decide +kernel
theorem dX11_shown_42 : decode cX11_shown 42 = .ok (.aload_n 0, 1) := by decide +kernel
theorem dX11_shown_43 : decode cX11_shown 43 = .ok (.bipush 48, 2) := by decide +kernel
theorem dX11_shown_45 : decode cX11_shown 45 = .ok (.iload_n 1, 1) := by decide +kernel
theorem dX11_shown_46 : decode cX11_shown 46 = .ok (.iadd, 1) := by decide +kernel
theorem dX11_shown_47 : decode cX11_shown 47 = .ok (.invokevirtual 451, 3) := by decide +kernel
theorem dX11_shown_50 : decode cX11_shown 50 = .ok (.aload_n 0, 1) := by decide +kernel
theorem dX11_shown_51 : decode cX11_shown 51 = .ok (.ldc_w 456, 3) := by decide +kernel
theorem dX11_shown_54 : decode cX11_shown 54 = .ok (.invokevirtual 453, 3) := by decide +kernel
theorem dX11_shown_57 : decode cX11_shown 57 = .ok (.aload_n 0, 1) := by decide +kernel
theorem dX11_shown_58 : decode cX11_shown 58 = .ok (.bipush 48, 2) := by decide +kernel
theorem dX11_shown_60 : decode cX11_shown 60 = .ok (.iload_n 3, 1) := by decide +kernel
theorem dX11_shown_61 : decode cX11_shown 61 = .ok (.iadd, 1) := by decide +kernel
theorem dX11_shown_62 : decode cX11_shown 62 = .ok (.invokevirtual 451, 3) := by decide +kernel
theorem dX11_shown_65 : decode cX11_shown 65 = .ok (.iconst 0, 1) := by decide +kernel
theorem dX11_shown_66 : decode cX11_shown 66 = .ok (.istore 4, 2) := by decide +kernel
theorem dX11_shown_68 : decode cX11_shown 68 = .ok (.iload 4, 2) := by decide +kernel
theorem dX11_shown_70 : decode cX11_shown 70 = .ok (.aload_n 0, 1) := by decide +kernel
theorem dX11_shown_71 : decode cX11_shown 71 = .ok (.getfield 215, 3) := by decide +kernel
theorem dX11_shown_74 : decode cX11_shown 74 = .ok (.if_icmp .ge 130, 3) := by decide +kernel
theorem dX11_shown_77 : decode cX11_shown 77 = .ok (.iload_n 1, 1) := by decide +kernel
theorem dX11_shown_78 : decode cX11_shown 78 = .ok (.iload 4, 2) := by decide +kernel
theorem dX11_shown_80 : decode cX11_shown 80 = .ok (.invokestatic 332, 3) := by decide +kernel
theorem dX11_shown_83 : decode cX11_shown 83 = .ok (.istore 5, 2) := by decide +kernel
theorem dX11_shown_85 : decode cX11_shown 85 = .ok (.aload_n 0, 1) := by decide +kernel
theorem dX11_shown_86 : decode cX11_shown 86 = .ok (.ldc_w 458, 3) := by decide +kernel
theorem dX11_shown_89 : decode cX11_shown 89 = .ok (.invokevirtual 453, 3) := by decide +kernel
theorem dX11_shown_92 : decode cX11_shown 92 = .ok (.aload_n 0, 1) := by decide +kernel
theorem dX11_shown_93 : decode cX11_shown 93 = .ok (.iload 4, 2) := by decide +kernel
theorem dX11_shown_95 : decode cX11_shown 95 = .ok (.invokevirtual 363, 3) := by decide +kernel
theorem dX11_shown_98 : decode cX11_shown 98 = .ok (.ifCond .ne 9, 3) := by decide +kernel
theorem dX11_shown_101 : decode cX11_shown 101 = .ok (.aload_n 0, 1) := by decide +kernel
theorem dX11_shown_102 : decode cX11_shown 102 = .ok (.bipush 120, 2) := by decide +kernel
theorem dX11_shown_104 : decode cX11_shown 104 = .ok (.invokevirtual 451, 3) := by decide +kernel
theorem dX11_shown_107 : decode cX11_shown 107 = .ok (.aload_n 0, 1) := by decide +kernel
theorem dX11_shown_108 : decode cX11_shown 108 = .ok (.bipush 48, 2) := by decide +kernel
theorem dX11_shown_110 : decode cX11_shown 110 = .ok (.iload 4, 2) := by decide +kernel
theorem dX11_shown_112 : decode cX11_shown 112 = .ok (.iadd, 1) := by decide +kernel
theorem dX11_shown_113 : decode cX11_shown 113 = .ok (.invokevirtual 451, 3) := by decide +kernel
theorem dX11_shown_116 : decode cX11_shown 116 = .ok (.aload_n 0, 1) := by decide +kernel
theorem dX11_shown_117 : decode cX11_shown 117 = .ok (.bipush 61, 2) := by decide +kernel
theorem dX11_shown_119 : decode cX11_shown 119 = .ok (.invokevirtual 451, 3) := by decide +kernel
theorem dX11_shown_122 : decode cX11_shown 122 = .ok (.aload_n 0, 1) := by decide +kernel
theorem dX11_shown_123 : decode cX11_shown 123 = .ok (.bipush 48, 2) := by decide +kernel
theorem dX11_shown_125 : decode cX11_shown 125 = .ok (.aload_n 0, 1) := by decide +kernel
theorem dX11_shown_126 : decode cX11_shown 126 = .ok (.getfield 57, 3) := by decide +kernel
theorem dX11_shown_129 : decode cX11_shown 129 = .ok (.iload 5, 2) := by decide +kernel
theorem dX11_shown_131 : decode cX11_shown 131 = .ok (.iaload, 1) := by decide +kernel
theorem dX11_shown_132 : decode cX11_shown 132 = .ok (.iadd, 1) := by decide +kernel
theorem dX11_shown_133 : decode cX11_shown 133 = .ok (.invokevirtual 451, 3) := by decide +kernel
theorem dX11_shown_136 : decode cX11_shown 136 = .ok (.aload_n 0, 1) := by decide +kernel
theorem dX11_shown_137 : decode cX11_shown 137 = .ok (.getfield 57, 3) := by decide +kernel
theorem dX11_shown_140 : decode cX11_shown 140 = .ok (.iload 5, 2) := by decide +kernel
theorem dX11_shown_142 : decode cX11_shown 142 = .ok (.iconst 1, 1) := by decide +kernel
theorem dX11_shown_143 : decode cX11_shown 143 = .ok (.iadd, 1) := by decide +kernel
theorem dX11_shown_144 : decode cX11_shown 144 = .ok (.iaload, 1) := by decide +kernel
theorem dX11_shown_145 : decode cX11_shown 145 = .ok (.iconst 1, 1) := by decide +kernel
theorem dX11_shown_146 : decode cX11_shown 146 = .ok (.if_icmp .ne 9, 3) := by decide +kernel
theorem dX11_shown_149 : decode cX11_shown 149 = .ok (.aload_n 0, 1) := by decide +kernel
theorem dX11_shown_150 : decode cX11_shown 150 = .ok (.bipush 33, 2) := by decide +kernel
theorem dX11_shown_152 : decode cX11_shown 152 = .ok (.invokevirtual 451, 3) := by decide +kernel
theorem dX11_shown_155 : decode cX11_shown 155 = .ok (.aload_n 0, 1) := by decide +kernel
theorem dX11_shown_156 : decode cX11_shown 156 = .ok (.getfield 57, 3) := by decide +kernel
theorem dX11_shown_159 : decode cX11_shown 159 = .ok (.iload 5, 2) := by decide +kernel
theorem dX11_shown_161 : decode cX11_shown 161 = .ok (.bipush 7, 2) := by decide +kernel
theorem dX11_shown_163 : decode cX11_shown 163 = .ok (.iadd, 1) := by decide +kernel
theorem dX11_shown_164 : decode cX11_shown 164 = .ok (.iaload, 1) := by decide +kernel
theorem dX11_shown_165 : decode cX11_shown 165 = .ok (.iconst 1, 1) := by decide +kernel
theorem dX11_shown_166 : decode cX11_shown 166 = .ok (.if_icmp .ne 9, 3) := by decide +kernel
theorem dX11_shown_169 : decode cX11_shown 169 = .ok (.aload_n 0, 1) := by decide +kernel
theorem dX11_shown_170 : decode cX11_shown 170 = .ok (.bipush 60, 2) := by decide +kernel
theorem dX11_shown_172 : decode cX11_shown 172 = .ok (.invokevirtual 451, 3) := by decide +kernel
theorem dX11_shown_175 : decode cX11_shown 175 = .ok (.aload_n 0, 1) := by decide +kernel
theorem dX11_shown_176 : decode cX11_shown 176 = .ok (.getfield 57, 3) := by decide +kernel
theorem dX11_shown_179 : decode cX11_shown 179 = .ok (.bipush 9, 2) := by decide +kernel
theorem dX11_shown_181 : decode cX11_shown 181 = .ok (.iload 4, 2) := by decide +kernel
theorem dX11_shown_183 : decode cX11_shown 183 = .ok (.iadd, 1) := by decide +kernel
theorem dX11_shown_184 : decode cX11_shown 184 = .ok (.iaload, 1) := by decide +kernel
theorem dX11_shown_185 : decode cX11_shown 185 = .ok (.iload_n 3, 1) := by decide +kernel
theorem dX11_shown_186 : decode cX11_shown 186 = .ok (.invokestatic 161, 3) := by decide +kernel
theorem dX11_shown_189 : decode cX11_shown 189 = .ok (.ifCond .eq 9, 3) := by decide +kernel
theorem dX11_shown_192 : decode cX11_shown 192 = .ok (.aload_n 0, 1) := by decide +kernel
theorem dX11_shown_193 : decode cX11_shown 193 = .ok (.bipush 63, 2) := by decide +kernel
theorem dX11_shown_195 : decode cX11_shown 195 = .ok (.invokevirtual 451, 3) := by decide +kernel
theorem dX11_shown_198 : decode cX11_shown 198 = .ok (.iinc 4 1, 3) := by decide +kernel
theorem dX11_shown_201 : decode cX11_shown 201 = .ok (.goto (-133), 3) := by decide +kernel
theorem dX11_shown_204 : decode cX11_shown 204 = .ok (.iload_n 2, 1) := by decide +kernel
theorem dX11_shown_205 : decode cX11_shown 205 = .ok (.iconst (-1), 1) := by decide +kernel
theorem dX11_shown_206 : decode cX11_shown 206 = .ok (.if_icmp .ne 10, 3) := by decide +kernel
theorem dX11_shown_209 : decode cX11_shown 209 = .ok (.aload_n 0, 1) := by decide +kernel
theorem dX11_shown_210 : decode cX11_shown 210 = .ok (.getfield 448, 3) := by decide +kernel
theorem dX11_shown_213 : decode cX11_shown 213 = .ok (.goto 29, 3) := by decide +kernel
theorem dX11_shown_216 : decode cX11_shown 216 = .ok (.iload_n 2, 1) := by decide +kernel
theorem dX11_shown_217 : decode cX11_shown 217 = .ok (.i2l, 1) := by decide +kernel
theorem dX11_shown_218 : decode cX11_shown 218 = .ok (.lconst 0, 1) := by decide +kernel
theorem dX11_shown_219 : decode cX11_shown 219 = .ok (.aload_n 0, 1) := by decide +kernel
theorem dX11_shown_220 : decode cX11_shown 220 = .ok (.getfield 448, 3) := by decide +kernel
theorem dX11_shown_223 : decode cX11_shown 223 = .ok (.iconst 1, 1) := by decide +kernel
theorem dX11_shown_224 : decode cX11_shown 224 = .ok (.isub, 1) := by decide +kernel
theorem dX11_shown_225 : decode cX11_shown 225 = .ok (.i2l, 1) := by decide +kernel
theorem dX11_shown_226 : decode cX11_shown 226 = .ok (.invokestatic 132, 3) := by decide +kernel
theorem dX11_shown_229 : decode cX11_shown 229 = .ok (.ifCond .eq 12, 3) := by decide +kernel
theorem dX11_shown_232 : decode cX11_shown 232 = .ok (.aload_n 0, 1) := by decide +kernel
theorem dX11_shown_233 : decode cX11_shown 233 = .ok (.getfield 77, 3) := by decide +kernel
theorem dX11_shown_236 : decode cX11_shown 236 = .ok (.iload_n 2, 1) := by decide +kernel
theorem dX11_shown_237 : decode cX11_shown 237 = .ok (.iaload, 1) := by decide +kernel
theorem dX11_shown_238 : decode cX11_shown 238 = .ok (.goto 4, 3) := by decide +kernel
theorem dX11_shown_241 : decode cX11_shown 241 = .ok (.iconst (-1), 1) := by decide +kernel
theorem dX11_shown_242 : decode cX11_shown 242 = .ok (.ireturn, 1) := by decide +kernel
theorem dX11_shows_0 : decode cX11_shows 0 = .ok (.aload_n 0, 1) := by decide +kernel
theorem dX11_shows_1 : decode cX11_shows 1 = .ok (.getfield 77, 3) := by decide +kernel
theorem dX11_shows_4 : decode cX11_shows 4 = .ok (.aload_n 0, 1) := by decide +kernel
theorem dX11_shows_5 : decode cX11_shows 5 = .ok (.getfield 448, 3) := by decide +kernel
theorem dX11_shows_8 : decode cX11_shows 8 = .ok (.iload_n 1, 1) := by decide +kernel
theorem dX11_shows_9 : decode cX11_shows 9 = .ok (.iastore, 1) := by decide +kernel
theorem dX11_shows_10 : decode cX11_shows 10 = .ok (.aload_n 0, 1) := by decide +kernel
theorem dX11_shows_11 : decode cX11_shows 11 = .ok (.dup, 1) := by decide +kernel
theorem dX11_shows_12 : decode cX11_shows 12 = .ok (.getfield 448, 3) := by decide +kernel
theorem dX11_shows_15 : decode cX11_shows 15 = .ok (.iconst 1, 1) := by decide +kernel
theorem dX11_shows_16 : decode cX11_shows 16 = .ok (.iadd, 1) := by decide +kernel
theorem dX11_shows_17 : decode cX11_shows 17 = .ok (.putfield 448, 3) := by decide +kernel
theorem dX11_shows_20 : decode cX11_shows 20 = .ok (.return_, 1) := by decide +kernel
theorem dX11_showsWord_0 : decode cX11_showsWord 0 = .ok (.iconst 0, 1) := by decide +kernel
theorem dX11_showsWord_1 : decode cX11_showsWord 1 = .ok (.istore_n 2, 1) := by decide +kernel
theorem dX11_showsWord_2 : decode cX11_showsWord 2 = .ok (.iload_n 2, 1) := by decide +kernel
theorem dX11_showsWord_3 : decode cX11_showsWord 3 = .ok (.aload_n 1, 1) := by decide +kernel
theorem dX11_showsWord_4 : decode cX11_showsWord 4 = .ok (.invokevirtual 108, 3) := by decide +kernel
theorem dX11_showsWord_7 : decode cX11_showsWord 7 = .ok (.if_icmp .ge 18, 3) := by decide +kernel
theorem dX11_showsWord_10 : decode cX11_showsWord 10 = .ok (.aload_n 0, 1) := by decide +kernel
theorem dX11_showsWord_11 : decode cX11_showsWord 11 = .ok (.aload_n 1, 1) := by decide +kernel
theorem dX11_showsWord_12 : decode cX11_showsWord 12 = .ok (.iload_n 2, 1) := by decide +kernel
theorem dX11_showsWord_13 : decode cX11_showsWord 13 = .ok (.invokevirtual 112, 3) := by decide +kernel
theorem dX11_showsWord_16 : decode cX11_showsWord 16 = .ok (.invokevirtual 451, 3) := by decide +kernel
theorem dX11_showsWord_19 : decode cX11_showsWord 19 = .ok (.iinc 2 1, 3) := by decide +kernel
theorem dX11_showsWord_22 : decode cX11_showsWord 22 = .ok (.goto (-20), 3) := by decide +kernel
theorem dX11_showsWord_25 : decode cX11_showsWord 25 = .ok (.return_, 1) := by decide +kernel
theorem dX11_starts_0 : decode cX11_starts 0 = .ok (.aload_n 0, 1) := by decide +kernel
theorem dX11_starts_1 : decode cX11_starts 1 = .ok (.invokevirtual 126, 3) := by decide +kernel
theorem dX11_starts_4 : decode cX11_starts 4 = .ok (.aload_n 0, 1) := by decide +kernel
theorem dX11_starts_5 : decode cX11_starts 5 = .ok (.getfield 123, 3) := by decide +kernel
theorem dX11_starts_8 : decode cX11_starts 8 = .ok (.aload_n 0, 1) := by decide +kernel
theorem dX11_starts_9 : decode cX11_starts 9 = .ok (.getfield 13, 3) := by decide +kernel
theorem dX11_starts_12 : decode cX11_starts 12 = .ok (.iconst 0, 1) := by decide +kernel
theorem dX11_starts_13 : decode cX11_starts 13 = .ok (.iaload, 1) := by decide +kernel
theorem dX11_starts_14 : decode cX11_starts 14 = .ok (.if_icmp .ne 7, 3) := by decide +kernel
theorem dX11_starts_17 : decode cX11_starts 17 = .ok (.iconst 1, 1) := by decide +kernel
theorem dX11_starts_18 : decode cX11_starts 18 = .ok (.goto 4, 3) := by decide +kernel
theorem dX11_starts_21 : decode cX11_starts 21 = .ok (.iconst 0, 1) := by decide +kernel
theorem dX11_starts_22 : decode cX11_starts 22 = .ok (.istore_n 1, 1) := by decide +kernel
theorem dX11_starts_23 : decode cX11_starts 23 = .ok (.iconst 0, 1) := by decide +kernel
theorem dX11_starts_24 : decode cX11_starts 24 = .ok (.istore_n 2, 1) := by decide +kernel
theorem dX11_starts_25 : decode cX11_starts 25 = .ok (.iload_n 2, 1) := by decide +kernel
theorem dX11_starts_26 : decode cX11_starts 26 = .ok (.aload_n 0, 1) := by decide +kernel
theorem dX11_starts_27 : decode cX11_starts 27 = .ok (.getfield 123, 3) := by decide +kernel
theorem dX11_starts_30 : decode cX11_starts 30 = .ok (.if_icmp .ge 52, 3) := by decide +kernel
theorem dX11_starts_33 : decode cX11_starts 33 = .ok (.iload_n 1, 1) := by decide +kernel
theorem dX11_starts_34 : decode cX11_starts 34 = .ok (.ifCond .eq 48, 3) := by decide +kernel
theorem dX11_starts_37 : decode cX11_starts 37 = .ok (.aload_n 0, 1) := by decide +kernel
theorem dX11_starts_38 : decode cX11_starts 38 = .ok (.iload_n 2, 1) := by decide +kernel
theorem dX11_starts_39 : decode cX11_starts 39 = .ok (.invokevirtual 129, 3) := by decide +kernel
theorem dX11_starts_42 : decode cX11_starts 42 = .ok (.iconst 2, 1) := by decide +kernel
theorem dX11_starts_43 : decode cX11_starts 43 = .ok (.if_icmp .ge 7, 3) := by decide +kernel
theorem dX11_starts_46 : decode cX11_starts 46 = .ok (.iconst 1, 1) := by decide +kernel
theorem dX11_starts_47 : decode cX11_starts 47 = .ok (.goto 4, 3) := by decide +kernel
theorem dX11_starts_50 : decode cX11_starts 50 = .ok (.iconst 0, 1) := by decide +kernel
theorem dX11_starts_51 : decode cX11_starts 51 = .ok (.istore_n 1, 1) := by decide +kernel
theorem dX11_starts_52 : decode cX11_starts 52 = .ok (.aload_n 0, 1) := by decide +kernel
theorem dX11_starts_53 : decode cX11_starts 53 = .ok (.getfield 13, 3) := by decide +kernel
theorem dX11_starts_56 : decode cX11_starts 56 = .ok (.iconst 3, 1) := by decide +kernel
theorem dX11_starts_57 : decode cX11_starts 57 = .ok (.dup2, 1) := by decide +kernel
theorem dX11_starts_58 : decode cX11_starts 58 = .ok (.iaload, 1) := by decide +kernel
theorem dX11_starts_59 : decode cX11_starts 59 = .ok (.iload_n 1, 1) := by decide +kernel
theorem dX11_starts_60 : decode cX11_starts 60 = .ok (.ifCond .eq 13, 3) := by decide +kernel
theorem dX11_starts_63 : decode cX11_starts 63 = .ok (.aload_n 0, 1) := by decide +kernel
theorem dX11_starts_64 : decode cX11_starts 64 = .ok (.iload_n 2, 1) := by decide +kernel
theorem dX11_starts_65 : decode cX11_starts 65 = .ok (.invokevirtual 129, 3) := by decide +kernel
theorem dX11_starts_68 : decode cX11_starts 68 = .ok (.iload_n 2, 1) := by decide +kernel
theorem dX11_starts_69 : decode cX11_starts 69 = .ok (.ishl, 1) := by decide +kernel
theorem dX11_starts_70 : decode cX11_starts 70 = .ok (.goto 4, 3) := by decide +kernel
theorem dX11_starts_73 : decode cX11_starts 73 = .ok (.iconst 0, 1) := by decide +kernel
theorem dX11_starts_74 : decode cX11_starts 74 = .ok (.ior, 1) := by decide +kernel
theorem dX11_starts_75 : decode cX11_starts 75 = .ok (.iastore, 1) := by decide +kernel
theorem dX11_starts_76 : decode cX11_starts 76 = .ok (.iinc 2 1, 3) := by decide +kernel
theorem dX11_starts_79 : decode cX11_starts 79 = .ok (.goto (-54), 3) := by decide +kernel
theorem dX11_starts_82 : decode cX11_starts 82 = .ok (.iload_n 1, 1) := by decide +kernel
theorem dX11_starts_83 : decode cX11_starts 83 = .ok (.ifCond .ne 11, 3) := by decide +kernel
theorem dX11_starts_86 : decode cX11_starts 86 = .ok (.aload_n 0, 1) := by decide +kernel
theorem dX11_starts_87 : decode cX11_starts 87 = .ok (.aload_n 0, 1) := by decide +kernel
theorem dX11_starts_88 : decode cX11_starts 88 = .ok (.getfield 116, 3) := by decide +kernel
theorem dX11_starts_91 : decode cX11_starts 91 = .ok (.invokevirtual 136, 3) := by decide +kernel
theorem dX11_starts_94 : decode cX11_starts 94 = .ok (.return_, 1) := by decide +kernel
theorem dX11_startsAnew_0 : decode cX11_startsAnew 0 = .ok (.iconst 0, 1) := by decide +kernel
theorem dX11_startsAnew_1 : decode cX11_startsAnew 1 = .ok (.istore_n 1, 1) := by decide +kernel
theorem dX11_startsAnew_2 : decode cX11_startsAnew 2 = .ok (.iload_n 1, 1) := by decide +kernel
theorem dX11_startsAnew_3 : decode cX11_startsAnew 3 = .ok (.bipush 9, 2) := by decide +kernel
theorem dX11_startsAnew_5 : decode cX11_startsAnew 5 = .ok (.if_icmp .ge 30, 3) := by decide +kernel
theorem dX11_startsAnew_8 : decode cX11_startsAnew 8 = .ok (.aload_n 0, 1) := by decide +kernel
theorem dX11_startsAnew_9 : decode cX11_startsAnew 9 = .ok (.getfield 26, 3) := by decide +kernel
theorem dX11_startsAnew_12 : decode cX11_startsAnew 12 = .ok (.iload_n 1, 1) := by decide +kernel
theorem dX11_startsAnew_13 : decode cX11_startsAnew 13 = .ok (.aload_n 0, 1) := by decide +kernel
theorem dX11_startsAnew_14 : decode cX11_startsAnew 14 = .ok (.getfield 224, 3) := by decide +kernel
theorem dX11_startsAnew_17 : decode cX11_startsAnew 17 = .ok (.iload_n 1, 1) := by decide +kernel
theorem dX11_startsAnew_18 : decode cX11_startsAnew 18 = .ok (.ishr, 1) := by decide +kernel
theorem dX11_startsAnew_19 : decode cX11_startsAnew 19 = .ok (.iconst 1, 1) := by decide +kernel
theorem dX11_startsAnew_20 : decode cX11_startsAnew 20 = .ok (.iand, 1) := by decide +kernel
theorem dX11_startsAnew_21 : decode cX11_startsAnew 21 = .ok (.iastore, 1) := by decide +kernel
theorem dX11_startsAnew_22 : decode cX11_startsAnew 22 = .ok (.aload_n 0, 1) := by decide +kernel
theorem dX11_startsAnew_23 : decode cX11_startsAnew 23 = .ok (.getfield 29, 3) := by decide +kernel
theorem dX11_startsAnew_26 : decode cX11_startsAnew 26 = .ok (.iload_n 1, 1) := by decide +kernel
theorem dX11_startsAnew_27 : decode cX11_startsAnew 27 = .ok (.iconst 0, 1) := by decide +kernel
theorem dX11_startsAnew_28 : decode cX11_startsAnew 28 = .ok (.iastore, 1) := by decide +kernel
theorem dX11_startsAnew_29 : decode cX11_startsAnew 29 = .ok (.iinc 1 1, 3) := by decide +kernel
theorem dX11_startsAnew_32 : decode cX11_startsAnew 32 = .ok (.goto (-30), 3) := by decide +kernel
theorem dX11_startsAnew_35 : decode cX11_startsAnew 35 = .ok (.aload_n 0, 1) := by decide +kernel
theorem dX11_startsAnew_36 : decode cX11_startsAnew 36 = .ok (.iconst 0, 1) := by decide +kernel
theorem dX11_startsAnew_37 : decode cX11_startsAnew 37 = .ok (.putfield 251, 3) := by decide +kernel
theorem dX11_startsAnew_40 : decode cX11_startsAnew 40 = .ok (.aload_n 0, 1) := by decide +kernel
theorem dX11_startsAnew_41 : decode cX11_startsAnew 41 = .ok (.iconst 0, 1) := by decide +kernel
theorem dX11_startsAnew_42 : decode cX11_startsAnew 42 = .ok (.putfield 254, 3) := by decide +kernel
theorem dX11_startsAnew_45 : decode cX11_startsAnew 45 = .ok (.aload_n 0, 1) := by decide +kernel
theorem dX11_startsAnew_46 : decode cX11_startsAnew 46 = .ok (.iconst 0, 1) := by decide +kernel
theorem dX11_startsAnew_47 : decode cX11_startsAnew 47 = .ok (.putfield 257, 3) := by decide +kernel
theorem dX11_startsAnew_50 : decode cX11_startsAnew 50 = .ok (.aload_n 0, 1) := by decide +kernel
theorem dX11_startsAnew_51 : decode cX11_startsAnew 51 = .ok (.aload_n 0, 1) := by decide +kernel
theorem dX11_startsAnew_52 : decode cX11_startsAnew 52 = .ok (.getfield 228, 3) := by decide +kernel
theorem dX11_startsAnew_55 : decode cX11_startsAnew 55 = .ok (.putfield 260, 3) := by decide +kernel
theorem dX11_startsAnew_58 : decode cX11_startsAnew 58 = .ok (.return_, 1) := by decide +kernel
theorem dX11_starts__0 : decode cX11_starts_ 0 = .ok (.aload_n 0, 1) := by decide +kernel
theorem dX11_starts__1 : decode cX11_starts_ 1 = .ok (.iconst 0, 1) := by decide +kernel
theorem dX11_starts__2 : decode cX11_starts_ 2 = .ok (.putfield 80, 3) := by decide +kernel
theorem dX11_starts__5 : decode cX11_starts_ 5 = .ok (.aload_n 0, 1) := by decide +kernel
theorem dX11_starts__6 : decode cX11_starts_ 6 = .ok (.getfield 232, 3) := by decide +kernel
theorem dX11_starts__9 : decode cX11_starts_ 9 = .ok (.ifCond .ne 9, 3) := by decide +kernel
theorem dX11_starts__12 : decode cX11_starts_ 12 = .ok (.aload_n 0, 1) := by decide +kernel
theorem dX11_starts__13 : decode cX11_starts_ 13 = .ok (.iconst 0, 1) := by decide +kernel
theorem dX11_starts__14 : decode cX11_starts_ 14 = .ok (.invokevirtual 341, 3) := by decide +kernel
theorem dX11_starts__17 : decode cX11_starts_ 17 = .ok (.ireturn, 1) := by decide +kernel
theorem dX11_starts__18 : decode cX11_starts_ 18 = .ok (.iload_n 1, 1) := by decide +kernel
theorem dX11_starts__19 : decode cX11_starts_ 19 = .ok (.i2l, 1) := by decide +kernel
theorem dX11_starts__20 : decode cX11_starts_ 20 = .ok (.lconst 0, 1) := by decide +kernel
theorem dX11_starts__21 : decode cX11_starts_ 21 = .ok (.iconst 1, 1) := by decide +kernel
theorem dX11_starts__22 : decode cX11_starts_ 22 = .ok (.aload_n 0, 1) := by decide +kernel
theorem dX11_starts__23 : decode cX11_starts_ 23 = .ok (.getfield 215, 3) := by decide +kernel
theorem dX11_starts__26 : decode cX11_starts_ 26 = .ok (.ishl, 1) := by decide +kernel
theorem dX11_starts__27 : decode cX11_starts_ 27 = .ok (.iconst 1, 1) := by decide +kernel
theorem dX11_starts__28 : decode cX11_starts_ 28 = .ok (.isub, 1) := by decide +kernel
theorem dX11_starts__29 : decode cX11_starts_ 29 = .ok (.i2l, 1) := by decide +kernel
theorem dX11_starts__30 : decode cX11_starts_ 30 = .ok (.invokestatic 132, 3) := by decide +kernel
theorem dX11_starts__33 : decode cX11_starts_ 33 = .ok (.ifCond .ne 9, 3) := by decide +kernel
theorem dX11_starts__36 : decode cX11_starts_ 36 = .ok (.aload_n 0, 1) := by decide +kernel
theorem dX11_starts__37 : decode cX11_starts_ 37 = .ok (.iconst 1, 1) := by decide +kernel
theorem dX11_starts__38 : decode cX11_starts_ 38 = .ok (.invokevirtual 341, 3) := by decide +kernel
theorem dX11_starts__41 : decode cX11_starts_ 41 = .ok (.ireturn, 1) := by decide +kernel
theorem dX11_starts__42 : decode cX11_starts_ 42 = .ok (.aload_n 0, 1) := by decide +kernel
theorem dX11_starts__43 : decode cX11_starts_ 43 = .ok (.invokevirtual 329, 3) := by decide +kernel
theorem dX11_starts__46 : decode cX11_starts_ 46 = .ok (.aload_n 0, 1) := by decide +kernel
theorem dX11_starts__47 : decode cX11_starts_ 47 = .ok (.getfield 251, 3) := by decide +kernel
theorem dX11_starts__50 : decode cX11_starts_ 50 = .ok (.ifCond .le 9, 3) := by decide +kernel
theorem dX11_starts__53 : decode cX11_starts_ 53 = .ok (.aload_n 0, 1) := by decide +kernel
theorem dX11_starts__54 : decode cX11_starts_ 54 = .ok (.iconst 3, 1) := by decide +kernel
theorem dX11_starts__55 : decode cX11_starts_ 55 = .ok (.invokevirtual 341, 3) := by decide +kernel
theorem dX11_starts__58 : decode cX11_starts_ 58 = .ok (.ireturn, 1) := by decide +kernel
theorem dX11_starts__59 : decode cX11_starts_ 59 = .ok (.aload_n 0, 1) := by decide +kernel
theorem dX11_starts__60 : decode cX11_starts_ 60 = .ok (.invokevirtual 326, 3) := by decide +kernel
theorem dX11_starts__63 : decode cX11_starts_ 63 = .ok (.aload_n 0, 1) := by decide +kernel
theorem dX11_starts__64 : decode cX11_starts_ 64 = .ok (.getfield 224, 3) := by decide +kernel
theorem dX11_starts__67 : decode cX11_starts_ 67 = .ok (.istore_n 2, 1) := by decide +kernel
theorem dX11_starts__68 : decode cX11_starts_ 68 = .ok (.aload_n 0, 1) := by decide +kernel
theorem dX11_starts__69 : decode cX11_starts_ 69 = .ok (.iload_n 1, 1) := by decide +kernel
theorem dX11_starts__70 : decode cX11_starts_ 70 = .ok (.putfield 224, 3) := by decide +kernel
theorem dX11_starts__73 : decode cX11_starts_ 73 = .ok (.aload_n 0, 1) := by decide +kernel
theorem dX11_starts__74 : decode cX11_starts_ 74 = .ok (.invokevirtual 314, 3) := by decide +kernel
theorem dX11_starts__77 : decode cX11_starts_ 77 = .ok (.aload_n 0, 1) := by decide +kernel
theorem dX11_starts__78 : decode cX11_starts_ 78 = .ok (.invokevirtual 323, 3) := by decide +kernel
theorem dX11_starts__81 : decode cX11_starts_ 81 = .ok (.iload_n 2, 1) := by decide +kernel
theorem dX11_starts__82 : decode cX11_starts_ 82 = .ok (.ireturn, 1) := by decide +kernel
theorem dX11_state_0 : decode cX11_state 0 = .ok (.aload_n 0, 1) := by decide +kernel
theorem dX11_state_1 : decode cX11_state 1 = .ok (.iconst 0, 1) := by decide +kernel
theorem dX11_state_2 : decode cX11_state 2 = .ok (.putfield 80, 3) := by decide +kernel
theorem dX11_state_5 : decode cX11_state 5 = .ok (.aload_n 0, 1) := by decide +kernel
theorem dX11_state_6 : decode cX11_state 6 = .ok (.getfield 232, 3) := by decide +kernel
theorem dX11_state_9 : decode cX11_state 9 = .ok (.ifCond .ne 5, 3) := by decide +kernel
theorem dX11_state_12 : decode cX11_state 12 = .ok (.iconst (-1), 1) := by decide +kernel
theorem dX11_state_13 : decode cX11_state 13 = .ok (.ireturn, 1) := by decide +kernel
theorem dX11_state_14 : decode cX11_state 14 = .ok (.aload_n 0, 1) := by decide +kernel
theorem dX11_state_15 : decode cX11_state 15 = .ok (.invokevirtual 358, 3) := by decide +kernel
theorem dX11_state_18 : decode cX11_state 18 = .ok (.iconst 1, 1) := by decide +kernel
theorem dX11_state_19 : decode cX11_state 19 = .ok (.isub, 1) := by decide +kernel
theorem dX11_state_20 : decode cX11_state 20 = .ok (.istore_n 2, 1) := by decide +kernel
theorem dX11_state_21 : decode cX11_state 21 = .ok (.iload_n 1, 1) := by decide +kernel
theorem dX11_state_22 : decode cX11_state 22 = .ok (.tableswitch 86 0 3 #[30, 44, 50, 72], 30) := by decide +kernel
theorem dX11_state_52 : decode cX11_state 52 = .ok (.aload_n 0, 1) := by decide +kernel
theorem dX11_state_53 : decode cX11_state 53 = .ok (.iload_n 2, 1) := by decide +kernel
theorem dX11_state_54 : decode cX11_state 54 = .ok (.invokevirtual 369, 3) := by decide +kernel
theorem dX11_state_57 : decode cX11_state 57 = .ok (.ifCond .eq 7, 3) := by decide +kernel
theorem dX11_state_60 : decode cX11_state 60 = .ok (.iconst 1, 1) := by decide +kernel
theorem dX11_state_61 : decode cX11_state 61 = .ok (.goto 4, 3) := by decide +kernel
theorem dX11_state_64 : decode cX11_state 64 = .ok (.iconst 0, 1) := by decide +kernel
theorem dX11_state_65 : decode cX11_state 65 = .ok (.ireturn, 1) := by decide +kernel
theorem dX11_state_66 : decode cX11_state 66 = .ok (.aload_n 0, 1) := by decide +kernel
theorem dX11_state_67 : decode cX11_state 67 = .ok (.iload_n 2, 1) := by decide +kernel
theorem dX11_state_68 : decode cX11_state 68 = .ok (.invokevirtual 372, 3) := by decide +kernel
theorem dX11_state_71 : decode cX11_state 71 = .ok (.ireturn, 1) := by decide +kernel
theorem dX11_state_72 : decode cX11_state 72 = .ok (.aload_n 0, 1) := by decide +kernel
theorem dX11_state_73 : decode cX11_state 73 = .ok (.iload_n 2, 1) := by decide +kernel
theorem dX11_state_74 : decode cX11_state 74 = .ok (.invokevirtual 369, 3) := by decide +kernel
theorem dX11_state_77 : decode cX11_state 77 = .ok (.ifCond .eq 15, 3) := by decide +kernel
theorem dX11_state_80 : decode cX11_state 80 = .ok (.aload_n 0, 1) := by decide +kernel
theorem dX11_state_81 : decode cX11_state 81 = .ok (.iload_n 2, 1) := by decide +kernel
theorem dX11_state_82 : decode cX11_state 82 = .ok (.invokevirtual 375, 3) := by decide +kernel
theorem dX11_state_85 : decode cX11_state 85 = .ok (.ifCond .eq 7, 3) := by decide +kernel
theorem dX11_state_88 : decode cX11_state 88 = .ok (.iconst 1, 1) := by decide +kernel
theorem dX11_state_89 : decode cX11_state 89 = .ok (.goto 4, 3) := by decide +kernel
theorem dX11_state_92 : decode cX11_state 92 = .ok (.iconst 0, 1) := by decide +kernel
theorem dX11_state_93 : decode cX11_state 93 = .ok (.ireturn, 1) := by decide +kernel
theorem dX11_state_94 : decode cX11_state 94 = .ok (.aload_n 0, 1) := by decide +kernel
theorem dX11_state_95 : decode cX11_state 95 = .ok (.iconst (-1), 1) := by decide +kernel
theorem dX11_state_96 : decode cX11_state 96 = .ok (.invokevirtual 369, 3) := by decide +kernel
theorem dX11_state_99 : decode cX11_state 99 = .ok (.ifCond .eq 7, 3) := by decide +kernel
theorem dX11_state_102 : decode cX11_state 102 = .ok (.iconst 1, 1) := by decide +kernel
theorem dX11_state_103 : decode cX11_state 103 = .ok (.goto 4, 3) := by decide +kernel
theorem dX11_state_106 : decode cX11_state 106 = .ok (.iconst 0, 1) := by decide +kernel
theorem dX11_state_107 : decode cX11_state 107 = .ok (.ireturn, 1) := by decide +kernel
theorem dX11_state_108 : decode cX11_state 108 = .ok (.iconst (-1), 1) := by decide +kernel
theorem dX11_state_109 : decode cX11_state 109 = .ok (.ireturn, 1) := by decide +kernel
theorem dX11_status_0 : decode cX11_status 0 = .ok (.aload_n 0, 1) := by decide +kernel
theorem dX11_status_1 : decode cX11_status 1 = .ok (.iconst 0, 1) := by decide +kernel
theorem dX11_status_2 : decode cX11_status 2 = .ok (.putfield 80, 3) := by decide +kernel
theorem dX11_status_5 : decode cX11_status 5 = .ok (.iload_n 1, 1) := by decide +kernel
theorem dX11_status_6 : decode cX11_status 6 = .ok (.i2l, 1) := by decide +kernel
theorem dX11_status_7 : decode cX11_status 7 = .ok (.lconst 0, 1) := by decide +kernel
theorem dX11_status_8 : decode cX11_status 8 = .ok (.ldc2_w 355, 3) := by decide +kernel
theorem dX11_status_11 : decode cX11_status 11 = .ok (.invokestatic 132, 3) := by decide +kernel
theorem dX11_status_14 : decode cX11_status 14 = .ok (.ifCond .eq 12, 3) := by decide +kernel
theorem dX11_status_17 : decode cX11_status 17 = .ok (.aload_n 0, 1) := by decide +kernel
theorem dX11_status_18 : decode cX11_status 18 = .ok (.getfield 71, 3) := by decide +kernel
theorem dX11_status_21 : decode cX11_status 21 = .ok (.iload_n 1, 1) := by decide +kernel
theorem dX11_status_22 : decode cX11_status 22 = .ok (.iaload, 1) := by decide +kernel
theorem dX11_status_23 : decode cX11_status 23 = .ok (.goto 4, 3) := by decide +kernel
theorem dX11_status_26 : decode cX11_status 26 = .ok (.iconst (-1), 1) := by decide +kernel
theorem dX11_status_27 : decode cX11_status 27 = .ok (.ireturn, 1) := by decide +kernel
theorem dX11_takes_0 : decode cX11_takes 0 = .ok (.aload_n 0, 1) := by decide +kernel
theorem dX11_takes_1 : decode cX11_takes 1 = .ok (.invokevirtual 105, 3) := by decide +kernel
theorem dX11_takes_4 : decode cX11_takes 4 = .ok (.istore_n 2, 1) := by decide +kernel
theorem dX11_takes_5 : decode cX11_takes 5 = .ok (.iconst 0, 1) := by decide +kernel
theorem dX11_takes_6 : decode cX11_takes 6 = .ok (.istore_n 3, 1) := by decide +kernel
theorem dX11_takes_7 : decode cX11_takes 7 = .ok (.iload_n 3, 1) := by decide +kernel
theorem dX11_takes_8 : decode cX11_takes 8 = .ok (.aload_n 1, 1) := by decide +kernel
theorem dX11_takes_9 : decode cX11_takes 9 = .ok (.invokevirtual 108, 3) := by decide +kernel
theorem dX11_takes_12 : decode cX11_takes 12 = .ok (.if_icmp .ge 43, 3) := by decide +kernel
theorem dX11_takes_15 : decode cX11_takes 15 = .ok (.aload_n 0, 1) := by decide +kernel
theorem dX11_takes_16 : decode cX11_takes 16 = .ok (.getfield 95, 3) := by decide +kernel
theorem dX11_takes_19 : decode cX11_takes 19 = .ok (.iload_n 3, 1) := by decide +kernel
theorem dX11_takes_20 : decode cX11_takes 20 = .ok (.iadd, 1) := by decide +kernel
theorem dX11_takes_21 : decode cX11_takes 21 = .ok (.aload_n 0, 1) := by decide +kernel
theorem dX11_takes_22 : decode cX11_takes 22 = .ok (.getfield 84, 3) := by decide +kernel
theorem dX11_takes_25 : decode cX11_takes 25 = .ok (.if_icmp .ge 22, 3) := by decide +kernel
theorem dX11_takes_28 : decode cX11_takes 28 = .ok (.aload_n 0, 1) := by decide +kernel
theorem dX11_takes_29 : decode cX11_takes 29 = .ok (.getfield 9, 3) := by decide +kernel
theorem dX11_takes_32 : decode cX11_takes 32 = .ok (.aload_n 0, 1) := by decide +kernel
theorem dX11_takes_33 : decode cX11_takes 33 = .ok (.getfield 95, 3) := by decide +kernel
theorem dX11_takes_36 : decode cX11_takes 36 = .ok (.iload_n 3, 1) := by decide +kernel
theorem dX11_takes_37 : decode cX11_takes 37 = .ok (.iadd, 1) := by decide +kernel
theorem dX11_takes_38 : decode cX11_takes 38 = .ok (.baload, 1) := by decide +kernel
theorem dX11_takes_39 : decode cX11_takes 39 = .ok (.aload_n 1, 1) := by decide +kernel
theorem dX11_takes_40 : decode cX11_takes 40 = .ok (.iload_n 3, 1) := by decide +kernel
theorem dX11_takes_41 : decode cX11_takes 41 = .ok (.invokevirtual 112, 3) := by decide +kernel
theorem dX11_takes_44 : decode cX11_takes 44 = .ok (.if_icmp .eq 5, 3) := by decide +kernel
theorem dX11_takes_47 : decode cX11_takes 47 = .ok (.iconst 0, 1) := by decide +kernel
theorem dX11_takes_48 : decode cX11_takes 48 = .ok (.ireturn, 1) := by decide +kernel
theorem dX11_takes_49 : decode cX11_takes 49 = .ok (.iinc 3 1, 3) := by decide +kernel
theorem dX11_takes_52 : decode cX11_takes 52 = .ok (.goto (-45), 3) := by decide +kernel
theorem dX11_takes_55 : decode cX11_takes 55 = .ok (.aload_n 0, 1) := by decide +kernel
theorem dX11_takes_56 : decode cX11_takes 56 = .ok (.getfield 95, 3) := by decide +kernel
theorem dX11_takes_59 : decode cX11_takes 59 = .ok (.aload_n 1, 1) := by decide +kernel
theorem dX11_takes_60 : decode cX11_takes 60 = .ok (.invokevirtual 108, 3) := by decide +kernel
theorem dX11_takes_63 : decode cX11_takes 63 = .ok (.iadd, 1) := by decide +kernel
theorem dX11_takes_64 : decode cX11_takes 64 = .ok (.istore_n 3, 1) := by decide +kernel
theorem dX11_takes_65 : decode cX11_takes 65 = .ok (.iload_n 3, 1) := by decide +kernel
theorem dX11_takes_66 : decode cX11_takes 66 = .ok (.aload_n 0, 1) := by decide +kernel
theorem dX11_takes_67 : decode cX11_takes 67 = .ok (.getfield 84, 3) := by decide +kernel
theorem dX11_takes_70 : decode cX11_takes 70 = .ok (.if_icmp .ge 27, 3) := by decide +kernel
theorem dX11_takes_73 : decode cX11_takes 73 = .ok (.aload_n 0, 1) := by decide +kernel
theorem dX11_takes_74 : decode cX11_takes 74 = .ok (.getfield 9, 3) := by decide +kernel
theorem dX11_takes_77 : decode cX11_takes 77 = .ok (.iload_n 3, 1) := by decide +kernel
theorem dX11_takes_78 : decode cX11_takes 78 = .ok (.baload, 1) := by decide +kernel
theorem dX11_takes_79 : decode cX11_takes 79 = .ok (.bipush 97, 2) := by decide +kernel
theorem dX11_takes_81 : decode cX11_takes 81 = .ok (.if_icmp .lt 16, 3) := by decide +kernel
theorem dX11_takes_84 : decode cX11_takes 84 = .ok (.aload_n 0, 1) := by decide +kernel
theorem dX11_takes_85 : decode cX11_takes 85 = .ok (.getfield 9, 3) := by decide +kernel
theorem dX11_takes_88 : decode cX11_takes 88 = .ok (.iload_n 3, 1) := by decide +kernel
theorem dX11_takes_89 : decode cX11_takes 89 = .ok (.baload, 1) := by decide +kernel
theorem dX11_takes_90 : decode cX11_takes 90 = .ok (.bipush 122, 2) := by decide +kernel
theorem dX11_takes_92 : decode cX11_takes 92 = .ok (.if_icmp .gt 5, 3) := by decide +kernel
theorem dX11_takes_95 : decode cX11_takes 95 = .ok (.iconst 0, 1) := by decide +kernel
theorem dX11_takes_96 : decode cX11_takes 96 = .ok (.ireturn, 1) := by decide +kernel
theorem dX11_takes_97 : decode cX11_takes 97 = .ok (.aload_n 0, 1) := by decide +kernel
theorem dX11_takes_98 : decode cX11_takes 98 = .ok (.iload_n 3, 1) := by decide +kernel
theorem dX11_takes_99 : decode cX11_takes 99 = .ok (.putfield 95, 3) := by decide +kernel
theorem dX11_takes_102 : decode cX11_takes 102 = .ok (.iconst 1, 1) := by decide +kernel
theorem dX11_takes_103 : decode cX11_takes 103 = .ok (.ireturn, 1) := by decide +kernel
theorem dX11_takesUp_0 : decode cX11_takesUp 0 = .ok (.iconst 0, 1) := by decide +kernel
theorem dX11_takesUp_1 : decode cX11_takesUp 1 = .ok (.istore_n 1, 1) := by decide +kernel
theorem dX11_takesUp_2 : decode cX11_takesUp 2 = .ok (.iload_n 1, 1) := by decide +kernel
theorem dX11_takesUp_3 : decode cX11_takesUp 3 = .ok (.bipush 9, 2) := by decide +kernel
theorem dX11_takesUp_5 : decode cX11_takesUp 5 = .ok (.if_icmp .ge 137, 3) := by decide +kernel
theorem dX11_takesUp_8 : decode cX11_takesUp 8 = .ok (.aload_n 0, 1) := by decide +kernel
theorem dX11_takesUp_9 : decode cX11_takesUp 9 = .ok (.getfield 26, 3) := by decide +kernel
theorem dX11_takesUp_12 : decode cX11_takesUp 12 = .ok (.iload_n 1, 1) := by decide +kernel
theorem dX11_takesUp_13 : decode cX11_takesUp 13 = .ok (.aload_n 0, 1) := by decide +kernel
theorem dX11_takesUp_14 : decode cX11_takesUp 14 = .ok (.getfield 57, 3) := by decide +kernel
theorem dX11_takesUp_17 : decode cX11_takesUp 17 = .ok (.iconst 0, 1) := by decide +kernel
theorem dX11_takesUp_18 : decode cX11_takesUp 18 = .ok (.iload_n 1, 1) := by decide +kernel
theorem dX11_takesUp_19 : decode cX11_takesUp 19 = .ok (.iadd, 1) := by decide +kernel
theorem dX11_takesUp_20 : decode cX11_takesUp 20 = .ok (.iaload, 1) := by decide +kernel
theorem dX11_takesUp_21 : decode cX11_takesUp 21 = .ok (.iastore, 1) := by decide +kernel
theorem dX11_takesUp_22 : decode cX11_takesUp 22 = .ok (.aload_n 0, 1) := by decide +kernel
theorem dX11_takesUp_23 : decode cX11_takesUp 23 = .ok (.getfield 29, 3) := by decide +kernel
theorem dX11_takesUp_26 : decode cX11_takesUp 26 = .ok (.iload_n 1, 1) := by decide +kernel
theorem dX11_takesUp_27 : decode cX11_takesUp 27 = .ok (.aload_n 0, 1) := by decide +kernel
theorem dX11_takesUp_28 : decode cX11_takesUp 28 = .ok (.getfield 57, 3) := by decide +kernel
theorem dX11_takesUp_31 : decode cX11_takesUp 31 = .ok (.bipush 9, 2) := by decide +kernel
theorem dX11_takesUp_33 : decode cX11_takesUp 33 = .ok (.iload_n 1, 1) := by decide +kernel
theorem dX11_takesUp_34 : decode cX11_takesUp 34 = .ok (.iadd, 1) := by decide +kernel
theorem dX11_takesUp_35 : decode cX11_takesUp 35 = .ok (.iaload, 1) := by decide +kernel
theorem dX11_takesUp_36 : decode cX11_takesUp 36 = .ok (.iastore, 1) := by decide +kernel
theorem dX11_takesUp_37 : decode cX11_takesUp 37 = .ok (.aload_n 0, 1) := by decide +kernel
theorem dX11_takesUp_38 : decode cX11_takesUp 38 = .ok (.getfield 32, 3) := by decide +kernel
theorem dX11_takesUp_41 : decode cX11_takesUp 41 = .ok (.iload_n 1, 1) := by decide +kernel
theorem dX11_takesUp_42 : decode cX11_takesUp 42 = .ok (.aload_n 0, 1) := by decide +kernel
theorem dX11_takesUp_43 : decode cX11_takesUp 43 = .ok (.getfield 57, 3) := by decide +kernel
theorem dX11_takesUp_46 : decode cX11_takesUp 46 = .ok (.bipush 18, 2) := by decide +kernel
theorem dX11_takesUp_48 : decode cX11_takesUp 48 = .ok (.iload_n 1, 1) := by decide +kernel
theorem dX11_takesUp_49 : decode cX11_takesUp 49 = .ok (.iadd, 1) := by decide +kernel
theorem dX11_takesUp_50 : decode cX11_takesUp 50 = .ok (.iaload, 1) := by decide +kernel
theorem dX11_takesUp_51 : decode cX11_takesUp 51 = .ok (.iastore, 1) := by decide +kernel
theorem dX11_takesUp_52 : decode cX11_takesUp 52 = .ok (.aload_n 0, 1) := by decide +kernel
theorem dX11_takesUp_53 : decode cX11_takesUp 53 = .ok (.getfield 50, 3) := by decide +kernel
theorem dX11_takesUp_56 : decode cX11_takesUp 56 = .ok (.iload_n 1, 1) := by decide +kernel
theorem dX11_takesUp_57 : decode cX11_takesUp 57 = .ok (.aload_n 0, 1) := by decide +kernel
theorem dX11_takesUp_58 : decode cX11_takesUp 58 = .ok (.getfield 57, 3) := by decide +kernel
theorem dX11_takesUp_61 : decode cX11_takesUp 61 = .ok (.bipush 27, 2) := by decide +kernel
theorem dX11_takesUp_63 : decode cX11_takesUp 63 = .ok (.iload_n 1, 1) := by decide +kernel
theorem dX11_takesUp_64 : decode cX11_takesUp 64 = .ok (.iadd, 1) := by decide +kernel
theorem dX11_takesUp_65 : decode cX11_takesUp 65 = .ok (.iaload, 1) := by decide +kernel
theorem dX11_takesUp_66 : decode cX11_takesUp 66 = .ok (.iconst 1, 1) := by decide +kernel
theorem dX11_takesUp_67 : decode cX11_takesUp 67 = .ok (.if_icmp .ne 7, 3) := by decide +kernel
theorem dX11_takesUp_70 : decode cX11_takesUp 70 = .ok (.iconst 1, 1) := by decide +kernel
theorem dX11_takesUp_71 : decode cX11_takesUp 71 = .ok (.goto 4, 3) := by decide +kernel
theorem dX11_takesUp_74 : decode cX11_takesUp 74 = .ok (.iconst 0, 1) := by decide +kernel
theorem dX11_takesUp_75 : decode cX11_takesUp 75 = .ok (.bastore, 1) := by decide +kernel
theorem dX11_takesUp_76 : decode cX11_takesUp 76 = .ok (.aload_n 0, 1) := by decide +kernel
theorem dX11_takesUp_77 : decode cX11_takesUp 77 = .ok (.getfield 35, 3) := by decide +kernel
theorem dX11_takesUp_80 : decode cX11_takesUp 80 = .ok (.iload_n 1, 1) := by decide +kernel
theorem dX11_takesUp_81 : decode cX11_takesUp 81 = .ok (.aload_n 0, 1) := by decide +kernel
theorem dX11_takesUp_82 : decode cX11_takesUp 82 = .ok (.getfield 57, 3) := by decide +kernel
theorem dX11_takesUp_85 : decode cX11_takesUp 85 = .ok (.bipush 36, 2) := by decide +kernel
theorem dX11_takesUp_87 : decode cX11_takesUp 87 = .ok (.iload_n 1, 1) := by decide +kernel
theorem dX11_takesUp_88 : decode cX11_takesUp 88 = .ok (.iadd, 1) := by decide +kernel
theorem dX11_takesUp_89 : decode cX11_takesUp 89 = .ok (.iaload, 1) := by decide +kernel
theorem dX11_takesUp_90 : decode cX11_takesUp 90 = .ok (.iastore, 1) := by decide +kernel
theorem dX11_takesUp_91 : decode cX11_takesUp 91 = .ok (.aload_n 0, 1) := by decide +kernel
theorem dX11_takesUp_92 : decode cX11_takesUp 92 = .ok (.getfield 38, 3) := by decide +kernel
theorem dX11_takesUp_95 : decode cX11_takesUp 95 = .ok (.iload_n 1, 1) := by decide +kernel
theorem dX11_takesUp_96 : decode cX11_takesUp 96 = .ok (.aload_n 0, 1) := by decide +kernel
theorem dX11_takesUp_97 : decode cX11_takesUp 97 = .ok (.getfield 57, 3) := by decide +kernel
theorem dX11_takesUp_100 : decode cX11_takesUp 100 = .ok (.bipush 45, 2) := by decide +kernel
theorem dX11_takesUp_102 : decode cX11_takesUp 102 = .ok (.iload_n 1, 1) := by decide +kernel
theorem dX11_takesUp_103 : decode cX11_takesUp 103 = .ok (.iadd, 1) := by decide +kernel
theorem dX11_takesUp_104 : decode cX11_takesUp 104 = .ok (.iaload, 1) := by decide +kernel
theorem dX11_takesUp_105 : decode cX11_takesUp 105 = .ok (.iastore, 1) := by decide +kernel
theorem dX11_takesUp_106 : decode cX11_takesUp 106 = .ok (.aload_n 0, 1) := by decide +kernel
theorem dX11_takesUp_107 : decode cX11_takesUp 107 = .ok (.getfield 41, 3) := by decide +kernel
theorem dX11_takesUp_110 : decode cX11_takesUp 110 = .ok (.iload_n 1, 1) := by decide +kernel
theorem dX11_takesUp_111 : decode cX11_takesUp 111 = .ok (.aload_n 0, 1) := by decide +kernel
theorem dX11_takesUp_112 : decode cX11_takesUp 112 = .ok (.getfield 57, 3) := by decide +kernel
theorem dX11_takesUp_115 : decode cX11_takesUp 115 = .ok (.bipush 54, 2) := by decide +kernel
theorem dX11_takesUp_117 : decode cX11_takesUp 117 = .ok (.iload_n 1, 1) := by decide +kernel
theorem dX11_takesUp_118 : decode cX11_takesUp 118 = .ok (.iadd, 1) := by decide +kernel
theorem dX11_takesUp_119 : decode cX11_takesUp 119 = .ok (.iaload, 1) := by decide +kernel
theorem dX11_takesUp_120 : decode cX11_takesUp 120 = .ok (.iastore, 1) := by decide +kernel
theorem dX11_takesUp_121 : decode cX11_takesUp 121 = .ok (.aload_n 0, 1) := by decide +kernel
theorem dX11_takesUp_122 : decode cX11_takesUp 122 = .ok (.getfield 44, 3) := by decide +kernel
theorem dX11_takesUp_125 : decode cX11_takesUp 125 = .ok (.iload_n 1, 1) := by decide +kernel
theorem dX11_takesUp_126 : decode cX11_takesUp 126 = .ok (.aload_n 0, 1) := by decide +kernel
theorem dX11_takesUp_127 : decode cX11_takesUp 127 = .ok (.getfield 57, 3) := by decide +kernel
theorem dX11_takesUp_130 : decode cX11_takesUp 130 = .ok (.bipush 63, 2) := by decide +kernel
theorem dX11_takesUp_132 : decode cX11_takesUp 132 = .ok (.iload_n 1, 1) := by decide +kernel
theorem dX11_takesUp_133 : decode cX11_takesUp 133 = .ok (.iadd, 1) := by decide +kernel
theorem dX11_takesUp_134 : decode cX11_takesUp 134 = .ok (.iaload, 1) := by decide +kernel
theorem dX11_takesUp_135 : decode cX11_takesUp 135 = .ok (.iastore, 1) := by decide +kernel
theorem dX11_takesUp_136 : decode cX11_takesUp 136 = .ok (.iinc 1 1, 3) := by decide +kernel
theorem dX11_takesUp_139 : decode cX11_takesUp 139 = .ok (.goto (-137), 3) := by decide +kernel
theorem dX11_takesUp_142 : decode cX11_takesUp 142 = .ok (.aload_n 0, 1) := by decide +kernel
theorem dX11_takesUp_143 : decode cX11_takesUp 143 = .ok (.aload_n 0, 1) := by decide +kernel
theorem dX11_takesUp_144 : decode cX11_takesUp 144 = .ok (.getfield 57, 3) := by decide +kernel
theorem dX11_takesUp_147 : decode cX11_takesUp 147 = .ok (.bipush 72, 2) := by decide +kernel
theorem dX11_takesUp_149 : decode cX11_takesUp 149 = .ok (.iaload, 1) := by decide +kernel
theorem dX11_takesUp_150 : decode cX11_takesUp 150 = .ok (.putfield 251, 3) := by decide +kernel
theorem dX11_takesUp_153 : decode cX11_takesUp 153 = .ok (.aload_n 0, 1) := by decide +kernel
theorem dX11_takesUp_154 : decode cX11_takesUp 154 = .ok (.aload_n 0, 1) := by decide +kernel
theorem dX11_takesUp_155 : decode cX11_takesUp 155 = .ok (.getfield 57, 3) := by decide +kernel
theorem dX11_takesUp_158 : decode cX11_takesUp 158 = .ok (.bipush 73, 2) := by decide +kernel
theorem dX11_takesUp_160 : decode cX11_takesUp 160 = .ok (.iaload, 1) := by decide +kernel
theorem dX11_takesUp_161 : decode cX11_takesUp 161 = .ok (.putfield 254, 3) := by decide +kernel
theorem dX11_takesUp_164 : decode cX11_takesUp 164 = .ok (.aload_n 0, 1) := by decide +kernel
theorem dX11_takesUp_165 : decode cX11_takesUp 165 = .ok (.aload_n 0, 1) := by decide +kernel
theorem dX11_takesUp_166 : decode cX11_takesUp 166 = .ok (.getfield 57, 3) := by decide +kernel
theorem dX11_takesUp_169 : decode cX11_takesUp 169 = .ok (.bipush 74, 2) := by decide +kernel
theorem dX11_takesUp_171 : decode cX11_takesUp 171 = .ok (.iaload, 1) := by decide +kernel
theorem dX11_takesUp_172 : decode cX11_takesUp 172 = .ok (.putfield 257, 3) := by decide +kernel
theorem dX11_takesUp_175 : decode cX11_takesUp 175 = .ok (.aload_n 0, 1) := by decide +kernel
theorem dX11_takesUp_176 : decode cX11_takesUp 176 = .ok (.aload_n 0, 1) := by decide +kernel
theorem dX11_takesUp_177 : decode cX11_takesUp 177 = .ok (.getfield 57, 3) := by decide +kernel
theorem dX11_takesUp_180 : decode cX11_takesUp 180 = .ok (.bipush 75, 2) := by decide +kernel
theorem dX11_takesUp_182 : decode cX11_takesUp 182 = .ok (.iaload, 1) := by decide +kernel
theorem dX11_takesUp_183 : decode cX11_takesUp 183 = .ok (.putfield 224, 3) := by decide +kernel
theorem dX11_takesUp_186 : decode cX11_takesUp 186 = .ok (.aload_n 0, 1) := by decide +kernel
theorem dX11_takesUp_187 : decode cX11_takesUp 187 = .ok (.aload_n 0, 1) := by decide +kernel
theorem dX11_takesUp_188 : decode cX11_takesUp 188 = .ok (.getfield 57, 3) := by decide +kernel
theorem dX11_takesUp_191 : decode cX11_takesUp 191 = .ok (.bipush 76, 2) := by decide +kernel
theorem dX11_takesUp_193 : decode cX11_takesUp 193 = .ok (.iaload, 1) := by decide +kernel
theorem dX11_takesUp_194 : decode cX11_takesUp 194 = .ok (.putfield 226, 3) := by decide +kernel
theorem dX11_takesUp_197 : decode cX11_takesUp 197 = .ok (.aload_n 0, 1) := by decide +kernel
theorem dX11_takesUp_198 : decode cX11_takesUp 198 = .ok (.aload_n 0, 1) := by decide +kernel
theorem dX11_takesUp_199 : decode cX11_takesUp 199 = .ok (.getfield 57, 3) := by decide +kernel
theorem dX11_takesUp_202 : decode cX11_takesUp 202 = .ok (.bipush 77, 2) := by decide +kernel
theorem dX11_takesUp_204 : decode cX11_takesUp 204 = .ok (.iaload, 1) := by decide +kernel
theorem dX11_takesUp_205 : decode cX11_takesUp 205 = .ok (.putfield 236, 3) := by decide +kernel
theorem dX11_takesUp_208 : decode cX11_takesUp 208 = .ok (.iconst 0, 1) := by decide +kernel
theorem dX11_takesUp_209 : decode cX11_takesUp 209 = .ok (.istore_n 1, 1) := by decide +kernel
theorem dX11_takesUp_210 : decode cX11_takesUp 210 = .ok (.iload_n 1, 1) := by decide +kernel
theorem dX11_takesUp_211 : decode cX11_takesUp 211 = .ok (.sipush 150, 3) := by decide +kernel
theorem dX11_takesUp_214 : decode cX11_takesUp 214 = .ok (.if_icmp .ge 25, 3) := by decide +kernel
theorem dX11_takesUp_217 : decode cX11_takesUp 217 = .ok (.aload_n 0, 1) := by decide +kernel
theorem dX11_takesUp_218 : decode cX11_takesUp 218 = .ok (.getfield 23, 3) := by decide +kernel
theorem dX11_takesUp_221 : decode cX11_takesUp 221 = .ok (.iload_n 1, 1) := by decide +kernel
theorem dX11_takesUp_222 : decode cX11_takesUp 222 = .ok (.aload_n 0, 1) := by decide +kernel
theorem dX11_takesUp_223 : decode cX11_takesUp 223 = .ok (.getfield 57, 3) := by decide +kernel
theorem dX11_takesUp_226 : decode cX11_takesUp 226 = .ok (.sipush 1976, 3) := by decide +kernel
theorem dX11_takesUp_229 : decode cX11_takesUp 229 = .ok (.iload_n 1, 1) := by decide +kernel
theorem dX11_takesUp_230 : decode cX11_takesUp 230 = .ok (.iadd, 1) := by decide +kernel
theorem dX11_takesUp_231 : decode cX11_takesUp 231 = .ok (.iaload, 1) := by decide +kernel
theorem dX11_takesUp_232 : decode cX11_takesUp 232 = .ok (.iastore, 1) := by decide +kernel
theorem dX11_takesUp_233 : decode cX11_takesUp 233 = .ok (.iinc 1 1, 3) := by decide +kernel
theorem dX11_takesUp_236 : decode cX11_takesUp 236 = .ok (.goto (-26), 3) := by decide +kernel
theorem dX11_takesUp_239 : decode cX11_takesUp 239 = .ok (.aload_n 0, 1) := by decide +kernel
theorem dX11_takesUp_240 : decode cX11_takesUp 240 = .ok (.aload_n 0, 1) := by decide +kernel
theorem dX11_takesUp_241 : decode cX11_takesUp 241 = .ok (.getfield 320, 3) := by decide +kernel
theorem dX11_takesUp_244 : decode cX11_takesUp 244 = .ok (.putfield 260, 3) := by decide +kernel
theorem dX11_takesUp_247 : decode cX11_takesUp 247 = .ok (.aload_n 0, 1) := by decide +kernel
theorem dX11_takesUp_248 : decode cX11_takesUp 248 = .ok (.iconst 0, 1) := by decide +kernel
theorem dX11_takesUp_249 : decode cX11_takesUp 249 = .ok (.putfield 277, 3) := by decide +kernel
theorem dX11_takesUp_252 : decode cX11_takesUp 252 = .ok (.return_, 1) := by decide +kernel
theorem dX11_told_0 : decode cX11_told 0 = .ok (.aload_n 0, 1) := by decide +kernel
theorem dX11_told_1 : decode cX11_told 1 = .ok (.iconst 0, 1) := by decide +kernel
theorem dX11_told_2 : decode cX11_told 2 = .ok (.putfield 80, 3) := by decide +kernel
theorem dX11_told_5 : decode cX11_told 5 = .ok (.aload_n 0, 1) := by decide +kernel
theorem dX11_told_6 : decode cX11_told 6 = .ok (.iload_n 1, 1) := by decide +kernel
theorem dX11_told_7 : decode cX11_told 7 = .ok (.invokevirtual 347, 3) := by decide +kernel
theorem dX11_told_10 : decode cX11_told 10 = .ok (.ifCond .eq 46, 3) := by decide +kernel
theorem dX11_told_13 : decode cX11_told 13 = .ok (.iload_n 2, 1) := by decide +kernel
theorem dX11_told_14 : decode cX11_told 14 = .ok (.i2l, 1) := by decide +kernel
theorem dX11_told_15 : decode cX11_told 15 = .ok (.lconst 0, 1) := by decide +kernel
theorem dX11_told_16 : decode cX11_told 16 = .ok (.aload_n 0, 1) := by decide +kernel
theorem dX11_told_17 : decode cX11_told 17 = .ok (.invokevirtual 358, 3) := by decide +kernel
theorem dX11_told_20 : decode cX11_told 20 = .ok (.iconst 1, 1) := by decide +kernel
theorem dX11_told_21 : decode cX11_told 21 = .ok (.isub, 1) := by decide +kernel
theorem dX11_told_22 : decode cX11_told 22 = .ok (.i2l, 1) := by decide +kernel
theorem dX11_told_23 : decode cX11_told 23 = .ok (.invokestatic 132, 3) := by decide +kernel
theorem dX11_told_26 : decode cX11_told 26 = .ok (.ifCond .eq 30, 3) := by decide +kernel
theorem dX11_told_29 : decode cX11_told 29 = .ok (.iload_n 3, 1) := by decide +kernel
theorem dX11_told_30 : decode cX11_told 30 = .ok (.i2l, 1) := by decide +kernel
theorem dX11_told_31 : decode cX11_told 31 = .ok (.lconst 0, 1) := by decide +kernel
theorem dX11_told_32 : decode cX11_told 32 = .ok (.ldc2_w 361, 3) := by decide +kernel
theorem dX11_told_35 : decode cX11_told 35 = .ok (.invokestatic 132, 3) := by decide +kernel
theorem dX11_told_38 : decode cX11_told 38 = .ok (.ifCond .eq 18, 3) := by decide +kernel
theorem dX11_told_41 : decode cX11_told 41 = .ok (.aload_n 0, 1) := by decide +kernel
theorem dX11_told_42 : decode cX11_told 42 = .ok (.getfield 57, 3) := by decide +kernel
theorem dX11_told_45 : decode cX11_told 45 = .ok (.iload_n 2, 1) := by decide +kernel
theorem dX11_told_46 : decode cX11_told 46 = .ok (.iload_n 1, 1) := by decide +kernel
theorem dX11_told_47 : decode cX11_told 47 = .ok (.invokestatic 332, 3) := by decide +kernel
theorem dX11_told_50 : decode cX11_told 50 = .ok (.iload_n 3, 1) := by decide +kernel
theorem dX11_told_51 : decode cX11_told 51 = .ok (.iadd, 1) := by decide +kernel
theorem dX11_told_52 : decode cX11_told 52 = .ok (.iaload, 1) := by decide +kernel
theorem dX11_told_53 : decode cX11_told 53 = .ok (.goto 4, 3) := by decide +kernel
theorem dX11_told_56 : decode cX11_told 56 = .ok (.iconst (-1), 1) := by decide +kernel
theorem dX11_told_57 : decode cX11_told 57 = .ok (.ireturn, 1) := by decide +kernel
theorem dX11_toldAt_0 : decode cX11_toldAt 0 = .ok (.sipush 1538, 3) := by decide +kernel
theorem dX11_toldAt_3 : decode cX11_toldAt 3 = .ok (.bipush 8, 2) := by decide +kernel
theorem dX11_toldAt_5 : decode cX11_toldAt 5 = .ok (.bipush 9, 2) := by decide +kernel
theorem dX11_toldAt_7 : decode cX11_toldAt 7 = .ok (.iload_n 0, 1) := by decide +kernel
theorem dX11_toldAt_8 : decode cX11_toldAt 8 = .ok (.imul, 1) := by decide +kernel
theorem dX11_toldAt_9 : decode cX11_toldAt 9 = .ok (.iload_n 1, 1) := by decide +kernel
theorem dX11_toldAt_10 : decode cX11_toldAt 10 = .ok (.iadd, 1) := by decide +kernel
theorem dX11_toldAt_11 : decode cX11_toldAt 11 = .ok (.imul, 1) := by decide +kernel
theorem dX11_toldAt_12 : decode cX11_toldAt 12 = .ok (.iadd, 1) := by decide +kernel
theorem dX11_toldAt_13 : decode cX11_toldAt 13 = .ok (.ireturn, 1) := by decide +kernel
theorem dX11_trueOf_0 : decode cX11_trueOf 0 = .ok (.iconst 0, 1) := by decide +kernel
theorem dX11_trueOf_1 : decode cX11_trueOf 1 = .ok (.istore 4, 2) := by decide +kernel
theorem dX11_trueOf_3 : decode cX11_trueOf 3 = .ok (.iconst 0, 1) := by decide +kernel
theorem dX11_trueOf_4 : decode cX11_trueOf 4 = .ok (.istore 5, 2) := by decide +kernel
theorem dX11_trueOf_6 : decode cX11_trueOf 6 = .ok (.iload 5, 2) := by decide +kernel
theorem dX11_trueOf_8 : decode cX11_trueOf 8 = .ok (.aload_n 0, 1) := by decide +kernel
theorem dX11_trueOf_9 : decode cX11_trueOf 9 = .ok (.getfield 215, 3) := by decide +kernel
theorem dX11_trueOf_12 : decode cX11_trueOf 12 = .ok (.if_icmp .ge 45, 3) := by decide +kernel
theorem dX11_trueOf_15 : decode cX11_trueOf 15 = .ok (.iload 4, 2) := by decide +kernel
theorem dX11_trueOf_17 : decode cX11_trueOf 17 = .ok (.aload_n 0, 1) := by decide +kernel
theorem dX11_trueOf_18 : decode cX11_trueOf 18 = .ok (.iload 5, 2) := by decide +kernel
theorem dX11_trueOf_20 : decode cX11_trueOf 20 = .ok (.invokevirtual 363, 3) := by decide +kernel
theorem dX11_trueOf_23 : decode cX11_trueOf 23 = .ok (.ifCond .eq 24, 3) := by decide +kernel
theorem dX11_trueOf_26 : decode cX11_trueOf 26 = .ok (.aload_n 0, 1) := by decide +kernel
theorem dX11_trueOf_27 : decode cX11_trueOf 27 = .ok (.getfield 57, 3) := by decide +kernel
theorem dX11_trueOf_30 : decode cX11_trueOf 30 = .ok (.iload_n 1, 1) := by decide +kernel
theorem dX11_trueOf_31 : decode cX11_trueOf 31 = .ok (.iload 5, 2) := by decide +kernel
theorem dX11_trueOf_33 : decode cX11_trueOf 33 = .ok (.invokestatic 332, 3) := by decide +kernel
theorem dX11_trueOf_36 : decode cX11_trueOf 36 = .ok (.iload_n 2, 1) := by decide +kernel
theorem dX11_trueOf_37 : decode cX11_trueOf 37 = .ok (.iadd, 1) := by decide +kernel
theorem dX11_trueOf_38 : decode cX11_trueOf 38 = .ok (.iaload, 1) := by decide +kernel
theorem dX11_trueOf_39 : decode cX11_trueOf 39 = .ok (.iload_n 3, 1) := by decide +kernel
theorem dX11_trueOf_40 : decode cX11_trueOf 40 = .ok (.if_icmp .ne 7, 3) := by decide +kernel
theorem dX11_trueOf_43 : decode cX11_trueOf 43 = .ok (.iconst 1, 1) := by decide +kernel
theorem dX11_trueOf_44 : decode cX11_trueOf 44 = .ok (.goto 4, 3) := by decide +kernel
theorem dX11_trueOf_47 : decode cX11_trueOf 47 = .ok (.iconst 0, 1) := by decide +kernel
theorem dX11_trueOf_48 : decode cX11_trueOf 48 = .ok (.iadd, 1) := by decide +kernel
theorem dX11_trueOf_49 : decode cX11_trueOf 49 = .ok (.istore 4, 2) := by decide +kernel
theorem dX11_trueOf_51 : decode cX11_trueOf 51 = .ok (.iinc 5 1, 3) := by decide +kernel
theorem dX11_trueOf_54 : decode cX11_trueOf 54 = .ok (.goto (-48), 3) := by decide +kernel
theorem dX11_trueOf_57 : decode cX11_trueOf 57 = .ok (.iload 4, 2) := by decide +kernel
theorem dX11_trueOf_59 : decode cX11_trueOf 59 = .ok (.ireturn, 1) := by decide +kernel
theorem dX11_trueOnes_0 : decode cX11_trueOnes 0 = .ok (.iconst 0, 1) := by decide +kernel
theorem dX11_trueOnes_1 : decode cX11_trueOnes 1 = .ok (.istore_n 2, 1) := by decide +kernel
theorem dX11_trueOnes_2 : decode cX11_trueOnes 2 = .ok (.iconst 0, 1) := by decide +kernel
theorem dX11_trueOnes_3 : decode cX11_trueOnes 3 = .ok (.istore_n 3, 1) := by decide +kernel
theorem dX11_trueOnes_4 : decode cX11_trueOnes 4 = .ok (.iload_n 3, 1) := by decide +kernel
theorem dX11_trueOnes_5 : decode cX11_trueOnes 5 = .ok (.aload_n 0, 1) := by decide +kernel
theorem dX11_trueOnes_6 : decode cX11_trueOnes 6 = .ok (.getfield 215, 3) := by decide +kernel
theorem dX11_trueOnes_9 : decode cX11_trueOnes 9 = .ok (.if_icmp .ge 30, 3) := by decide +kernel
theorem dX11_trueOnes_12 : decode cX11_trueOnes 12 = .ok (.iload_n 2, 1) := by decide +kernel
theorem dX11_trueOnes_13 : decode cX11_trueOnes 13 = .ok (.aload_n 0, 1) := by decide +kernel
theorem dX11_trueOnes_14 : decode cX11_trueOnes 14 = .ok (.iload_n 3, 1) := by decide +kernel
theorem dX11_trueOnes_15 : decode cX11_trueOnes 15 = .ok (.invokevirtual 363, 3) := by decide +kernel
theorem dX11_trueOnes_18 : decode cX11_trueOnes 18 = .ok (.ifCond .eq 12, 3) := by decide +kernel
theorem dX11_trueOnes_21 : decode cX11_trueOnes 21 = .ok (.aload_n 0, 1) := by decide +kernel
theorem dX11_trueOnes_22 : decode cX11_trueOnes 22 = .ok (.iload_n 1, 1) := by decide +kernel
theorem dX11_trueOnes_23 : decode cX11_trueOnes 23 = .ok (.iload_n 3, 1) := by decide +kernel
theorem dX11_trueOnes_24 : decode cX11_trueOnes 24 = .ok (.invokevirtual 366, 3) := by decide +kernel
theorem dX11_trueOnes_27 : decode cX11_trueOnes 27 = .ok (.goto 4, 3) := by decide +kernel
theorem dX11_trueOnes_30 : decode cX11_trueOnes 30 = .ok (.iconst 0, 1) := by decide +kernel
theorem dX11_trueOnes_31 : decode cX11_trueOnes 31 = .ok (.iadd, 1) := by decide +kernel
theorem dX11_trueOnes_32 : decode cX11_trueOnes 32 = .ok (.istore_n 2, 1) := by decide +kernel
theorem dX11_trueOnes_33 : decode cX11_trueOnes 33 = .ok (.iinc 3 1, 3) := by decide +kernel
theorem dX11_trueOnes_36 : decode cX11_trueOnes 36 = .ok (.goto (-32), 3) := by decide +kernel
theorem dX11_trueOnes_39 : decode cX11_trueOnes 39 = .ok (.iload_n 2, 1) := by decide +kernel
theorem dX11_trueOnes_40 : decode cX11_trueOnes 40 = .ok (.ireturn, 1) := by decide +kernel
theorem dX11_trueRuler_0 : decode cX11_trueRuler 0 = .ok (.aload_n 0, 1) := by decide +kernel
theorem dX11_trueRuler_1 : decode cX11_trueRuler 1 = .ok (.iconst 0, 1) := by decide +kernel
theorem dX11_trueRuler_2 : decode cX11_trueRuler 2 = .ok (.putfield 80, 3) := by decide +kernel
theorem dX11_trueRuler_5 : decode cX11_trueRuler 5 = .ok (.iconst 0, 1) := by decide +kernel
theorem dX11_trueRuler_6 : decode cX11_trueRuler 6 = .ok (.istore_n 1, 1) := by decide +kernel
theorem dX11_trueRuler_7 : decode cX11_trueRuler 7 = .ok (.iload_n 1, 1) := by decide +kernel
theorem dX11_trueRuler_8 : decode cX11_trueRuler 8 = .ok (.aload_n 0, 1) := by decide +kernel
theorem dX11_trueRuler_9 : decode cX11_trueRuler 9 = .ok (.getfield 220, 3) := by decide +kernel
theorem dX11_trueRuler_12 : decode cX11_trueRuler 12 = .ok (.if_icmp .ge 31, 3) := by decide +kernel
theorem dX11_trueRuler_15 : decode cX11_trueRuler 15 = .ok (.aload_n 0, 1) := by decide +kernel
theorem dX11_trueRuler_16 : decode cX11_trueRuler 16 = .ok (.getfield 232, 3) := by decide +kernel
theorem dX11_trueRuler_19 : decode cX11_trueRuler 19 = .ok (.ifCond .eq 24, 3) := by decide +kernel
theorem dX11_trueRuler_22 : decode cX11_trueRuler 22 = .ok (.aload_n 0, 1) := by decide +kernel
theorem dX11_trueRuler_23 : decode cX11_trueRuler 23 = .ok (.iload_n 1, 1) := by decide +kernel
theorem dX11_trueRuler_24 : decode cX11_trueRuler 24 = .ok (.aload_n 0, 1) := by decide +kernel
theorem dX11_trueRuler_25 : decode cX11_trueRuler 25 = .ok (.getfield 215, 3) := by decide +kernel
theorem dX11_trueRuler_28 : decode cX11_trueRuler 28 = .ok (.irem, 1) := by decide +kernel
theorem dX11_trueRuler_29 : decode cX11_trueRuler 29 = .ok (.invokevirtual 363, 3) := by decide +kernel
theorem dX11_trueRuler_32 : decode cX11_trueRuler 32 = .ok (.ifCond .eq 5, 3) := by decide +kernel
theorem dX11_trueRuler_35 : decode cX11_trueRuler 35 = .ok (.iload_n 1, 1) := by decide +kernel
theorem dX11_trueRuler_36 : decode cX11_trueRuler 36 = .ok (.ireturn, 1) := by decide +kernel
theorem dX11_trueRuler_37 : decode cX11_trueRuler 37 = .ok (.iinc 1 1, 3) := by decide +kernel
theorem dX11_trueRuler_40 : decode cX11_trueRuler 40 = .ok (.goto (-33), 3) := by decide +kernel
theorem dX11_trueRuler_43 : decode cX11_trueRuler 43 = .ok (.iconst (-1), 1) := by decide +kernel
theorem dX11_trueRuler_44 : decode cX11_trueRuler 44 = .ok (.ireturn, 1) := by decide +kernel
theorem dX11_undo_0 : decode cX11_undo 0 = .ok (.aload_n 0, 1) := by decide +kernel
theorem dX11_undo_1 : decode cX11_undo 1 = .ok (.iconst 0, 1) := by decide +kernel
theorem dX11_undo_2 : decode cX11_undo 2 = .ok (.putfield 80, 3) := by decide +kernel
theorem dX11_undo_5 : decode cX11_undo 5 = .ok (.aload_n 0, 1) := by decide +kernel
theorem dX11_undo_6 : decode cX11_undo 6 = .ok (.getfield 239, 3) := by decide +kernel
theorem dX11_undo_9 : decode cX11_undo 9 = .ok (.ifCond .ne 5, 3) := by decide +kernel
theorem dX11_undo_12 : decode cX11_undo 12 = .ok (.iconst (-1), 1) := by decide +kernel
theorem dX11_undo_13 : decode cX11_undo 13 = .ok (.ireturn, 1) := by decide +kernel
theorem dX11_undo_14 : decode cX11_undo 14 = .ok (.aload_n 0, 1) := by decide +kernel
theorem dX11_undo_15 : decode cX11_undo 15 = .ok (.dup, 1) := by decide +kernel
theorem dX11_undo_16 : decode cX11_undo 16 = .ok (.getfield 239, 3) := by decide +kernel
theorem dX11_undo_19 : decode cX11_undo 19 = .ok (.iconst 1, 1) := by decide +kernel
theorem dX11_undo_20 : decode cX11_undo 20 = .ok (.isub, 1) := by decide +kernel
theorem dX11_undo_21 : decode cX11_undo 21 = .ok (.putfield 239, 3) := by decide +kernel
theorem dX11_undo_24 : decode cX11_undo 24 = .ok (.iconst 0, 1) := by decide +kernel
theorem dX11_undo_25 : decode cX11_undo 25 = .ok (.istore_n 1, 1) := by decide +kernel
theorem dX11_undo_26 : decode cX11_undo 26 = .ok (.iload_n 1, 1) := by decide +kernel
theorem dX11_undo_27 : decode cX11_undo 27 = .ok (.sipush 2126, 3) := by decide +kernel
theorem dX11_undo_30 : decode cX11_undo 30 = .ok (.if_icmp .ge 30, 3) := by decide +kernel
theorem dX11_undo_33 : decode cX11_undo 33 = .ok (.aload_n 0, 1) := by decide +kernel
theorem dX11_undo_34 : decode cX11_undo 34 = .ok (.getfield 57, 3) := by decide +kernel
theorem dX11_undo_37 : decode cX11_undo 37 = .ok (.iload_n 1, 1) := by decide +kernel
theorem dX11_undo_38 : decode cX11_undo 38 = .ok (.aload_n 0, 1) := by decide +kernel
theorem dX11_undo_39 : decode cX11_undo 39 = .ok (.getfield 64, 3) := by decide +kernel
theorem dX11_undo_42 : decode cX11_undo 42 = .ok (.sipush 2126, 3) := by decide +kernel
theorem dX11_undo_45 : decode cX11_undo 45 = .ok (.aload_n 0, 1) := by decide +kernel
theorem dX11_undo_46 : decode cX11_undo 46 = .ok (.getfield 239, 3) := by decide +kernel
theorem dX11_undo_49 : decode cX11_undo 49 = .ok (.imul, 1) := by decide +kernel
theorem dX11_undo_50 : decode cX11_undo 50 = .ok (.iload_n 1, 1) := by decide +kernel
theorem dX11_undo_51 : decode cX11_undo 51 = .ok (.iadd, 1) := by decide +kernel
theorem dX11_undo_52 : decode cX11_undo 52 = .ok (.iaload, 1) := by decide +kernel
theorem dX11_undo_53 : decode cX11_undo 53 = .ok (.iastore, 1) := by decide +kernel
theorem dX11_undo_54 : decode cX11_undo 54 = .ok (.iinc 1 1, 3) := by decide +kernel
theorem dX11_undo_57 : decode cX11_undo 57 = .ok (.goto (-31), 3) := by decide +kernel
theorem dX11_undo_60 : decode cX11_undo 60 = .ok (.aload_n 0, 1) := by decide +kernel
theorem dX11_undo_61 : decode cX11_undo 61 = .ok (.aload_n 0, 1) := by decide +kernel
theorem dX11_undo_62 : decode cX11_undo 62 = .ok (.getfield 67, 3) := by decide +kernel
theorem dX11_undo_65 : decode cX11_undo 65 = .ok (.aload_n 0, 1) := by decide +kernel
theorem dX11_undo_66 : decode cX11_undo 66 = .ok (.getfield 239, 3) := by decide +kernel
theorem dX11_undo_69 : decode cX11_undo 69 = .ok (.laload, 1) := by decide +kernel
theorem dX11_undo_70 : decode cX11_undo 70 = .ok (.putfield 320, 3) := by decide +kernel
theorem dX11_undo_73 : decode cX11_undo 73 = .ok (.aload_n 0, 1) := by decide +kernel
theorem dX11_undo_74 : decode cX11_undo 74 = .ok (.getfield 239, 3) := by decide +kernel
theorem dX11_undo_77 : decode cX11_undo 77 = .ok (.ireturn, 1) := by decide +kernel
theorem dX11_weakest_0 : decode cX11_weakest 0 = .ok (.aload_n 0, 1) := by decide +kernel
theorem dX11_weakest_1 : decode cX11_weakest 1 = .ok (.iconst 0, 1) := by decide +kernel
theorem dX11_weakest_2 : decode cX11_weakest 2 = .ok (.putfield 80, 3) := by decide +kernel
theorem dX11_weakest_5 : decode cX11_weakest 5 = .ok (.aload_n 0, 1) := by decide +kernel
theorem dX11_weakest_6 : decode cX11_weakest 6 = .ok (.getfield 232, 3) := by decide +kernel
theorem dX11_weakest_9 : decode cX11_weakest 9 = .ok (.ifCond .ne 6, 3) := by decide +kernel
theorem dX11_weakest_12 : decode cX11_weakest 12 = .ok (.bipush (-2), 2) := by decide +kernel
theorem dX11_weakest_14 : decode cX11_weakest 14 = .ok (.ireturn, 1) := by decide +kernel
theorem dX11_weakest_15 : decode cX11_weakest 15 = .ok (.aload_n 0, 1) := by decide +kernel
theorem dX11_weakest_16 : decode cX11_weakest 16 = .ok (.invokevirtual 329, 3) := by decide +kernel
theorem dX11_weakest_19 : decode cX11_weakest 19 = .ok (.aload_n 0, 1) := by decide +kernel
theorem dX11_weakest_20 : decode cX11_weakest 20 = .ok (.getfield 226, 3) := by decide +kernel
theorem dX11_weakest_23 : decode cX11_weakest 23 = .ok (.istore_n 1, 1) := by decide +kernel
theorem dX11_weakest_24 : decode cX11_weakest 24 = .ok (.iconst 0, 1) := by decide +kernel
theorem dX11_weakest_25 : decode cX11_weakest 25 = .ok (.istore_n 2, 1) := by decide +kernel
theorem dX11_weakest_26 : decode cX11_weakest 26 = .ok (.iload_n 2, 1) := by decide +kernel
theorem dX11_weakest_27 : decode cX11_weakest 27 = .ok (.aload_n 0, 1) := by decide +kernel
theorem dX11_weakest_28 : decode cX11_weakest 28 = .ok (.getfield 215, 3) := by decide +kernel
theorem dX11_weakest_31 : decode cX11_weakest 31 = .ok (.if_icmp .ge 61, 3) := by decide +kernel
theorem dX11_weakest_34 : decode cX11_weakest 34 = .ok (.iload_n 1, 1) := by decide +kernel
theorem dX11_weakest_35 : decode cX11_weakest 35 = .ok (.iload_n 2, 1) := by decide +kernel
theorem dX11_weakest_36 : decode cX11_weakest 36 = .ok (.invokestatic 161, 3) := by decide +kernel
theorem dX11_weakest_39 : decode cX11_weakest 39 = .ok (.ifCond .ne 47, 3) := by decide +kernel
theorem dX11_weakest_42 : decode cX11_weakest 42 = .ok (.iload_n 1, 1) := by decide +kernel
theorem dX11_weakest_43 : decode cX11_weakest 43 = .ok (.iconst 1, 1) := by decide +kernel
theorem dX11_weakest_44 : decode cX11_weakest 44 = .ok (.iload_n 2, 1) := by decide +kernel
theorem dX11_weakest_45 : decode cX11_weakest 45 = .ok (.ishl, 1) := by decide +kernel
theorem dX11_weakest_46 : decode cX11_weakest 46 = .ok (.ior, 1) := by decide +kernel
theorem dX11_weakest_47 : decode cX11_weakest 47 = .ok (.iconst 1, 1) := by decide +kernel
theorem dX11_weakest_48 : decode cX11_weakest 48 = .ok (.aload_n 0, 1) := by decide +kernel
theorem dX11_weakest_49 : decode cX11_weakest 49 = .ok (.getfield 215, 3) := by decide +kernel
theorem dX11_weakest_52 : decode cX11_weakest 52 = .ok (.ishl, 1) := by decide +kernel
theorem dX11_weakest_53 : decode cX11_weakest 53 = .ok (.iconst 1, 1) := by decide +kernel
theorem dX11_weakest_54 : decode cX11_weakest 54 = .ok (.isub, 1) := by decide +kernel
theorem dX11_weakest_55 : decode cX11_weakest 55 = .ok (.if_icmp .ne 6, 3) := by decide +kernel
theorem dX11_weakest_58 : decode cX11_weakest 58 = .ok (.goto 28, 3) := by decide +kernel
theorem dX11_weakest_61 : decode cX11_weakest 61 = .ok (.aload_n 0, 1) := by decide +kernel
theorem dX11_weakest_62 : decode cX11_weakest 62 = .ok (.iload_n 1, 1) := by decide +kernel
theorem dX11_weakest_63 : decode cX11_weakest 63 = .ok (.iconst 1, 1) := by decide +kernel
theorem dX11_weakest_64 : decode cX11_weakest 64 = .ok (.iload_n 2, 1) := by decide +kernel
theorem dX11_weakest_65 : decode cX11_weakest 65 = .ok (.ishl, 1) := by decide +kernel
theorem dX11_weakest_66 : decode cX11_weakest 66 = .ok (.ior, 1) := by decide +kernel
theorem dX11_weakest_67 : decode cX11_weakest 67 = .ok (.putfield 226, 3) := by decide +kernel
theorem dX11_weakest_70 : decode cX11_weakest 70 = .ok (.aload_n 0, 1) := by decide +kernel
theorem dX11_weakest_71 : decode cX11_weakest 71 = .ok (.aload_n 0, 1) := by decide +kernel
theorem dX11_weakest_72 : decode cX11_weakest 72 = .ok (.getfield 220, 3) := by decide +kernel
theorem dX11_weakest_75 : decode cX11_weakest 75 = .ok (.invokevirtual 386, 3) := by decide +kernel
theorem dX11_weakest_78 : decode cX11_weakest 78 = .ok (.bipush 12, 2) := by decide +kernel
theorem dX11_weakest_80 : decode cX11_weakest 80 = .ok (.if_icmp .le 6, 3) := by decide +kernel
theorem dX11_weakest_83 : decode cX11_weakest 83 = .ok (.bipush (-2), 2) := by decide +kernel
theorem dX11_weakest_85 : decode cX11_weakest 85 = .ok (.ireturn, 1) := by decide +kernel
theorem dX11_weakest_86 : decode cX11_weakest 86 = .ok (.iinc 2 1, 3) := by decide +kernel
theorem dX11_weakest_89 : decode cX11_weakest 89 = .ok (.goto (-63), 3) := by decide +kernel
theorem dX11_weakest_92 : decode cX11_weakest 92 = .ok (.iconst 0, 1) := by decide +kernel
theorem dX11_weakest_93 : decode cX11_weakest 93 = .ok (.istore_n 2, 1) := by decide +kernel
theorem dX11_weakest_94 : decode cX11_weakest 94 = .ok (.iload_n 2, 1) := by decide +kernel
theorem dX11_weakest_95 : decode cX11_weakest 95 = .ok (.aload_n 0, 1) := by decide +kernel
theorem dX11_weakest_96 : decode cX11_weakest 96 = .ok (.getfield 215, 3) := by decide +kernel
theorem dX11_weakest_99 : decode cX11_weakest 99 = .ok (.if_icmp .ge 55, 3) := by decide +kernel
theorem dX11_weakest_102 : decode cX11_weakest 102 = .ok (.iload_n 1, 1) := by decide +kernel
theorem dX11_weakest_103 : decode cX11_weakest 103 = .ok (.iload_n 2, 1) := by decide +kernel
theorem dX11_weakest_104 : decode cX11_weakest 104 = .ok (.invokestatic 161, 3) := by decide +kernel
theorem dX11_weakest_107 : decode cX11_weakest 107 = .ok (.ifCond .ne 41, 3) := by decide +kernel
theorem dX11_weakest_110 : decode cX11_weakest 110 = .ok (.iload_n 1, 1) := by decide +kernel
theorem dX11_weakest_111 : decode cX11_weakest 111 = .ok (.iconst 1, 1) := by decide +kernel
theorem dX11_weakest_112 : decode cX11_weakest 112 = .ok (.iload_n 2, 1) := by decide +kernel
theorem dX11_weakest_113 : decode cX11_weakest 113 = .ok (.ishl, 1) := by decide +kernel
theorem dX11_weakest_114 : decode cX11_weakest 114 = .ok (.ior, 1) := by decide +kernel
theorem dX11_weakest_115 : decode cX11_weakest 115 = .ok (.iconst 1, 1) := by decide +kernel
theorem dX11_weakest_116 : decode cX11_weakest 116 = .ok (.aload_n 0, 1) := by decide +kernel
theorem dX11_weakest_117 : decode cX11_weakest 117 = .ok (.getfield 215, 3) := by decide +kernel
theorem dX11_weakest_120 : decode cX11_weakest 120 = .ok (.ishl, 1) := by decide +kernel
theorem dX11_weakest_121 : decode cX11_weakest 121 = .ok (.iconst 1, 1) := by decide +kernel
theorem dX11_weakest_122 : decode cX11_weakest 122 = .ok (.isub, 1) := by decide +kernel
theorem dX11_weakest_123 : decode cX11_weakest 123 = .ok (.if_icmp .ne 6, 3) := by decide +kernel
theorem dX11_weakest_126 : decode cX11_weakest 126 = .ok (.goto 22, 3) := by decide +kernel
theorem dX11_weakest_129 : decode cX11_weakest 129 = .ok (.aload_n 0, 1) := by decide +kernel
theorem dX11_weakest_130 : decode cX11_weakest 130 = .ok (.iload_n 1, 1) := by decide +kernel
theorem dX11_weakest_131 : decode cX11_weakest 131 = .ok (.iconst 1, 1) := by decide +kernel
theorem dX11_weakest_132 : decode cX11_weakest 132 = .ok (.iload_n 2, 1) := by decide +kernel
theorem dX11_weakest_133 : decode cX11_weakest 133 = .ok (.ishl, 1) := by decide +kernel
theorem dX11_weakest_134 : decode cX11_weakest 134 = .ok (.ior, 1) := by decide +kernel
theorem dX11_weakest_135 : decode cX11_weakest 135 = .ok (.putfield 226, 3) := by decide +kernel
theorem dX11_weakest_138 : decode cX11_weakest 138 = .ok (.aload_n 0, 1) := by decide +kernel
theorem dX11_weakest_139 : decode cX11_weakest 139 = .ok (.invokevirtual 399, 3) := by decide +kernel
theorem dX11_weakest_142 : decode cX11_weakest 142 = .ok (.iconst (-1), 1) := by decide +kernel
theorem dX11_weakest_143 : decode cX11_weakest 143 = .ok (.if_icmp .eq 5, 3) := by decide +kernel
theorem dX11_weakest_146 : decode cX11_weakest 146 = .ok (.iload_n 2, 1) := by decide +kernel
theorem dX11_weakest_147 : decode cX11_weakest 147 = .ok (.ireturn, 1) := by decide +kernel
theorem dX11_weakest_148 : decode cX11_weakest 148 = .ok (.iinc 2 1, 3) := by decide +kernel
theorem dX11_weakest_151 : decode cX11_weakest 151 = .ok (.goto (-57), 3) := by decide +kernel
theorem dX11_weakest_154 : decode cX11_weakest 154 = .ok (.iconst (-1), 1) := by decide +kernel
theorem dX11_weakest_155 : decode cX11_weakest 155 = .ok (.ireturn, 1) := by decide +kernel
theorem dX11_writesDigit_0 : decode cX11_writesDigit 0 = .ok (.aload_n 0, 1) := by decide +kernel
theorem dX11_writesDigit_1 : decode cX11_writesDigit 1 = .ok (.getfield 74, 3) := by decide +kernel
theorem dX11_writesDigit_4 : decode cX11_writesDigit 4 = .ok (.aload_n 0, 1) := by decide +kernel
theorem dX11_writesDigit_5 : decode cX11_writesDigit 5 = .ok (.getfield 414, 3) := by decide +kernel
theorem dX11_writesDigit_8 : decode cX11_writesDigit 8 = .ok (.bipush 48, 2) := by decide +kernel
theorem dX11_writesDigit_10 : decode cX11_writesDigit 10 = .ok (.iload_n 1, 1) := by decide +kernel
theorem dX11_writesDigit_11 : decode cX11_writesDigit 11 = .ok (.iadd, 1) := by decide +kernel
theorem dX11_writesDigit_12 : decode cX11_writesDigit 12 = .ok (.iastore, 1) := by decide +kernel
theorem dX11_writesDigit_13 : decode cX11_writesDigit 13 = .ok (.aload_n 0, 1) := by decide +kernel
theorem dX11_writesDigit_14 : decode cX11_writesDigit 14 = .ok (.dup, 1) := by decide +kernel
theorem dX11_writesDigit_15 : decode cX11_writesDigit 15 = .ok (.getfield 414, 3) := by decide +kernel
theorem dX11_writesDigit_18 : decode cX11_writesDigit 18 = .ok (.iconst 1, 1) := by decide +kernel
theorem dX11_writesDigit_19 : decode cX11_writesDigit 19 = .ok (.iadd, 1) := by decide +kernel
theorem dX11_writesDigit_20 : decode cX11_writesDigit 20 = .ok (.putfield 414, 3) := by decide +kernel
theorem dX11_writesDigit_23 : decode cX11_writesDigit 23 = .ok (.return_, 1) := by decide +kernel
theorem dX11_writesPlan_0 : decode cX11_writesPlan 0 = .ok (.aload_n 0, 1) := by decide +kernel
theorem dX11_writesPlan_1 : decode cX11_writesPlan 1 = .ok (.iconst 0, 1) := by decide +kernel
theorem dX11_writesPlan_2 : decode cX11_writesPlan 2 = .ok (.putfield 414, 3) := by decide +kernel
theorem dX11_writesPlan_5 : decode cX11_writesPlan 5 = .ok (.iload_n 1, 1) := by decide +kernel
theorem dX11_writesPlan_6 : decode cX11_writesPlan 6 = .ok (.istore_n 2, 1) := by decide +kernel
theorem dX11_writesPlan_7 : decode cX11_writesPlan 7 = .ok (.iconst 0, 1) := by decide +kernel
theorem dX11_writesPlan_8 : decode cX11_writesPlan 8 = .ok (.istore_n 3, 1) := by decide +kernel
theorem dX11_writesPlan_9 : decode cX11_writesPlan 9 = .ok (.iload_n 3, 1) := by decide +kernel
theorem dX11_writesPlan_10 : decode cX11_writesPlan 10 = .ok (.aload_n 0, 1) := by decide +kernel
theorem dX11_writesPlan_11 : decode cX11_writesPlan 11 = .ok (.invokevirtual 335, 3) := by decide +kernel
theorem dX11_writesPlan_14 : decode cX11_writesPlan 14 = .ok (.if_icmp .ge 194, 3) := by decide +kernel
theorem dX11_writesPlan_17 : decode cX11_writesPlan 17 = .ok (.iload_n 3, 1) := by decide +kernel
theorem dX11_writesPlan_18 : decode cX11_writesPlan 18 = .ok (.aload_n 0, 1) := by decide +kernel
theorem dX11_writesPlan_19 : decode cX11_writesPlan 19 = .ok (.invokevirtual 287, 3) := by decide +kernel
theorem dX11_writesPlan_22 : decode cX11_writesPlan 22 = .ok (.idiv, 1) := by decide +kernel
theorem dX11_writesPlan_23 : decode cX11_writesPlan 23 = .ok (.istore 4, 2) := by decide +kernel
theorem dX11_writesPlan_25 : decode cX11_writesPlan 25 = .ok (.iload_n 3, 1) := by decide +kernel
theorem dX11_writesPlan_26 : decode cX11_writesPlan 26 = .ok (.aload_n 0, 1) := by decide +kernel
theorem dX11_writesPlan_27 : decode cX11_writesPlan 27 = .ok (.invokevirtual 287, 3) := by decide +kernel
theorem dX11_writesPlan_30 : decode cX11_writesPlan 30 = .ok (.irem, 1) := by decide +kernel
theorem dX11_writesPlan_31 : decode cX11_writesPlan 31 = .ok (.istore 5, 2) := by decide +kernel
theorem dX11_writesPlan_33 : decode cX11_writesPlan 33 = .ok (.iconst 0, 1) := by decide +kernel
theorem dX11_writesPlan_34 : decode cX11_writesPlan 34 = .ok (.istore 6, 2) := by decide +kernel
theorem dX11_writesPlan_36 : decode cX11_writesPlan 36 = .ok (.iload 6, 2) := by decide +kernel
theorem dX11_writesPlan_38 : decode cX11_writesPlan 38 = .ok (.aload_n 0, 1) := by decide +kernel
theorem dX11_writesPlan_39 : decode cX11_writesPlan 39 = .ok (.getfield 215, 3) := by decide +kernel
theorem dX11_writesPlan_42 : decode cX11_writesPlan 42 = .ok (.aload_n 0, 1) := by decide +kernel
theorem dX11_writesPlan_43 : decode cX11_writesPlan 43 = .ok (.getfield 215, 3) := by decide +kernel
theorem dX11_writesPlan_46 : decode cX11_writesPlan 46 = .ok (.imul, 1) := by decide +kernel
theorem dX11_writesPlan_47 : decode cX11_writesPlan 47 = .ok (.if_icmp .ge 155, 3) := by decide +kernel
theorem dX11_writesPlan_50 : decode cX11_writesPlan 50 = .ok (.iload 6, 2) := by decide +kernel
theorem dX11_writesPlan_52 : decode cX11_writesPlan 52 = .ok (.aload_n 0, 1) := by decide +kernel
theorem dX11_writesPlan_53 : decode cX11_writesPlan 53 = .ok (.getfield 215, 3) := by decide +kernel
theorem dX11_writesPlan_56 : decode cX11_writesPlan 56 = .ok (.idiv, 1) := by decide +kernel
theorem dX11_writesPlan_57 : decode cX11_writesPlan 57 = .ok (.istore 7, 2) := by decide +kernel
theorem dX11_writesPlan_59 : decode cX11_writesPlan 59 = .ok (.iload 6, 2) := by decide +kernel
theorem dX11_writesPlan_61 : decode cX11_writesPlan 61 = .ok (.aload_n 0, 1) := by decide +kernel
theorem dX11_writesPlan_62 : decode cX11_writesPlan 62 = .ok (.getfield 215, 3) := by decide +kernel
theorem dX11_writesPlan_65 : decode cX11_writesPlan 65 = .ok (.irem, 1) := by decide +kernel
theorem dX11_writesPlan_66 : decode cX11_writesPlan 66 = .ok (.istore 8, 2) := by decide +kernel
theorem dX11_writesPlan_68 : decode cX11_writesPlan 68 = .ok (.aload_n 0, 1) := by decide +kernel
theorem dX11_writesPlan_69 : decode cX11_writesPlan 69 = .ok (.iload 7, 2) := by decide +kernel
theorem dX11_writesPlan_71 : decode cX11_writesPlan 71 = .ok (.invokevirtual 274, 3) := by decide +kernel
theorem dX11_writesPlan_74 : decode cX11_writesPlan 74 = .ok (.ifCond .eq 122, 3) := by decide +kernel
theorem dX11_writesPlan_77 : decode cX11_writesPlan 77 = .ok (.aload_n 0, 1) := by decide +kernel
theorem dX11_writesPlan_78 : decode cX11_writesPlan 78 = .ok (.iload 8, 2) := by decide +kernel
theorem dX11_writesPlan_80 : decode cX11_writesPlan 80 = .ok (.invokevirtual 274, 3) := by decide +kernel
theorem dX11_writesPlan_83 : decode cX11_writesPlan 83 = .ok (.ifCond .ne 113, 3) := by decide +kernel
theorem dX11_writesPlan_86 : decode cX11_writesPlan 86 = .ok (.iload 5, 2) := by decide +kernel
theorem dX11_writesPlan_88 : decode cX11_writesPlan 88 = .ok (.aload_n 0, 1) := by decide +kernel
theorem dX11_writesPlan_89 : decode cX11_writesPlan 89 = .ok (.invokevirtual 287, 3) := by decide +kernel
theorem dX11_writesPlan_92 : decode cX11_writesPlan 92 = .ok (.iconst 1, 1) := by decide +kernel
theorem dX11_writesPlan_93 : decode cX11_writesPlan 93 = .ok (.isub, 1) := by decide +kernel
theorem dX11_writesPlan_94 : decode cX11_writesPlan 94 = .ok (.if_icmp .ne 18, 3) := by decide +kernel
theorem dX11_writesPlan_97 : decode cX11_writesPlan 97 = .ok (.iload 7, 2) := by decide +kernel
theorem dX11_writesPlan_99 : decode cX11_writesPlan 99 = .ok (.iload 4, 2) := by decide +kernel
theorem dX11_writesPlan_101 : decode cX11_writesPlan 101 = .ok (.aload_n 0, 1) := by decide +kernel
theorem dX11_writesPlan_102 : decode cX11_writesPlan 102 = .ok (.getfield 215, 3) := by decide +kernel
theorem dX11_writesPlan_105 : decode cX11_writesPlan 105 = .ok (.irem, 1) := by decide +kernel
theorem dX11_writesPlan_106 : decode cX11_writesPlan 106 = .ok (.if_icmp .eq 6, 3) := by decide +kernel
theorem dX11_writesPlan_109 : decode cX11_writesPlan 109 = .ok (.goto 87, 3) := by decide +kernel
theorem dX11_writesPlan_112 : decode cX11_writesPlan 112 = .ok (.aload_n 0, 1) := by decide +kernel
theorem dX11_writesPlan_113 : decode cX11_writesPlan 113 = .ok (.getfield 414, 3) := by decide +kernel
theorem dX11_writesPlan_116 : decode cX11_writesPlan 116 = .ok (.ifCond .le 10, 3) := by decide +kernel
theorem dX11_writesPlan_119 : decode cX11_writesPlan 119 = .ok (.aload_n 0, 1) := by decide +kernel
theorem dX11_writesPlan_120 : decode cX11_writesPlan 120 = .ok (.ldc_w 417, 3) := by decide +kernel
theorem dX11_writesPlan_123 : decode cX11_writesPlan 123 = .ok (.invokevirtual 419, 3) := by decide +kernel
theorem dX11_writesPlan_126 : decode cX11_writesPlan 126 = .ok (.aload_n 0, 1) := by decide +kernel
theorem dX11_writesPlan_127 : decode cX11_writesPlan 127 = .ok (.ldc_w 423, 3) := by decide +kernel
theorem dX11_writesPlan_130 : decode cX11_writesPlan 130 = .ok (.invokevirtual 419, 3) := by decide +kernel
theorem dX11_writesPlan_133 : decode cX11_writesPlan 133 = .ok (.aload_n 0, 1) := by decide +kernel
theorem dX11_writesPlan_134 : decode cX11_writesPlan 134 = .ok (.iload 4, 2) := by decide +kernel
theorem dX11_writesPlan_136 : decode cX11_writesPlan 136 = .ok (.invokevirtual 425, 3) := by decide +kernel
theorem dX11_writesPlan_139 : decode cX11_writesPlan 139 = .ok (.aload_n 0, 1) := by decide +kernel
theorem dX11_writesPlan_140 : decode cX11_writesPlan 140 = .ok (.ldc_w 428, 3) := by decide +kernel
theorem dX11_writesPlan_143 : decode cX11_writesPlan 143 = .ok (.invokevirtual 419, 3) := by decide +kernel
theorem dX11_writesPlan_146 : decode cX11_writesPlan 146 = .ok (.aload_n 0, 1) := by decide +kernel
theorem dX11_writesPlan_147 : decode cX11_writesPlan 147 = .ok (.iload 5, 2) := by decide +kernel
theorem dX11_writesPlan_149 : decode cX11_writesPlan 149 = .ok (.invokevirtual 425, 3) := by decide +kernel
theorem dX11_writesPlan_152 : decode cX11_writesPlan 152 = .ok (.aload_n 0, 1) := by decide +kernel
theorem dX11_writesPlan_153 : decode cX11_writesPlan 153 = .ok (.ldc_w 430, 3) := by decide +kernel
theorem dX11_writesPlan_156 : decode cX11_writesPlan 156 = .ok (.invokevirtual 419, 3) := by decide +kernel
theorem dX11_writesPlan_159 : decode cX11_writesPlan 159 = .ok (.aload_n 0, 1) := by decide +kernel
theorem dX11_writesPlan_160 : decode cX11_writesPlan 160 = .ok (.iload 7, 2) := by decide +kernel
theorem dX11_writesPlan_162 : decode cX11_writesPlan 162 = .ok (.invokevirtual 425, 3) := by decide +kernel
theorem dX11_writesPlan_165 : decode cX11_writesPlan 165 = .ok (.aload_n 0, 1) := by decide +kernel
theorem dX11_writesPlan_166 : decode cX11_writesPlan 166 = .ok (.ldc_w 432, 3) := by decide +kernel
theorem dX11_writesPlan_169 : decode cX11_writesPlan 169 = .ok (.invokevirtual 419, 3) := by decide +kernel
theorem dX11_writesPlan_172 : decode cX11_writesPlan 172 = .ok (.aload_n 0, 1) := by decide +kernel
theorem dX11_writesPlan_173 : decode cX11_writesPlan 173 = .ok (.iload 8, 2) := by decide +kernel
theorem dX11_writesPlan_175 : decode cX11_writesPlan 175 = .ok (.invokevirtual 425, 3) := by decide +kernel
theorem dX11_writesPlan_178 : decode cX11_writesPlan 178 = .ok (.aload_n 0, 1) := by decide +kernel
theorem dX11_writesPlan_179 : decode cX11_writesPlan 179 = .ok (.ldc_w 434, 3) := by decide +kernel
theorem dX11_writesPlan_182 : decode cX11_writesPlan 182 = .ok (.invokevirtual 419, 3) := by decide +kernel
theorem dX11_writesPlan_185 : decode cX11_writesPlan 185 = .ok (.aload_n 0, 1) := by decide +kernel
theorem dX11_writesPlan_186 : decode cX11_writesPlan 186 = .ok (.iload_n 2, 1) := by decide +kernel
theorem dX11_writesPlan_187 : decode cX11_writesPlan 187 = .ok (.iconst 1, 1) := by decide +kernel
theorem dX11_writesPlan_188 : decode cX11_writesPlan 188 = .ok (.iand, 1) := by decide +kernel
theorem dX11_writesPlan_189 : decode cX11_writesPlan 189 = .ok (.invokevirtual 425, 3) := by decide +kernel
theorem dX11_writesPlan_192 : decode cX11_writesPlan 192 = .ok (.iload_n 2, 1) := by decide +kernel
theorem dX11_writesPlan_193 : decode cX11_writesPlan 193 = .ok (.iconst 1, 1) := by decide +kernel
theorem dX11_writesPlan_194 : decode cX11_writesPlan 194 = .ok (.ishr, 1) := by decide +kernel
theorem dX11_writesPlan_195 : decode cX11_writesPlan 195 = .ok (.istore_n 2, 1) := by decide +kernel
theorem dX11_writesPlan_196 : decode cX11_writesPlan 196 = .ok (.iinc 6 1, 3) := by decide +kernel
theorem dX11_writesPlan_199 : decode cX11_writesPlan 199 = .ok (.goto (-163), 3) := by decide +kernel
theorem dX11_writesPlan_202 : decode cX11_writesPlan 202 = .ok (.iinc 3 1, 3) := by decide +kernel
theorem dX11_writesPlan_205 : decode cX11_writesPlan 205 = .ok (.goto (-196), 3) := by decide +kernel
theorem dX11_writesPlan_208 : decode cX11_writesPlan 208 = .ok (.return_, 1) := by decide +kernel
theorem dX11_writesWord_0 : decode cX11_writesWord 0 = .ok (.iconst 0, 1) := by decide +kernel
theorem dX11_writesWord_1 : decode cX11_writesWord 1 = .ok (.istore_n 2, 1) := by decide +kernel
theorem dX11_writesWord_2 : decode cX11_writesWord 2 = .ok (.iload_n 2, 1) := by decide +kernel
theorem dX11_writesWord_3 : decode cX11_writesWord 3 = .ok (.aload_n 1, 1) := by decide +kernel
theorem dX11_writesWord_4 : decode cX11_writesWord 4 = .ok (.invokevirtual 108, 3) := by decide +kernel
theorem dX11_writesWord_7 : decode cX11_writesWord 7 = .ok (.if_icmp .ge 33, 3) := by decide +kernel
theorem dX11_writesWord_10 : decode cX11_writesWord 10 = .ok (.aload_n 0, 1) := by decide +kernel
theorem dX11_writesWord_11 : decode cX11_writesWord 11 = .ok (.getfield 74, 3) := by decide +kernel
theorem dX11_writesWord_14 : decode cX11_writesWord 14 = .ok (.aload_n 0, 1) := by decide +kernel
theorem dX11_writesWord_15 : decode cX11_writesWord 15 = .ok (.getfield 414, 3) := by decide +kernel
theorem dX11_writesWord_18 : decode cX11_writesWord 18 = .ok (.aload_n 1, 1) := by decide +kernel
theorem dX11_writesWord_19 : decode cX11_writesWord 19 = .ok (.iload_n 2, 1) := by decide +kernel
theorem dX11_writesWord_20 : decode cX11_writesWord 20 = .ok (.invokevirtual 112, 3) := by decide +kernel
theorem dX11_writesWord_23 : decode cX11_writesWord 23 = .ok (.iastore, 1) := by decide +kernel
theorem dX11_writesWord_24 : decode cX11_writesWord 24 = .ok (.aload_n 0, 1) := by decide +kernel
theorem dX11_writesWord_25 : decode cX11_writesWord 25 = .ok (.dup, 1) := by decide +kernel
theorem dX11_writesWord_26 : decode cX11_writesWord 26 = .ok (.getfield 414, 3) := by decide +kernel
theorem dX11_writesWord_29 : decode cX11_writesWord 29 = .ok (.iconst 1, 1) := by decide +kernel
theorem dX11_writesWord_30 : decode cX11_writesWord 30 = .ok (.iadd, 1) := by decide +kernel
theorem dX11_writesWord_31 : decode cX11_writesWord 31 = .ok (.putfield 414, 3) := by decide +kernel
theorem dX11_writesWord_34 : decode cX11_writesWord 34 = .ok (.iinc 2 1, 3) := by decide +kernel
theorem dX11_writesWord_37 : decode cX11_writesWord 37 = .ok (.goto (-35), 3) := by decide +kernel
theorem dX11_writesWord_40 : decode cX11_writesWord 40 = .ok (.return_, 1) := by decide +kernel
theorem dX1_choose_0 : decode cX1_choose 0 = .ok (.aload_n 1, 1) := by decide +kernel
theorem dX1_choose_1 : decode cX1_choose 1 = .ok (.invokevirtual 7, 3) := by decide +kernel
theorem dX1_choose_4 : decode cX1_choose 4 = .ok (.ireturn, 1) := by decide +kernel
theorem dX1_init_0 : decode cX1_init 0 = .ok (.aload_n 0, 1) := by decide +kernel
theorem dX1_init_1 : decode cX1_init 1 = .ok (.invokespecial 1, 3) := by decide +kernel
theorem dX1_init_4 : decode cX1_init 4 = .ok (.return_, 1) := by decide +kernel
theorem dX2_allRounds_0 : decode cX2_allRounds 0 = .ok (.aload_n 0, 1) := by decide +kernel
theorem dX2_allRounds_1 : decode cX2_allRounds 1 = .ok (.getfield 21, 3) := by decide +kernel
theorem dX2_allRounds_4 : decode cX2_allRounds 4 = .ok (.aload_n 0, 1) := by decide +kernel
theorem dX2_allRounds_5 : decode cX2_allRounds 5 = .ok (.invokevirtual 112, 3) := by decide +kernel
theorem dX2_allRounds_8 : decode cX2_allRounds 8 = .ok (.imul, 1) := by decide +kernel
theorem dX2_allRounds_9 : decode cX2_allRounds 9 = .ok (.ireturn, 1) := by decide +kernel
theorem dX2_clear_0 : decode cX2_clear 0 = .ok (.aload_n 0, 1) := by decide +kernel
theorem dX2_clear_1 : decode cX2_clear 1 = .ok (.iconst 0, 1) := by decide +kernel
theorem dX2_clear_2 : decode cX2_clear 2 = .ok (.putfield 70, 3) := by decide +kernel
theorem dX2_clear_5 : decode cX2_clear 5 = .ok (.aload_n 0, 1) := by decide +kernel
theorem dX2_clear_6 : decode cX2_clear 6 = .ok (.iconst 0, 1) := by decide +kernel
theorem dX2_clear_7 : decode cX2_clear 7 = .ok (.putfield 15, 3) := by decide +kernel
theorem dX2_clear_10 : decode cX2_clear 10 = .ok (.aload_n 0, 1) := by decide +kernel
theorem dX2_clear_11 : decode cX2_clear 11 = .ok (.iconst 0, 1) := by decide +kernel
theorem dX2_clear_12 : decode cX2_clear 12 = .ok (.putfield 24, 3) := by decide +kernel
theorem dX2_clear_15 : decode cX2_clear 15 = .ok (.aload_n 0, 1) := by decide +kernel
theorem dX2_clear_16 : decode cX2_clear 16 = .ok (.iconst 0, 1) := by decide +kernel
theorem dX2_clear_17 : decode cX2_clear 17 = .ok (.putfield 27, 3) := by decide +kernel
theorem dX2_clear_20 : decode cX2_clear 20 = .ok (.aload_n 0, 1) := by decide +kernel
theorem dX2_clear_21 : decode cX2_clear 21 = .ok (.iconst 0, 1) := by decide +kernel
theorem dX2_clear_22 : decode cX2_clear 22 = .ok (.putfield 30, 3) := by decide +kernel
theorem dX2_clear_25 : decode cX2_clear 25 = .ok (.return_, 1) := by decide +kernel
theorem dX2_copy_0 : decode cX2_copy 0 = .ok (.aload_n 0, 1) := by decide +kernel
theorem dX2_copy_1 : decode cX2_copy 1 = .ok (.aload_n 1, 1) := by decide +kernel
theorem dX2_copy_2 : decode cX2_copy 2 = .ok (.getfield 9, 3) := by decide +kernel
theorem dX2_copy_5 : decode cX2_copy 5 = .ok (.putfield 9, 3) := by decide +kernel
theorem dX2_copy_8 : decode cX2_copy 8 = .ok (.aload_n 0, 1) := by decide +kernel
theorem dX2_copy_9 : decode cX2_copy 9 = .ok (.aload_n 1, 1) := by decide +kernel
theorem dX2_copy_10 : decode cX2_copy 10 = .ok (.getfield 15, 3) := by decide +kernel
theorem dX2_copy_13 : decode cX2_copy 13 = .ok (.putfield 15, 3) := by decide +kernel
theorem dX2_copy_16 : decode cX2_copy 16 = .ok (.aload_n 0, 1) := by decide +kernel
theorem dX2_copy_17 : decode cX2_copy 17 = .ok (.aload_n 1, 1) := by decide +kernel
theorem dX2_copy_18 : decode cX2_copy 18 = .ok (.getfield 18, 3) := by decide +kernel
theorem dX2_copy_21 : decode cX2_copy 21 = .ok (.putfield 18, 3) := by decide +kernel
theorem dX2_copy_24 : decode cX2_copy 24 = .ok (.aload_n 0, 1) := by decide +kernel
theorem dX2_copy_25 : decode cX2_copy 25 = .ok (.aload_n 1, 1) := by decide +kernel
theorem dX2_copy_26 : decode cX2_copy 26 = .ok (.getfield 21, 3) := by decide +kernel
theorem dX2_copy_29 : decode cX2_copy 29 = .ok (.putfield 21, 3) := by decide +kernel
theorem dX2_copy_32 : decode cX2_copy 32 = .ok (.aload_n 0, 1) := by decide +kernel
theorem dX2_copy_33 : decode cX2_copy 33 = .ok (.aload_n 1, 1) := by decide +kernel
theorem dX2_copy_34 : decode cX2_copy 34 = .ok (.getfield 24, 3) := by decide +kernel
theorem dX2_copy_37 : decode cX2_copy 37 = .ok (.putfield 24, 3) := by decide +kernel
theorem dX2_copy_40 : decode cX2_copy 40 = .ok (.aload_n 0, 1) := by decide +kernel
theorem dX2_copy_41 : decode cX2_copy 41 = .ok (.aload_n 1, 1) := by decide +kernel
theorem dX2_copy_42 : decode cX2_copy 42 = .ok (.getfield 27, 3) := by decide +kernel
theorem dX2_copy_45 : decode cX2_copy 45 = .ok (.putfield 27, 3) := by decide +kernel
theorem dX2_copy_48 : decode cX2_copy 48 = .ok (.aload_n 0, 1) := by decide +kernel
theorem dX2_copy_49 : decode cX2_copy 49 = .ok (.aload_n 1, 1) := by decide +kernel
theorem dX2_copy_50 : decode cX2_copy 50 = .ok (.getfield 30, 3) := by decide +kernel
theorem dX2_copy_53 : decode cX2_copy 53 = .ok (.putfield 30, 3) := by decide +kernel
theorem dX2_copy_56 : decode cX2_copy 56 = .ok (.return_, 1) := by decide +kernel
theorem dX2_everybody_0 : decode cX2_everybody 0 = .ok (.iconst 1, 1) := by decide +kernel
theorem dX2_everybody_1 : decode cX2_everybody 1 = .ok (.aload_n 0, 1) := by decide +kernel
theorem dX2_everybody_2 : decode cX2_everybody 2 = .ok (.getfield 15, 3) := by decide +kernel
theorem dX2_everybody_5 : decode cX2_everybody 5 = .ok (.ishl, 1) := by decide +kernel
theorem dX2_everybody_6 : decode cX2_everybody 6 = .ok (.iconst 1, 1) := by decide +kernel
theorem dX2_everybody_7 : decode cX2_everybody 7 = .ok (.isub, 1) := by decide +kernel
theorem dX2_everybody_8 : decode cX2_everybody 8 = .ok (.ireturn, 1) := by decide +kernel
theorem dX2_fillIn_0 : decode cX2_fillIn 0 = .ok (.aload_n 0, 1) := by decide +kernel
theorem dX2_fillIn_1 : decode cX2_fillIn 1 = .ok (.aload_n 0, 1) := by decide +kernel
theorem dX2_fillIn_2 : decode cX2_fillIn 2 = .ok (.iconst 1, 1) := by decide +kernel
theorem dX2_fillIn_3 : decode cX2_fillIn 3 = .ok (.invokevirtual 63, 3) := by decide +kernel
theorem dX2_fillIn_6 : decode cX2_fillIn 6 = .ok (.ifCond .eq 10, 3) := by decide +kernel
theorem dX2_fillIn_9 : decode cX2_fillIn 9 = .ok (.aload_n 0, 1) := by decide +kernel
theorem dX2_fillIn_10 : decode cX2_fillIn 10 = .ok (.getfield 18, 3) := by decide +kernel
theorem dX2_fillIn_13 : decode cX2_fillIn 13 = .ok (.goto 14, 3) := by decide +kernel
theorem dX2_fillIn_16 : decode cX2_fillIn 16 = .ok (.aload_n 0, 1) := by decide +kernel
theorem dX2_fillIn_17 : decode cX2_fillIn 17 = .ok (.getfield 9, 3) := by decide +kernel
theorem dX2_fillIn_20 : decode cX2_fillIn 20 = .ok (.aload_n 0, 1) := by decide +kernel
theorem dX2_fillIn_21 : decode cX2_fillIn 21 = .ok (.getfield 15, 3) := by decide +kernel
theorem dX2_fillIn_24 : decode cX2_fillIn 24 = .ok (.invokestatic 73, 3) := by decide +kernel
theorem dX2_fillIn_27 : decode cX2_fillIn 27 = .ok (.putfield 18, 3) := by decide +kernel
theorem dX2_fillIn_30 : decode cX2_fillIn 30 = .ok (.aload_n 0, 1) := by decide +kernel
theorem dX2_fillIn_31 : decode cX2_fillIn 31 = .ok (.aload_n 0, 1) := by decide +kernel
theorem dX2_fillIn_32 : decode cX2_fillIn 32 = .ok (.iconst 2, 1) := by decide +kernel
theorem dX2_fillIn_33 : decode cX2_fillIn 33 = .ok (.invokevirtual 63, 3) := by decide +kernel
theorem dX2_fillIn_36 : decode cX2_fillIn 36 = .ok (.ifCond .eq 10, 3) := by decide +kernel
theorem dX2_fillIn_39 : decode cX2_fillIn 39 = .ok (.aload_n 0, 1) := by decide +kernel
theorem dX2_fillIn_40 : decode cX2_fillIn 40 = .ok (.getfield 21, 3) := by decide +kernel
theorem dX2_fillIn_43 : decode cX2_fillIn 43 = .ok (.goto 9, 3) := by decide +kernel
theorem dX2_fillIn_46 : decode cX2_fillIn 46 = .ok (.aload_n 0, 1) := by decide +kernel
theorem dX2_fillIn_47 : decode cX2_fillIn 47 = .ok (.getfield 18, 3) := by decide +kernel
theorem dX2_fillIn_50 : decode cX2_fillIn 50 = .ok (.iconst 1, 1) := by decide +kernel
theorem dX2_fillIn_51 : decode cX2_fillIn 51 = .ok (.iadd, 1) := by decide +kernel
theorem dX2_fillIn_52 : decode cX2_fillIn 52 = .ok (.putfield 21, 3) := by decide +kernel
theorem dX2_fillIn_55 : decode cX2_fillIn 55 = .ok (.return_, 1) := by decide +kernel
theorem dX2_foretold_0 : decode cX2_foretold 0 = .ok (.aload_n 0, 1) := by decide +kernel
theorem dX2_foretold_1 : decode cX2_foretold 1 = .ok (.getfield 15, 3) := by decide +kernel
theorem dX2_foretold_4 : decode cX2_foretold 4 = .ok (.aload_n 0, 1) := by decide +kernel
theorem dX2_foretold_5 : decode cX2_foretold 5 = .ok (.getfield 15, 3) := by decide +kernel
theorem dX2_foretold_8 : decode cX2_foretold 8 = .ok (.imul, 1) := by decide +kernel
theorem dX2_foretold_9 : decode cX2_foretold 9 = .ok (.istore_n 1, 1) := by decide +kernel
theorem dX2_foretold_10 : decode cX2_foretold 10 = .ok (.aload_n 0, 1) := by decide +kernel
theorem dX2_foretold_11 : decode cX2_foretold 11 = .ok (.getfield 9, 3) := by decide +kernel
theorem dX2_foretold_14 : decode cX2_foretold 14 = .ok (.ifCond .ne 21, 3) := by decide +kernel
theorem dX2_foretold_17 : decode cX2_foretold 17 = .ok (.aload_n 0, 1) := by decide +kernel
theorem dX2_foretold_18 : decode cX2_foretold 18 = .ok (.getfield 21, 3) := by decide +kernel
theorem dX2_foretold_21 : decode cX2_foretold 21 = .ok (.iconst 2, 1) := by decide +kernel
theorem dX2_foretold_22 : decode cX2_foretold 22 = .ok (.iload_n 1, 1) := by decide +kernel
theorem dX2_foretold_23 : decode cX2_foretold 23 = .ok (.imul, 1) := by decide +kernel
theorem dX2_foretold_24 : decode cX2_foretold 24 = .ok (.aload_n 0, 1) := by decide +kernel
theorem dX2_foretold_25 : decode cX2_foretold 25 = .ok (.getfield 15, 3) := by decide +kernel
theorem dX2_foretold_28 : decode cX2_foretold 28 = .ok (.isub, 1) := by decide +kernel
theorem dX2_foretold_29 : decode cX2_foretold 29 = .ok (.iconst 1, 1) := by decide +kernel
theorem dX2_foretold_30 : decode cX2_foretold 30 = .ok (.isub, 1) := by decide +kernel
theorem dX2_foretold_31 : decode cX2_foretold 31 = .ok (.imul, 1) := by decide +kernel
theorem dX2_foretold_32 : decode cX2_foretold 32 = .ok (.goto 11, 3) := by decide +kernel
theorem dX2_foretold_35 : decode cX2_foretold 35 = .ok (.aload_n 0, 1) := by decide +kernel
theorem dX2_foretold_36 : decode cX2_foretold 36 = .ok (.getfield 21, 3) := by decide +kernel
theorem dX2_foretold_39 : decode cX2_foretold 39 = .ok (.iload_n 1, 1) := by decide +kernel
theorem dX2_foretold_40 : decode cX2_foretold 40 = .ok (.iconst 1, 1) := by decide +kernel
theorem dX2_foretold_41 : decode cX2_foretold 41 = .ok (.isub, 1) := by decide +kernel
theorem dX2_foretold_42 : decode cX2_foretold 42 = .ok (.imul, 1) := by decide +kernel
theorem dX2_foretold_43 : decode cX2_foretold 43 = .ok (.ireturn, 1) := by decide +kernel
theorem dX2_freeLetters_0 : decode cX2_freeLetters 0 = .ok (.iload_n 1, 1) := by decide +kernel
theorem dX2_freeLetters_1 : decode cX2_freeLetters 1 = .ok (.invokestatic 115, 3) := by decide +kernel
theorem dX2_freeLetters_4 : decode cX2_freeLetters 4 = .ok (.istore_n 3, 1) := by decide +kernel
theorem dX2_freeLetters_5 : decode cX2_freeLetters 5 = .ok (.aload_n 0, 1) := by decide +kernel
theorem dX2_freeLetters_6 : decode cX2_freeLetters 6 = .ok (.getfield 15, 3) := by decide +kernel
theorem dX2_freeLetters_9 : decode cX2_freeLetters 9 = .ok (.iload_n 3, 1) := by decide +kernel
theorem dX2_freeLetters_10 : decode cX2_freeLetters 10 = .ok (.isub, 1) := by decide +kernel
theorem dX2_freeLetters_11 : decode cX2_freeLetters 11 = .ok (.istore 4, 2) := by decide +kernel
theorem dX2_freeLetters_13 : decode cX2_freeLetters 13 = .ok (.iload_n 2, 1) := by decide +kernel
theorem dX2_freeLetters_14 : decode cX2_freeLetters 14 = .ok (.aload_n 0, 1) := by decide +kernel
theorem dX2_freeLetters_15 : decode cX2_freeLetters 15 = .ok (.invokevirtual 112, 3) := by decide +kernel
theorem dX2_freeLetters_18 : decode cX2_freeLetters 18 = .ok (.iconst 1, 1) := by decide +kernel
theorem dX2_freeLetters_19 : decode cX2_freeLetters 19 = .ok (.isub, 1) := by decide +kernel
theorem dX2_freeLetters_20 : decode cX2_freeLetters 20 = .ok (.imul, 1) := by decide +kernel
theorem dX2_freeLetters_21 : decode cX2_freeLetters 21 = .ok (.iload_n 3, 1) := by decide +kernel
theorem dX2_freeLetters_22 : decode cX2_freeLetters 22 = .ok (.imul, 1) := by decide +kernel
theorem dX2_freeLetters_23 : decode cX2_freeLetters 23 = .ok (.iload 4, 2) := by decide +kernel
theorem dX2_freeLetters_25 : decode cX2_freeLetters 25 = .ok (.imul, 1) := by decide +kernel
theorem dX2_freeLetters_26 : decode cX2_freeLetters 26 = .ok (.istore 5, 2) := by decide +kernel
theorem dX2_freeLetters_28 : decode cX2_freeLetters 28 = .ok (.iconst 0, 1) := by decide +kernel
theorem dX2_freeLetters_29 : decode cX2_freeLetters 29 = .ok (.istore 6, 2) := by decide +kernel
theorem dX2_freeLetters_31 : decode cX2_freeLetters 31 = .ok (.iload 6, 2) := by decide +kernel
theorem dX2_freeLetters_33 : decode cX2_freeLetters 33 = .ok (.iload_n 2, 1) := by decide +kernel
theorem dX2_freeLetters_34 : decode cX2_freeLetters 34 = .ok (.if_icmp .ge 34, 3) := by decide +kernel
theorem dX2_freeLetters_37 : decode cX2_freeLetters 37 = .ok (.iload 5, 2) := by decide +kernel
theorem dX2_freeLetters_39 : decode cX2_freeLetters 39 = .ok (.iload_n 1, 1) := by decide +kernel
theorem dX2_freeLetters_40 : decode cX2_freeLetters 40 = .ok (.aload_n 0, 1) := by decide +kernel
theorem dX2_freeLetters_41 : decode cX2_freeLetters 41 = .ok (.iload 6, 2) := by decide +kernel
theorem dX2_freeLetters_43 : decode cX2_freeLetters 43 = .ok (.invokevirtual 120, 3) := by decide +kernel
theorem dX2_freeLetters_46 : decode cX2_freeLetters 46 = .ok (.invokestatic 77, 3) := by decide +kernel
theorem dX2_freeLetters_49 : decode cX2_freeLetters 49 = .ok (.iconst 1, 1) := by decide +kernel
theorem dX2_freeLetters_50 : decode cX2_freeLetters 50 = .ok (.if_icmp .ne 8, 3) := by decide +kernel
theorem dX2_freeLetters_53 : decode cX2_freeLetters 53 = .ok (.iload 4, 2) := by decide +kernel
theorem dX2_freeLetters_55 : decode cX2_freeLetters 55 = .ok (.goto 4, 3) := by decide +kernel
theorem dX2_freeLetters_58 : decode cX2_freeLetters 58 = .ok (.iconst 0, 1) := by decide +kernel
theorem dX2_freeLetters_59 : decode cX2_freeLetters 59 = .ok (.iadd, 1) := by decide +kernel
theorem dX2_freeLetters_60 : decode cX2_freeLetters 60 = .ok (.istore 5, 2) := by decide +kernel
theorem dX2_freeLetters_62 : decode cX2_freeLetters 62 = .ok (.iinc 6 1, 3) := by decide +kernel
theorem dX2_freeLetters_65 : decode cX2_freeLetters 65 = .ok (.goto (-34), 3) := by decide +kernel
theorem dX2_freeLetters_68 : decode cX2_freeLetters 68 = .ok (.iload 5, 2) := by decide +kernel
theorem dX2_freeLetters_70 : decode cX2_freeLetters 70 = .ok (.ireturn, 1) := by decide +kernel
theorem dX2_init_0 : decode cX2_init 0 = .ok (.aload_n 0, 1) := by decide +kernel
theorem dX2_init_1 : decode cX2_init 1 = .ok (.invokespecial 3, 3) := by decide +kernel
theorem dX2_init_4 : decode cX2_init 4 = .ok (.return_, 1) := by decide +kernel
theorem dX2_isTold_0 : decode cX2_isTold 0 = .ok (.aload_n 0, 1) := by decide +kernel
theorem dX2_isTold_1 : decode cX2_isTold 1 = .ok (.getfield 70, 3) := by decide +kernel
theorem dX2_isTold_4 : decode cX2_isTold 4 = .ok (.iload_n 1, 1) := by decide +kernel
theorem dX2_isTold_5 : decode cX2_isTold 5 = .ok (.invokestatic 77, 3) := by decide +kernel
theorem dX2_isTold_8 : decode cX2_isTold 8 = .ok (.iconst 1, 1) := by decide +kernel
theorem dX2_isTold_9 : decode cX2_isTold 9 = .ok (.if_icmp .ne 7, 3) := by decide +kernel
theorem dX2_isTold_12 : decode cX2_isTold 12 = .ok (.iconst 1, 1) := by decide +kernel
theorem dX2_isTold_13 : decode cX2_isTold 13 = .ok (.goto 4, 3) := by decide +kernel
theorem dX2_isTold_16 : decode cX2_isTold 16 = .ok (.iconst 0, 1) := by decide +kernel
theorem dX2_isTold_17 : decode cX2_isTold 17 = .ok (.ireturn, 1) := by decide +kernel
theorem dX2_offer_0 : decode cX2_offer 0 = .ok (.aload_n 0, 1) := by decide +kernel
theorem dX2_offer_1 : decode cX2_offer 1 = .ok (.getfield 15, 3) := by decide +kernel
theorem dX2_offer_4 : decode cX2_offer 4 = .ok (.aload_n 0, 1) := by decide +kernel
theorem dX2_offer_5 : decode cX2_offer 5 = .ok (.getfield 18, 3) := by decide +kernel
theorem dX2_offer_8 : decode cX2_offer 8 = .ok (.isub, 1) := by decide +kernel
theorem dX2_offer_9 : decode cX2_offer 9 = .ok (.istore_n 3, 1) := by decide +kernel
theorem dX2_offer_10 : decode cX2_offer 10 = .ok (.iload_n 1, 1) := by decide +kernel
theorem dX2_offer_11 : decode cX2_offer 11 = .ok (.iload_n 3, 1) := by decide +kernel
theorem dX2_offer_12 : decode cX2_offer 12 = .ok (.if_icmp .lt 5, 3) := by decide +kernel
theorem dX2_offer_15 : decode cX2_offer 15 = .ok (.iconst 0, 1) := by decide +kernel
theorem dX2_offer_16 : decode cX2_offer 16 = .ok (.ireturn, 1) := by decide +kernel
theorem dX2_offer_17 : decode cX2_offer 17 = .ok (.iload_n 2, 1) := by decide +kernel
theorem dX2_offer_18 : decode cX2_offer 18 = .ok (.iload_n 3, 1) := by decide +kernel
theorem dX2_offer_19 : decode cX2_offer 19 = .ok (.if_icmp .lt 7, 3) := by decide +kernel
theorem dX2_offer_22 : decode cX2_offer 22 = .ok (.iconst 1, 1) := by decide +kernel
theorem dX2_offer_23 : decode cX2_offer 23 = .ok (.goto 4, 3) := by decide +kernel
theorem dX2_offer_26 : decode cX2_offer 26 = .ok (.iconst 2, 1) := by decide +kernel
theorem dX2_offer_27 : decode cX2_offer 27 = .ok (.ireturn, 1) := by decide +kernel
theorem dX2_phaseAt_0 : decode cX2_phaseAt 0 = .ok (.iload_n 1, 1) := by decide +kernel
theorem dX2_phaseAt_1 : decode cX2_phaseAt 1 = .ok (.aload_n 0, 1) := by decide +kernel
theorem dX2_phaseAt_2 : decode cX2_phaseAt 2 = .ok (.invokevirtual 112, 3) := by decide +kernel
theorem dX2_phaseAt_5 : decode cX2_phaseAt 5 = .ok (.idiv, 1) := by decide +kernel
theorem dX2_phaseAt_6 : decode cX2_phaseAt 6 = .ok (.ireturn, 1) := by decide +kernel
theorem dX2_pieceOf_0 : decode cX2_pieceOf 0 = .ok (.iconst 0, 1) := by decide +kernel
theorem dX2_pieceOf_1 : decode cX2_pieceOf 1 = .ok (.istore_n 1, 1) := by decide +kernel
theorem dX2_pieceOf_2 : decode cX2_pieceOf 2 = .ok (.iload_n 1, 1) := by decide +kernel
theorem dX2_pieceOf_3 : decode cX2_pieceOf 3 = .ok (.bipush 6, 2) := by decide +kernel
theorem dX2_pieceOf_5 : decode cX2_pieceOf 5 = .ok (.if_icmp .ge 22, 3) := by decide +kernel
theorem dX2_pieceOf_8 : decode cX2_pieceOf 8 = .ok (.aload_n 0, 1) := by decide +kernel
theorem dX2_pieceOf_9 : decode cX2_pieceOf 9 = .ok (.iload_n 1, 1) := by decide +kernel
theorem dX2_pieceOf_10 : decode cX2_pieceOf 10 = .ok (.invokestatic 93, 3) := by decide +kernel
theorem dX2_pieceOf_13 : decode cX2_pieceOf 13 = .ok (.invokevirtual 44, 3) := by decide +kernel
theorem dX2_pieceOf_16 : decode cX2_pieceOf 16 = .ok (.ifCond .eq 5, 3) := by decide +kernel
theorem dX2_pieceOf_19 : decode cX2_pieceOf 19 = .ok (.iload_n 1, 1) := by decide +kernel
theorem dX2_pieceOf_20 : decode cX2_pieceOf 20 = .ok (.ireturn, 1) := by decide +kernel
theorem dX2_pieceOf_21 : decode cX2_pieceOf 21 = .ok (.iinc 1 1, 3) := by decide +kernel
theorem dX2_pieceOf_24 : decode cX2_pieceOf 24 = .ok (.goto (-22), 3) := by decide +kernel
theorem dX2_pieceOf_27 : decode cX2_pieceOf 27 = .ok (.iconst (-1), 1) := by decide +kernel
theorem dX2_pieceOf_28 : decode cX2_pieceOf 28 = .ok (.ireturn, 1) := by decide +kernel
theorem dX2_readFalses_0 : decode cX2_readFalses 0 = .ok (.aload_n 1, 1) := by decide +kernel
theorem dX2_readFalses_1 : decode cX2_readFalses 1 = .ok (.invokevirtual 104, 3) := by decide +kernel
theorem dX2_readFalses_4 : decode cX2_readFalses 4 = .ok (.iconst 1, 1) := by decide +kernel
theorem dX2_readFalses_5 : decode cX2_readFalses 5 = .ok (.if_icmp .lt 14, 3) := by decide +kernel
theorem dX2_readFalses_8 : decode cX2_readFalses 8 = .ok (.aload_n 1, 1) := by decide +kernel
theorem dX2_readFalses_9 : decode cX2_readFalses 9 = .ok (.invokevirtual 104, 3) := by decide +kernel
theorem dX2_readFalses_12 : decode cX2_readFalses 12 = .ok (.aload_n 0, 1) := by decide +kernel
theorem dX2_readFalses_13 : decode cX2_readFalses 13 = .ok (.getfield 15, 3) := by decide +kernel
theorem dX2_readFalses_16 : decode cX2_readFalses 16 = .ok (.if_icmp .lt 5, 3) := by decide +kernel
theorem dX2_readFalses_19 : decode cX2_readFalses 19 = .ok (.iconst 0, 1) := by decide +kernel
theorem dX2_readFalses_20 : decode cX2_readFalses 20 = .ok (.ireturn, 1) := by decide +kernel
theorem dX2_readFalses_21 : decode cX2_readFalses 21 = .ok (.iconst (-1), 1) := by decide +kernel
theorem dX2_readFalses_22 : decode cX2_readFalses 22 = .ok (.istore_n 2, 1) := by decide +kernel
theorem dX2_readFalses_23 : decode cX2_readFalses 23 = .ok (.iconst 0, 1) := by decide +kernel
theorem dX2_readFalses_24 : decode cX2_readFalses 24 = .ok (.istore_n 3, 1) := by decide +kernel
theorem dX2_readFalses_25 : decode cX2_readFalses 25 = .ok (.iload_n 3, 1) := by decide +kernel
theorem dX2_readFalses_26 : decode cX2_readFalses 26 = .ok (.aload_n 1, 1) := by decide +kernel
theorem dX2_readFalses_27 : decode cX2_readFalses 27 = .ok (.invokevirtual 104, 3) := by decide +kernel
theorem dX2_readFalses_30 : decode cX2_readFalses 30 = .ok (.if_icmp .ge 49, 3) := by decide +kernel
theorem dX2_readFalses_33 : decode cX2_readFalses 33 = .ok (.aload_n 1, 1) := by decide +kernel
theorem dX2_readFalses_34 : decode cX2_readFalses 34 = .ok (.iload_n 3, 1) := by decide +kernel
theorem dX2_readFalses_35 : decode cX2_readFalses 35 = .ok (.invokevirtual 108, 3) := by decide +kernel
theorem dX2_readFalses_38 : decode cX2_readFalses 38 = .ok (.istore 4, 2) := by decide +kernel
theorem dX2_readFalses_40 : decode cX2_readFalses 40 = .ok (.iload 4, 2) := by decide +kernel
theorem dX2_readFalses_42 : decode cX2_readFalses 42 = .ok (.iload_n 2, 1) := by decide +kernel
theorem dX2_readFalses_43 : decode cX2_readFalses 43 = .ok (.if_icmp .le 12, 3) := by decide +kernel
theorem dX2_readFalses_46 : decode cX2_readFalses 46 = .ok (.iload 4, 2) := by decide +kernel
theorem dX2_readFalses_48 : decode cX2_readFalses 48 = .ok (.aload_n 0, 1) := by decide +kernel
theorem dX2_readFalses_49 : decode cX2_readFalses 49 = .ok (.getfield 15, 3) := by decide +kernel
theorem dX2_readFalses_52 : decode cX2_readFalses 52 = .ok (.if_icmp .lt 5, 3) := by decide +kernel
theorem dX2_readFalses_55 : decode cX2_readFalses 55 = .ok (.iconst 0, 1) := by decide +kernel
theorem dX2_readFalses_56 : decode cX2_readFalses 56 = .ok (.ireturn, 1) := by decide +kernel
theorem dX2_readFalses_57 : decode cX2_readFalses 57 = .ok (.aload_n 0, 1) := by decide +kernel
theorem dX2_readFalses_58 : decode cX2_readFalses 58 = .ok (.dup, 1) := by decide +kernel
theorem dX2_readFalses_59 : decode cX2_readFalses 59 = .ok (.getfield 27, 3) := by decide +kernel
theorem dX2_readFalses_62 : decode cX2_readFalses 62 = .ok (.iconst 1, 1) := by decide +kernel
theorem dX2_readFalses_63 : decode cX2_readFalses 63 = .ok (.iload 4, 2) := by decide +kernel
theorem dX2_readFalses_65 : decode cX2_readFalses 65 = .ok (.ishl, 1) := by decide +kernel
theorem dX2_readFalses_66 : decode cX2_readFalses 66 = .ok (.ior, 1) := by decide +kernel
theorem dX2_readFalses_67 : decode cX2_readFalses 67 = .ok (.putfield 27, 3) := by decide +kernel
theorem dX2_readFalses_70 : decode cX2_readFalses 70 = .ok (.iload 4, 2) := by decide +kernel
theorem dX2_readFalses_72 : decode cX2_readFalses 72 = .ok (.istore_n 2, 1) := by decide +kernel
theorem dX2_readFalses_73 : decode cX2_readFalses 73 = .ok (.iinc 3 1, 3) := by decide +kernel
theorem dX2_readFalses_76 : decode cX2_readFalses 76 = .ok (.goto (-51), 3) := by decide +kernel
theorem dX2_readFalses_79 : decode cX2_readFalses 79 = .ok (.iconst 1, 1) := by decide +kernel
theorem dX2_readFalses_80 : decode cX2_readFalses 80 = .ok (.ireturn, 1) := by decide +kernel
theorem dX2_readFrom_0 : decode cX2_readFrom 0 = .ok (.aload_n 0, 1) := by decide +kernel
theorem dX2_readFrom_1 : decode cX2_readFrom 1 = .ok (.invokevirtual 34, 3) := by decide +kernel
theorem dX2_readFrom_4 : decode cX2_readFrom 4 = .ok (.aload_n 1, 1) := by decide +kernel
theorem dX2_readFrom_5 : decode cX2_readFrom 5 = .ok (.invokevirtual 37, 3) := by decide +kernel
theorem dX2_readFrom_8 : decode cX2_readFrom 8 = .ok (.aload_n 0, 1) := by decide +kernel
theorem dX2_readFrom_9 : decode cX2_readFrom 9 = .ok (.aload_n 1, 1) := by decide +kernel
theorem dX2_readFrom_10 : decode cX2_readFrom 10 = .ok (.ldc 42, 2) := by decide +kernel
theorem dX2_readFrom_12 : decode cX2_readFrom 12 = .ok (.invokevirtual 44, 3) := by decide +kernel
theorem dX2_readFrom_15 : decode cX2_readFrom 15 = .ok (.ifCond .eq 7, 3) := by decide +kernel
theorem dX2_readFrom_18 : decode cX2_readFrom 18 = .ok (.iconst 0, 1) := by decide +kernel
theorem dX2_readFrom_19 : decode cX2_readFrom 19 = .ok (.goto 4, 3) := by decide +kernel
theorem dX2_readFrom_22 : decode cX2_readFrom 22 = .ok (.iconst 1, 1) := by decide +kernel
theorem dX2_readFrom_23 : decode cX2_readFrom 23 = .ok (.putfield 9, 3) := by decide +kernel
theorem dX2_readFrom_26 : decode cX2_readFrom 26 = .ok (.aload_n 0, 1) := by decide +kernel
theorem dX2_readFrom_27 : decode cX2_readFrom 27 = .ok (.getfield 9, 3) := by decide +kernel
theorem dX2_readFrom_30 : decode cX2_readFrom 30 = .ok (.iconst 1, 1) := by decide +kernel
theorem dX2_readFrom_31 : decode cX2_readFrom 31 = .ok (.if_icmp .ne 17, 3) := by decide +kernel
theorem dX2_readFrom_34 : decode cX2_readFrom 34 = .ok (.aload_n 1, 1) := by decide +kernel
theorem dX2_readFrom_35 : decode cX2_readFrom 35 = .ok (.ldc 48, 2) := by decide +kernel
theorem dX2_readFrom_37 : decode cX2_readFrom 37 = .ok (.invokevirtual 44, 3) := by decide +kernel
theorem dX2_readFrom_40 : decode cX2_readFrom 40 = .ok (.ifCond .ne 8, 3) := by decide +kernel
theorem dX2_readFrom_43 : decode cX2_readFrom 43 = .ok (.aload_n 1, 1) := by decide +kernel
theorem dX2_readFrom_44 : decode cX2_readFrom 44 = .ok (.getfield 50, 3) := by decide +kernel
theorem dX2_readFrom_47 : decode cX2_readFrom 47 = .ok (.ireturn, 1) := by decide +kernel
theorem dX2_readFrom_48 : decode cX2_readFrom 48 = .ok (.aload_n 1, 1) := by decide +kernel
theorem dX2_readFrom_49 : decode cX2_readFrom 49 = .ok (.invokevirtual 53, 3) := by decide +kernel
theorem dX2_readFrom_52 : decode cX2_readFrom 52 = .ok (.iconst 0, 1) := by decide +kernel
theorem dX2_readFrom_53 : decode cX2_readFrom 53 = .ok (.istore_n 2, 1) := by decide +kernel
theorem dX2_readFrom_54 : decode cX2_readFrom 54 = .ok (.iload_n 2, 1) := by decide +kernel
theorem dX2_readFrom_55 : decode cX2_readFrom 55 = .ok (.bipush 6, 2) := by decide +kernel
theorem dX2_readFrom_57 : decode cX2_readFrom 57 = .ok (.if_icmp .gt 38, 3) := by decide +kernel
theorem dX2_readFrom_60 : decode cX2_readFrom 60 = .ok (.aload_n 1, 1) := by decide +kernel
theorem dX2_readFrom_61 : decode cX2_readFrom 61 = .ok (.getfield 56, 3) := by decide +kernel
theorem dX2_readFrom_64 : decode cX2_readFrom 64 = .ok (.iconst 1, 1) := by decide +kernel
theorem dX2_readFrom_65 : decode cX2_readFrom 65 = .ok (.if_icmp .ne 30, 3) := by decide +kernel
theorem dX2_readFrom_68 : decode cX2_readFrom 68 = .ok (.aload_n 1, 1) := by decide +kernel
theorem dX2_readFrom_69 : decode cX2_readFrom 69 = .ok (.invokevirtual 53, 3) := by decide +kernel
theorem dX2_readFrom_72 : decode cX2_readFrom 72 = .ok (.aload_n 0, 1) := by decide +kernel
theorem dX2_readFrom_73 : decode cX2_readFrom 73 = .ok (.aload_n 1, 1) := by decide +kernel
theorem dX2_readFrom_74 : decode cX2_readFrom 74 = .ok (.invokevirtual 59, 3) := by decide +kernel
theorem dX2_readFrom_77 : decode cX2_readFrom 77 = .ok (.ifCond .ne 8, 3) := by decide +kernel
theorem dX2_readFrom_80 : decode cX2_readFrom 80 = .ok (.aload_n 1, 1) := by decide +kernel
theorem dX2_readFrom_81 : decode cX2_readFrom 81 = .ok (.getfield 50, 3) := by decide +kernel
theorem dX2_readFrom_84 : decode cX2_readFrom 84 = .ok (.ireturn, 1) := by decide +kernel
theorem dX2_readFrom_85 : decode cX2_readFrom 85 = .ok (.aload_n 1, 1) := by decide +kernel
theorem dX2_readFrom_86 : decode cX2_readFrom 86 = .ok (.invokevirtual 53, 3) := by decide +kernel
theorem dX2_readFrom_89 : decode cX2_readFrom 89 = .ok (.iinc 2 1, 3) := by decide +kernel
theorem dX2_readFrom_92 : decode cX2_readFrom 92 = .ok (.goto (-38), 3) := by decide +kernel
theorem dX2_readFrom_95 : decode cX2_readFrom 95 = .ok (.aload_n 1, 1) := by decide +kernel
theorem dX2_readFrom_96 : decode cX2_readFrom 96 = .ok (.getfield 56, 3) := by decide +kernel
theorem dX2_readFrom_99 : decode cX2_readFrom 99 = .ok (.ifCond .ne 11, 3) := by decide +kernel
theorem dX2_readFrom_102 : decode cX2_readFrom 102 = .ok (.aload_n 0, 1) := by decide +kernel
theorem dX2_readFrom_103 : decode cX2_readFrom 103 = .ok (.iconst 0, 1) := by decide +kernel
theorem dX2_readFrom_104 : decode cX2_readFrom 104 = .ok (.invokevirtual 63, 3) := by decide +kernel
theorem dX2_readFrom_107 : decode cX2_readFrom 107 = .ok (.ifCond .ne 8, 3) := by decide +kernel
theorem dX2_readFrom_110 : decode cX2_readFrom 110 = .ok (.aload_n 1, 1) := by decide +kernel
theorem dX2_readFrom_111 : decode cX2_readFrom 111 = .ok (.getfield 50, 3) := by decide +kernel
theorem dX2_readFrom_114 : decode cX2_readFrom 114 = .ok (.ireturn, 1) := by decide +kernel
theorem dX2_readFrom_115 : decode cX2_readFrom 115 = .ok (.aload_n 0, 1) := by decide +kernel
theorem dX2_readFrom_116 : decode cX2_readFrom 116 = .ok (.invokevirtual 67, 3) := by decide +kernel
theorem dX2_readFrom_119 : decode cX2_readFrom 119 = .ok (.iconst (-1), 1) := by decide +kernel
theorem dX2_readFrom_120 : decode cX2_readFrom 120 = .ok (.ireturn, 1) := by decide +kernel
theorem dX2_readPiece_0 : decode cX2_readPiece 0 = .ok (.aload_n 1, 1) := by decide +kernel
theorem dX2_readPiece_1 : decode cX2_readPiece 1 = .ok (.invokestatic 80, 3) := by decide +kernel
theorem dX2_readPiece_4 : decode cX2_readPiece 4 = .ok (.istore_n 2, 1) := by decide +kernel
theorem dX2_readPiece_5 : decode cX2_readPiece 5 = .ok (.iload_n 2, 1) := by decide +kernel
theorem dX2_readPiece_6 : decode cX2_readPiece 6 = .ok (.iconst (-1), 1) := by decide +kernel
theorem dX2_readPiece_7 : decode cX2_readPiece 7 = .ok (.if_icmp .eq 11, 3) := by decide +kernel
theorem dX2_readPiece_10 : decode cX2_readPiece 10 = .ok (.aload_n 0, 1) := by decide +kernel
theorem dX2_readPiece_11 : decode cX2_readPiece 11 = .ok (.iload_n 2, 1) := by decide +kernel
theorem dX2_readPiece_12 : decode cX2_readPiece 12 = .ok (.invokevirtual 63, 3) := by decide +kernel
theorem dX2_readPiece_15 : decode cX2_readPiece 15 = .ok (.ifCond .eq 5, 3) := by decide +kernel
theorem dX2_readPiece_18 : decode cX2_readPiece 18 = .ok (.iconst 0, 1) := by decide +kernel
theorem dX2_readPiece_19 : decode cX2_readPiece 19 = .ok (.ireturn, 1) := by decide +kernel
theorem dX2_readPiece_20 : decode cX2_readPiece 20 = .ok (.iload_n 2, 1) := by decide +kernel
theorem dX2_readPiece_21 : decode cX2_readPiece 21 = .ok (.iconst 3, 1) := by decide +kernel
theorem dX2_readPiece_22 : decode cX2_readPiece 22 = .ok (.if_icmp .eq 8, 3) := by decide +kernel
theorem dX2_readPiece_25 : decode cX2_readPiece 25 = .ok (.iload_n 2, 1) := by decide +kernel
theorem dX2_readPiece_26 : decode cX2_readPiece 26 = .ok (.iconst 4, 1) := by decide +kernel
theorem dX2_readPiece_27 : decode cX2_readPiece 27 = .ok (.if_icmp .ne 13, 3) := by decide +kernel
theorem dX2_readPiece_30 : decode cX2_readPiece 30 = .ok (.aload_n 0, 1) := by decide +kernel
theorem dX2_readPiece_31 : decode cX2_readPiece 31 = .ok (.iconst 0, 1) := by decide +kernel
theorem dX2_readPiece_32 : decode cX2_readPiece 32 = .ok (.invokevirtual 63, 3) := by decide +kernel
theorem dX2_readPiece_35 : decode cX2_readPiece 35 = .ok (.ifCond .ne 5, 3) := by decide +kernel
theorem dX2_readPiece_38 : decode cX2_readPiece 38 = .ok (.iconst 0, 1) := by decide +kernel
theorem dX2_readPiece_39 : decode cX2_readPiece 39 = .ok (.ireturn, 1) := by decide +kernel
theorem dX2_readPiece_40 : decode cX2_readPiece 40 = .ok (.aload_n 0, 1) := by decide +kernel
theorem dX2_readPiece_41 : decode cX2_readPiece 41 = .ok (.dup, 1) := by decide +kernel
theorem dX2_readPiece_42 : decode cX2_readPiece 42 = .ok (.getfield 70, 3) := by decide +kernel
theorem dX2_readPiece_45 : decode cX2_readPiece 45 = .ok (.iconst 1, 1) := by decide +kernel
theorem dX2_readPiece_46 : decode cX2_readPiece 46 = .ok (.iload_n 2, 1) := by decide +kernel
theorem dX2_readPiece_47 : decode cX2_readPiece 47 = .ok (.ishl, 1) := by decide +kernel
theorem dX2_readPiece_48 : decode cX2_readPiece 48 = .ok (.ior, 1) := by decide +kernel
theorem dX2_readPiece_49 : decode cX2_readPiece 49 = .ok (.putfield 70, 3) := by decide +kernel
theorem dX2_readPiece_52 : decode cX2_readPiece 52 = .ok (.iload_n 2, 1) := by decide +kernel
theorem dX2_readPiece_53 : decode cX2_readPiece 53 = .ok (.iconst 5, 1) := by decide +kernel
theorem dX2_readPiece_54 : decode cX2_readPiece 54 = .ok (.if_icmp .ne 10, 3) := by decide +kernel
theorem dX2_readPiece_57 : decode cX2_readPiece 57 = .ok (.aload_n 0, 1) := by decide +kernel
theorem dX2_readPiece_58 : decode cX2_readPiece 58 = .ok (.iconst 1, 1) := by decide +kernel
theorem dX2_readPiece_59 : decode cX2_readPiece 59 = .ok (.putfield 30, 3) := by decide +kernel
theorem dX2_readPiece_62 : decode cX2_readPiece 62 = .ok (.iconst 1, 1) := by decide +kernel
theorem dX2_readPiece_63 : decode cX2_readPiece 63 = .ok (.ireturn, 1) := by decide +kernel
theorem dX2_readPiece_64 : decode cX2_readPiece 64 = .ok (.aload_n 1, 1) := by decide +kernel
theorem dX2_readPiece_65 : decode cX2_readPiece 65 = .ok (.invokevirtual 53, 3) := by decide +kernel
theorem dX2_readPiece_68 : decode cX2_readPiece 68 = .ok (.iload_n 2, 1) := by decide +kernel
theorem dX2_readPiece_69 : decode cX2_readPiece 69 = .ok (.tableswitch 111 0 3 #[31, 56, 80, 105], 31) := by decide +kernel
theorem dX2_readPiece_100 : decode cX2_readPiece 100 = .ok (.aload_n 0, 1) := by decide +kernel
theorem dX2_readPiece_101 : decode cX2_readPiece 101 = .ok (.aload_n 1, 1) := by decide +kernel
theorem dX2_readPiece_102 : decode cX2_readPiece 102 = .ok (.iconst 3, 1) := by decide +kernel
theorem dX2_readPiece_103 : decode cX2_readPiece 103 = .ok (.bipush 9, 2) := by decide +kernel
theorem dX2_readPiece_105 : decode cX2_readPiece 105 = .ok (.invokevirtual 84, 3) := by decide +kernel
theorem dX2_readPiece_108 : decode cX2_readPiece 108 = .ok (.putfield 15, 3) := by decide +kernel
theorem dX2_readPiece_111 : decode cX2_readPiece 111 = .ok (.aload_n 0, 1) := by decide +kernel
theorem dX2_readPiece_112 : decode cX2_readPiece 112 = .ok (.getfield 15, 3) := by decide +kernel
theorem dX2_readPiece_115 : decode cX2_readPiece 115 = .ok (.iconst (-1), 1) := by decide +kernel
theorem dX2_readPiece_116 : decode cX2_readPiece 116 = .ok (.if_icmp .eq 7, 3) := by decide +kernel
theorem dX2_readPiece_119 : decode cX2_readPiece 119 = .ok (.iconst 1, 1) := by decide +kernel
theorem dX2_readPiece_120 : decode cX2_readPiece 120 = .ok (.goto 4, 3) := by decide +kernel
theorem dX2_readPiece_123 : decode cX2_readPiece 123 = .ok (.iconst 0, 1) := by decide +kernel
theorem dX2_readPiece_124 : decode cX2_readPiece 124 = .ok (.ireturn, 1) := by decide +kernel
theorem dX2_readPiece_125 : decode cX2_readPiece 125 = .ok (.aload_n 0, 1) := by decide +kernel
theorem dX2_readPiece_126 : decode cX2_readPiece 126 = .ok (.aload_n 1, 1) := by decide +kernel
theorem dX2_readPiece_127 : decode cX2_readPiece 127 = .ok (.iconst 0, 1) := by decide +kernel
theorem dX2_readPiece_128 : decode cX2_readPiece 128 = .ok (.iconst 4, 1) := by decide +kernel
theorem dX2_readPiece_129 : decode cX2_readPiece 129 = .ok (.invokevirtual 84, 3) := by decide +kernel
theorem dX2_readPiece_132 : decode cX2_readPiece 132 = .ok (.putfield 18, 3) := by decide +kernel
theorem dX2_readPiece_135 : decode cX2_readPiece 135 = .ok (.aload_n 0, 1) := by decide +kernel
theorem dX2_readPiece_136 : decode cX2_readPiece 136 = .ok (.getfield 18, 3) := by decide +kernel
theorem dX2_readPiece_139 : decode cX2_readPiece 139 = .ok (.iconst (-1), 1) := by decide +kernel
theorem dX2_readPiece_140 : decode cX2_readPiece 140 = .ok (.if_icmp .eq 7, 3) := by decide +kernel
theorem dX2_readPiece_143 : decode cX2_readPiece 143 = .ok (.iconst 1, 1) := by decide +kernel
theorem dX2_readPiece_144 : decode cX2_readPiece 144 = .ok (.goto 4, 3) := by decide +kernel
theorem dX2_readPiece_147 : decode cX2_readPiece 147 = .ok (.iconst 0, 1) := by decide +kernel
theorem dX2_readPiece_148 : decode cX2_readPiece 148 = .ok (.ireturn, 1) := by decide +kernel
theorem dX2_readPiece_149 : decode cX2_readPiece 149 = .ok (.aload_n 0, 1) := by decide +kernel
theorem dX2_readPiece_150 : decode cX2_readPiece 150 = .ok (.aload_n 1, 1) := by decide +kernel
theorem dX2_readPiece_151 : decode cX2_readPiece 151 = .ok (.iconst 1, 1) := by decide +kernel
theorem dX2_readPiece_152 : decode cX2_readPiece 152 = .ok (.bipush 6, 2) := by decide +kernel
theorem dX2_readPiece_154 : decode cX2_readPiece 154 = .ok (.invokevirtual 84, 3) := by decide +kernel
theorem dX2_readPiece_157 : decode cX2_readPiece 157 = .ok (.putfield 21, 3) := by decide +kernel
theorem dX2_readPiece_160 : decode cX2_readPiece 160 = .ok (.aload_n 0, 1) := by decide +kernel
theorem dX2_readPiece_161 : decode cX2_readPiece 161 = .ok (.getfield 21, 3) := by decide +kernel
theorem dX2_readPiece_164 : decode cX2_readPiece 164 = .ok (.iconst (-1), 1) := by decide +kernel
theorem dX2_readPiece_165 : decode cX2_readPiece 165 = .ok (.if_icmp .eq 7, 3) := by decide +kernel
theorem dX2_readPiece_168 : decode cX2_readPiece 168 = .ok (.iconst 1, 1) := by decide +kernel
theorem dX2_readPiece_169 : decode cX2_readPiece 169 = .ok (.goto 4, 3) := by decide +kernel
theorem dX2_readPiece_172 : decode cX2_readPiece 172 = .ok (.iconst 0, 1) := by decide +kernel
theorem dX2_readPiece_173 : decode cX2_readPiece 173 = .ok (.ireturn, 1) := by decide +kernel
theorem dX2_readPiece_174 : decode cX2_readPiece 174 = .ok (.aload_n 0, 1) := by decide +kernel
theorem dX2_readPiece_175 : decode cX2_readPiece 175 = .ok (.aload_n 1, 1) := by decide +kernel
theorem dX2_readPiece_176 : decode cX2_readPiece 176 = .ok (.invokevirtual 87, 3) := by decide +kernel
theorem dX2_readPiece_179 : decode cX2_readPiece 179 = .ok (.ireturn, 1) := by decide +kernel
theorem dX2_readPiece_180 : decode cX2_readPiece 180 = .ok (.aload_n 0, 1) := by decide +kernel
theorem dX2_readPiece_181 : decode cX2_readPiece 181 = .ok (.aload_n 1, 1) := by decide +kernel
theorem dX2_readPiece_182 : decode cX2_readPiece 182 = .ok (.invokevirtual 90, 3) := by decide +kernel
theorem dX2_readPiece_185 : decode cX2_readPiece 185 = .ok (.ireturn, 1) := by decide +kernel
theorem dX2_readStarts_0 : decode cX2_readStarts 0 = .ok (.aload_n 1, 1) := by decide +kernel
theorem dX2_readStarts_1 : decode cX2_readStarts 1 = .ok (.invokevirtual 104, 3) := by decide +kernel
theorem dX2_readStarts_4 : decode cX2_readStarts 4 = .ok (.aload_n 0, 1) := by decide +kernel
theorem dX2_readStarts_5 : decode cX2_readStarts 5 = .ok (.getfield 15, 3) := by decide +kernel
theorem dX2_readStarts_8 : decode cX2_readStarts 8 = .ok (.if_icmp .eq 5, 3) := by decide +kernel
theorem dX2_readStarts_11 : decode cX2_readStarts 11 = .ok (.iconst 0, 1) := by decide +kernel
theorem dX2_readStarts_12 : decode cX2_readStarts 12 = .ok (.ireturn, 1) := by decide +kernel
theorem dX2_readStarts_13 : decode cX2_readStarts 13 = .ok (.iconst 0, 1) := by decide +kernel
theorem dX2_readStarts_14 : decode cX2_readStarts 14 = .ok (.istore_n 2, 1) := by decide +kernel
theorem dX2_readStarts_15 : decode cX2_readStarts 15 = .ok (.iload_n 2, 1) := by decide +kernel
theorem dX2_readStarts_16 : decode cX2_readStarts 16 = .ok (.aload_n 0, 1) := by decide +kernel
theorem dX2_readStarts_17 : decode cX2_readStarts 17 = .ok (.getfield 15, 3) := by decide +kernel
theorem dX2_readStarts_20 : decode cX2_readStarts 20 = .ok (.if_icmp .ge 34, 3) := by decide +kernel
theorem dX2_readStarts_23 : decode cX2_readStarts 23 = .ok (.aload_n 1, 1) := by decide +kernel
theorem dX2_readStarts_24 : decode cX2_readStarts 24 = .ok (.iload_n 2, 1) := by decide +kernel
theorem dX2_readStarts_25 : decode cX2_readStarts 25 = .ok (.invokevirtual 108, 3) := by decide +kernel
theorem dX2_readStarts_28 : decode cX2_readStarts 28 = .ok (.istore_n 3, 1) := by decide +kernel
theorem dX2_readStarts_29 : decode cX2_readStarts 29 = .ok (.iload_n 3, 1) := by decide +kernel
theorem dX2_readStarts_30 : decode cX2_readStarts 30 = .ok (.iconst 1, 1) := by decide +kernel
theorem dX2_readStarts_31 : decode cX2_readStarts 31 = .ok (.if_icmp .le 5, 3) := by decide +kernel
theorem dX2_readStarts_34 : decode cX2_readStarts 34 = .ok (.iconst 0, 1) := by decide +kernel
theorem dX2_readStarts_35 : decode cX2_readStarts 35 = .ok (.ireturn, 1) := by decide +kernel
theorem dX2_readStarts_36 : decode cX2_readStarts 36 = .ok (.aload_n 0, 1) := by decide +kernel
theorem dX2_readStarts_37 : decode cX2_readStarts 37 = .ok (.dup, 1) := by decide +kernel
theorem dX2_readStarts_38 : decode cX2_readStarts 38 = .ok (.getfield 24, 3) := by decide +kernel
theorem dX2_readStarts_41 : decode cX2_readStarts 41 = .ok (.iload_n 3, 1) := by decide +kernel
theorem dX2_readStarts_42 : decode cX2_readStarts 42 = .ok (.iload_n 2, 1) := by decide +kernel
theorem dX2_readStarts_43 : decode cX2_readStarts 43 = .ok (.ishl, 1) := by decide +kernel
theorem dX2_readStarts_44 : decode cX2_readStarts 44 = .ok (.ior, 1) := by decide +kernel
theorem dX2_readStarts_45 : decode cX2_readStarts 45 = .ok (.putfield 24, 3) := by decide +kernel
theorem dX2_readStarts_48 : decode cX2_readStarts 48 = .ok (.iinc 2 1, 3) := by decide +kernel
theorem dX2_readStarts_51 : decode cX2_readStarts 51 = .ok (.goto (-36), 3) := by decide +kernel
theorem dX2_readStarts_54 : decode cX2_readStarts 54 = .ok (.iconst 1, 1) := by decide +kernel
theorem dX2_readStarts_55 : decode cX2_readStarts 55 = .ok (.ireturn, 1) := by decide +kernel
theorem dX2_rounds_0 : decode cX2_rounds 0 = .ok (.aload_n 0, 1) := by decide +kernel
theorem dX2_rounds_1 : decode cX2_rounds 1 = .ok (.getfield 9, 3) := by decide +kernel
theorem dX2_rounds_4 : decode cX2_rounds 4 = .ok (.ifCond .ne 7, 3) := by decide +kernel
theorem dX2_rounds_7 : decode cX2_rounds 7 = .ok (.iconst 3, 1) := by decide +kernel
theorem dX2_rounds_8 : decode cX2_rounds 8 = .ok (.goto 4, 3) := by decide +kernel
theorem dX2_rounds_11 : decode cX2_rounds 11 = .ok (.iconst 2, 1) := by decide +kernel
theorem dX2_rounds_12 : decode cX2_rounds 12 = .ok (.ireturn, 1) := by decide +kernel
theorem dX2_ruler_0 : decode cX2_ruler 0 = .ok (.aload_n 0, 1) := by decide +kernel
theorem dX2_ruler_1 : decode cX2_ruler 1 = .ok (.getfield 15, 3) := by decide +kernel
theorem dX2_ruler_4 : decode cX2_ruler 4 = .ok (.ifCond .le 12, 3) := by decide +kernel
theorem dX2_ruler_7 : decode cX2_ruler 7 = .ok (.iload_n 1, 1) := by decide +kernel
theorem dX2_ruler_8 : decode cX2_ruler 8 = .ok (.aload_n 0, 1) := by decide +kernel
theorem dX2_ruler_9 : decode cX2_ruler 9 = .ok (.getfield 15, 3) := by decide +kernel
theorem dX2_ruler_12 : decode cX2_ruler 12 = .ok (.irem, 1) := by decide +kernel
theorem dX2_ruler_13 : decode cX2_ruler 13 = .ok (.goto 4, 3) := by decide +kernel
theorem dX2_ruler_16 : decode cX2_ruler 16 = .ok (.iconst 0, 1) := by decide +kernel
theorem dX2_ruler_17 : decode cX2_ruler 17 = .ok (.ireturn, 1) := by decide +kernel
theorem dX2_turnAt_0 : decode cX2_turnAt 0 = .ok (.iload_n 1, 1) := by decide +kernel
theorem dX2_turnAt_1 : decode cX2_turnAt 1 = .ok (.aload_n 0, 1) := by decide +kernel
theorem dX2_turnAt_2 : decode cX2_turnAt 2 = .ok (.invokevirtual 112, 3) := by decide +kernel
theorem dX2_turnAt_5 : decode cX2_turnAt 5 = .ok (.irem, 1) := by decide +kernel
theorem dX2_turnAt_6 : decode cX2_turnAt 6 = .ok (.ireturn, 1) := by decide +kernel
theorem dX2_view_0 : decode cX2_view 0 = .ok (.iload_n 2, 1) := by decide +kernel
theorem dX2_view_1 : decode cX2_view 1 = .ok (.iload_n 1, 1) := by decide +kernel
theorem dX2_view_2 : decode cX2_view 2 = .ok (.if_icmp .le 7, 3) := by decide +kernel
theorem dX2_view_5 : decode cX2_view 5 = .ok (.iconst 1, 1) := by decide +kernel
theorem dX2_view_6 : decode cX2_view 6 = .ok (.goto 4, 3) := by decide +kernel
theorem dX2_view_9 : decode cX2_view 9 = .ok (.iconst 0, 1) := by decide +kernel
theorem dX2_view_10 : decode cX2_view 10 = .ok (.istore_n 3, 1) := by decide +kernel
theorem dX2_view_11 : decode cX2_view 11 = .ok (.iload_n 1, 1) := by decide +kernel
theorem dX2_view_12 : decode cX2_view 12 = .ok (.iload_n 2, 1) := by decide +kernel
theorem dX2_view_13 : decode cX2_view 13 = .ok (.invokestatic 123, 3) := by decide +kernel
theorem dX2_view_16 : decode cX2_view 16 = .ok (.istore 4, 2) := by decide +kernel
theorem dX2_view_18 : decode cX2_view 18 = .ok (.aload_n 0, 1) := by decide +kernel
theorem dX2_view_19 : decode cX2_view 19 = .ok (.getfield 9, 3) := by decide +kernel
theorem dX2_view_22 : decode cX2_view 22 = .ok (.iconst 1, 1) := by decide +kernel
theorem dX2_view_23 : decode cX2_view 23 = .ok (.if_icmp .ne 29, 3) := by decide +kernel
theorem dX2_view_26 : decode cX2_view 26 = .ok (.iconst 2, 1) := by decide +kernel
theorem dX2_view_27 : decode cX2_view 27 = .ok (.iload 4, 2) := by decide +kernel
theorem dX2_view_29 : decode cX2_view 29 = .ok (.imul, 1) := by decide +kernel
theorem dX2_view_30 : decode cX2_view 30 = .ok (.aload_n 0, 1) := by decide +kernel
theorem dX2_view_31 : decode cX2_view 31 = .ok (.getfield 15, 3) := by decide +kernel
theorem dX2_view_34 : decode cX2_view 34 = .ok (.iconst 2, 1) := by decide +kernel
theorem dX2_view_35 : decode cX2_view 35 = .ok (.aload_n 0, 1) := by decide +kernel
theorem dX2_view_36 : decode cX2_view 36 = .ok (.getfield 18, 3) := by decide +kernel
theorem dX2_view_39 : decode cX2_view 39 = .ok (.imul, 1) := by decide +kernel
theorem dX2_view_40 : decode cX2_view 40 = .ok (.iadd, 1) := by decide +kernel
theorem dX2_view_41 : decode cX2_view 41 = .ok (.if_icmp .le 9, 3) := by decide +kernel
theorem dX2_view_44 : decode cX2_view 44 = .ok (.iload_n 3, 1) := by decide +kernel
theorem dX2_view_45 : decode cX2_view 45 = .ok (.iconst 4, 1) := by decide +kernel
theorem dX2_view_46 : decode cX2_view 46 = .ok (.iadd, 1) := by decide +kernel
theorem dX2_view_47 : decode cX2_view 47 = .ok (.goto 4, 3) := by decide +kernel
theorem dX2_view_50 : decode cX2_view 50 = .ok (.iload_n 3, 1) := by decide +kernel
theorem dX2_view_51 : decode cX2_view 51 = .ok (.ireturn, 1) := by decide +kernel
theorem dX2_view_52 : decode cX2_view 52 = .ok (.iload 4, 2) := by decide +kernel
theorem dX2_view_54 : decode cX2_view 54 = .ok (.aload_n 0, 1) := by decide +kernel
theorem dX2_view_55 : decode cX2_view 55 = .ok (.getfield 18, 3) := by decide +kernel
theorem dX2_view_58 : decode cX2_view 58 = .ok (.if_icmp .le 7, 3) := by decide +kernel
theorem dX2_view_61 : decode cX2_view 61 = .ok (.iload_n 3, 1) := by decide +kernel
theorem dX2_view_62 : decode cX2_view 62 = .ok (.goto 4, 3) := by decide +kernel
theorem dX2_view_65 : decode cX2_view 65 = .ok (.iconst 2, 1) := by decide +kernel
theorem dX2_view_66 : decode cX2_view 66 = .ok (.istore 5, 2) := by decide +kernel
theorem dX2_view_68 : decode cX2_view 68 = .ok (.iload 4, 2) := by decide +kernel
theorem dX2_view_70 : decode cX2_view 70 = .ok (.aload_n 0, 1) := by decide +kernel
theorem dX2_view_71 : decode cX2_view 71 = .ok (.getfield 15, 3) := by decide +kernel
theorem dX2_view_74 : decode cX2_view 74 = .ok (.aload_n 0, 1) := by decide +kernel
theorem dX2_view_75 : decode cX2_view 75 = .ok (.getfield 18, 3) := by decide +kernel
theorem dX2_view_78 : decode cX2_view 78 = .ok (.isub, 1) := by decide +kernel
theorem dX2_view_79 : decode cX2_view 79 = .ok (.if_icmp .lt 10, 3) := by decide +kernel
theorem dX2_view_82 : decode cX2_view 82 = .ok (.iload 5, 2) := by decide +kernel
theorem dX2_view_84 : decode cX2_view 84 = .ok (.iconst 4, 1) := by decide +kernel
theorem dX2_view_85 : decode cX2_view 85 = .ok (.iadd, 1) := by decide +kernel
theorem dX2_view_86 : decode cX2_view 86 = .ok (.goto 5, 3) := by decide +kernel
theorem dX2_view_89 : decode cX2_view 89 = .ok (.iload 5, 2) := by decide +kernel
theorem dX2_view_91 : decode cX2_view 91 = .ok (.ireturn, 1) := by decide +kernel
theorem dX2_wordOf_0 : decode cX2_wordOf 0 = .ok (.iload_n 0, 1) := by decide +kernel
theorem dX2_wordOf_1 : decode cX2_wordOf 1 = .ok (.tableswitch 50 0 4 #[35, 38, 41, 44, 47], 35) := by decide +kernel
theorem dX2_wordOf_36 : decode cX2_wordOf 36 = .ok (.ldc 97, 2) := by decide +kernel
theorem dX2_wordOf_38 : decode cX2_wordOf 38 = .ok (.areturn, 1) := by decide +kernel
theorem dX2_wordOf_39 : decode cX2_wordOf 39 = .ok (.ldc 98, 2) := by decide +kernel
theorem dX2_wordOf_41 : decode cX2_wordOf 41 = .ok (.areturn, 1) := by decide +kernel
theorem dX2_wordOf_42 : decode cX2_wordOf 42 = .ok (.ldc 99, 2) := by decide +kernel
theorem dX2_wordOf_44 : decode cX2_wordOf 44 = .ok (.areturn, 1) := by decide +kernel
theorem dX2_wordOf_45 : decode cX2_wordOf 45 = .ok (.ldc 100, 2) := by decide +kernel
theorem dX2_wordOf_47 : decode cX2_wordOf 47 = .ok (.areturn, 1) := by decide +kernel
theorem dX2_wordOf_48 : decode cX2_wordOf 48 = .ok (.ldc 101, 2) := by decide +kernel
theorem dX2_wordOf_50 : decode cX2_wordOf 50 = .ok (.areturn, 1) := by decide +kernel
theorem dX2_wordOf_51 : decode cX2_wordOf 51 = .ok (.ldc 103, 2) := by decide +kernel
theorem dX2_wordOf_53 : decode cX2_wordOf 53 = .ok (.areturn, 1) := by decide +kernel
theorem dX3_addSaid_0 : decode cX3_addSaid 0 = .ok (.aload_n 0, 1) := by decide +kernel
theorem dX3_addSaid_1 : decode cX3_addSaid 1 = .ok (.getfield 59, 3) := by decide +kernel
theorem dX3_addSaid_4 : decode cX3_addSaid 4 = .ok (.aload_n 0, 1) := by decide +kernel
theorem dX3_addSaid_5 : decode cX3_addSaid 5 = .ok (.getfield 9, 3) := by decide +kernel
theorem dX3_addSaid_8 : decode cX3_addSaid 8 = .ok (.arraylength, 1) := by decide +kernel
theorem dX3_addSaid_9 : decode cX3_addSaid 9 = .ok (.if_icmp .ge 35, 3) := by decide +kernel
theorem dX3_addSaid_12 : decode cX3_addSaid 12 = .ok (.aload_n 0, 1) := by decide +kernel
theorem dX3_addSaid_13 : decode cX3_addSaid 13 = .ok (.getfield 9, 3) := by decide +kernel
theorem dX3_addSaid_16 : decode cX3_addSaid 16 = .ok (.aload_n 0, 1) := by decide +kernel
theorem dX3_addSaid_17 : decode cX3_addSaid 17 = .ok (.getfield 59, 3) := by decide +kernel
theorem dX3_addSaid_20 : decode cX3_addSaid 20 = .ok (.iload_n 1, 1) := by decide +kernel
theorem dX3_addSaid_21 : decode cX3_addSaid 21 = .ok (.iload_n 2, 1) := by decide +kernel
theorem dX3_addSaid_22 : decode cX3_addSaid 22 = .ok (.iload_n 3, 1) := by decide +kernel
theorem dX3_addSaid_23 : decode cX3_addSaid 23 = .ok (.iload 4, 2) := by decide +kernel
theorem dX3_addSaid_25 : decode cX3_addSaid 25 = .ok (.invokestatic 75, 3) := by decide +kernel
theorem dX3_addSaid_28 : decode cX3_addSaid 28 = .ok (.iconst 3, 1) := by decide +kernel
theorem dX3_addSaid_29 : decode cX3_addSaid 29 = .ok (.imul, 1) := by decide +kernel
theorem dX3_addSaid_30 : decode cX3_addSaid 30 = .ok (.iload 5, 2) := by decide +kernel
theorem dX3_addSaid_32 : decode cX3_addSaid 32 = .ok (.iadd, 1) := by decide +kernel
theorem dX3_addSaid_33 : decode cX3_addSaid 33 = .ok (.iastore, 1) := by decide +kernel
theorem dX3_addSaid_34 : decode cX3_addSaid 34 = .ok (.aload_n 0, 1) := by decide +kernel
theorem dX3_addSaid_35 : decode cX3_addSaid 35 = .ok (.dup, 1) := by decide +kernel
theorem dX3_addSaid_36 : decode cX3_addSaid 36 = .ok (.getfield 59, 3) := by decide +kernel
theorem dX3_addSaid_39 : decode cX3_addSaid 39 = .ok (.iconst 1, 1) := by decide +kernel
theorem dX3_addSaid_40 : decode cX3_addSaid 40 = .ok (.iadd, 1) := by decide +kernel
theorem dX3_addSaid_41 : decode cX3_addSaid 41 = .ok (.putfield 59, 3) := by decide +kernel
theorem dX3_addSaid_44 : decode cX3_addSaid 44 = .ok (.return_, 1) := by decide +kernel
theorem dX3_agreedFrom_0 : decode cX3_agreedFrom 0 = .ok (.iconst (-1), 1) := by decide +kernel
theorem dX3_agreedFrom_1 : decode cX3_agreedFrom 1 = .ok (.istore_n 2, 1) := by decide +kernel
theorem dX3_agreedFrom_2 : decode cX3_agreedFrom 2 = .ok (.aload_n 1, 1) := by decide +kernel
theorem dX3_agreedFrom_3 : decode cX3_agreedFrom 3 = .ok (.aload_n 0, 1) := by decide +kernel
theorem dX3_agreedFrom_4 : decode cX3_agreedFrom 4 = .ok (.getfield 47, 3) := by decide +kernel
theorem dX3_agreedFrom_7 : decode cX3_agreedFrom 7 = .ok (.invokevirtual 89, 3) := by decide +kernel
theorem dX3_agreedFrom_10 : decode cX3_agreedFrom 10 = .ok (.iconst 1, 1) := by decide +kernel
theorem dX3_agreedFrom_11 : decode cX3_agreedFrom 11 = .ok (.isub, 1) := by decide +kernel
theorem dX3_agreedFrom_12 : decode cX3_agreedFrom 12 = .ok (.istore_n 3, 1) := by decide +kernel
theorem dX3_agreedFrom_13 : decode cX3_agreedFrom 13 = .ok (.iload_n 3, 1) := by decide +kernel
theorem dX3_agreedFrom_14 : decode cX3_agreedFrom 14 = .ok (.ifCond .lt 25, 3) := by decide +kernel
theorem dX3_agreedFrom_17 : decode cX3_agreedFrom 17 = .ok (.aload_n 0, 1) := by decide +kernel
theorem dX3_agreedFrom_18 : decode cX3_agreedFrom 18 = .ok (.aload_n 1, 1) := by decide +kernel
theorem dX3_agreedFrom_19 : decode cX3_agreedFrom 19 = .ok (.aload_n 0, 1) := by decide +kernel
theorem dX3_agreedFrom_20 : decode cX3_agreedFrom 20 = .ok (.getfield 28, 3) := by decide +kernel
theorem dX3_agreedFrom_23 : decode cX3_agreedFrom 23 = .ok (.iload_n 3, 1) := by decide +kernel
theorem dX3_agreedFrom_24 : decode cX3_agreedFrom 24 = .ok (.iaload, 1) := by decide +kernel
theorem dX3_agreedFrom_25 : decode cX3_agreedFrom 25 = .ok (.invokevirtual 200, 3) := by decide +kernel
theorem dX3_agreedFrom_28 : decode cX3_agreedFrom 28 = .ok (.ifCond .eq 11, 3) := by decide +kernel
theorem dX3_agreedFrom_31 : decode cX3_agreedFrom 31 = .ok (.iload_n 3, 1) := by decide +kernel
theorem dX3_agreedFrom_32 : decode cX3_agreedFrom 32 = .ok (.istore_n 2, 1) := by decide +kernel
theorem dX3_agreedFrom_33 : decode cX3_agreedFrom 33 = .ok (.iinc 3 (-1), 3) := by decide +kernel
theorem dX3_agreedFrom_36 : decode cX3_agreedFrom 36 = .ok (.goto (-23), 3) := by decide +kernel
theorem dX3_agreedFrom_39 : decode cX3_agreedFrom 39 = .ok (.iload_n 2, 1) := by decide +kernel
theorem dX3_agreedFrom_40 : decode cX3_agreedFrom 40 = .ok (.ireturn, 1) := by decide +kernel
theorem dX3_alike_0 : decode cX3_alike 0 = .ok (.aload_n 0, 1) := by decide +kernel
theorem dX3_alike_1 : decode cX3_alike 1 = .ok (.aload_n 1, 1) := by decide +kernel
theorem dX3_alike_2 : decode cX3_alike 2 = .ok (.invokevirtual 196, 3) := by decide +kernel
theorem dX3_alike_5 : decode cX3_alike 5 = .ok (.istore_n 3, 1) := by decide +kernel
theorem dX3_alike_6 : decode cX3_alike 6 = .ok (.iload_n 2, 1) := by decide +kernel
theorem dX3_alike_7 : decode cX3_alike 7 = .ok (.iload_n 3, 1) := by decide +kernel
theorem dX3_alike_8 : decode cX3_alike 8 = .ok (.iand, 1) := by decide +kernel
theorem dX3_alike_9 : decode cX3_alike 9 = .ok (.ifCond .eq 10, 3) := by decide +kernel
theorem dX3_alike_12 : decode cX3_alike 12 = .ok (.iload_n 2, 1) := by decide +kernel
theorem dX3_alike_13 : decode cX3_alike 13 = .ok (.iload_n 3, 1) := by decide +kernel
theorem dX3_alike_14 : decode cX3_alike 14 = .ok (.iand, 1) := by decide +kernel
theorem dX3_alike_15 : decode cX3_alike 15 = .ok (.iload_n 3, 1) := by decide +kernel
theorem dX3_alike_16 : decode cX3_alike 16 = .ok (.if_icmp .ne 7, 3) := by decide +kernel
theorem dX3_alike_19 : decode cX3_alike 19 = .ok (.iconst 1, 1) := by decide +kernel
theorem dX3_alike_20 : decode cX3_alike 20 = .ok (.goto 4, 3) := by decide +kernel
theorem dX3_alike_23 : decode cX3_alike 23 = .ok (.iconst 0, 1) := by decide +kernel
theorem dX3_alike_24 : decode cX3_alike 24 = .ok (.ireturn, 1) := by decide +kernel
theorem dX3_begin_0 : decode cX3_begin 0 = .ok (.aload_n 0, 1) := by decide +kernel
theorem dX3_begin_1 : decode cX3_begin 1 = .ok (.iload_n 1, 1) := by decide +kernel
theorem dX3_begin_2 : decode cX3_begin 2 = .ok (.putfield 40, 3) := by decide +kernel
theorem dX3_begin_5 : decode cX3_begin 5 = .ok (.aload_n 0, 1) := by decide +kernel
theorem dX3_begin_6 : decode cX3_begin 6 = .ok (.iload_n 2, 1) := by decide +kernel
theorem dX3_begin_7 : decode cX3_begin 7 = .ok (.putfield 44, 3) := by decide +kernel
theorem dX3_begin_10 : decode cX3_begin 10 = .ok (.aload_n 0, 1) := by decide +kernel
theorem dX3_begin_11 : decode cX3_begin 11 = .ok (.iconst 0, 1) := by decide +kernel
theorem dX3_begin_12 : decode cX3_begin 12 = .ok (.putfield 47, 3) := by decide +kernel
theorem dX3_begin_15 : decode cX3_begin 15 = .ok (.aload_n 0, 1) := by decide +kernel
theorem dX3_begin_16 : decode cX3_begin 16 = .ok (.iload_n 1, 1) := by decide +kernel
theorem dX3_begin_17 : decode cX3_begin 17 = .ok (.putfield 50, 3) := by decide +kernel
theorem dX3_begin_20 : decode cX3_begin 20 = .ok (.aload_n 0, 1) := by decide +kernel
theorem dX3_begin_21 : decode cX3_begin 21 = .ok (.iconst 0, 1) := by decide +kernel
theorem dX3_begin_22 : decode cX3_begin 22 = .ok (.putfield 53, 3) := by decide +kernel
theorem dX3_begin_25 : decode cX3_begin 25 = .ok (.aload_n 0, 1) := by decide +kernel
theorem dX3_begin_26 : decode cX3_begin 26 = .ok (.iconst 0, 1) := by decide +kernel
theorem dX3_begin_27 : decode cX3_begin 27 = .ok (.putfield 56, 3) := by decide +kernel
theorem dX3_begin_30 : decode cX3_begin 30 = .ok (.aload_n 0, 1) := by decide +kernel
theorem dX3_begin_31 : decode cX3_begin 31 = .ok (.iconst 0, 1) := by decide +kernel
theorem dX3_begin_32 : decode cX3_begin 32 = .ok (.putfield 59, 3) := by decide +kernel
theorem dX3_begin_35 : decode cX3_begin 35 = .ok (.aload_n 0, 1) := by decide +kernel
theorem dX3_begin_36 : decode cX3_begin 36 = .ok (.lconst 0, 1) := by decide +kernel
theorem dX3_begin_37 : decode cX3_begin 37 = .ok (.putfield 62, 3) := by decide +kernel
theorem dX3_begin_40 : decode cX3_begin 40 = .ok (.aload_n 0, 1) := by decide +kernel
theorem dX3_begin_41 : decode cX3_begin 41 = .ok (.lload_n 3, 1) := by decide +kernel
theorem dX3_begin_42 : decode cX3_begin 42 = .ok (.putfield 66, 3) := by decide +kernel
theorem dX3_begin_45 : decode cX3_begin 45 = .ok (.return_, 1) := by decide +kernel
theorem dX3_copy_0 : decode cX3_copy 0 = .ok (.aload_n 0, 1) := by decide +kernel
theorem dX3_copy_1 : decode cX3_copy 1 = .ok (.aload_n 1, 1) := by decide +kernel
theorem dX3_copy_2 : decode cX3_copy 2 = .ok (.getfield 40, 3) := by decide +kernel
theorem dX3_copy_5 : decode cX3_copy 5 = .ok (.putfield 40, 3) := by decide +kernel
theorem dX3_copy_8 : decode cX3_copy 8 = .ok (.aload_n 0, 1) := by decide +kernel
theorem dX3_copy_9 : decode cX3_copy 9 = .ok (.aload_n 1, 1) := by decide +kernel
theorem dX3_copy_10 : decode cX3_copy 10 = .ok (.getfield 44, 3) := by decide +kernel
theorem dX3_copy_13 : decode cX3_copy 13 = .ok (.putfield 44, 3) := by decide +kernel
theorem dX3_copy_16 : decode cX3_copy 16 = .ok (.aload_n 0, 1) := by decide +kernel
theorem dX3_copy_17 : decode cX3_copy 17 = .ok (.aload_n 1, 1) := by decide +kernel
theorem dX3_copy_18 : decode cX3_copy 18 = .ok (.getfield 47, 3) := by decide +kernel
theorem dX3_copy_21 : decode cX3_copy 21 = .ok (.putfield 47, 3) := by decide +kernel
theorem dX3_copy_24 : decode cX3_copy 24 = .ok (.aload_n 0, 1) := by decide +kernel
theorem dX3_copy_25 : decode cX3_copy 25 = .ok (.aload_n 1, 1) := by decide +kernel
theorem dX3_copy_26 : decode cX3_copy 26 = .ok (.getfield 50, 3) := by decide +kernel
theorem dX3_copy_29 : decode cX3_copy 29 = .ok (.putfield 50, 3) := by decide +kernel
theorem dX3_copy_32 : decode cX3_copy 32 = .ok (.aload_n 0, 1) := by decide +kernel
theorem dX3_copy_33 : decode cX3_copy 33 = .ok (.aload_n 1, 1) := by decide +kernel
theorem dX3_copy_34 : decode cX3_copy 34 = .ok (.getfield 53, 3) := by decide +kernel
theorem dX3_copy_37 : decode cX3_copy 37 = .ok (.putfield 53, 3) := by decide +kernel
theorem dX3_copy_40 : decode cX3_copy 40 = .ok (.aload_n 0, 1) := by decide +kernel
theorem dX3_copy_41 : decode cX3_copy 41 = .ok (.aload_n 1, 1) := by decide +kernel
theorem dX3_copy_42 : decode cX3_copy 42 = .ok (.getfield 56, 3) := by decide +kernel
theorem dX3_copy_45 : decode cX3_copy 45 = .ok (.putfield 56, 3) := by decide +kernel
theorem dX3_copy_48 : decode cX3_copy 48 = .ok (.aload_n 0, 1) := by decide +kernel
theorem dX3_copy_49 : decode cX3_copy 49 = .ok (.aload_n 1, 1) := by decide +kernel
theorem dX3_copy_50 : decode cX3_copy 50 = .ok (.getfield 59, 3) := by decide +kernel
theorem dX3_copy_53 : decode cX3_copy 53 = .ok (.putfield 59, 3) := by decide +kernel
theorem dX3_copy_56 : decode cX3_copy 56 = .ok (.aload_n 0, 1) := by decide +kernel
theorem dX3_copy_57 : decode cX3_copy 57 = .ok (.aload_n 1, 1) := by decide +kernel
theorem dX3_copy_58 : decode cX3_copy 58 = .ok (.getfield 62, 3) := by decide +kernel
theorem dX3_copy_61 : decode cX3_copy 61 = .ok (.putfield 62, 3) := by decide +kernel
theorem dX3_copy_64 : decode cX3_copy 64 = .ok (.aload_n 0, 1) := by decide +kernel
theorem dX3_copy_65 : decode cX3_copy 65 = .ok (.aload_n 1, 1) := by decide +kernel
theorem dX3_copy_66 : decode cX3_copy 66 = .ok (.getfield 66, 3) := by decide +kernel
theorem dX3_copy_69 : decode cX3_copy 69 = .ok (.putfield 66, 3) := by decide +kernel
theorem dX3_copy_72 : decode cX3_copy 72 = .ok (.aload_n 1, 1) := by decide +kernel
theorem dX3_copy_73 : decode cX3_copy 73 = .ok (.getfield 9, 3) := by decide +kernel
theorem dX3_copy_76 : decode cX3_copy 76 = .ok (.iconst 0, 1) := by decide +kernel
theorem dX3_copy_77 : decode cX3_copy 77 = .ok (.aload_n 0, 1) := by decide +kernel
theorem dX3_copy_78 : decode cX3_copy 78 = .ok (.getfield 9, 3) := by decide +kernel
theorem dX3_copy_81 : decode cX3_copy 81 = .ok (.iconst 0, 1) := by decide +kernel
theorem dX3_copy_82 : decode cX3_copy 82 = .ok (.aload_n 0, 1) := by decide +kernel
theorem dX3_copy_83 : decode cX3_copy 83 = .ok (.getfield 9, 3) := by decide +kernel
theorem dX3_copy_86 : decode cX3_copy 86 = .ok (.arraylength, 1) := by decide +kernel
theorem dX3_copy_87 : decode cX3_copy 87 = .ok (.invokestatic 69, 3) := by decide +kernel
theorem dX3_copy_90 : decode cX3_copy 90 = .ok (.aload_n 1, 1) := by decide +kernel
theorem dX3_copy_91 : decode cX3_copy 91 = .ok (.getfield 15, 3) := by decide +kernel
theorem dX3_copy_94 : decode cX3_copy 94 = .ok (.iconst 0, 1) := by decide +kernel
theorem dX3_copy_95 : decode cX3_copy 95 = .ok (.aload_n 0, 1) := by decide +kernel
theorem dX3_copy_96 : decode cX3_copy 96 = .ok (.getfield 15, 3) := by decide +kernel
theorem dX3_copy_99 : decode cX3_copy 99 = .ok (.iconst 0, 1) := by decide +kernel
theorem dX3_copy_100 : decode cX3_copy 100 = .ok (.aload_n 0, 1) := by decide +kernel
theorem dX3_copy_101 : decode cX3_copy 101 = .ok (.getfield 15, 3) := by decide +kernel
theorem dX3_copy_104 : decode cX3_copy 104 = .ok (.arraylength, 1) := by decide +kernel
theorem dX3_copy_105 : decode cX3_copy 105 = .ok (.invokestatic 69, 3) := by decide +kernel
theorem dX3_copy_108 : decode cX3_copy 108 = .ok (.aload_n 1, 1) := by decide +kernel
theorem dX3_copy_109 : decode cX3_copy 109 = .ok (.getfield 19, 3) := by decide +kernel
theorem dX3_copy_112 : decode cX3_copy 112 = .ok (.iconst 0, 1) := by decide +kernel
theorem dX3_copy_113 : decode cX3_copy 113 = .ok (.aload_n 0, 1) := by decide +kernel
theorem dX3_copy_114 : decode cX3_copy 114 = .ok (.getfield 19, 3) := by decide +kernel
theorem dX3_copy_117 : decode cX3_copy 117 = .ok (.iconst 0, 1) := by decide +kernel
theorem dX3_copy_118 : decode cX3_copy 118 = .ok (.aload_n 0, 1) := by decide +kernel
theorem dX3_copy_119 : decode cX3_copy 119 = .ok (.getfield 19, 3) := by decide +kernel
theorem dX3_copy_122 : decode cX3_copy 122 = .ok (.arraylength, 1) := by decide +kernel
theorem dX3_copy_123 : decode cX3_copy 123 = .ok (.invokestatic 69, 3) := by decide +kernel
theorem dX3_copy_126 : decode cX3_copy 126 = .ok (.aload_n 1, 1) := by decide +kernel
theorem dX3_copy_127 : decode cX3_copy 127 = .ok (.getfield 22, 3) := by decide +kernel
theorem dX3_copy_130 : decode cX3_copy 130 = .ok (.iconst 0, 1) := by decide +kernel
theorem dX3_copy_131 : decode cX3_copy 131 = .ok (.aload_n 0, 1) := by decide +kernel
theorem dX3_copy_132 : decode cX3_copy 132 = .ok (.getfield 22, 3) := by decide +kernel
theorem dX3_copy_135 : decode cX3_copy 135 = .ok (.iconst 0, 1) := by decide +kernel
theorem dX3_copy_136 : decode cX3_copy 136 = .ok (.aload_n 0, 1) := by decide +kernel
theorem dX3_copy_137 : decode cX3_copy 137 = .ok (.getfield 22, 3) := by decide +kernel
theorem dX3_copy_140 : decode cX3_copy 140 = .ok (.arraylength, 1) := by decide +kernel
theorem dX3_copy_141 : decode cX3_copy 141 = .ok (.invokestatic 69, 3) := by decide +kernel
theorem dX3_copy_144 : decode cX3_copy 144 = .ok (.aload_n 1, 1) := by decide +kernel
theorem dX3_copy_145 : decode cX3_copy 145 = .ok (.getfield 25, 3) := by decide +kernel
theorem dX3_copy_148 : decode cX3_copy 148 = .ok (.iconst 0, 1) := by decide +kernel
theorem dX3_copy_149 : decode cX3_copy 149 = .ok (.aload_n 0, 1) := by decide +kernel
theorem dX3_copy_150 : decode cX3_copy 150 = .ok (.getfield 25, 3) := by decide +kernel
theorem dX3_copy_153 : decode cX3_copy 153 = .ok (.iconst 0, 1) := by decide +kernel
theorem dX3_copy_154 : decode cX3_copy 154 = .ok (.aload_n 0, 1) := by decide +kernel
theorem dX3_copy_155 : decode cX3_copy 155 = .ok (.getfield 25, 3) := by decide +kernel
theorem dX3_copy_158 : decode cX3_copy 158 = .ok (.arraylength, 1) := by decide +kernel
theorem dX3_copy_159 : decode cX3_copy 159 = .ok (.invokestatic 69, 3) := by decide +kernel
theorem dX3_copy_162 : decode cX3_copy 162 = .ok (.aload_n 1, 1) := by decide +kernel
theorem dX3_copy_163 : decode cX3_copy 163 = .ok (.getfield 28, 3) := by decide +kernel
theorem dX3_copy_166 : decode cX3_copy 166 = .ok (.iconst 0, 1) := by decide +kernel
theorem dX3_copy_167 : decode cX3_copy 167 = .ok (.aload_n 0, 1) := by decide +kernel
theorem dX3_copy_168 : decode cX3_copy 168 = .ok (.getfield 28, 3) := by decide +kernel
theorem dX3_copy_171 : decode cX3_copy 171 = .ok (.iconst 0, 1) := by decide +kernel
theorem dX3_copy_172 : decode cX3_copy 172 = .ok (.aload_n 0, 1) := by decide +kernel
theorem dX3_copy_173 : decode cX3_copy 173 = .ok (.getfield 28, 3) := by decide +kernel
theorem dX3_copy_176 : decode cX3_copy 176 = .ok (.arraylength, 1) := by decide +kernel
theorem dX3_copy_177 : decode cX3_copy 177 = .ok (.invokestatic 69, 3) := by decide +kernel
theorem dX3_copy_180 : decode cX3_copy 180 = .ok (.aload_n 1, 1) := by decide +kernel
theorem dX3_copy_181 : decode cX3_copy 181 = .ok (.getfield 31, 3) := by decide +kernel
theorem dX3_copy_184 : decode cX3_copy 184 = .ok (.iconst 0, 1) := by decide +kernel
theorem dX3_copy_185 : decode cX3_copy 185 = .ok (.aload_n 0, 1) := by decide +kernel
theorem dX3_copy_186 : decode cX3_copy 186 = .ok (.getfield 31, 3) := by decide +kernel
theorem dX3_copy_189 : decode cX3_copy 189 = .ok (.iconst 0, 1) := by decide +kernel
theorem dX3_copy_190 : decode cX3_copy 190 = .ok (.aload_n 0, 1) := by decide +kernel
theorem dX3_copy_191 : decode cX3_copy 191 = .ok (.getfield 31, 3) := by decide +kernel
theorem dX3_copy_194 : decode cX3_copy 194 = .ok (.arraylength, 1) := by decide +kernel
theorem dX3_copy_195 : decode cX3_copy 195 = .ok (.invokestatic 69, 3) := by decide +kernel
theorem dX3_copy_198 : decode cX3_copy 198 = .ok (.aload_n 1, 1) := by decide +kernel
theorem dX3_copy_199 : decode cX3_copy 199 = .ok (.getfield 34, 3) := by decide +kernel
theorem dX3_copy_202 : decode cX3_copy 202 = .ok (.iconst 0, 1) := by decide +kernel
theorem dX3_copy_203 : decode cX3_copy 203 = .ok (.aload_n 0, 1) := by decide +kernel
theorem dX3_copy_204 : decode cX3_copy 204 = .ok (.getfield 34, 3) := by decide +kernel
theorem dX3_copy_207 : decode cX3_copy 207 = .ok (.iconst 0, 1) := by decide +kernel
theorem dX3_copy_208 : decode cX3_copy 208 = .ok (.aload_n 0, 1) := by decide +kernel
theorem dX3_copy_209 : decode cX3_copy 209 = .ok (.getfield 34, 3) := by decide +kernel
theorem dX3_copy_212 : decode cX3_copy 212 = .ok (.arraylength, 1) := by decide +kernel
theorem dX3_copy_213 : decode cX3_copy 213 = .ok (.invokestatic 69, 3) := by decide +kernel
theorem dX3_copy_216 : decode cX3_copy 216 = .ok (.aload_n 1, 1) := by decide +kernel
theorem dX3_copy_217 : decode cX3_copy 217 = .ok (.getfield 37, 3) := by decide +kernel
theorem dX3_copy_220 : decode cX3_copy 220 = .ok (.iconst 0, 1) := by decide +kernel
theorem dX3_copy_221 : decode cX3_copy 221 = .ok (.aload_n 0, 1) := by decide +kernel
theorem dX3_copy_222 : decode cX3_copy 222 = .ok (.getfield 37, 3) := by decide +kernel
theorem dX3_copy_225 : decode cX3_copy 225 = .ok (.iconst 0, 1) := by decide +kernel
theorem dX3_copy_226 : decode cX3_copy 226 = .ok (.aload_n 0, 1) := by decide +kernel
theorem dX3_copy_227 : decode cX3_copy 227 = .ok (.getfield 37, 3) := by decide +kernel
theorem dX3_copy_230 : decode cX3_copy 230 = .ok (.arraylength, 1) := by decide +kernel
theorem dX3_copy_231 : decode cX3_copy 231 = .ok (.invokestatic 69, 3) := by decide +kernel
theorem dX3_copy_234 : decode cX3_copy 234 = .ok (.return_, 1) := by decide +kernel
theorem dX3_crossedIn_0 : decode cX3_crossedIn 0 = .ok (.aload_n 1, 1) := by decide +kernel
theorem dX3_crossedIn_1 : decode cX3_crossedIn 1 = .ok (.iload_n 2, 1) := by decide +kernel
theorem dX3_crossedIn_2 : decode cX3_crossedIn 2 = .ok (.invokevirtual 113, 3) := by decide +kernel
theorem dX3_crossedIn_5 : decode cX3_crossedIn 5 = .ok (.istore_n 3, 1) := by decide +kernel
theorem dX3_crossedIn_6 : decode cX3_crossedIn 6 = .ok (.iconst 0, 1) := by decide +kernel
