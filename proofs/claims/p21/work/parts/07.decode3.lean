theorem dX11_laysDown_0 : decode cX11_laysDown 0 = .ok (.iconst 0, 1) := by decide +kernel
theorem dX11_laysDown_1 : decode cX11_laysDown 1 = .ok (.istore_n 1, 1) := by decide +kernel
theorem dX11_laysDown_2 : decode cX11_laysDown 2 = .ok (.iload_n 1, 1) := by decide +kernel
theorem dX11_laysDown_3 : decode cX11_laysDown 3 = .ok (.bipush 9, 2) := by decide +kernel
theorem dX11_laysDown_5 : decode cX11_laysDown 5 = .ok (.if_icmp .ge 136, 3) := by decide +kernel
theorem dX11_laysDown_8 : decode cX11_laysDown 8 = .ok (.aload_n 0, 1) := by decide +kernel
theorem dX11_laysDown_9 : decode cX11_laysDown 9 = .ok (.getfield 57, 3) := by decide +kernel
theorem dX11_laysDown_12 : decode cX11_laysDown 12 = .ok (.iconst 0, 1) := by decide +kernel
theorem dX11_laysDown_13 : decode cX11_laysDown 13 = .ok (.iload_n 1, 1) := by decide +kernel
theorem dX11_laysDown_14 : decode cX11_laysDown 14 = .ok (.iadd, 1) := by decide +kernel
theorem dX11_laysDown_15 : decode cX11_laysDown 15 = .ok (.aload_n 0, 1) := by decide +kernel
theorem dX11_laysDown_16 : decode cX11_laysDown 16 = .ok (.getfield 26, 3) := by decide +kernel
theorem dX11_laysDown_19 : decode cX11_laysDown 19 = .ok (.iload_n 1, 1) := by decide +kernel
theorem dX11_laysDown_20 : decode cX11_laysDown 20 = .ok (.iaload, 1) := by decide +kernel
theorem dX11_laysDown_21 : decode cX11_laysDown 21 = .ok (.iastore, 1) := by decide +kernel
theorem dX11_laysDown_22 : decode cX11_laysDown 22 = .ok (.aload_n 0, 1) := by decide +kernel
theorem dX11_laysDown_23 : decode cX11_laysDown 23 = .ok (.getfield 57, 3) := by decide +kernel
theorem dX11_laysDown_26 : decode cX11_laysDown 26 = .ok (.bipush 9, 2) := by decide +kernel
theorem dX11_laysDown_28 : decode cX11_laysDown 28 = .ok (.iload_n 1, 1) := by decide +kernel
theorem dX11_laysDown_29 : decode cX11_laysDown 29 = .ok (.iadd, 1) := by decide +kernel
theorem dX11_laysDown_30 : decode cX11_laysDown 30 = .ok (.aload_n 0, 1) := by decide +kernel
theorem dX11_laysDown_31 : decode cX11_laysDown 31 = .ok (.getfield 29, 3) := by decide +kernel
theorem dX11_laysDown_34 : decode cX11_laysDown 34 = .ok (.iload_n 1, 1) := by decide +kernel
theorem dX11_laysDown_35 : decode cX11_laysDown 35 = .ok (.iaload, 1) := by decide +kernel
theorem dX11_laysDown_36 : decode cX11_laysDown 36 = .ok (.iastore, 1) := by decide +kernel
theorem dX11_laysDown_37 : decode cX11_laysDown 37 = .ok (.aload_n 0, 1) := by decide +kernel
theorem dX11_laysDown_38 : decode cX11_laysDown 38 = .ok (.getfield 57, 3) := by decide +kernel
theorem dX11_laysDown_41 : decode cX11_laysDown 41 = .ok (.bipush 18, 2) := by decide +kernel
theorem dX11_laysDown_43 : decode cX11_laysDown 43 = .ok (.iload_n 1, 1) := by decide +kernel
theorem dX11_laysDown_44 : decode cX11_laysDown 44 = .ok (.iadd, 1) := by decide +kernel
theorem dX11_laysDown_45 : decode cX11_laysDown 45 = .ok (.aload_n 0, 1) := by decide +kernel
theorem dX11_laysDown_46 : decode cX11_laysDown 46 = .ok (.getfield 32, 3) := by decide +kernel
theorem dX11_laysDown_49 : decode cX11_laysDown 49 = .ok (.iload_n 1, 1) := by decide +kernel
theorem dX11_laysDown_50 : decode cX11_laysDown 50 = .ok (.iaload, 1) := by decide +kernel
theorem dX11_laysDown_51 : decode cX11_laysDown 51 = .ok (.iastore, 1) := by decide +kernel
theorem dX11_laysDown_52 : decode cX11_laysDown 52 = .ok (.aload_n 0, 1) := by decide +kernel
theorem dX11_laysDown_53 : decode cX11_laysDown 53 = .ok (.getfield 57, 3) := by decide +kernel
theorem dX11_laysDown_56 : decode cX11_laysDown 56 = .ok (.bipush 27, 2) := by decide +kernel
theorem dX11_laysDown_58 : decode cX11_laysDown 58 = .ok (.iload_n 1, 1) := by decide +kernel
theorem dX11_laysDown_59 : decode cX11_laysDown 59 = .ok (.iadd, 1) := by decide +kernel
theorem dX11_laysDown_60 : decode cX11_laysDown 60 = .ok (.aload_n 0, 1) := by decide +kernel
theorem dX11_laysDown_61 : decode cX11_laysDown 61 = .ok (.getfield 50, 3) := by decide +kernel
theorem dX11_laysDown_64 : decode cX11_laysDown 64 = .ok (.iload_n 1, 1) := by decide +kernel
theorem dX11_laysDown_65 : decode cX11_laysDown 65 = .ok (.baload, 1) := by decide +kernel
theorem dX11_laysDown_66 : decode cX11_laysDown 66 = .ok (.ifCond .eq 7, 3) := by decide +kernel
theorem dX11_laysDown_69 : decode cX11_laysDown 69 = .ok (.iconst 1, 1) := by decide +kernel
theorem dX11_laysDown_70 : decode cX11_laysDown 70 = .ok (.goto 4, 3) := by decide +kernel
theorem dX11_laysDown_73 : decode cX11_laysDown 73 = .ok (.iconst 0, 1) := by decide +kernel
theorem dX11_laysDown_74 : decode cX11_laysDown 74 = .ok (.iastore, 1) := by decide +kernel
theorem dX11_laysDown_75 : decode cX11_laysDown 75 = .ok (.aload_n 0, 1) := by decide +kernel
theorem dX11_laysDown_76 : decode cX11_laysDown 76 = .ok (.getfield 57, 3) := by decide +kernel
theorem dX11_laysDown_79 : decode cX11_laysDown 79 = .ok (.bipush 36, 2) := by decide +kernel
theorem dX11_laysDown_81 : decode cX11_laysDown 81 = .ok (.iload_n 1, 1) := by decide +kernel
theorem dX11_laysDown_82 : decode cX11_laysDown 82 = .ok (.iadd, 1) := by decide +kernel
theorem dX11_laysDown_83 : decode cX11_laysDown 83 = .ok (.aload_n 0, 1) := by decide +kernel
theorem dX11_laysDown_84 : decode cX11_laysDown 84 = .ok (.getfield 35, 3) := by decide +kernel
theorem dX11_laysDown_87 : decode cX11_laysDown 87 = .ok (.iload_n 1, 1) := by decide +kernel
theorem dX11_laysDown_88 : decode cX11_laysDown 88 = .ok (.iaload, 1) := by decide +kernel
theorem dX11_laysDown_89 : decode cX11_laysDown 89 = .ok (.iastore, 1) := by decide +kernel
theorem dX11_laysDown_90 : decode cX11_laysDown 90 = .ok (.aload_n 0, 1) := by decide +kernel
theorem dX11_laysDown_91 : decode cX11_laysDown 91 = .ok (.getfield 57, 3) := by decide +kernel
theorem dX11_laysDown_94 : decode cX11_laysDown 94 = .ok (.bipush 45, 2) := by decide +kernel
theorem dX11_laysDown_96 : decode cX11_laysDown 96 = .ok (.iload_n 1, 1) := by decide +kernel
theorem dX11_laysDown_97 : decode cX11_laysDown 97 = .ok (.iadd, 1) := by decide +kernel
theorem dX11_laysDown_98 : decode cX11_laysDown 98 = .ok (.aload_n 0, 1) := by decide +kernel
theorem dX11_laysDown_99 : decode cX11_laysDown 99 = .ok (.getfield 38, 3) := by decide +kernel
theorem dX11_laysDown_102 : decode cX11_laysDown 102 = .ok (.iload_n 1, 1) := by decide +kernel
theorem dX11_laysDown_103 : decode cX11_laysDown 103 = .ok (.iaload, 1) := by decide +kernel
theorem dX11_laysDown_104 : decode cX11_laysDown 104 = .ok (.iastore, 1) := by decide +kernel
theorem dX11_laysDown_105 : decode cX11_laysDown 105 = .ok (.aload_n 0, 1) := by decide +kernel
theorem dX11_laysDown_106 : decode cX11_laysDown 106 = .ok (.getfield 57, 3) := by decide +kernel
theorem dX11_laysDown_109 : decode cX11_laysDown 109 = .ok (.bipush 54, 2) := by decide +kernel
theorem dX11_laysDown_111 : decode cX11_laysDown 111 = .ok (.iload_n 1, 1) := by decide +kernel
theorem dX11_laysDown_112 : decode cX11_laysDown 112 = .ok (.iadd, 1) := by decide +kernel
theorem dX11_laysDown_113 : decode cX11_laysDown 113 = .ok (.aload_n 0, 1) := by decide +kernel
theorem dX11_laysDown_114 : decode cX11_laysDown 114 = .ok (.getfield 41, 3) := by decide +kernel
theorem dX11_laysDown_117 : decode cX11_laysDown 117 = .ok (.iload_n 1, 1) := by decide +kernel
theorem dX11_laysDown_118 : decode cX11_laysDown 118 = .ok (.iaload, 1) := by decide +kernel
theorem dX11_laysDown_119 : decode cX11_laysDown 119 = .ok (.iastore, 1) := by decide +kernel
theorem dX11_laysDown_120 : decode cX11_laysDown 120 = .ok (.aload_n 0, 1) := by decide +kernel
theorem dX11_laysDown_121 : decode cX11_laysDown 121 = .ok (.getfield 57, 3) := by decide +kernel
theorem dX11_laysDown_124 : decode cX11_laysDown 124 = .ok (.bipush 63, 2) := by decide +kernel
theorem dX11_laysDown_126 : decode cX11_laysDown 126 = .ok (.iload_n 1, 1) := by decide +kernel
theorem dX11_laysDown_127 : decode cX11_laysDown 127 = .ok (.iadd, 1) := by decide +kernel
theorem dX11_laysDown_128 : decode cX11_laysDown 128 = .ok (.aload_n 0, 1) := by decide +kernel
theorem dX11_laysDown_129 : decode cX11_laysDown 129 = .ok (.getfield 44, 3) := by decide +kernel
theorem dX11_laysDown_132 : decode cX11_laysDown 132 = .ok (.iload_n 1, 1) := by decide +kernel
theorem dX11_laysDown_133 : decode cX11_laysDown 133 = .ok (.iaload, 1) := by decide +kernel
theorem dX11_laysDown_134 : decode cX11_laysDown 134 = .ok (.iastore, 1) := by decide +kernel
theorem dX11_laysDown_135 : decode cX11_laysDown 135 = .ok (.iinc 1 1, 3) := by decide +kernel
theorem dX11_laysDown_138 : decode cX11_laysDown 138 = .ok (.goto (-136), 3) := by decide +kernel
theorem dX11_laysDown_141 : decode cX11_laysDown 141 = .ok (.aload_n 0, 1) := by decide +kernel
theorem dX11_laysDown_142 : decode cX11_laysDown 142 = .ok (.getfield 57, 3) := by decide +kernel
theorem dX11_laysDown_145 : decode cX11_laysDown 145 = .ok (.bipush 72, 2) := by decide +kernel
theorem dX11_laysDown_147 : decode cX11_laysDown 147 = .ok (.aload_n 0, 1) := by decide +kernel
theorem dX11_laysDown_148 : decode cX11_laysDown 148 = .ok (.getfield 251, 3) := by decide +kernel
theorem dX11_laysDown_151 : decode cX11_laysDown 151 = .ok (.iastore, 1) := by decide +kernel
theorem dX11_laysDown_152 : decode cX11_laysDown 152 = .ok (.aload_n 0, 1) := by decide +kernel
theorem dX11_laysDown_153 : decode cX11_laysDown 153 = .ok (.getfield 57, 3) := by decide +kernel
theorem dX11_laysDown_156 : decode cX11_laysDown 156 = .ok (.bipush 73, 2) := by decide +kernel
theorem dX11_laysDown_158 : decode cX11_laysDown 158 = .ok (.aload_n 0, 1) := by decide +kernel
theorem dX11_laysDown_159 : decode cX11_laysDown 159 = .ok (.getfield 254, 3) := by decide +kernel
theorem dX11_laysDown_162 : decode cX11_laysDown 162 = .ok (.iastore, 1) := by decide +kernel
theorem dX11_laysDown_163 : decode cX11_laysDown 163 = .ok (.aload_n 0, 1) := by decide +kernel
theorem dX11_laysDown_164 : decode cX11_laysDown 164 = .ok (.getfield 57, 3) := by decide +kernel
theorem dX11_laysDown_167 : decode cX11_laysDown 167 = .ok (.bipush 74, 2) := by decide +kernel
theorem dX11_laysDown_169 : decode cX11_laysDown 169 = .ok (.aload_n 0, 1) := by decide +kernel
theorem dX11_laysDown_170 : decode cX11_laysDown 170 = .ok (.getfield 257, 3) := by decide +kernel
theorem dX11_laysDown_173 : decode cX11_laysDown 173 = .ok (.iastore, 1) := by decide +kernel
theorem dX11_laysDown_174 : decode cX11_laysDown 174 = .ok (.aload_n 0, 1) := by decide +kernel
theorem dX11_laysDown_175 : decode cX11_laysDown 175 = .ok (.getfield 57, 3) := by decide +kernel
theorem dX11_laysDown_178 : decode cX11_laysDown 178 = .ok (.bipush 75, 2) := by decide +kernel
theorem dX11_laysDown_180 : decode cX11_laysDown 180 = .ok (.aload_n 0, 1) := by decide +kernel
theorem dX11_laysDown_181 : decode cX11_laysDown 181 = .ok (.getfield 224, 3) := by decide +kernel
theorem dX11_laysDown_184 : decode cX11_laysDown 184 = .ok (.iastore, 1) := by decide +kernel
theorem dX11_laysDown_185 : decode cX11_laysDown 185 = .ok (.aload_n 0, 1) := by decide +kernel
theorem dX11_laysDown_186 : decode cX11_laysDown 186 = .ok (.getfield 57, 3) := by decide +kernel
theorem dX11_laysDown_189 : decode cX11_laysDown 189 = .ok (.bipush 76, 2) := by decide +kernel
theorem dX11_laysDown_191 : decode cX11_laysDown 191 = .ok (.aload_n 0, 1) := by decide +kernel
theorem dX11_laysDown_192 : decode cX11_laysDown 192 = .ok (.getfield 226, 3) := by decide +kernel
theorem dX11_laysDown_195 : decode cX11_laysDown 195 = .ok (.iastore, 1) := by decide +kernel
theorem dX11_laysDown_196 : decode cX11_laysDown 196 = .ok (.aload_n 0, 1) := by decide +kernel
theorem dX11_laysDown_197 : decode cX11_laysDown 197 = .ok (.getfield 57, 3) := by decide +kernel
theorem dX11_laysDown_200 : decode cX11_laysDown 200 = .ok (.bipush 77, 2) := by decide +kernel
theorem dX11_laysDown_202 : decode cX11_laysDown 202 = .ok (.aload_n 0, 1) := by decide +kernel
theorem dX11_laysDown_203 : decode cX11_laysDown 203 = .ok (.getfield 236, 3) := by decide +kernel
theorem dX11_laysDown_206 : decode cX11_laysDown 206 = .ok (.iastore, 1) := by decide +kernel
theorem dX11_laysDown_207 : decode cX11_laysDown 207 = .ok (.iconst 0, 1) := by decide +kernel
theorem dX11_laysDown_208 : decode cX11_laysDown 208 = .ok (.istore_n 1, 1) := by decide +kernel
theorem dX11_laysDown_209 : decode cX11_laysDown 209 = .ok (.iload_n 1, 1) := by decide +kernel
theorem dX11_laysDown_210 : decode cX11_laysDown 210 = .ok (.sipush 150, 3) := by decide +kernel
theorem dX11_laysDown_213 : decode cX11_laysDown 213 = .ok (.if_icmp .ge 25, 3) := by decide +kernel
theorem dX11_laysDown_216 : decode cX11_laysDown 216 = .ok (.aload_n 0, 1) := by decide +kernel
theorem dX11_laysDown_217 : decode cX11_laysDown 217 = .ok (.getfield 57, 3) := by decide +kernel
theorem dX11_laysDown_220 : decode cX11_laysDown 220 = .ok (.sipush 1976, 3) := by decide +kernel
theorem dX11_laysDown_223 : decode cX11_laysDown 223 = .ok (.iload_n 1, 1) := by decide +kernel
theorem dX11_laysDown_224 : decode cX11_laysDown 224 = .ok (.iadd, 1) := by decide +kernel
theorem dX11_laysDown_225 : decode cX11_laysDown 225 = .ok (.aload_n 0, 1) := by decide +kernel
theorem dX11_laysDown_226 : decode cX11_laysDown 226 = .ok (.getfield 23, 3) := by decide +kernel
theorem dX11_laysDown_229 : decode cX11_laysDown 229 = .ok (.iload_n 1, 1) := by decide +kernel
theorem dX11_laysDown_230 : decode cX11_laysDown 230 = .ok (.iaload, 1) := by decide +kernel
theorem dX11_laysDown_231 : decode cX11_laysDown 231 = .ok (.iastore, 1) := by decide +kernel
theorem dX11_laysDown_232 : decode cX11_laysDown 232 = .ok (.iinc 1 1, 3) := by decide +kernel
theorem dX11_laysDown_235 : decode cX11_laysDown 235 = .ok (.goto (-26), 3) := by decide +kernel
theorem dX11_laysDown_238 : decode cX11_laysDown 238 = .ok (.aload_n 0, 1) := by decide +kernel
theorem dX11_laysDown_239 : decode cX11_laysDown 239 = .ok (.aload_n 0, 1) := by decide +kernel
theorem dX11_laysDown_240 : decode cX11_laysDown 240 = .ok (.getfield 260, 3) := by decide +kernel
theorem dX11_laysDown_243 : decode cX11_laysDown 243 = .ok (.putfield 320, 3) := by decide +kernel
theorem dX11_laysDown_246 : decode cX11_laysDown 246 = .ok (.return_, 1) := by decide +kernel
theorem dX11_leastBroken_0 : decode cX11_leastBroken 0 = .ok (.iconst 1, 1) := by decide +kernel
theorem dX11_leastBroken_1 : decode cX11_leastBroken 1 = .ok (.aload_n 0, 1) := by decide +kernel
theorem dX11_leastBroken_2 : decode cX11_leastBroken 2 = .ok (.aload_n 0, 1) := by decide +kernel
theorem dX11_leastBroken_3 : decode cX11_leastBroken 3 = .ok (.getfield 220, 3) := by decide +kernel
theorem dX11_leastBroken_6 : decode cX11_leastBroken 6 = .ok (.invokevirtual 386, 3) := by decide +kernel
theorem dX11_leastBroken_9 : decode cX11_leastBroken 9 = .ok (.ishl, 1) := by decide +kernel
theorem dX11_leastBroken_10 : decode cX11_leastBroken 10 = .ok (.istore_n 1, 1) := by decide +kernel
theorem dX11_leastBroken_11 : decode cX11_leastBroken 11 = .ok (.iconst 0, 1) := by decide +kernel
theorem dX11_leastBroken_12 : decode cX11_leastBroken 12 = .ok (.istore_n 2, 1) := by decide +kernel
theorem dX11_leastBroken_13 : decode cX11_leastBroken 13 = .ok (.iload_n 2, 1) := by decide +kernel
theorem dX11_leastBroken_14 : decode cX11_leastBroken 14 = .ok (.iload_n 1, 1) := by decide +kernel
theorem dX11_leastBroken_15 : decode cX11_leastBroken 15 = .ok (.if_icmp .ge 24, 3) := by decide +kernel
theorem dX11_leastBroken_18 : decode cX11_leastBroken 18 = .ok (.aload_n 0, 1) := by decide +kernel
theorem dX11_leastBroken_19 : decode cX11_leastBroken 19 = .ok (.iconst 1, 1) := by decide +kernel
theorem dX11_leastBroken_20 : decode cX11_leastBroken 20 = .ok (.iload_n 2, 1) := by decide +kernel
theorem dX11_leastBroken_21 : decode cX11_leastBroken 21 = .ok (.invokevirtual 389, 3) := by decide +kernel
theorem dX11_leastBroken_24 : decode cX11_leastBroken 24 = .ok (.aload_n 0, 1) := by decide +kernel
theorem dX11_leastBroken_25 : decode cX11_leastBroken 25 = .ok (.invokevirtual 392, 3) := by decide +kernel
theorem dX11_leastBroken_28 : decode cX11_leastBroken 28 = .ok (.ifCond .ne 5, 3) := by decide +kernel
theorem dX11_leastBroken_31 : decode cX11_leastBroken 31 = .ok (.iload_n 2, 1) := by decide +kernel
theorem dX11_leastBroken_32 : decode cX11_leastBroken 32 = .ok (.ireturn, 1) := by decide +kernel
theorem dX11_leastBroken_33 : decode cX11_leastBroken 33 = .ok (.iinc 2 1, 3) := by decide +kernel
theorem dX11_leastBroken_36 : decode cX11_leastBroken 36 = .ok (.goto (-23), 3) := by decide +kernel
theorem dX11_leastBroken_39 : decode cX11_leastBroken 39 = .ok (.iconst (-1), 1) := by decide +kernel
theorem dX11_leastBroken_40 : decode cX11_leastBroken 40 = .ok (.ireturn, 1) := by decide +kernel
theorem dX11_letterOf_0 : decode cX11_letterOf 0 = .ok (.aload_n 0, 1) := by decide +kernel
theorem dX11_letterOf_1 : decode cX11_letterOf 1 = .ok (.iload_n 3, 1) := by decide +kernel
theorem dX11_letterOf_2 : decode cX11_letterOf 2 = .ok (.invokevirtual 274, 3) := by decide +kernel
theorem dX11_letterOf_5 : decode cX11_letterOf 5 = .ok (.ifCond .ne 6, 3) := by decide +kernel
theorem dX11_letterOf_8 : decode cX11_letterOf 8 = .ok (.iload 5, 2) := by decide +kernel
theorem dX11_letterOf_10 : decode cX11_letterOf 10 = .ok (.ireturn, 1) := by decide +kernel
theorem dX11_letterOf_11 : decode cX11_letterOf 11 = .ok (.aload_n 0, 1) := by decide +kernel
theorem dX11_letterOf_12 : decode cX11_letterOf 12 = .ok (.getfield 277, 3) := by decide +kernel
theorem dX11_letterOf_15 : decode cX11_letterOf 15 = .ok (.ifCond .ne 15, 3) := by decide +kernel
theorem dX11_letterOf_18 : decode cX11_letterOf 18 = .ok (.aload_n 0, 1) := by decide +kernel
theorem dX11_letterOf_19 : decode cX11_letterOf 19 = .ok (.iload_n 1, 1) := by decide +kernel
theorem dX11_letterOf_20 : decode cX11_letterOf 20 = .ok (.iload_n 2, 1) := by decide +kernel
theorem dX11_letterOf_21 : decode cX11_letterOf 21 = .ok (.iload_n 3, 1) := by decide +kernel
theorem dX11_letterOf_22 : decode cX11_letterOf 22 = .ok (.iload 4, 2) := by decide +kernel
theorem dX11_letterOf_24 : decode cX11_letterOf 24 = .ok (.iload 5, 2) := by decide +kernel
theorem dX11_letterOf_26 : decode cX11_letterOf 26 = .ok (.invokevirtual 280, 3) := by decide +kernel
theorem dX11_letterOf_29 : decode cX11_letterOf 29 = .ok (.ireturn, 1) := by decide +kernel
theorem dX11_letterOf_30 : decode cX11_letterOf 30 = .ok (.aload_n 0, 1) := by decide +kernel
theorem dX11_letterOf_31 : decode cX11_letterOf 31 = .ok (.getfield 277, 3) := by decide +kernel
theorem dX11_letterOf_34 : decode cX11_letterOf 34 = .ok (.iconst 2, 1) := by decide +kernel
theorem dX11_letterOf_35 : decode cX11_letterOf 35 = .ok (.if_icmp .ne 8, 3) := by decide +kernel
theorem dX11_letterOf_38 : decode cX11_letterOf 38 = .ok (.aload_n 0, 1) := by decide +kernel
theorem dX11_letterOf_39 : decode cX11_letterOf 39 = .ok (.invokevirtual 272, 3) := by decide +kernel
theorem dX11_letterOf_42 : decode cX11_letterOf 42 = .ok (.ireturn, 1) := by decide +kernel
theorem dX11_letterOf_43 : decode cX11_letterOf 43 = .ok (.aload_n 0, 1) := by decide +kernel
theorem dX11_letterOf_44 : decode cX11_letterOf 44 = .ok (.iload 4, 2) := by decide +kernel
theorem dX11_letterOf_46 : decode cX11_letterOf 46 = .ok (.invokevirtual 274, 3) := by decide +kernel
theorem dX11_letterOf_49 : decode cX11_letterOf 49 = .ok (.ifCond .eq 6, 3) := by decide +kernel
theorem dX11_letterOf_52 : decode cX11_letterOf 52 = .ok (.iload 5, 2) := by decide +kernel
theorem dX11_letterOf_54 : decode cX11_letterOf 54 = .ok (.ireturn, 1) := by decide +kernel
theorem dX11_letterOf_55 : decode cX11_letterOf 55 = .ok (.aload_n 0, 1) := by decide +kernel
theorem dX11_letterOf_56 : decode cX11_letterOf 56 = .ok (.getfield 284, 3) := by decide +kernel
theorem dX11_letterOf_59 : decode cX11_letterOf 59 = .ok (.iconst 1, 1) := by decide +kernel
theorem dX11_letterOf_60 : decode cX11_letterOf 60 = .ok (.iand, 1) := by decide +kernel
theorem dX11_letterOf_61 : decode cX11_letterOf 61 = .ok (.istore 6, 2) := by decide +kernel
theorem dX11_letterOf_63 : decode cX11_letterOf 63 = .ok (.aload_n 0, 1) := by decide +kernel
theorem dX11_letterOf_64 : decode cX11_letterOf 64 = .ok (.dup, 1) := by decide +kernel
theorem dX11_letterOf_65 : decode cX11_letterOf 65 = .ok (.getfield 284, 3) := by decide +kernel
theorem dX11_letterOf_68 : decode cX11_letterOf 68 = .ok (.iconst 1, 1) := by decide +kernel
theorem dX11_letterOf_69 : decode cX11_letterOf 69 = .ok (.ishr, 1) := by decide +kernel
theorem dX11_letterOf_70 : decode cX11_letterOf 70 = .ok (.putfield 284, 3) := by decide +kernel
theorem dX11_letterOf_73 : decode cX11_letterOf 73 = .ok (.iload 6, 2) := by decide +kernel
theorem dX11_letterOf_75 : decode cX11_letterOf 75 = .ok (.ireturn, 1) := by decide +kernel
theorem dX11_letters_0 : decode cX11_letters 0 = .ok (.aload_n 0, 1) := by decide +kernel
theorem dX11_letters_1 : decode cX11_letters 1 = .ok (.iconst 0, 1) := by decide +kernel
theorem dX11_letters_2 : decode cX11_letters 2 = .ok (.putfield 80, 3) := by decide +kernel
theorem dX11_letters_5 : decode cX11_letters 5 = .ok (.aload_n 0, 1) := by decide +kernel
theorem dX11_letters_6 : decode cX11_letters 6 = .ok (.getfield 232, 3) := by decide +kernel
theorem dX11_letters_9 : decode cX11_letters 9 = .ok (.ifCond .ne 5, 3) := by decide +kernel
theorem dX11_letters_12 : decode cX11_letters 12 = .ok (.iconst (-1), 1) := by decide +kernel
theorem dX11_letters_13 : decode cX11_letters 13 = .ok (.ireturn, 1) := by decide +kernel
theorem dX11_letters_14 : decode cX11_letters 14 = .ok (.iload_n 1, 1) := by decide +kernel
theorem dX11_letters_15 : decode cX11_letters 15 = .ok (.tableswitch 81 0 3 #[29, 37, 45, 54], 29) := by decide +kernel
theorem dX11_letters_44 : decode cX11_letters 44 = .ok (.aload_n 0, 1) := by decide +kernel
theorem dX11_letters_45 : decode cX11_letters 45 = .ok (.getfield 57, 3) := by decide +kernel
theorem dX11_letters_48 : decode cX11_letters 48 = .ok (.bipush 73, 2) := by decide +kernel
theorem dX11_letters_50 : decode cX11_letters 50 = .ok (.iaload, 1) := by decide +kernel
theorem dX11_letters_51 : decode cX11_letters 51 = .ok (.ireturn, 1) := by decide +kernel
theorem dX11_letters_52 : decode cX11_letters 52 = .ok (.aload_n 0, 1) := by decide +kernel
theorem dX11_letters_53 : decode cX11_letters 53 = .ok (.getfield 57, 3) := by decide +kernel
theorem dX11_letters_56 : decode cX11_letters 56 = .ok (.bipush 74, 2) := by decide +kernel
theorem dX11_letters_58 : decode cX11_letters 58 = .ok (.iaload, 1) := by decide +kernel
theorem dX11_letters_59 : decode cX11_letters 59 = .ok (.ireturn, 1) := by decide +kernel
theorem dX11_letters_60 : decode cX11_letters 60 = .ok (.aload_n 0, 1) := by decide +kernel
theorem dX11_letters_61 : decode cX11_letters 61 = .ok (.aload_n 0, 1) := by decide +kernel
theorem dX11_letters_62 : decode cX11_letters 62 = .ok (.getfield 212, 3) := by decide +kernel
theorem dX11_letters_65 : decode cX11_letters 65 = .ok (.invokevirtual 378, 3) := by decide +kernel
theorem dX11_letters_68 : decode cX11_letters 68 = .ok (.ireturn, 1) := by decide +kernel
theorem dX11_letters_69 : decode cX11_letters 69 = .ok (.aload_n 0, 1) := by decide +kernel
theorem dX11_letters_70 : decode cX11_letters 70 = .ok (.invokevirtual 358, 3) := by decide +kernel
theorem dX11_letters_73 : decode cX11_letters 73 = .ok (.ifCond .ne 7, 3) := by decide +kernel
theorem dX11_letters_76 : decode cX11_letters 76 = .ok (.iconst 0, 1) := by decide +kernel
theorem dX11_letters_77 : decode cX11_letters 77 = .ok (.goto 18, 3) := by decide +kernel
theorem dX11_letters_80 : decode cX11_letters 80 = .ok (.aload_n 0, 1) := by decide +kernel
theorem dX11_letters_81 : decode cX11_letters 81 = .ok (.getfield 57, 3) := by decide +kernel
theorem dX11_letters_84 : decode cX11_letters 84 = .ok (.sipush 1970, 3) := by decide +kernel
theorem dX11_letters_87 : decode cX11_letters 87 = .ok (.aload_n 0, 1) := by decide +kernel
theorem dX11_letters_88 : decode cX11_letters 88 = .ok (.invokevirtual 358, 3) := by decide +kernel
theorem dX11_letters_91 : decode cX11_letters 91 = .ok (.iadd, 1) := by decide +kernel
theorem dX11_letters_92 : decode cX11_letters 92 = .ok (.iconst 1, 1) := by decide +kernel
theorem dX11_letters_93 : decode cX11_letters 93 = .ok (.isub, 1) := by decide +kernel
theorem dX11_letters_94 : decode cX11_letters 94 = .ok (.iaload, 1) := by decide +kernel
theorem dX11_letters_95 : decode cX11_letters 95 = .ok (.ireturn, 1) := by decide +kernel
theorem dX11_letters_96 : decode cX11_letters 96 = .ok (.iconst (-1), 1) := by decide +kernel
theorem dX11_letters_97 : decode cX11_letters 97 = .ok (.ireturn, 1) := by decide +kernel
theorem dX11_liars_0 : decode cX11_liars 0 = .ok (.aload_n 0, 1) := by decide +kernel
theorem dX11_liars_1 : decode cX11_liars 1 = .ok (.invokevirtual 126, 3) := by decide +kernel
theorem dX11_liars_4 : decode cX11_liars 4 = .ok (.aload_n 0, 1) := by decide +kernel
theorem dX11_liars_5 : decode cX11_liars 5 = .ok (.getfield 123, 3) := by decide +kernel
theorem dX11_liars_8 : decode cX11_liars 8 = .ok (.ifCond .le 20, 3) := by decide +kernel
theorem dX11_liars_11 : decode cX11_liars 11 = .ok (.aload_n 0, 1) := by decide +kernel
theorem dX11_liars_12 : decode cX11_liars 12 = .ok (.getfield 123, 3) := by decide +kernel
theorem dX11_liars_15 : decode cX11_liars 15 = .ok (.aload_n 0, 1) := by decide +kernel
theorem dX11_liars_16 : decode cX11_liars 16 = .ok (.getfield 13, 3) := by decide +kernel
theorem dX11_liars_19 : decode cX11_liars 19 = .ok (.iconst 0, 1) := by decide +kernel
theorem dX11_liars_20 : decode cX11_liars 20 = .ok (.iaload, 1) := by decide +kernel
theorem dX11_liars_21 : decode cX11_liars 21 = .ok (.if_icmp .ge 7, 3) := by decide +kernel
theorem dX11_liars_24 : decode cX11_liars 24 = .ok (.iconst 1, 1) := by decide +kernel
theorem dX11_liars_25 : decode cX11_liars 25 = .ok (.goto 4, 3) := by decide +kernel
theorem dX11_liars_28 : decode cX11_liars 28 = .ok (.iconst 0, 1) := by decide +kernel
theorem dX11_liars_29 : decode cX11_liars 29 = .ok (.istore_n 1, 1) := by decide +kernel
theorem dX11_liars_30 : decode cX11_liars 30 = .ok (.iconst 0, 1) := by decide +kernel
theorem dX11_liars_31 : decode cX11_liars 31 = .ok (.istore_n 2, 1) := by decide +kernel
theorem dX11_liars_32 : decode cX11_liars 32 = .ok (.iload_n 2, 1) := by decide +kernel
theorem dX11_liars_33 : decode cX11_liars 33 = .ok (.aload_n 0, 1) := by decide +kernel
theorem dX11_liars_34 : decode cX11_liars 34 = .ok (.getfield 123, 3) := by decide +kernel
theorem dX11_liars_37 : decode cX11_liars 37 = .ok (.if_icmp .ge 76, 3) := by decide +kernel
theorem dX11_liars_40 : decode cX11_liars 40 = .ok (.iload_n 1, 1) := by decide +kernel
theorem dX11_liars_41 : decode cX11_liars 41 = .ok (.ifCond .eq 72, 3) := by decide +kernel
theorem dX11_liars_44 : decode cX11_liars 44 = .ok (.aload_n 0, 1) := by decide +kernel
theorem dX11_liars_45 : decode cX11_liars 45 = .ok (.iload_n 2, 1) := by decide +kernel
theorem dX11_liars_46 : decode cX11_liars 46 = .ok (.invokevirtual 129, 3) := by decide +kernel
theorem dX11_liars_49 : decode cX11_liars 49 = .ok (.aload_n 0, 1) := by decide +kernel
theorem dX11_liars_50 : decode cX11_liars 50 = .ok (.getfield 13, 3) := by decide +kernel
theorem dX11_liars_53 : decode cX11_liars 53 = .ok (.iconst 0, 1) := by decide +kernel
theorem dX11_liars_54 : decode cX11_liars 54 = .ok (.iaload, 1) := by decide +kernel
theorem dX11_liars_55 : decode cX11_liars 55 = .ok (.if_icmp .ge 26, 3) := by decide +kernel
theorem dX11_liars_58 : decode cX11_liars 58 = .ok (.iload_n 2, 1) := by decide +kernel
theorem dX11_liars_59 : decode cX11_liars 59 = .ok (.ifCond .eq 18, 3) := by decide +kernel
theorem dX11_liars_62 : decode cX11_liars 62 = .ok (.aload_n 0, 1) := by decide +kernel
theorem dX11_liars_63 : decode cX11_liars 63 = .ok (.iload_n 2, 1) := by decide +kernel
theorem dX11_liars_64 : decode cX11_liars 64 = .ok (.invokevirtual 129, 3) := by decide +kernel
theorem dX11_liars_67 : decode cX11_liars 67 = .ok (.aload_n 0, 1) := by decide +kernel
theorem dX11_liars_68 : decode cX11_liars 68 = .ok (.iload_n 2, 1) := by decide +kernel
theorem dX11_liars_69 : decode cX11_liars 69 = .ok (.iconst 1, 1) := by decide +kernel
theorem dX11_liars_70 : decode cX11_liars 70 = .ok (.isub, 1) := by decide +kernel
theorem dX11_liars_71 : decode cX11_liars 71 = .ok (.invokevirtual 129, 3) := by decide +kernel
theorem dX11_liars_74 : decode cX11_liars 74 = .ok (.if_icmp .le 7, 3) := by decide +kernel
theorem dX11_liars_77 : decode cX11_liars 77 = .ok (.iconst 1, 1) := by decide +kernel
theorem dX11_liars_78 : decode cX11_liars 78 = .ok (.goto 4, 3) := by decide +kernel
theorem dX11_liars_81 : decode cX11_liars 81 = .ok (.iconst 0, 1) := by decide +kernel
theorem dX11_liars_82 : decode cX11_liars 82 = .ok (.istore_n 1, 1) := by decide +kernel
theorem dX11_liars_83 : decode cX11_liars 83 = .ok (.aload_n 0, 1) := by decide +kernel
theorem dX11_liars_84 : decode cX11_liars 84 = .ok (.getfield 13, 3) := by decide +kernel
theorem dX11_liars_87 : decode cX11_liars 87 = .ok (.iconst 4, 1) := by decide +kernel
theorem dX11_liars_88 : decode cX11_liars 88 = .ok (.dup2, 1) := by decide +kernel
theorem dX11_liars_89 : decode cX11_liars 89 = .ok (.iaload, 1) := by decide +kernel
theorem dX11_liars_90 : decode cX11_liars 90 = .ok (.iload_n 1, 1) := by decide +kernel
theorem dX11_liars_91 : decode cX11_liars 91 = .ok (.ifCond .eq 13, 3) := by decide +kernel
theorem dX11_liars_94 : decode cX11_liars 94 = .ok (.iconst 1, 1) := by decide +kernel
theorem dX11_liars_95 : decode cX11_liars 95 = .ok (.aload_n 0, 1) := by decide +kernel
theorem dX11_liars_96 : decode cX11_liars 96 = .ok (.iload_n 2, 1) := by decide +kernel
theorem dX11_liars_97 : decode cX11_liars 97 = .ok (.invokevirtual 129, 3) := by decide +kernel
theorem dX11_liars_100 : decode cX11_liars 100 = .ok (.ishl, 1) := by decide +kernel
theorem dX11_liars_101 : decode cX11_liars 101 = .ok (.goto 4, 3) := by decide +kernel
theorem dX11_liars_104 : decode cX11_liars 104 = .ok (.iconst 0, 1) := by decide +kernel
theorem dX11_liars_105 : decode cX11_liars 105 = .ok (.ior, 1) := by decide +kernel
theorem dX11_liars_106 : decode cX11_liars 106 = .ok (.iastore, 1) := by decide +kernel
theorem dX11_liars_107 : decode cX11_liars 107 = .ok (.iinc 2 1, 3) := by decide +kernel
theorem dX11_liars_110 : decode cX11_liars 110 = .ok (.goto (-78), 3) := by decide +kernel
theorem dX11_liars_113 : decode cX11_liars 113 = .ok (.iload_n 1, 1) := by decide +kernel
theorem dX11_liars_114 : decode cX11_liars 114 = .ok (.ifCond .ne 11, 3) := by decide +kernel
theorem dX11_liars_117 : decode cX11_liars 117 = .ok (.aload_n 0, 1) := by decide +kernel
theorem dX11_liars_118 : decode cX11_liars 118 = .ok (.aload_n 0, 1) := by decide +kernel
theorem dX11_liars_119 : decode cX11_liars 119 = .ok (.getfield 116, 3) := by decide +kernel
theorem dX11_liars_122 : decode cX11_liars 122 = .ok (.invokevirtual 136, 3) := by decide +kernel
theorem dX11_liars_125 : decode cX11_liars 125 = .ok (.return_, 1) := by decide +kernel
theorem dX11_line_0 : decode cX11_line 0 = .ok (.aload_n 0, 1) := by decide +kernel
theorem dX11_line_1 : decode cX11_line 1 = .ok (.iload_n 1, 1) := by decide +kernel
theorem dX11_line_2 : decode cX11_line 2 = .ok (.i2l, 1) := by decide +kernel
theorem dX11_line_3 : decode cX11_line 3 = .ok (.lconst 0, 1) := by decide +kernel
theorem dX11_line_4 : decode cX11_line 4 = .ok (.aload_n 0, 1) := by decide +kernel
theorem dX11_line_5 : decode cX11_line 5 = .ok (.getfield 248, 3) := by decide +kernel
theorem dX11_line_8 : decode cX11_line 8 = .ok (.iconst 1, 1) := by decide +kernel
theorem dX11_line_9 : decode cX11_line 9 = .ok (.isub, 1) := by decide +kernel
theorem dX11_line_10 : decode cX11_line 10 = .ok (.i2l, 1) := by decide +kernel
theorem dX11_line_11 : decode cX11_line 11 = .ok (.invokestatic 132, 3) := by decide +kernel
theorem dX11_line_14 : decode cX11_line 14 = .ok (.ifCond .eq 19, 3) := by decide +kernel
theorem dX11_line_17 : decode cX11_line 17 = .ok (.iload_n 2, 1) := by decide +kernel
theorem dX11_line_18 : decode cX11_line 18 = .ok (.i2l, 1) := by decide +kernel
theorem dX11_line_19 : decode cX11_line 19 = .ok (.lconst 0, 1) := by decide +kernel
theorem dX11_line_20 : decode cX11_line 20 = .ok (.ldc2_w 355, 3) := by decide +kernel
theorem dX11_line_23 : decode cX11_line 23 = .ok (.invokestatic 132, 3) := by decide +kernel
theorem dX11_line_26 : decode cX11_line 26 = .ok (.ifCond .eq 7, 3) := by decide +kernel
theorem dX11_line_29 : decode cX11_line 29 = .ok (.iconst 0, 1) := by decide +kernel
theorem dX11_line_30 : decode cX11_line 30 = .ok (.goto 4, 3) := by decide +kernel
theorem dX11_line_33 : decode cX11_line 33 = .ok (.iconst 1, 1) := by decide +kernel
theorem dX11_line_34 : decode cX11_line 34 = .ok (.putfield 80, 3) := by decide +kernel
theorem dX11_line_37 : decode cX11_line 37 = .ok (.aload_n 0, 1) := by decide +kernel
theorem dX11_line_38 : decode cX11_line 38 = .ok (.getfield 80, 3) := by decide +kernel
theorem dX11_line_41 : decode cX11_line 41 = .ok (.ifCond .le 7, 3) := by decide +kernel
theorem dX11_line_44 : decode cX11_line 44 = .ok (.iconst 0, 1) := by decide +kernel
theorem dX11_line_45 : decode cX11_line 45 = .ok (.goto 13, 3) := by decide +kernel
theorem dX11_line_48 : decode cX11_line 48 = .ok (.aload_n 0, 1) := by decide +kernel
theorem dX11_line_49 : decode cX11_line 49 = .ok (.getfield 17, 3) := by decide +kernel
theorem dX11_line_52 : decode cX11_line 52 = .ok (.iconst 5, 1) := by decide +kernel
theorem dX11_line_53 : decode cX11_line 53 = .ok (.iload_n 1, 1) := by decide +kernel
theorem dX11_line_54 : decode cX11_line 54 = .ok (.imul, 1) := by decide +kernel
theorem dX11_line_55 : decode cX11_line 55 = .ok (.iload_n 2, 1) := by decide +kernel
theorem dX11_line_56 : decode cX11_line 56 = .ok (.iadd, 1) := by decide +kernel
theorem dX11_line_57 : decode cX11_line 57 = .ok (.iaload, 1) := by decide +kernel
theorem dX11_line_58 : decode cX11_line 58 = .ok (.ireturn, 1) := by decide +kernel
theorem dX11_look_0 : decode cX11_look 0 = .ok (.aload_n 0, 1) := by decide +kernel
theorem dX11_look_1 : decode cX11_look 1 = .ok (.invokevirtual 98, 3) := by decide +kernel
theorem dX11_look_4 : decode cX11_look 4 = .ok (.bipush 32, 2) := by decide +kernel
theorem dX11_look_6 : decode cX11_look 6 = .ok (.if_icmp .ne 16, 3) := by decide +kernel
theorem dX11_look_9 : decode cX11_look 9 = .ok (.aload_n 0, 1) := by decide +kernel
theorem dX11_look_10 : decode cX11_look 10 = .ok (.dup, 1) := by decide +kernel
theorem dX11_look_11 : decode cX11_look 11 = .ok (.getfield 95, 3) := by decide +kernel
theorem dX11_look_14 : decode cX11_look 14 = .ok (.iconst 1, 1) := by decide +kernel
theorem dX11_look_15 : decode cX11_look 15 = .ok (.iadd, 1) := by decide +kernel
theorem dX11_look_16 : decode cX11_look 16 = .ok (.putfield 95, 3) := by decide +kernel
theorem dX11_look_19 : decode cX11_look 19 = .ok (.goto (-19), 3) := by decide +kernel
theorem dX11_look_22 : decode cX11_look 22 = .ok (.aload_n 0, 1) := by decide +kernel
theorem dX11_look_23 : decode cX11_look 23 = .ok (.invokevirtual 98, 3) := by decide +kernel
theorem dX11_look_26 : decode cX11_look 26 = .ok (.ireturn, 1) := by decide +kernel
theorem dX11_most_0 : decode cX11_most 0 = .ok (.aload_n 0, 1) := by decide +kernel
theorem dX11_most_1 : decode cX11_most 1 = .ok (.iconst 0, 1) := by decide +kernel
theorem dX11_most_2 : decode cX11_most 2 = .ok (.putfield 80, 3) := by decide +kernel
theorem dX11_most_5 : decode cX11_most 5 = .ok (.aload_n 0, 1) := by decide +kernel
theorem dX11_most_6 : decode cX11_most 6 = .ok (.getfield 232, 3) := by decide +kernel
theorem dX11_most_9 : decode cX11_most 9 = .ok (.ifCond .eq 15, 3) := by decide +kernel
theorem dX11_most_12 : decode cX11_most 12 = .ok (.iload_n 1, 1) := by decide +kernel
theorem dX11_most_13 : decode cX11_most 13 = .ok (.i2l, 1) := by decide +kernel
theorem dX11_most_14 : decode cX11_most 14 = .ok (.lconst 0, 1) := by decide +kernel
theorem dX11_most_15 : decode cX11_most 15 = .ok (.ldc2_w 355, 3) := by decide +kernel
theorem dX11_most_18 : decode cX11_most 18 = .ok (.invokestatic 132, 3) := by decide +kernel
theorem dX11_most_21 : decode cX11_most 21 = .ok (.ifCond .ne 5, 3) := by decide +kernel
theorem dX11_most_24 : decode cX11_most 24 = .ok (.iconst (-1), 1) := by decide +kernel
theorem dX11_most_25 : decode cX11_most 25 = .ok (.ireturn, 1) := by decide +kernel
theorem dX11_most_26 : decode cX11_most 26 = .ok (.iload_n 1, 1) := by decide +kernel
theorem dX11_most_27 : decode cX11_most 27 = .ok (.iconst 2, 1) := by decide +kernel
theorem dX11_most_28 : decode cX11_most 28 = .ok (.if_icmp .ge 18, 3) := by decide +kernel
theorem dX11_most_31 : decode cX11_most 31 = .ok (.aload_n 0, 1) := by decide +kernel
theorem dX11_most_32 : decode cX11_most 32 = .ok (.iload_n 1, 1) := by decide +kernel
theorem dX11_most_33 : decode cX11_most 33 = .ok (.iconst 1, 1) := by decide +kernel
theorem dX11_most_34 : decode cX11_most 34 = .ok (.if_icmp .ne 7, 3) := by decide +kernel
theorem dX11_most_37 : decode cX11_most 37 = .ok (.iconst 1, 1) := by decide +kernel
theorem dX11_most_38 : decode cX11_most 38 = .ok (.goto 4, 3) := by decide +kernel
theorem dX11_most_41 : decode cX11_most 41 = .ok (.iconst 0, 1) := by decide +kernel
theorem dX11_most_42 : decode cX11_most 42 = .ok (.invokevirtual 460, 3) := by decide +kernel
theorem dX11_most_45 : decode cX11_most 45 = .ok (.ireturn, 1) := by decide +kernel
theorem dX11_most_46 : decode cX11_most 46 = .ok (.iload_n 1, 1) := by decide +kernel
theorem dX11_most_47 : decode cX11_most 47 = .ok (.iconst 3, 1) := by decide +kernel
theorem dX11_most_48 : decode cX11_most 48 = .ok (.if_icmp .ne 8, 3) := by decide +kernel
theorem dX11_most_51 : decode cX11_most 51 = .ok (.aload_n 0, 1) := by decide +kernel
theorem dX11_most_52 : decode cX11_most 52 = .ok (.invokevirtual 464, 3) := by decide +kernel
theorem dX11_most_55 : decode cX11_most 55 = .ok (.ireturn, 1) := by decide +kernel
theorem dX11_most_56 : decode cX11_most 56 = .ok (.iconst 0, 1) := by decide +kernel
theorem dX11_most_57 : decode cX11_most 57 = .ok (.istore_n 2, 1) := by decide +kernel
theorem dX11_most_58 : decode cX11_most 58 = .ok (.iconst (-1), 1) := by decide +kernel
theorem dX11_most_59 : decode cX11_most 59 = .ok (.istore_n 3, 1) := by decide +kernel
theorem dX11_most_60 : decode cX11_most 60 = .ok (.iconst 0, 1) := by decide +kernel
theorem dX11_most_61 : decode cX11_most 61 = .ok (.istore 4, 2) := by decide +kernel
theorem dX11_most_63 : decode cX11_most 63 = .ok (.iload 4, 2) := by decide +kernel
theorem dX11_most_65 : decode cX11_most 65 = .ok (.aload_n 0, 1) := by decide +kernel
theorem dX11_most_66 : decode cX11_most 66 = .ok (.invokevirtual 358, 3) := by decide +kernel
theorem dX11_most_69 : decode cX11_most 69 = .ok (.if_icmp .ge 60, 3) := by decide +kernel
theorem dX11_most_72 : decode cX11_most 72 = .ok (.iload_n 2, 1) := by decide +kernel
theorem dX11_most_73 : decode cX11_most 73 = .ok (.aload_n 0, 1) := by decide +kernel
theorem dX11_most_74 : decode cX11_most 74 = .ok (.iload 4, 2) := by decide +kernel
theorem dX11_most_76 : decode cX11_most 76 = .ok (.iconst 1, 1) := by decide +kernel
theorem dX11_most_77 : decode cX11_most 77 = .ok (.iconst 0, 1) := by decide +kernel
theorem dX11_most_78 : decode cX11_most 78 = .ok (.invokevirtual 439, 3) := by decide +kernel
theorem dX11_most_81 : decode cX11_most 81 = .ok (.ifCond .le 7, 3) := by decide +kernel
theorem dX11_most_84 : decode cX11_most 84 = .ok (.iconst 1, 1) := by decide +kernel
theorem dX11_most_85 : decode cX11_most 85 = .ok (.goto 4, 3) := by decide +kernel
theorem dX11_most_88 : decode cX11_most 88 = .ok (.iconst 0, 1) := by decide +kernel
theorem dX11_most_89 : decode cX11_most 89 = .ok (.iadd, 1) := by decide +kernel
theorem dX11_most_90 : decode cX11_most 90 = .ok (.istore_n 2, 1) := by decide +kernel
theorem dX11_most_91 : decode cX11_most 91 = .ok (.iload_n 3, 1) := by decide +kernel
theorem dX11_most_92 : decode cX11_most 92 = .ok (.iconst (-1), 1) := by decide +kernel
theorem dX11_most_93 : decode cX11_most 93 = .ok (.if_icmp .eq 23, 3) := by decide +kernel
theorem dX11_most_96 : decode cX11_most 96 = .ok (.aload_n 0, 1) := by decide +kernel
theorem dX11_most_97 : decode cX11_most 97 = .ok (.iload 4, 2) := by decide +kernel
theorem dX11_most_99 : decode cX11_most 99 = .ok (.bipush 7, 2) := by decide +kernel
theorem dX11_most_101 : decode cX11_most 101 = .ok (.iconst 1, 1) := by decide +kernel
theorem dX11_most_102 : decode cX11_most 102 = .ok (.invokevirtual 439, 3) := by decide +kernel
theorem dX11_most_105 : decode cX11_most 105 = .ok (.aload_n 0, 1) := by decide +kernel
theorem dX11_most_106 : decode cX11_most 106 = .ok (.iload_n 3, 1) := by decide +kernel
theorem dX11_most_107 : decode cX11_most 107 = .ok (.bipush 7, 2) := by decide +kernel
theorem dX11_most_109 : decode cX11_most 109 = .ok (.iconst 1, 1) := by decide +kernel
theorem dX11_most_110 : decode cX11_most 110 = .ok (.invokevirtual 439, 3) := by decide +kernel
theorem dX11_most_113 : decode cX11_most 113 = .ok (.if_icmp .le 8, 3) := by decide +kernel
theorem dX11_most_116 : decode cX11_most 116 = .ok (.iload 4, 2) := by decide +kernel
theorem dX11_most_118 : decode cX11_most 118 = .ok (.goto 4, 3) := by decide +kernel
theorem dX11_most_121 : decode cX11_most 121 = .ok (.iload_n 3, 1) := by decide +kernel
theorem dX11_most_122 : decode cX11_most 122 = .ok (.istore_n 3, 1) := by decide +kernel
theorem dX11_most_123 : decode cX11_most 123 = .ok (.iinc 4 1, 3) := by decide +kernel
theorem dX11_most_126 : decode cX11_most 126 = .ok (.goto (-63), 3) := by decide +kernel
theorem dX11_most_129 : decode cX11_most 129 = .ok (.iload_n 1, 1) := by decide +kernel
theorem dX11_most_130 : decode cX11_most 130 = .ok (.iconst 2, 1) := by decide +kernel
theorem dX11_most_131 : decode cX11_most 131 = .ok (.if_icmp .ne 7, 3) := by decide +kernel
theorem dX11_most_134 : decode cX11_most 134 = .ok (.iload_n 2, 1) := by decide +kernel
theorem dX11_most_135 : decode cX11_most 135 = .ok (.goto 4, 3) := by decide +kernel
theorem dX11_most_138 : decode cX11_most 138 = .ok (.iload_n 3, 1) := by decide +kernel
theorem dX11_most_139 : decode cX11_most 139 = .ok (.ireturn, 1) := by decide +kernel
theorem dX11_mostSuspecting_0 : decode cX11_mostSuspecting 0 = .ok (.iconst (-1), 1) := by decide +kernel
theorem dX11_mostSuspecting_1 : decode cX11_mostSuspecting 1 = .ok (.istore_n 2, 1) := by decide +kernel
theorem dX11_mostSuspecting_2 : decode cX11_mostSuspecting 2 = .ok (.iconst 0, 1) := by decide +kernel
theorem dX11_mostSuspecting_3 : decode cX11_mostSuspecting 3 = .ok (.istore_n 3, 1) := by decide +kernel
theorem dX11_mostSuspecting_4 : decode cX11_mostSuspecting 4 = .ok (.iconst 0, 1) := by decide +kernel
theorem dX11_mostSuspecting_5 : decode cX11_mostSuspecting 5 = .ok (.istore 4, 2) := by decide +kernel
theorem dX11_mostSuspecting_7 : decode cX11_mostSuspecting 7 = .ok (.iload 4, 2) := by decide +kernel
theorem dX11_mostSuspecting_9 : decode cX11_mostSuspecting 9 = .ok (.aload_n 0, 1) := by decide +kernel
theorem dX11_mostSuspecting_10 : decode cX11_mostSuspecting 10 = .ok (.getfield 215, 3) := by decide +kernel
theorem dX11_mostSuspecting_13 : decode cX11_mostSuspecting 13 = .ok (.if_icmp .ge 91, 3) := by decide +kernel
theorem dX11_mostSuspecting_16 : decode cX11_mostSuspecting 16 = .ok (.iconst 0, 1) := by decide +kernel
theorem dX11_mostSuspecting_17 : decode cX11_mostSuspecting 17 = .ok (.istore 5, 2) := by decide +kernel
theorem dX11_mostSuspecting_19 : decode cX11_mostSuspecting 19 = .ok (.iconst 0, 1) := by decide +kernel
theorem dX11_mostSuspecting_20 : decode cX11_mostSuspecting 20 = .ok (.istore 6, 2) := by decide +kernel
theorem dX11_mostSuspecting_22 : decode cX11_mostSuspecting 22 = .ok (.iload 6, 2) := by decide +kernel
theorem dX11_mostSuspecting_24 : decode cX11_mostSuspecting 24 = .ok (.aload_n 0, 1) := by decide +kernel
theorem dX11_mostSuspecting_25 : decode cX11_mostSuspecting 25 = .ok (.getfield 215, 3) := by decide +kernel
theorem dX11_mostSuspecting_28 : decode cX11_mostSuspecting 28 = .ok (.if_icmp .ge 55, 3) := by decide +kernel
theorem dX11_mostSuspecting_31 : decode cX11_mostSuspecting 31 = .ok (.iload 5, 2) := by decide +kernel
theorem dX11_mostSuspecting_33 : decode cX11_mostSuspecting 33 = .ok (.aload_n 0, 1) := by decide +kernel
theorem dX11_mostSuspecting_34 : decode cX11_mostSuspecting 34 = .ok (.getfield 57, 3) := by decide +kernel
theorem dX11_mostSuspecting_37 : decode cX11_mostSuspecting 37 = .ok (.bipush 9, 2) := by decide +kernel
theorem dX11_mostSuspecting_39 : decode cX11_mostSuspecting 39 = .ok (.iload_n 1, 1) := by decide +kernel
theorem dX11_mostSuspecting_40 : decode cX11_mostSuspecting 40 = .ok (.ifCond .eq 8, 3) := by decide +kernel
theorem dX11_mostSuspecting_43 : decode cX11_mostSuspecting 43 = .ok (.iload 6, 2) := by decide +kernel
theorem dX11_mostSuspecting_45 : decode cX11_mostSuspecting 45 = .ok (.goto 5, 3) := by decide +kernel
theorem dX11_mostSuspecting_48 : decode cX11_mostSuspecting 48 = .ok (.iload 4, 2) := by decide +kernel
theorem dX11_mostSuspecting_50 : decode cX11_mostSuspecting 50 = .ok (.iadd, 1) := by decide +kernel
theorem dX11_mostSuspecting_51 : decode cX11_mostSuspecting 51 = .ok (.iaload, 1) := by decide +kernel
theorem dX11_mostSuspecting_52 : decode cX11_mostSuspecting 52 = .ok (.iload_n 1, 1) := by decide +kernel
theorem dX11_mostSuspecting_53 : decode cX11_mostSuspecting 53 = .ok (.ifCond .eq 8, 3) := by decide +kernel
theorem dX11_mostSuspecting_56 : decode cX11_mostSuspecting 56 = .ok (.iload 4, 2) := by decide +kernel
theorem dX11_mostSuspecting_58 : decode cX11_mostSuspecting 58 = .ok (.goto 5, 3) := by decide +kernel
theorem dX11_mostSuspecting_61 : decode cX11_mostSuspecting 61 = .ok (.iload 6, 2) := by decide +kernel
theorem dX11_mostSuspecting_63 : decode cX11_mostSuspecting 63 = .ok (.invokestatic 161, 3) := by decide +kernel
theorem dX11_mostSuspecting_66 : decode cX11_mostSuspecting 66 = .ok (.ifCond .eq 7, 3) := by decide +kernel
theorem dX11_mostSuspecting_69 : decode cX11_mostSuspecting 69 = .ok (.iconst 1, 1) := by decide +kernel
theorem dX11_mostSuspecting_70 : decode cX11_mostSuspecting 70 = .ok (.goto 4, 3) := by decide +kernel
theorem dX11_mostSuspecting_73 : decode cX11_mostSuspecting 73 = .ok (.iconst 0, 1) := by decide +kernel
theorem dX11_mostSuspecting_74 : decode cX11_mostSuspecting 74 = .ok (.iadd, 1) := by decide +kernel
theorem dX11_mostSuspecting_75 : decode cX11_mostSuspecting 75 = .ok (.istore 5, 2) := by decide +kernel
theorem dX11_mostSuspecting_77 : decode cX11_mostSuspecting 77 = .ok (.iinc 6 1, 3) := by decide +kernel
theorem dX11_mostSuspecting_80 : decode cX11_mostSuspecting 80 = .ok (.goto (-58), 3) := by decide +kernel
theorem dX11_mostSuspecting_83 : decode cX11_mostSuspecting 83 = .ok (.iload 5, 2) := by decide +kernel
theorem dX11_mostSuspecting_85 : decode cX11_mostSuspecting 85 = .ok (.iload_n 3, 1) := by decide +kernel
theorem dX11_mostSuspecting_86 : decode cX11_mostSuspecting 86 = .ok (.if_icmp .gt 6, 3) := by decide +kernel
theorem dX11_mostSuspecting_89 : decode cX11_mostSuspecting 89 = .ok (.goto 9, 3) := by decide +kernel
theorem dX11_mostSuspecting_92 : decode cX11_mostSuspecting 92 = .ok (.iload 5, 2) := by decide +kernel
theorem dX11_mostSuspecting_94 : decode cX11_mostSuspecting 94 = .ok (.istore_n 3, 1) := by decide +kernel
theorem dX11_mostSuspecting_95 : decode cX11_mostSuspecting 95 = .ok (.iload 4, 2) := by decide +kernel
theorem dX11_mostSuspecting_97 : decode cX11_mostSuspecting 97 = .ok (.istore_n 2, 1) := by decide +kernel
theorem dX11_mostSuspecting_98 : decode cX11_mostSuspecting 98 = .ok (.iinc 4 1, 3) := by decide +kernel
theorem dX11_mostSuspecting_101 : decode cX11_mostSuspecting 101 = .ok (.goto (-94), 3) := by decide +kernel
theorem dX11_mostSuspecting_104 : decode cX11_mostSuspecting 104 = .ok (.iload_n 2, 1) := by decide +kernel
theorem dX11_mostSuspecting_105 : decode cX11_mostSuspecting 105 = .ok (.ireturn, 1) := by decide +kernel
theorem dX11_needed_0 : decode cX11_needed 0 = .ok (.aload_n 0, 1) := by decide +kernel
theorem dX11_needed_1 : decode cX11_needed 1 = .ok (.iconst 0, 1) := by decide +kernel
theorem dX11_needed_2 : decode cX11_needed 2 = .ok (.putfield 80, 3) := by decide +kernel
theorem dX11_needed_5 : decode cX11_needed 5 = .ok (.aload_n 0, 1) := by decide +kernel
theorem dX11_needed_6 : decode cX11_needed 6 = .ok (.getfield 232, 3) := by decide +kernel
theorem dX11_needed_9 : decode cX11_needed 9 = .ok (.ifCond .ne 5, 3) := by decide +kernel
theorem dX11_needed_12 : decode cX11_needed 12 = .ok (.iconst (-1), 1) := by decide +kernel
theorem dX11_needed_13 : decode cX11_needed 13 = .ok (.ireturn, 1) := by decide +kernel
theorem dX11_needed_14 : decode cX11_needed 14 = .ok (.aload_n 0, 1) := by decide +kernel
theorem dX11_needed_15 : decode cX11_needed 15 = .ok (.invokevirtual 329, 3) := by decide +kernel
theorem dX11_needed_18 : decode cX11_needed 18 = .ok (.aload_n 0, 1) := by decide +kernel
theorem dX11_needed_19 : decode cX11_needed 19 = .ok (.getfield 220, 3) := by decide +kernel
theorem dX11_needed_22 : decode cX11_needed 22 = .ok (.istore_n 1, 1) := by decide +kernel
theorem dX11_needed_23 : decode cX11_needed 23 = .ok (.iconst (-1), 1) := by decide +kernel
theorem dX11_needed_24 : decode cX11_needed 24 = .ok (.istore_n 2, 1) := by decide +kernel
theorem dX11_needed_25 : decode cX11_needed 25 = .ok (.iconst 1, 1) := by decide +kernel
theorem dX11_needed_26 : decode cX11_needed 26 = .ok (.istore_n 3, 1) := by decide +kernel
theorem dX11_needed_27 : decode cX11_needed 27 = .ok (.iload_n 3, 1) := by decide +kernel
theorem dX11_needed_28 : decode cX11_needed 28 = .ok (.bipush 6, 2) := by decide +kernel
theorem dX11_needed_30 : decode cX11_needed 30 = .ok (.if_icmp .gt 39, 3) := by decide +kernel
theorem dX11_needed_33 : decode cX11_needed 33 = .ok (.iload_n 2, 1) := by decide +kernel
theorem dX11_needed_34 : decode cX11_needed 34 = .ok (.iconst (-1), 1) := by decide +kernel
theorem dX11_needed_35 : decode cX11_needed 35 = .ok (.if_icmp .ne 34, 3) := by decide +kernel
theorem dX11_needed_38 : decode cX11_needed 38 = .ok (.aload_n 0, 1) := by decide +kernel
theorem dX11_needed_39 : decode cX11_needed 39 = .ok (.iload_n 3, 1) := by decide +kernel
theorem dX11_needed_40 : decode cX11_needed 40 = .ok (.invokevirtual 386, 3) := by decide +kernel
theorem dX11_needed_43 : decode cX11_needed 43 = .ok (.bipush 12, 2) := by decide +kernel
theorem dX11_needed_45 : decode cX11_needed 45 = .ok (.if_icmp .gt 24, 3) := by decide +kernel
theorem dX11_needed_48 : decode cX11_needed 48 = .ok (.aload_n 0, 1) := by decide +kernel
theorem dX11_needed_49 : decode cX11_needed 49 = .ok (.iload_n 3, 1) := by decide +kernel
theorem dX11_needed_50 : decode cX11_needed 50 = .ok (.putfield 220, 3) := by decide +kernel
theorem dX11_needed_53 : decode cX11_needed 53 = .ok (.aload_n 0, 1) := by decide +kernel
theorem dX11_needed_54 : decode cX11_needed 54 = .ok (.invokevirtual 399, 3) := by decide +kernel
theorem dX11_needed_57 : decode cX11_needed 57 = .ok (.iconst (-1), 1) := by decide +kernel
theorem dX11_needed_58 : decode cX11_needed 58 = .ok (.if_icmp .ne 5, 3) := by decide +kernel
theorem dX11_needed_61 : decode cX11_needed 61 = .ok (.iload_n 3, 1) := by decide +kernel
theorem dX11_needed_62 : decode cX11_needed 62 = .ok (.istore_n 2, 1) := by decide +kernel
theorem dX11_needed_63 : decode cX11_needed 63 = .ok (.iinc 3 1, 3) := by decide +kernel
theorem dX11_needed_66 : decode cX11_needed 66 = .ok (.goto (-39), 3) := by decide +kernel
theorem dX11_needed_69 : decode cX11_needed 69 = .ok (.aload_n 0, 1) := by decide +kernel
theorem dX11_needed_70 : decode cX11_needed 70 = .ok (.iload_n 1, 1) := by decide +kernel
theorem dX11_needed_71 : decode cX11_needed 71 = .ok (.putfield 220, 3) := by decide +kernel
theorem dX11_needed_74 : decode cX11_needed 74 = .ok (.iload_n 2, 1) := by decide +kernel
theorem dX11_needed_75 : decode cX11_needed 75 = .ok (.ireturn, 1) := by decide +kernel
theorem dX11_over_0 : decode cX11_over 0 = .ok (.aload_n 0, 1) := by decide +kernel
theorem dX11_over_1 : decode cX11_over 1 = .ok (.getfield 232, 3) := by decide +kernel
theorem dX11_over_4 : decode cX11_over 4 = .ok (.ifCond .eq 18, 3) := by decide +kernel
theorem dX11_over_7 : decode cX11_over 7 = .ok (.aload_n 0, 1) := by decide +kernel
theorem dX11_over_8 : decode cX11_over 8 = .ok (.getfield 57, 3) := by decide +kernel
theorem dX11_over_11 : decode cX11_over 11 = .ok (.bipush 72, 2) := by decide +kernel
theorem dX11_over_13 : decode cX11_over 13 = .ok (.iaload, 1) := by decide +kernel
theorem dX11_over_14 : decode cX11_over 14 = .ok (.aload_n 0, 1) := by decide +kernel
theorem dX11_over_15 : decode cX11_over 15 = .ok (.invokevirtual 287, 3) := by decide +kernel
theorem dX11_over_18 : decode cX11_over 18 = .ok (.idiv, 1) := by decide +kernel
theorem dX11_over_19 : decode cX11_over 19 = .ok (.goto 4, 3) := by decide +kernel
theorem dX11_over_22 : decode cX11_over 22 = .ok (.iconst 0, 1) := by decide +kernel
theorem dX11_over_23 : decode cX11_over 23 = .ok (.ireturn, 1) := by decide +kernel
theorem dX11_peer_0 : decode cX11_peer 0 = .ok (.aload_n 0, 1) := by decide +kernel
theorem dX11_peer_1 : decode cX11_peer 1 = .ok (.iconst 0, 1) := by decide +kernel
theorem dX11_peer_2 : decode cX11_peer 2 = .ok (.putfield 80, 3) := by decide +kernel
theorem dX11_peer_5 : decode cX11_peer 5 = .ok (.aload_n 0, 1) := by decide +kernel
theorem dX11_peer_6 : decode cX11_peer 6 = .ok (.iload_n 1, 1) := by decide +kernel
theorem dX11_peer_7 : decode cX11_peer 7 = .ok (.invokevirtual 347, 3) := by decide +kernel
theorem dX11_peer_10 : decode cX11_peer 10 = .ok (.ifCond .ne 5, 3) := by decide +kernel
theorem dX11_peer_13 : decode cX11_peer 13 = .ok (.iconst (-1), 1) := by decide +kernel
theorem dX11_peer_14 : decode cX11_peer 14 = .ok (.ireturn, 1) := by decide +kernel
theorem dX11_peer_15 : decode cX11_peer 15 = .ok (.aload_n 0, 1) := by decide +kernel
theorem dX11_peer_16 : decode cX11_peer 16 = .ok (.invokevirtual 329, 3) := by decide +kernel
theorem dX11_peer_19 : decode cX11_peer 19 = .ok (.iload_n 2, 1) := by decide +kernel
theorem dX11_peer_20 : decode cX11_peer 20 = .ok (.tableswitch 69 0 3 #[32, 39, 46, 60], 32) := by decide +kernel
theorem dX11_peer_52 : decode cX11_peer 52 = .ok (.aload_n 0, 1) := by decide +kernel
theorem dX11_peer_53 : decode cX11_peer 53 = .ok (.getfield 26, 3) := by decide +kernel
theorem dX11_peer_56 : decode cX11_peer 56 = .ok (.iload_n 1, 1) := by decide +kernel
theorem dX11_peer_57 : decode cX11_peer 57 = .ok (.iaload, 1) := by decide +kernel
theorem dX11_peer_58 : decode cX11_peer 58 = .ok (.ireturn, 1) := by decide +kernel
theorem dX11_peer_59 : decode cX11_peer 59 = .ok (.aload_n 0, 1) := by decide +kernel
theorem dX11_peer_60 : decode cX11_peer 60 = .ok (.getfield 29, 3) := by decide +kernel
theorem dX11_peer_63 : decode cX11_peer 63 = .ok (.iload_n 1, 1) := by decide +kernel
theorem dX11_peer_64 : decode cX11_peer 64 = .ok (.iaload, 1) := by decide +kernel
theorem dX11_peer_65 : decode cX11_peer 65 = .ok (.ireturn, 1) := by decide +kernel
theorem dX11_peer_66 : decode cX11_peer 66 = .ok (.aload_n 0, 1) := by decide +kernel
theorem dX11_peer_67 : decode cX11_peer 67 = .ok (.iload_n 1, 1) := by decide +kernel
theorem dX11_peer_68 : decode cX11_peer 68 = .ok (.invokevirtual 274, 3) := by decide +kernel
theorem dX11_peer_71 : decode cX11_peer 71 = .ok (.ifCond .eq 7, 3) := by decide +kernel
theorem dX11_peer_74 : decode cX11_peer 74 = .ok (.iconst 1, 1) := by decide +kernel
theorem dX11_peer_75 : decode cX11_peer 75 = .ok (.goto 4, 3) := by decide +kernel
theorem dX11_peer_78 : decode cX11_peer 78 = .ok (.iconst 0, 1) := by decide +kernel
theorem dX11_peer_79 : decode cX11_peer 79 = .ok (.ireturn, 1) := by decide +kernel
theorem dX11_peer_80 : decode cX11_peer 80 = .ok (.aload_n 0, 1) := by decide +kernel
theorem dX11_peer_81 : decode cX11_peer 81 = .ok (.getfield 224, 3) := by decide +kernel
theorem dX11_peer_84 : decode cX11_peer 84 = .ok (.iload_n 1, 1) := by decide +kernel
theorem dX11_peer_85 : decode cX11_peer 85 = .ok (.ishr, 1) := by decide +kernel
theorem dX11_peer_86 : decode cX11_peer 86 = .ok (.iconst 1, 1) := by decide +kernel
theorem dX11_peer_87 : decode cX11_peer 87 = .ok (.iand, 1) := by decide +kernel
theorem dX11_peer_88 : decode cX11_peer 88 = .ok (.ireturn, 1) := by decide +kernel
theorem dX11_peer_89 : decode cX11_peer 89 = .ok (.iconst (-1), 1) := by decide +kernel
theorem dX11_peer_90 : decode cX11_peer 90 = .ok (.ireturn, 1) := by decide +kernel
theorem dX11_piece_0 : decode cX11_piece 0 = .ok (.aload_n 0, 1) := by decide +kernel
theorem dX11_piece_1 : decode cX11_piece 1 = .ok (.invokevirtual 105, 3) := by decide +kernel
theorem dX11_piece_4 : decode cX11_piece 4 = .ok (.istore_n 1, 1) := by decide +kernel
theorem dX11_piece_5 : decode cX11_piece 5 = .ok (.aload_n 0, 1) := by decide +kernel
theorem dX11_piece_6 : decode cX11_piece 6 = .ok (.getfield 95, 3) := by decide +kernel
theorem dX11_piece_9 : decode cX11_piece 9 = .ok (.istore_n 2, 1) := by decide +kernel
theorem dX11_piece_10 : decode cX11_piece 10 = .ok (.aload_n 0, 1) := by decide +kernel
theorem dX11_piece_11 : decode cX11_piece 11 = .ok (.invokevirtual 155, 3) := by decide +kernel
theorem dX11_piece_14 : decode cX11_piece 14 = .ok (.istore_n 3, 1) := by decide +kernel
theorem dX11_piece_15 : decode cX11_piece 15 = .ok (.iload_n 3, 1) := by decide +kernel
theorem dX11_piece_16 : decode cX11_piece 16 = .ok (.iconst (-1), 1) := by decide +kernel
theorem dX11_piece_17 : decode cX11_piece 17 = .ok (.if_icmp .eq 35, 3) := by decide +kernel
theorem dX11_piece_20 : decode cX11_piece 20 = .ok (.aload_n 0, 1) := by decide +kernel
theorem dX11_piece_21 : decode cX11_piece 21 = .ok (.getfield 158, 3) := by decide +kernel
theorem dX11_piece_24 : decode cX11_piece 24 = .ok (.iload_n 3, 1) := by decide +kernel
theorem dX11_piece_25 : decode cX11_piece 25 = .ok (.invokestatic 161, 3) := by decide +kernel
theorem dX11_piece_28 : decode cX11_piece 28 = .ok (.ifCond .ne 24, 3) := by decide +kernel
theorem dX11_piece_31 : decode cX11_piece 31 = .ok (.iload_n 3, 1) := by decide +kernel
theorem dX11_piece_32 : decode cX11_piece 32 = .ok (.iconst 3, 1) := by decide +kernel
theorem dX11_piece_33 : decode cX11_piece 33 = .ok (.if_icmp .eq 8, 3) := by decide +kernel
theorem dX11_piece_36 : decode cX11_piece 36 = .ok (.iload_n 3, 1) := by decide +kernel
theorem dX11_piece_37 : decode cX11_piece 37 = .ok (.iconst 4, 1) := by decide +kernel
theorem dX11_piece_38 : decode cX11_piece 38 = .ok (.if_icmp .ne 20, 3) := by decide +kernel
theorem dX11_piece_41 : decode cX11_piece 41 = .ok (.aload_n 0, 1) := by decide +kernel
theorem dX11_piece_42 : decode cX11_piece 42 = .ok (.getfield 158, 3) := by decide +kernel
theorem dX11_piece_45 : decode cX11_piece 45 = .ok (.iconst 0, 1) := by decide +kernel
theorem dX11_piece_46 : decode cX11_piece 46 = .ok (.invokestatic 161, 3) := by decide +kernel
theorem dX11_piece_49 : decode cX11_piece 49 = .ok (.ifCond .ne 9, 3) := by decide +kernel
theorem dX11_piece_52 : decode cX11_piece 52 = .ok (.aload_n 0, 1) := by decide +kernel
theorem dX11_piece_53 : decode cX11_piece 53 = .ok (.iload_n 2, 1) := by decide +kernel
theorem dX11_piece_54 : decode cX11_piece 54 = .ok (.invokevirtual 136, 3) := by decide +kernel
theorem dX11_piece_57 : decode cX11_piece 57 = .ok (.return_, 1) := by decide +kernel
theorem dX11_piece_58 : decode cX11_piece 58 = .ok (.aload_n 0, 1) := by decide +kernel
theorem dX11_piece_59 : decode cX11_piece 59 = .ok (.dup, 1) := by decide +kernel
theorem dX11_piece_60 : decode cX11_piece 60 = .ok (.getfield 158, 3) := by decide +kernel
theorem dX11_piece_63 : decode cX11_piece 63 = .ok (.iconst 1, 1) := by decide +kernel
theorem dX11_piece_64 : decode cX11_piece 64 = .ok (.iload_n 3, 1) := by decide +kernel
theorem dX11_piece_65 : decode cX11_piece 65 = .ok (.ishl, 1) := by decide +kernel
theorem dX11_piece_66 : decode cX11_piece 66 = .ok (.ior, 1) := by decide +kernel
theorem dX11_piece_67 : decode cX11_piece 67 = .ok (.putfield 158, 3) := by decide +kernel
theorem dX11_piece_70 : decode cX11_piece 70 = .ok (.iload_n 3, 1) := by decide +kernel
theorem dX11_piece_71 : decode cX11_piece 71 = .ok (.ifCond .ne 16, 3) := by decide +kernel
theorem dX11_piece_74 : decode cX11_piece 74 = .ok (.aload_n 0, 1) := by decide +kernel
theorem dX11_piece_75 : decode cX11_piece 75 = .ok (.getfield 13, 3) := by decide +kernel
theorem dX11_piece_78 : decode cX11_piece 78 = .ok (.iconst 0, 1) := by decide +kernel
theorem dX11_piece_79 : decode cX11_piece 79 = .ok (.aload_n 0, 1) := by decide +kernel
theorem dX11_piece_80 : decode cX11_piece 80 = .ok (.iconst 3, 1) := by decide +kernel
theorem dX11_piece_81 : decode cX11_piece 81 = .ok (.bipush 9, 2) := by decide +kernel
theorem dX11_piece_83 : decode cX11_piece 83 = .ok (.invokevirtual 165, 3) := by decide +kernel
theorem dX11_piece_86 : decode cX11_piece 86 = .ok (.iastore, 1) := by decide +kernel
theorem dX11_piece_87 : decode cX11_piece 87 = .ok (.iload_n 3, 1) := by decide +kernel
theorem dX11_piece_88 : decode cX11_piece 88 = .ok (.iconst 1, 1) := by decide +kernel
theorem dX11_piece_89 : decode cX11_piece 89 = .ok (.if_icmp .ne 15, 3) := by decide +kernel
theorem dX11_piece_92 : decode cX11_piece 92 = .ok (.aload_n 0, 1) := by decide +kernel
theorem dX11_piece_93 : decode cX11_piece 93 = .ok (.getfield 13, 3) := by decide +kernel
theorem dX11_piece_96 : decode cX11_piece 96 = .ok (.iconst 1, 1) := by decide +kernel
theorem dX11_piece_97 : decode cX11_piece 97 = .ok (.aload_n 0, 1) := by decide +kernel
theorem dX11_piece_98 : decode cX11_piece 98 = .ok (.iconst 0, 1) := by decide +kernel
theorem dX11_piece_99 : decode cX11_piece 99 = .ok (.iconst 4, 1) := by decide +kernel
theorem dX11_piece_100 : decode cX11_piece 100 = .ok (.invokevirtual 165, 3) := by decide +kernel
theorem dX11_piece_103 : decode cX11_piece 103 = .ok (.iastore, 1) := by decide +kernel
theorem dX11_piece_104 : decode cX11_piece 104 = .ok (.iload_n 3, 1) := by decide +kernel
theorem dX11_piece_105 : decode cX11_piece 105 = .ok (.iconst 2, 1) := by decide +kernel
theorem dX11_piece_106 : decode cX11_piece 106 = .ok (.if_icmp .ne 16, 3) := by decide +kernel
theorem dX11_piece_109 : decode cX11_piece 109 = .ok (.aload_n 0, 1) := by decide +kernel
theorem dX11_piece_110 : decode cX11_piece 110 = .ok (.getfield 13, 3) := by decide +kernel
theorem dX11_piece_113 : decode cX11_piece 113 = .ok (.iconst 2, 1) := by decide +kernel
theorem dX11_piece_114 : decode cX11_piece 114 = .ok (.aload_n 0, 1) := by decide +kernel
theorem dX11_piece_115 : decode cX11_piece 115 = .ok (.iconst 1, 1) := by decide +kernel
theorem dX11_piece_116 : decode cX11_piece 116 = .ok (.bipush 6, 2) := by decide +kernel
theorem dX11_piece_118 : decode cX11_piece 118 = .ok (.invokevirtual 165, 3) := by decide +kernel
theorem dX11_piece_121 : decode cX11_piece 121 = .ok (.iastore, 1) := by decide +kernel
theorem dX11_piece_122 : decode cX11_piece 122 = .ok (.iload_n 3, 1) := by decide +kernel
theorem dX11_piece_123 : decode cX11_piece 123 = .ok (.iconst 3, 1) := by decide +kernel
theorem dX11_piece_124 : decode cX11_piece 124 = .ok (.if_icmp .ne 7, 3) := by decide +kernel
theorem dX11_piece_127 : decode cX11_piece 127 = .ok (.aload_n 0, 1) := by decide +kernel
theorem dX11_piece_128 : decode cX11_piece 128 = .ok (.invokevirtual 169, 3) := by decide +kernel
theorem dX11_piece_131 : decode cX11_piece 131 = .ok (.iload_n 3, 1) := by decide +kernel
theorem dX11_piece_132 : decode cX11_piece 132 = .ok (.iconst 4, 1) := by decide +kernel
theorem dX11_piece_133 : decode cX11_piece 133 = .ok (.if_icmp .ne 7, 3) := by decide +kernel
theorem dX11_piece_136 : decode cX11_piece 136 = .ok (.aload_n 0, 1) := by decide +kernel
theorem dX11_piece_137 : decode cX11_piece 137 = .ok (.invokevirtual 171, 3) := by decide +kernel
theorem dX11_piece_140 : decode cX11_piece 140 = .ok (.iload_n 3, 1) := by decide +kernel
theorem dX11_piece_141 : decode cX11_piece 141 = .ok (.iconst 5, 1) := by decide +kernel
theorem dX11_piece_142 : decode cX11_piece 142 = .ok (.if_icmp .ne 10, 3) := by decide +kernel
theorem dX11_piece_145 : decode cX11_piece 145 = .ok (.aload_n 0, 1) := by decide +kernel
theorem dX11_piece_146 : decode cX11_piece 146 = .ok (.getfield 13, 3) := by decide +kernel
theorem dX11_piece_149 : decode cX11_piece 149 = .ok (.iconst 5, 1) := by decide +kernel
theorem dX11_piece_150 : decode cX11_piece 150 = .ok (.iconst 1, 1) := by decide +kernel
theorem dX11_piece_151 : decode cX11_piece 151 = .ok (.iastore, 1) := by decide +kernel
theorem dX11_piece_152 : decode cX11_piece 152 = .ok (.return_, 1) := by decide +kernel
theorem dX11_pieceHere_0 : decode cX11_pieceHere 0 = .ok (.aload_n 0, 1) := by decide +kernel
theorem dX11_pieceHere_1 : decode cX11_pieceHere 1 = .ok (.ldc 139, 2) := by decide +kernel
theorem dX11_pieceHere_3 : decode cX11_pieceHere 3 = .ok (.invokevirtual 141, 3) := by decide +kernel
theorem dX11_pieceHere_6 : decode cX11_pieceHere 6 = .ok (.ifCond .eq 5, 3) := by decide +kernel
theorem dX11_pieceHere_9 : decode cX11_pieceHere 9 = .ok (.iconst 0, 1) := by decide +kernel
theorem dX11_pieceHere_10 : decode cX11_pieceHere 10 = .ok (.ireturn, 1) := by decide +kernel
theorem dX11_pieceHere_11 : decode cX11_pieceHere 11 = .ok (.aload_n 0, 1) := by decide +kernel
theorem dX11_pieceHere_12 : decode cX11_pieceHere 12 = .ok (.ldc 145, 2) := by decide +kernel
theorem dX11_pieceHere_14 : decode cX11_pieceHere 14 = .ok (.invokevirtual 141, 3) := by decide +kernel
theorem dX11_pieceHere_17 : decode cX11_pieceHere 17 = .ok (.ifCond .eq 5, 3) := by decide +kernel
theorem dX11_pieceHere_20 : decode cX11_pieceHere 20 = .ok (.iconst 1, 1) := by decide +kernel
theorem dX11_pieceHere_21 : decode cX11_pieceHere 21 = .ok (.ireturn, 1) := by decide +kernel
theorem dX11_pieceHere_22 : decode cX11_pieceHere 22 = .ok (.aload_n 0, 1) := by decide +kernel
theorem dX11_pieceHere_23 : decode cX11_pieceHere 23 = .ok (.ldc 147, 2) := by decide +kernel
theorem dX11_pieceHere_25 : decode cX11_pieceHere 25 = .ok (.invokevirtual 141, 3) := by decide +kernel
theorem dX11_pieceHere_28 : decode cX11_pieceHere 28 = .ok (.ifCond .eq 5, 3) := by decide +kernel
theorem dX11_pieceHere_31 : decode cX11_pieceHere 31 = .ok (.iconst 2, 1) := by decide +kernel
theorem dX11_pieceHere_32 : decode cX11_pieceHere 32 = .ok (.ireturn, 1) := by decide +kernel
theorem dX11_pieceHere_33 : decode cX11_pieceHere 33 = .ok (.aload_n 0, 1) := by decide +kernel
theorem dX11_pieceHere_34 : decode cX11_pieceHere 34 = .ok (.ldc 149, 2) := by decide +kernel
theorem dX11_pieceHere_36 : decode cX11_pieceHere 36 = .ok (.invokevirtual 141, 3) := by decide +kernel
theorem dX11_pieceHere_39 : decode cX11_pieceHere 39 = .ok (.ifCond .eq 5, 3) := by decide +kernel
theorem dX11_pieceHere_42 : decode cX11_pieceHere 42 = .ok (.iconst 3, 1) := by decide +kernel
theorem dX11_pieceHere_43 : decode cX11_pieceHere 43 = .ok (.ireturn, 1) := by decide +kernel
theorem dX11_pieceHere_44 : decode cX11_pieceHere 44 = .ok (.aload_n 0, 1) := by decide +kernel
theorem dX11_pieceHere_45 : decode cX11_pieceHere 45 = .ok (.ldc 151, 2) := by decide +kernel
theorem dX11_pieceHere_47 : decode cX11_pieceHere 47 = .ok (.invokevirtual 141, 3) := by decide +kernel
theorem dX11_pieceHere_50 : decode cX11_pieceHere 50 = .ok (.ifCond .eq 5, 3) := by decide +kernel
theorem dX11_pieceHere_53 : decode cX11_pieceHere 53 = .ok (.iconst 4, 1) := by decide +kernel
theorem dX11_pieceHere_54 : decode cX11_pieceHere 54 = .ok (.ireturn, 1) := by decide +kernel
theorem dX11_pieceHere_55 : decode cX11_pieceHere 55 = .ok (.aload_n 0, 1) := by decide +kernel
theorem dX11_pieceHere_56 : decode cX11_pieceHere 56 = .ok (.ldc 153, 2) := by decide +kernel
theorem dX11_pieceHere_58 : decode cX11_pieceHere 58 = .ok (.invokevirtual 141, 3) := by decide +kernel
theorem dX11_pieceHere_61 : decode cX11_pieceHere 61 = .ok (.ifCond .eq 7, 3) := by decide +kernel
theorem dX11_pieceHere_64 : decode cX11_pieceHere 64 = .ok (.iconst 5, 1) := by decide +kernel
theorem dX11_pieceHere_65 : decode cX11_pieceHere 65 = .ok (.goto 4, 3) := by decide +kernel
theorem dX11_pieceHere_68 : decode cX11_pieceHere 68 = .ok (.iconst (-1), 1) := by decide +kernel
theorem dX11_pieceHere_69 : decode cX11_pieceHere 69 = .ok (.ireturn, 1) := by decide +kernel
theorem dX11_plan_0 : decode cX11_plan 0 = .ok (.aload_n 0, 1) := by decide +kernel
theorem dX11_plan_1 : decode cX11_plan 1 = .ok (.iconst 0, 1) := by decide +kernel
theorem dX11_plan_2 : decode cX11_plan 2 = .ok (.putfield 80, 3) := by decide +kernel
theorem dX11_plan_5 : decode cX11_plan 5 = .ok (.aload_n 0, 1) := by decide +kernel
theorem dX11_plan_6 : decode cX11_plan 6 = .ok (.invokevirtual 209, 3) := by decide +kernel
theorem dX11_plan_9 : decode cX11_plan 9 = .ok (.iconst (-1), 1) := by decide +kernel
theorem dX11_plan_10 : decode cX11_plan 10 = .ok (.if_icmp .eq 5, 3) := by decide +kernel
theorem dX11_plan_13 : decode cX11_plan 13 = .ok (.iconst (-1), 1) := by decide +kernel
theorem dX11_plan_14 : decode cX11_plan 14 = .ok (.ireturn, 1) := by decide +kernel
theorem dX11_plan_15 : decode cX11_plan 15 = .ok (.aload_n 0, 1) := by decide +kernel
theorem dX11_plan_16 : decode cX11_plan 16 = .ok (.iconst 0, 1) := by decide +kernel
theorem dX11_plan_17 : decode cX11_plan 17 = .ok (.putfield 84, 3) := by decide +kernel
theorem dX11_plan_20 : decode cX11_plan 20 = .ok (.iconst 0, 1) := by decide +kernel
theorem dX11_plan_21 : decode cX11_plan 21 = .ok (.istore_n 1, 1) := by decide +kernel
theorem dX11_plan_22 : decode cX11_plan 22 = .ok (.iload_n 1, 1) := by decide +kernel
theorem dX11_plan_23 : decode cX11_plan 23 = .ok (.aload_n 0, 1) := by decide +kernel
theorem dX11_plan_24 : decode cX11_plan 24 = .ok (.getfield 17, 3) := by decide +kernel
theorem dX11_plan_27 : decode cX11_plan 27 = .ok (.arraylength, 1) := by decide +kernel
theorem dX11_plan_28 : decode cX11_plan 28 = .ok (.if_icmp .ge 21, 3) := by decide +kernel
theorem dX11_plan_31 : decode cX11_plan 31 = .ok (.aload_n 0, 1) := by decide +kernel
theorem dX11_plan_32 : decode cX11_plan 32 = .ok (.getfield 17, 3) := by decide +kernel
theorem dX11_plan_35 : decode cX11_plan 35 = .ok (.iload_n 1, 1) := by decide +kernel
theorem dX11_plan_36 : decode cX11_plan 36 = .ok (.aload_n 0, 1) := by decide +kernel
theorem dX11_plan_37 : decode cX11_plan 37 = .ok (.getfield 20, 3) := by decide +kernel
theorem dX11_plan_40 : decode cX11_plan 40 = .ok (.iload_n 1, 1) := by decide +kernel
theorem dX11_plan_41 : decode cX11_plan 41 = .ok (.iaload, 1) := by decide +kernel
theorem dX11_plan_42 : decode cX11_plan 42 = .ok (.iastore, 1) := by decide +kernel
theorem dX11_plan_43 : decode cX11_plan 43 = .ok (.iinc 1 1, 3) := by decide +kernel
theorem dX11_plan_46 : decode cX11_plan 46 = .ok (.goto (-24), 3) := by decide +kernel
theorem dX11_plan_49 : decode cX11_plan 49 = .ok (.aload_n 0, 1) := by decide +kernel
theorem dX11_plan_50 : decode cX11_plan 50 = .ok (.aload_n 0, 1) := by decide +kernel
theorem dX11_plan_51 : decode cX11_plan 51 = .ok (.getfield 184, 3) := by decide +kernel
theorem dX11_plan_54 : decode cX11_plan 54 = .ok (.putfield 248, 3) := by decide +kernel
theorem dX11_plan_57 : decode cX11_plan 57 = .ok (.aload_n 0, 1) := by decide +kernel
theorem dX11_plan_58 : decode cX11_plan 58 = .ok (.getfield 248, 3) := by decide +kernel
theorem dX11_plan_61 : decode cX11_plan 61 = .ok (.ireturn, 1) := by decide +kernel
theorem dX11_planLine_0 : decode cX11_planLine 0 = .ok (.aload_n 0, 1) := by decide +kernel
theorem dX11_planLine_1 : decode cX11_planLine 1 = .ok (.invokevirtual 105, 3) := by decide +kernel
theorem dX11_planLine_4 : decode cX11_planLine 4 = .ok (.istore_n 1, 1) := by decide +kernel
theorem dX11_planLine_5 : decode cX11_planLine 5 = .ok (.aload_n 0, 1) := by decide +kernel
theorem dX11_planLine_6 : decode cX11_planLine 6 = .ok (.getfield 184, 3) := by decide +kernel
theorem dX11_planLine_9 : decode cX11_planLine 9 = .ok (.bipush 20, 2) := by decide +kernel
theorem dX11_planLine_11 : decode cX11_planLine 11 = .ok (.if_icmp .ne 12, 3) := by decide +kernel
theorem dX11_planLine_14 : decode cX11_planLine 14 = .ok (.aload_n 0, 1) := by decide +kernel
theorem dX11_planLine_15 : decode cX11_planLine 15 = .ok (.aload_n 0, 1) := by decide +kernel
theorem dX11_planLine_16 : decode cX11_planLine 16 = .ok (.getfield 95, 3) := by decide +kernel
theorem dX11_planLine_19 : decode cX11_planLine 19 = .ok (.invokevirtual 136, 3) := by decide +kernel
theorem dX11_planLine_22 : decode cX11_planLine 22 = .ok (.return_, 1) := by decide +kernel
theorem dX11_planLine_23 : decode cX11_planLine 23 = .ok (.iconst 5, 1) := by decide +kernel
theorem dX11_planLine_24 : decode cX11_planLine 24 = .ok (.aload_n 0, 1) := by decide +kernel
theorem dX11_planLine_25 : decode cX11_planLine 25 = .ok (.getfield 184, 3) := by decide +kernel
theorem dX11_planLine_28 : decode cX11_planLine 28 = .ok (.imul, 1) := by decide +kernel
theorem dX11_planLine_29 : decode cX11_planLine 29 = .ok (.istore_n 2, 1) := by decide +kernel
theorem dX11_planLine_30 : decode cX11_planLine 30 = .ok (.aload_n 0, 1) := by decide +kernel
theorem dX11_planLine_31 : decode cX11_planLine 31 = .ok (.getfield 20, 3) := by decide +kernel
theorem dX11_planLine_34 : decode cX11_planLine 34 = .ok (.iload_n 2, 1) := by decide +kernel
theorem dX11_planLine_35 : decode cX11_planLine 35 = .ok (.aload_n 0, 1) := by decide +kernel
theorem dX11_planLine_36 : decode cX11_planLine 36 = .ok (.ldc 187, 2) := by decide +kernel
theorem dX11_planLine_38 : decode cX11_planLine 38 = .ok (.invokevirtual 141, 3) := by decide +kernel
theorem dX11_planLine_41 : decode cX11_planLine 41 = .ok (.ifCond .eq 12, 3) := by decide +kernel
theorem dX11_planLine_44 : decode cX11_planLine 44 = .ok (.aload_n 0, 1) := by decide +kernel
theorem dX11_planLine_45 : decode cX11_planLine 45 = .ok (.iconst 0, 1) := by decide +kernel
theorem dX11_planLine_46 : decode cX11_planLine 46 = .ok (.iconst 5, 1) := by decide +kernel
theorem dX11_planLine_47 : decode cX11_planLine 47 = .ok (.invokevirtual 165, 3) := by decide +kernel
theorem dX11_planLine_50 : decode cX11_planLine 50 = .ok (.goto 4, 3) := by decide +kernel
theorem dX11_planLine_53 : decode cX11_planLine 53 = .ok (.iconst (-1), 1) := by decide +kernel
theorem dX11_planLine_54 : decode cX11_planLine 54 = .ok (.iastore, 1) := by decide +kernel
theorem dX11_planLine_55 : decode cX11_planLine 55 = .ok (.aload_n 0, 1) := by decide +kernel
theorem dX11_planLine_56 : decode cX11_planLine 56 = .ok (.getfield 20, 3) := by decide +kernel
theorem dX11_planLine_59 : decode cX11_planLine 59 = .ok (.iload_n 2, 1) := by decide +kernel
theorem dX11_planLine_60 : decode cX11_planLine 60 = .ok (.iconst 1, 1) := by decide +kernel
theorem dX11_planLine_61 : decode cX11_planLine 61 = .ok (.iadd, 1) := by decide +kernel
theorem dX11_planLine_62 : decode cX11_planLine 62 = .ok (.aload_n 0, 1) := by decide +kernel
theorem dX11_planLine_63 : decode cX11_planLine 63 = .ok (.getfield 102, 3) := by decide +kernel
theorem dX11_planLine_66 : decode cX11_planLine 66 = .ok (.iconst (-1), 1) := by decide +kernel
theorem dX11_planLine_67 : decode cX11_planLine 67 = .ok (.if_icmp .ne 21, 3) := by decide +kernel
theorem dX11_planLine_70 : decode cX11_planLine 70 = .ok (.aload_n 0, 1) := by decide +kernel
theorem dX11_planLine_71 : decode cX11_planLine 71 = .ok (.ldc 189, 2) := by decide +kernel
theorem dX11_planLine_73 : decode cX11_planLine 73 = .ok (.invokevirtual 141, 3) := by decide +kernel
theorem dX11_planLine_76 : decode cX11_planLine 76 = .ok (.ifCond .eq 12, 3) := by decide +kernel
theorem dX11_planLine_79 : decode cX11_planLine 79 = .ok (.aload_n 0, 1) := by decide +kernel
theorem dX11_planLine_80 : decode cX11_planLine 80 = .ok (.iconst 0, 1) := by decide +kernel
theorem dX11_planLine_81 : decode cX11_planLine 81 = .ok (.iconst 2, 1) := by decide +kernel
theorem dX11_planLine_82 : decode cX11_planLine 82 = .ok (.invokevirtual 165, 3) := by decide +kernel
theorem dX11_planLine_85 : decode cX11_planLine 85 = .ok (.goto 4, 3) := by decide +kernel
theorem dX11_planLine_88 : decode cX11_planLine 88 = .ok (.iconst (-1), 1) := by decide +kernel
theorem dX11_planLine_89 : decode cX11_planLine 89 = .ok (.iastore, 1) := by decide +kernel
theorem dX11_planLine_90 : decode cX11_planLine 90 = .ok (.aload_n 0, 1) := by decide +kernel
theorem dX11_planLine_91 : decode cX11_planLine 91 = .ok (.getfield 20, 3) := by decide +kernel
theorem dX11_planLine_94 : decode cX11_planLine 94 = .ok (.iload_n 2, 1) := by decide +kernel
theorem dX11_planLine_95 : decode cX11_planLine 95 = .ok (.iconst 2, 1) := by decide +kernel
theorem dX11_planLine_96 : decode cX11_planLine 96 = .ok (.iadd, 1) := by decide +kernel
theorem dX11_planLine_97 : decode cX11_planLine 97 = .ok (.aload_n 0, 1) := by decide +kernel
theorem dX11_planLine_98 : decode cX11_planLine 98 = .ok (.getfield 102, 3) := by decide +kernel
theorem dX11_planLine_101 : decode cX11_planLine 101 = .ok (.iconst (-1), 1) := by decide +kernel
theorem dX11_planLine_102 : decode cX11_planLine 102 = .ok (.if_icmp .ne 22, 3) := by decide +kernel
theorem dX11_planLine_105 : decode cX11_planLine 105 = .ok (.aload_n 0, 1) := by decide +kernel
theorem dX11_planLine_106 : decode cX11_planLine 106 = .ok (.ldc 191, 2) := by decide +kernel
theorem dX11_planLine_108 : decode cX11_planLine 108 = .ok (.invokevirtual 141, 3) := by decide +kernel
theorem dX11_planLine_111 : decode cX11_planLine 111 = .ok (.ifCond .eq 13, 3) := by decide +kernel
theorem dX11_planLine_114 : decode cX11_planLine 114 = .ok (.aload_n 0, 1) := by decide +kernel
theorem dX11_planLine_115 : decode cX11_planLine 115 = .ok (.iconst 0, 1) := by decide +kernel
theorem dX11_planLine_116 : decode cX11_planLine 116 = .ok (.bipush 8, 2) := by decide +kernel
theorem dX11_planLine_118 : decode cX11_planLine 118 = .ok (.invokevirtual 165, 3) := by decide +kernel
theorem dX11_planLine_121 : decode cX11_planLine 121 = .ok (.goto 4, 3) := by decide +kernel
theorem dX11_planLine_124 : decode cX11_planLine 124 = .ok (.iconst (-1), 1) := by decide +kernel
theorem dX11_planLine_125 : decode cX11_planLine 125 = .ok (.iastore, 1) := by decide +kernel
theorem dX11_planLine_126 : decode cX11_planLine 126 = .ok (.aload_n 0, 1) := by decide +kernel
theorem dX11_planLine_127 : decode cX11_planLine 127 = .ok (.getfield 20, 3) := by decide +kernel
theorem dX11_planLine_130 : decode cX11_planLine 130 = .ok (.iload_n 2, 1) := by decide +kernel
theorem dX11_planLine_131 : decode cX11_planLine 131 = .ok (.iconst 3, 1) := by decide +kernel
theorem dX11_planLine_132 : decode cX11_planLine 132 = .ok (.iadd, 1) := by decide +kernel
theorem dX11_planLine_133 : decode cX11_planLine 133 = .ok (.aload_n 0, 1) := by decide +kernel
theorem dX11_planLine_134 : decode cX11_planLine 134 = .ok (.getfield 102, 3) := by decide +kernel
theorem dX11_planLine_137 : decode cX11_planLine 137 = .ok (.iconst (-1), 1) := by decide +kernel
theorem dX11_planLine_138 : decode cX11_planLine 138 = .ok (.if_icmp .ne 22, 3) := by decide +kernel
theorem dX11_planLine_141 : decode cX11_planLine 141 = .ok (.aload_n 0, 1) := by decide +kernel
theorem dX11_planLine_142 : decode cX11_planLine 142 = .ok (.ldc 193, 2) := by decide +kernel
theorem dX11_planLine_144 : decode cX11_planLine 144 = .ok (.invokevirtual 141, 3) := by decide +kernel
theorem dX11_planLine_147 : decode cX11_planLine 147 = .ok (.ifCond .eq 13, 3) := by decide +kernel
theorem dX11_planLine_150 : decode cX11_planLine 150 = .ok (.aload_n 0, 1) := by decide +kernel
theorem dX11_planLine_151 : decode cX11_planLine 151 = .ok (.iconst 0, 1) := by decide +kernel
theorem dX11_planLine_152 : decode cX11_planLine 152 = .ok (.bipush 8, 2) := by decide +kernel
theorem dX11_planLine_154 : decode cX11_planLine 154 = .ok (.invokevirtual 165, 3) := by decide +kernel
theorem dX11_planLine_157 : decode cX11_planLine 157 = .ok (.goto 4, 3) := by decide +kernel
theorem dX11_planLine_160 : decode cX11_planLine 160 = .ok (.iconst (-1), 1) := by decide +kernel
theorem dX11_planLine_161 : decode cX11_planLine 161 = .ok (.iastore, 1) := by decide +kernel
theorem dX11_planLine_162 : decode cX11_planLine 162 = .ok (.aload_n 0, 1) := by decide +kernel
theorem dX11_planLine_163 : decode cX11_planLine 163 = .ok (.getfield 102, 3) := by decide +kernel
theorem dX11_planLine_166 : decode cX11_planLine 166 = .ok (.iconst (-1), 1) := by decide +kernel
theorem dX11_planLine_167 : decode cX11_planLine 167 = .ok (.if_icmp .eq 4, 3) := by decide +kernel
theorem dX11_planLine_170 : decode cX11_planLine 170 = .ok (.return_, 1) := by decide +kernel
theorem dX11_planLine_171 : decode cX11_planLine 171 = .ok (.aload_n 0, 1) := by decide +kernel
theorem dX11_planLine_172 : decode cX11_planLine 172 = .ok (.invokevirtual 105, 3) := by decide +kernel
theorem dX11_planLine_175 : decode cX11_planLine 175 = .ok (.istore_n 1, 1) := by decide +kernel
theorem dX11_planLine_176 : decode cX11_planLine 176 = .ok (.iload_n 1, 1) := by decide +kernel
theorem dX11_planLine_177 : decode cX11_planLine 177 = .ok (.invokestatic 119, 3) := by decide +kernel
theorem dX11_planLine_180 : decode cX11_planLine 180 = .ok (.ifCond .eq 20, 3) := by decide +kernel
theorem dX11_planLine_183 : decode cX11_planLine 183 = .ok (.aload_n 0, 1) := by decide +kernel
theorem dX11_planLine_184 : decode cX11_planLine 184 = .ok (.getfield 20, 3) := by decide +kernel
theorem dX11_planLine_187 : decode cX11_planLine 187 = .ok (.iload_n 2, 1) := by decide +kernel
theorem dX11_planLine_188 : decode cX11_planLine 188 = .ok (.iconst 4, 1) := by decide +kernel
theorem dX11_planLine_189 : decode cX11_planLine 189 = .ok (.iadd, 1) := by decide +kernel
theorem dX11_planLine_190 : decode cX11_planLine 190 = .ok (.aload_n 0, 1) := by decide +kernel
theorem dX11_planLine_191 : decode cX11_planLine 191 = .ok (.iconst 0, 1) := by decide +kernel
theorem dX11_planLine_192 : decode cX11_planLine 192 = .ok (.iconst 2, 1) := by decide +kernel
theorem dX11_planLine_193 : decode cX11_planLine 193 = .ok (.invokevirtual 165, 3) := by decide +kernel
theorem dX11_planLine_196 : decode cX11_planLine 196 = .ok (.iastore, 1) := by decide +kernel
theorem dX11_planLine_197 : decode cX11_planLine 197 = .ok (.goto 96, 3) := by decide +kernel
theorem dX11_planLine_200 : decode cX11_planLine 200 = .ok (.aload_n 0, 1) := by decide +kernel
theorem dX11_planLine_201 : decode cX11_planLine 201 = .ok (.ldc 195, 2) := by decide +kernel
theorem dX11_planLine_203 : decode cX11_planLine 203 = .ok (.invokevirtual 141, 3) := by decide +kernel
theorem dX11_planLine_206 : decode cX11_planLine 206 = .ok (.ifCond .eq 15, 3) := by decide +kernel
theorem dX11_planLine_209 : decode cX11_planLine 209 = .ok (.aload_n 0, 1) := by decide +kernel
theorem dX11_planLine_210 : decode cX11_planLine 210 = .ok (.getfield 20, 3) := by decide +kernel
theorem dX11_planLine_213 : decode cX11_planLine 213 = .ok (.iload_n 2, 1) := by decide +kernel
theorem dX11_planLine_214 : decode cX11_planLine 214 = .ok (.iconst 4, 1) := by decide +kernel
theorem dX11_planLine_215 : decode cX11_planLine 215 = .ok (.iadd, 1) := by decide +kernel
theorem dX11_planLine_216 : decode cX11_planLine 216 = .ok (.iconst 3, 1) := by decide +kernel
theorem dX11_planLine_217 : decode cX11_planLine 217 = .ok (.iastore, 1) := by decide +kernel
theorem dX11_planLine_218 : decode cX11_planLine 218 = .ok (.goto 75, 3) := by decide +kernel
theorem dX11_planLine_221 : decode cX11_planLine 221 = .ok (.aload_n 0, 1) := by decide +kernel
theorem dX11_planLine_222 : decode cX11_planLine 222 = .ok (.ldc 197, 2) := by decide +kernel
theorem dX11_planLine_224 : decode cX11_planLine 224 = .ok (.invokevirtual 141, 3) := by decide +kernel
theorem dX11_planLine_227 : decode cX11_planLine 227 = .ok (.ifCond .eq 15, 3) := by decide +kernel
theorem dX11_planLine_230 : decode cX11_planLine 230 = .ok (.aload_n 0, 1) := by decide +kernel
theorem dX11_planLine_231 : decode cX11_planLine 231 = .ok (.getfield 20, 3) := by decide +kernel
theorem dX11_planLine_234 : decode cX11_planLine 234 = .ok (.iload_n 2, 1) := by decide +kernel
theorem dX11_planLine_235 : decode cX11_planLine 235 = .ok (.iconst 4, 1) := by decide +kernel
theorem dX11_planLine_236 : decode cX11_planLine 236 = .ok (.iadd, 1) := by decide +kernel
theorem dX11_planLine_237 : decode cX11_planLine 237 = .ok (.iconst 4, 1) := by decide +kernel
theorem dX11_planLine_238 : decode cX11_planLine 238 = .ok (.iastore, 1) := by decide +kernel
theorem dX11_planLine_239 : decode cX11_planLine 239 = .ok (.goto 54, 3) := by decide +kernel
theorem dX11_planLine_242 : decode cX11_planLine 242 = .ok (.aload_n 0, 1) := by decide +kernel
theorem dX11_planLine_243 : decode cX11_planLine 243 = .ok (.ldc 199, 2) := by decide +kernel
theorem dX11_planLine_245 : decode cX11_planLine 245 = .ok (.invokevirtual 141, 3) := by decide +kernel
theorem dX11_planLine_248 : decode cX11_planLine 248 = .ok (.ifCond .eq 15, 3) := by decide +kernel
theorem dX11_planLine_251 : decode cX11_planLine 251 = .ok (.aload_n 0, 1) := by decide +kernel
theorem dX11_planLine_252 : decode cX11_planLine 252 = .ok (.getfield 20, 3) := by decide +kernel
theorem dX11_planLine_255 : decode cX11_planLine 255 = .ok (.iload_n 2, 1) := by decide +kernel
theorem dX11_planLine_256 : decode cX11_planLine 256 = .ok (.iconst 4, 1) := by decide +kernel
theorem dX11_planLine_257 : decode cX11_planLine 257 = .ok (.iadd, 1) := by decide +kernel
theorem dX11_planLine_258 : decode cX11_planLine 258 = .ok (.iconst 5, 1) := by decide +kernel
theorem dX11_planLine_259 : decode cX11_planLine 259 = .ok (.iastore, 1) := by decide +kernel
theorem dX11_planLine_260 : decode cX11_planLine 260 = .ok (.goto 33, 3) := by decide +kernel
theorem dX11_planLine_263 : decode cX11_planLine 263 = .ok (.aload_n 0, 1) := by decide +kernel
theorem dX11_planLine_264 : decode cX11_planLine 264 = .ok (.ldc 201, 2) := by decide +kernel
theorem dX11_planLine_266 : decode cX11_planLine 266 = .ok (.invokevirtual 141, 3) := by decide +kernel
theorem dX11_planLine_269 : decode cX11_planLine 269 = .ok (.ifCond .eq 16, 3) := by decide +kernel
theorem dX11_planLine_272 : decode cX11_planLine 272 = .ok (.aload_n 0, 1) := by decide +kernel
theorem dX11_planLine_273 : decode cX11_planLine 273 = .ok (.getfield 20, 3) := by decide +kernel
theorem dX11_planLine_276 : decode cX11_planLine 276 = .ok (.iload_n 2, 1) := by decide +kernel
theorem dX11_planLine_277 : decode cX11_planLine 277 = .ok (.iconst 4, 1) := by decide +kernel
theorem dX11_planLine_278 : decode cX11_planLine 278 = .ok (.iadd, 1) := by decide +kernel
theorem dX11_planLine_279 : decode cX11_planLine 279 = .ok (.bipush 6, 2) := by decide +kernel
theorem dX11_planLine_281 : decode cX11_planLine 281 = .ok (.iastore, 1) := by decide +kernel
theorem dX11_planLine_282 : decode cX11_planLine 282 = .ok (.goto 11, 3) := by decide +kernel
theorem dX11_planLine_285 : decode cX11_planLine 285 = .ok (.aload_n 0, 1) := by decide +kernel
theorem dX11_planLine_286 : decode cX11_planLine 286 = .ok (.aload_n 0, 1) := by decide +kernel
theorem dX11_planLine_287 : decode cX11_planLine 287 = .ok (.getfield 95, 3) := by decide +kernel
theorem dX11_planLine_290 : decode cX11_planLine 290 = .ok (.invokevirtual 136, 3) := by decide +kernel
theorem dX11_planLine_293 : decode cX11_planLine 293 = .ok (.aload_n 0, 1) := by decide +kernel
theorem dX11_planLine_294 : decode cX11_planLine 294 = .ok (.dup, 1) := by decide +kernel
theorem dX11_planLine_295 : decode cX11_planLine 295 = .ok (.getfield 184, 3) := by decide +kernel
theorem dX11_planLine_298 : decode cX11_planLine 298 = .ok (.iconst 1, 1) := by decide +kernel
theorem dX11_planLine_299 : decode cX11_planLine 299 = .ok (.iadd, 1) := by decide +kernel
theorem dX11_planLine_300 : decode cX11_planLine 300 = .ok (.putfield 184, 3) := by decide +kernel
theorem dX11_planLine_303 : decode cX11_planLine 303 = .ok (.return_, 1) := by decide +kernel
theorem dX11_readsCouncil_0 : decode cX11_readsCouncil 0 = .ok (.aload_n 0, 1) := by decide +kernel
theorem dX11_readsCouncil_1 : decode cX11_readsCouncil 1 = .ok (.iconst 0, 1) := by decide +kernel
theorem dX11_readsCouncil_2 : decode cX11_readsCouncil 2 = .ok (.putfield 95, 3) := by decide +kernel
theorem dX11_readsCouncil_5 : decode cX11_readsCouncil 5 = .ok (.aload_n 0, 1) := by decide +kernel
theorem dX11_readsCouncil_6 : decode cX11_readsCouncil 6 = .ok (.iconst (-1), 1) := by decide +kernel
theorem dX11_readsCouncil_7 : decode cX11_readsCouncil 7 = .ok (.putfield 102, 3) := by decide +kernel
theorem dX11_readsCouncil_10 : decode cX11_readsCouncil 10 = .ok (.aload_n 0, 1) := by decide +kernel
theorem dX11_readsCouncil_11 : decode cX11_readsCouncil 11 = .ok (.iconst 0, 1) := by decide +kernel
theorem dX11_readsCouncil_12 : decode cX11_readsCouncil 12 = .ok (.putfield 158, 3) := by decide +kernel
theorem dX11_readsCouncil_15 : decode cX11_readsCouncil 15 = .ok (.iconst 0, 1) := by decide +kernel
theorem dX11_readsCouncil_16 : decode cX11_readsCouncil 16 = .ok (.istore_n 1, 1) := by decide +kernel
theorem dX11_readsCouncil_17 : decode cX11_readsCouncil 17 = .ok (.iload_n 1, 1) := by decide +kernel
theorem dX11_readsCouncil_18 : decode cX11_readsCouncil 18 = .ok (.bipush 6, 2) := by decide +kernel
theorem dX11_readsCouncil_20 : decode cX11_readsCouncil 20 = .ok (.if_icmp .ge 16, 3) := by decide +kernel
theorem dX11_readsCouncil_23 : decode cX11_readsCouncil 23 = .ok (.aload_n 0, 1) := by decide +kernel
theorem dX11_readsCouncil_24 : decode cX11_readsCouncil 24 = .ok (.getfield 13, 3) := by decide +kernel
theorem dX11_readsCouncil_27 : decode cX11_readsCouncil 27 = .ok (.iload_n 1, 1) := by decide +kernel
theorem dX11_readsCouncil_28 : decode cX11_readsCouncil 28 = .ok (.iconst 0, 1) := by decide +kernel
theorem dX11_readsCouncil_29 : decode cX11_readsCouncil 29 = .ok (.iastore, 1) := by decide +kernel
theorem dX11_readsCouncil_30 : decode cX11_readsCouncil 30 = .ok (.iinc 1 1, 3) := by decide +kernel
theorem dX11_readsCouncil_33 : decode cX11_readsCouncil 33 = .ok (.goto (-16), 3) := by decide +kernel
theorem dX11_readsCouncil_36 : decode cX11_readsCouncil 36 = .ok (.aload_n 0, 1) := by decide +kernel
theorem dX11_readsCouncil_37 : decode cX11_readsCouncil 37 = .ok (.invokevirtual 105, 3) := by decide +kernel
theorem dX11_readsCouncil_40 : decode cX11_readsCouncil 40 = .ok (.istore_n 1, 1) := by decide +kernel
theorem dX11_readsCouncil_41 : decode cX11_readsCouncil 41 = .ok (.aload_n 0, 1) := by decide +kernel
theorem dX11_readsCouncil_42 : decode cX11_readsCouncil 42 = .ok (.aload_n 0, 1) := by decide +kernel
theorem dX11_readsCouncil_43 : decode cX11_readsCouncil 43 = .ok (.ldc 174, 2) := by decide +kernel
theorem dX11_readsCouncil_45 : decode cX11_readsCouncil 45 = .ok (.invokevirtual 141, 3) := by decide +kernel
theorem dX11_readsCouncil_48 : decode cX11_readsCouncil 48 = .ok (.ifCond .eq 7, 3) := by decide +kernel
theorem dX11_readsCouncil_51 : decode cX11_readsCouncil 51 = .ok (.iconst 0, 1) := by decide +kernel
theorem dX11_readsCouncil_52 : decode cX11_readsCouncil 52 = .ok (.goto 17, 3) := by decide +kernel
theorem dX11_readsCouncil_55 : decode cX11_readsCouncil 55 = .ok (.aload_n 0, 1) := by decide +kernel
theorem dX11_readsCouncil_56 : decode cX11_readsCouncil 56 = .ok (.ldc 176, 2) := by decide +kernel
theorem dX11_readsCouncil_58 : decode cX11_readsCouncil 58 = .ok (.invokevirtual 141, 3) := by decide +kernel
theorem dX11_readsCouncil_61 : decode cX11_readsCouncil 61 = .ok (.ifCond .eq 7, 3) := by decide +kernel
theorem dX11_readsCouncil_64 : decode cX11_readsCouncil 64 = .ok (.iconst 1, 1) := by decide +kernel
theorem dX11_readsCouncil_65 : decode cX11_readsCouncil 65 = .ok (.goto 4, 3) := by decide +kernel
theorem dX11_readsCouncil_68 : decode cX11_readsCouncil 68 = .ok (.iconst (-1), 1) := by decide +kernel
theorem dX11_readsCouncil_69 : decode cX11_readsCouncil 69 = .ok (.putfield 178, 3) := by decide +kernel
theorem dX11_readsCouncil_72 : decode cX11_readsCouncil 72 = .ok (.aload_n 0, 1) := by decide +kernel
theorem dX11_readsCouncil_73 : decode cX11_readsCouncil 73 = .ok (.getfield 178, 3) := by decide +kernel
theorem dX11_readsCouncil_76 : decode cX11_readsCouncil 76 = .ok (.iconst (-1), 1) := by decide +kernel
theorem dX11_readsCouncil_77 : decode cX11_readsCouncil 77 = .ok (.if_icmp .ne 11, 3) := by decide +kernel
theorem dX11_readsCouncil_80 : decode cX11_readsCouncil 80 = .ok (.aload_n 0, 1) := by decide +kernel
theorem dX11_readsCouncil_81 : decode cX11_readsCouncil 81 = .ok (.aload_n 0, 1) := by decide +kernel
theorem dX11_readsCouncil_82 : decode cX11_readsCouncil 82 = .ok (.getfield 95, 3) := by decide +kernel
theorem dX11_readsCouncil_85 : decode cX11_readsCouncil 85 = .ok (.invokevirtual 136, 3) := by decide +kernel
theorem dX11_readsCouncil_88 : decode cX11_readsCouncil 88 = .ok (.aload_n 0, 1) := by decide +kernel
theorem dX11_readsCouncil_89 : decode cX11_readsCouncil 89 = .ok (.getfield 102, 3) := by decide +kernel
theorem dX11_readsCouncil_92 : decode cX11_readsCouncil 92 = .ok (.iconst (-1), 1) := by decide +kernel
theorem dX11_readsCouncil_93 : decode cX11_readsCouncil 93 = .ok (.if_icmp .ne 29, 3) := by decide +kernel
theorem dX11_readsCouncil_96 : decode cX11_readsCouncil 96 = .ok (.aload_n 0, 1) := by decide +kernel
theorem dX11_readsCouncil_97 : decode cX11_readsCouncil 97 = .ok (.invokevirtual 105, 3) := by decide +kernel
theorem dX11_readsCouncil_100 : decode cX11_readsCouncil 100 = .ok (.bipush 59, 2) := by decide +kernel
theorem dX11_readsCouncil_102 : decode cX11_readsCouncil 102 = .ok (.if_icmp .ne 20, 3) := by decide +kernel
theorem dX11_readsCouncil_105 : decode cX11_readsCouncil 105 = .ok (.aload_n 0, 1) := by decide +kernel
theorem dX11_readsCouncil_106 : decode cX11_readsCouncil 106 = .ok (.dup, 1) := by decide +kernel
theorem dX11_readsCouncil_107 : decode cX11_readsCouncil 107 = .ok (.getfield 95, 3) := by decide +kernel
theorem dX11_readsCouncil_110 : decode cX11_readsCouncil 110 = .ok (.iconst 1, 1) := by decide +kernel
theorem dX11_readsCouncil_111 : decode cX11_readsCouncil 111 = .ok (.iadd, 1) := by decide +kernel
theorem dX11_readsCouncil_112 : decode cX11_readsCouncil 112 = .ok (.putfield 95, 3) := by decide +kernel
theorem dX11_readsCouncil_115 : decode cX11_readsCouncil 115 = .ok (.aload_n 0, 1) := by decide +kernel
theorem dX11_readsCouncil_116 : decode cX11_readsCouncil 116 = .ok (.invokevirtual 181, 3) := by decide +kernel
theorem dX11_readsCouncil_119 : decode cX11_readsCouncil 119 = .ok (.goto (-31), 3) := by decide +kernel
theorem dX11_readsCouncil_122 : decode cX11_readsCouncil 122 = .ok (.aload_n 0, 1) := by decide +kernel
theorem dX11_readsCouncil_123 : decode cX11_readsCouncil 123 = .ok (.getfield 102, 3) := by decide +kernel
theorem dX11_readsCouncil_126 : decode cX11_readsCouncil 126 = .ok (.iconst (-1), 1) := by decide +kernel
theorem dX11_readsCouncil_127 : decode cX11_readsCouncil 127 = .ok (.if_icmp .ne 30, 3) := by decide +kernel
theorem dX11_readsCouncil_130 : decode cX11_readsCouncil 130 = .ok (.aload_n 0, 1) := by decide +kernel
theorem dX11_readsCouncil_131 : decode cX11_readsCouncil 131 = .ok (.invokevirtual 105, 3) := by decide +kernel
theorem dX11_readsCouncil_134 : decode cX11_readsCouncil 134 = .ok (.iconst (-1), 1) := by decide +kernel
theorem dX11_readsCouncil_135 : decode cX11_readsCouncil 135 = .ok (.if_icmp .ne 14, 3) := by decide +kernel
theorem dX11_readsCouncil_138 : decode cX11_readsCouncil 138 = .ok (.aload_n 0, 1) := by decide +kernel
theorem dX11_readsCouncil_139 : decode cX11_readsCouncil 139 = .ok (.getfield 158, 3) := by decide +kernel
theorem dX11_readsCouncil_142 : decode cX11_readsCouncil 142 = .ok (.iconst 0, 1) := by decide +kernel
theorem dX11_readsCouncil_143 : decode cX11_readsCouncil 143 = .ok (.invokestatic 161, 3) := by decide +kernel
theorem dX11_readsCouncil_146 : decode cX11_readsCouncil 146 = .ok (.ifCond .ne 11, 3) := by decide +kernel
theorem dX11_readsCouncil_149 : decode cX11_readsCouncil 149 = .ok (.aload_n 0, 1) := by decide +kernel
theorem dX11_readsCouncil_150 : decode cX11_readsCouncil 150 = .ok (.aload_n 0, 1) := by decide +kernel
theorem dX11_readsCouncil_151 : decode cX11_readsCouncil 151 = .ok (.getfield 95, 3) := by decide +kernel
theorem dX11_readsCouncil_154 : decode cX11_readsCouncil 154 = .ok (.invokevirtual 136, 3) := by decide +kernel
theorem dX11_readsCouncil_157 : decode cX11_readsCouncil 157 = .ok (.aload_n 0, 1) := by decide +kernel
theorem dX11_readsCouncil_158 : decode cX11_readsCouncil 158 = .ok (.getfield 158, 3) := by decide +kernel
theorem dX11_readsCouncil_161 : decode cX11_readsCouncil 161 = .ok (.iconst 1, 1) := by decide +kernel
theorem dX11_readsCouncil_162 : decode cX11_readsCouncil 162 = .ok (.invokestatic 161, 3) := by decide +kernel
theorem dX11_readsCouncil_165 : decode cX11_readsCouncil 165 = .ok (.ifCond .ne 30, 3) := by decide +kernel
theorem dX11_readsCouncil_168 : decode cX11_readsCouncil 168 = .ok (.aload_n 0, 1) := by decide +kernel
theorem dX11_readsCouncil_169 : decode cX11_readsCouncil 169 = .ok (.getfield 13, 3) := by decide +kernel
theorem dX11_readsCouncil_172 : decode cX11_readsCouncil 172 = .ok (.iconst 1, 1) := by decide +kernel
theorem dX11_readsCouncil_173 : decode cX11_readsCouncil 173 = .ok (.aload_n 0, 1) := by decide +kernel
theorem dX11_readsCouncil_174 : decode cX11_readsCouncil 174 = .ok (.getfield 13, 3) := by decide +kernel
theorem dX11_readsCouncil_177 : decode cX11_readsCouncil 177 = .ok (.iconst 0, 1) := by decide +kernel
theorem dX11_readsCouncil_178 : decode cX11_readsCouncil 178 = .ok (.iaload, 1) := by decide +kernel
theorem dX11_readsCouncil_179 : decode cX11_readsCouncil 179 = .ok (.iconst 1, 1) := by decide +kernel
theorem dX11_readsCouncil_180 : decode cX11_readsCouncil 180 = .ok (.isub, 1) := by decide +kernel
theorem dX11_readsCouncil_181 : decode cX11_readsCouncil 181 = .ok (.aload_n 0, 1) := by decide +kernel
theorem dX11_readsCouncil_182 : decode cX11_readsCouncil 182 = .ok (.getfield 178, 3) := by decide +kernel
theorem dX11_readsCouncil_185 : decode cX11_readsCouncil 185 = .ok (.ifCond .ne 7, 3) := by decide +kernel
theorem dX11_readsCouncil_188 : decode cX11_readsCouncil 188 = .ok (.iconst 3, 1) := by decide +kernel
theorem dX11_readsCouncil_189 : decode cX11_readsCouncil 189 = .ok (.goto 4, 3) := by decide +kernel
theorem dX11_readsCouncil_192 : decode cX11_readsCouncil 192 = .ok (.iconst 4, 1) := by decide +kernel
theorem dX11_readsCouncil_193 : decode cX11_readsCouncil 193 = .ok (.idiv, 1) := by decide +kernel
theorem dX11_readsCouncil_194 : decode cX11_readsCouncil 194 = .ok (.iastore, 1) := by decide +kernel
theorem dX11_readsCouncil_195 : decode cX11_readsCouncil 195 = .ok (.aload_n 0, 1) := by decide +kernel
theorem dX11_readsCouncil_196 : decode cX11_readsCouncil 196 = .ok (.getfield 158, 3) := by decide +kernel
theorem dX11_readsCouncil_199 : decode cX11_readsCouncil 199 = .ok (.iconst 2, 1) := by decide +kernel
theorem dX11_readsCouncil_200 : decode cX11_readsCouncil 200 = .ok (.invokestatic 161, 3) := by decide +kernel
theorem dX11_readsCouncil_203 : decode cX11_readsCouncil 203 = .ok (.ifCond .ne 17, 3) := by decide +kernel
theorem dX11_readsCouncil_206 : decode cX11_readsCouncil 206 = .ok (.aload_n 0, 1) := by decide +kernel
theorem dX11_readsCouncil_207 : decode cX11_readsCouncil 207 = .ok (.getfield 13, 3) := by decide +kernel
theorem dX11_readsCouncil_210 : decode cX11_readsCouncil 210 = .ok (.iconst 2, 1) := by decide +kernel
theorem dX11_readsCouncil_211 : decode cX11_readsCouncil 211 = .ok (.aload_n 0, 1) := by decide +kernel
theorem dX11_readsCouncil_212 : decode cX11_readsCouncil 212 = .ok (.getfield 13, 3) := by decide +kernel
theorem dX11_readsCouncil_215 : decode cX11_readsCouncil 215 = .ok (.iconst 1, 1) := by decide +kernel
theorem dX11_readsCouncil_216 : decode cX11_readsCouncil 216 = .ok (.iaload, 1) := by decide +kernel
theorem dX11_readsCouncil_217 : decode cX11_readsCouncil 217 = .ok (.iconst 1, 1) := by decide +kernel
theorem dX11_readsCouncil_218 : decode cX11_readsCouncil 218 = .ok (.iadd, 1) := by decide +kernel
theorem dX11_readsCouncil_219 : decode cX11_readsCouncil 219 = .ok (.iastore, 1) := by decide +kernel
theorem dX11_readsCouncil_220 : decode cX11_readsCouncil 220 = .ok (.aload_n 0, 1) := by decide +kernel
theorem dX11_readsCouncil_221 : decode cX11_readsCouncil 221 = .ok (.getfield 102, 3) := by decide +kernel
theorem dX11_readsCouncil_224 : decode cX11_readsCouncil 224 = .ok (.ireturn, 1) := by decide +kernel
theorem dX11_readsPlan_0 : decode cX11_readsPlan 0 = .ok (.aload_n 0, 1) := by decide +kernel
theorem dX11_readsPlan_1 : decode cX11_readsPlan 1 = .ok (.iconst 0, 1) := by decide +kernel
theorem dX11_readsPlan_2 : decode cX11_readsPlan 2 = .ok (.putfield 95, 3) := by decide +kernel
theorem dX11_readsPlan_5 : decode cX11_readsPlan 5 = .ok (.aload_n 0, 1) := by decide +kernel
theorem dX11_readsPlan_6 : decode cX11_readsPlan 6 = .ok (.iconst (-1), 1) := by decide +kernel
theorem dX11_readsPlan_7 : decode cX11_readsPlan 7 = .ok (.putfield 102, 3) := by decide +kernel
theorem dX11_readsPlan_10 : decode cX11_readsPlan 10 = .ok (.aload_n 0, 1) := by decide +kernel
theorem dX11_readsPlan_11 : decode cX11_readsPlan 11 = .ok (.iconst 0, 1) := by decide +kernel
theorem dX11_readsPlan_12 : decode cX11_readsPlan 12 = .ok (.putfield 184, 3) := by decide +kernel
theorem dX11_readsPlan_15 : decode cX11_readsPlan 15 = .ok (.aload_n 0, 1) := by decide +kernel
theorem dX11_readsPlan_16 : decode cX11_readsPlan 16 = .ok (.invokevirtual 203, 3) := by decide +kernel
theorem dX11_readsPlan_19 : decode cX11_readsPlan 19 = .ok (.aload_n 0, 1) := by decide +kernel
theorem dX11_readsPlan_20 : decode cX11_readsPlan 20 = .ok (.getfield 102, 3) := by decide +kernel
theorem dX11_readsPlan_23 : decode cX11_readsPlan 23 = .ok (.iconst (-1), 1) := by decide +kernel
theorem dX11_readsPlan_24 : decode cX11_readsPlan 24 = .ok (.if_icmp .ne 29, 3) := by decide +kernel
theorem dX11_readsPlan_27 : decode cX11_readsPlan 27 = .ok (.aload_n 0, 1) := by decide +kernel
theorem dX11_readsPlan_28 : decode cX11_readsPlan 28 = .ok (.invokevirtual 105, 3) := by decide +kernel
theorem dX11_readsPlan_31 : decode cX11_readsPlan 31 = .ok (.bipush 59, 2) := by decide +kernel
theorem dX11_readsPlan_33 : decode cX11_readsPlan 33 = .ok (.if_icmp .ne 20, 3) := by decide +kernel
theorem dX11_readsPlan_36 : decode cX11_readsPlan 36 = .ok (.aload_n 0, 1) := by decide +kernel
theorem dX11_readsPlan_37 : decode cX11_readsPlan 37 = .ok (.dup, 1) := by decide +kernel
theorem dX11_readsPlan_38 : decode cX11_readsPlan 38 = .ok (.getfield 95, 3) := by decide +kernel
theorem dX11_readsPlan_41 : decode cX11_readsPlan 41 = .ok (.iconst 1, 1) := by decide +kernel
theorem dX11_readsPlan_42 : decode cX11_readsPlan 42 = .ok (.iadd, 1) := by decide +kernel
theorem dX11_readsPlan_43 : decode cX11_readsPlan 43 = .ok (.putfield 95, 3) := by decide +kernel
theorem dX11_readsPlan_46 : decode cX11_readsPlan 46 = .ok (.aload_n 0, 1) := by decide +kernel
theorem dX11_readsPlan_47 : decode cX11_readsPlan 47 = .ok (.invokevirtual 203, 3) := by decide +kernel
theorem dX11_readsPlan_50 : decode cX11_readsPlan 50 = .ok (.goto (-31), 3) := by decide +kernel
theorem dX11_readsPlan_53 : decode cX11_readsPlan 53 = .ok (.aload_n 0, 1) := by decide +kernel
theorem dX11_readsPlan_54 : decode cX11_readsPlan 54 = .ok (.getfield 102, 3) := by decide +kernel
theorem dX11_readsPlan_57 : decode cX11_readsPlan 57 = .ok (.iconst (-1), 1) := by decide +kernel
theorem dX11_readsPlan_58 : decode cX11_readsPlan 58 = .ok (.if_icmp .ne 19, 3) := by decide +kernel
theorem dX11_readsPlan_61 : decode cX11_readsPlan 61 = .ok (.aload_n 0, 1) := by decide +kernel
theorem dX11_readsPlan_62 : decode cX11_readsPlan 62 = .ok (.invokevirtual 105, 3) := by decide +kernel
theorem dX11_readsPlan_65 : decode cX11_readsPlan 65 = .ok (.iconst (-1), 1) := by decide +kernel
theorem dX11_readsPlan_66 : decode cX11_readsPlan 66 = .ok (.if_icmp .eq 11, 3) := by decide +kernel
theorem dX11_readsPlan_69 : decode cX11_readsPlan 69 = .ok (.aload_n 0, 1) := by decide +kernel
theorem dX11_readsPlan_70 : decode cX11_readsPlan 70 = .ok (.aload_n 0, 1) := by decide +kernel
theorem dX11_readsPlan_71 : decode cX11_readsPlan 71 = .ok (.getfield 95, 3) := by decide +kernel
theorem dX11_readsPlan_74 : decode cX11_readsPlan 74 = .ok (.invokevirtual 136, 3) := by decide +kernel
theorem dX11_readsPlan_77 : decode cX11_readsPlan 77 = .ok (.aload_n 0, 1) := by decide +kernel
theorem dX11_readsPlan_78 : decode cX11_readsPlan 78 = .ok (.getfield 102, 3) := by decide +kernel
theorem dX11_readsPlan_81 : decode cX11_readsPlan 81 = .ok (.ireturn, 1) := by decide +kernel
theorem dX11_refuse_0 : decode cX11_refuse 0 = .ok (.aload_n 0, 1) := by decide +kernel
theorem dX11_refuse_1 : decode cX11_refuse 1 = .ok (.getfield 71, 3) := by decide +kernel
theorem dX11_refuse_4 : decode cX11_refuse 4 = .ok (.iload_n 1, 1) := by decide +kernel
theorem dX11_refuse_5 : decode cX11_refuse 5 = .ok (.dup2, 1) := by decide +kernel
theorem dX11_refuse_6 : decode cX11_refuse 6 = .ok (.iaload, 1) := by decide +kernel
theorem dX11_refuse_7 : decode cX11_refuse 7 = .ok (.iconst 1, 1) := by decide +kernel
theorem dX11_refuse_8 : decode cX11_refuse 8 = .ok (.iadd, 1) := by decide +kernel
theorem dX11_refuse_9 : decode cX11_refuse 9 = .ok (.iastore, 1) := by decide +kernel
theorem dX11_refuse_10 : decode cX11_refuse 10 = .ok (.iconst (-1), 1) := by decide +kernel
theorem dX11_refuse_11 : decode cX11_refuse 11 = .ok (.ireturn, 1) := by decide +kernel
theorem dX11_round_0 : decode cX11_round 0 = .ok (.aload_n 0, 1) := by decide +kernel
theorem dX11_round_1 : decode cX11_round 1 = .ok (.iconst 0, 1) := by decide +kernel
theorem dX11_round_2 : decode cX11_round 2 = .ok (.putfield 80, 3) := by decide +kernel
theorem dX11_round_5 : decode cX11_round 5 = .ok (.aload_n 0, 1) := by decide +kernel
theorem dX11_round_6 : decode cX11_round 6 = .ok (.getfield 232, 3) := by decide +kernel
theorem dX11_round_9 : decode cX11_round 9 = .ok (.ifCond .eq 17, 3) := by decide +kernel
theorem dX11_round_12 : decode cX11_round 12 = .ok (.aload_n 0, 1) := by decide +kernel
theorem dX11_round_13 : decode cX11_round 13 = .ok (.getfield 57, 3) := by decide +kernel
theorem dX11_round_16 : decode cX11_round 16 = .ok (.bipush 72, 2) := by decide +kernel
theorem dX11_round_18 : decode cX11_round 18 = .ok (.iaload, 1) := by decide +kernel
theorem dX11_round_19 : decode cX11_round 19 = .ok (.aload_n 0, 1) := by decide +kernel
theorem dX11_round_20 : decode cX11_round 20 = .ok (.invokevirtual 335, 3) := by decide +kernel
theorem dX11_round_23 : decode cX11_round 23 = .ok (.if_icmp .ne 5, 3) := by decide +kernel
theorem dX11_round_26 : decode cX11_round 26 = .ok (.iconst (-1), 1) := by decide +kernel
theorem dX11_round_27 : decode cX11_round 27 = .ok (.ireturn, 1) := by decide +kernel
theorem dX11_round_28 : decode cX11_round 28 = .ok (.aload_n 0, 1) := by decide +kernel
theorem dX11_round_29 : decode cX11_round 29 = .ok (.invokevirtual 338, 3) := by decide +kernel
theorem dX11_round_32 : decode cX11_round 32 = .ok (.aload_n 0, 1) := by decide +kernel
theorem dX11_round_33 : decode cX11_round 33 = .ok (.getfield 57, 3) := by decide +kernel
theorem dX11_round_36 : decode cX11_round 36 = .ok (.bipush 72, 2) := by decide +kernel
theorem dX11_round_38 : decode cX11_round 38 = .ok (.iaload, 1) := by decide +kernel
theorem dX11_round_39 : decode cX11_round 39 = .ok (.ireturn, 1) := by decide +kernel
theorem dX11_roundNow_0 : decode cX11_roundNow 0 = .ok (.aload_n 0, 1) := by decide +kernel
theorem dX11_roundNow_1 : decode cX11_roundNow 1 = .ok (.invokevirtual 326, 3) := by decide +kernel
theorem dX11_roundNow_4 : decode cX11_roundNow 4 = .ok (.aload_n 0, 1) := by decide +kernel
theorem dX11_roundNow_5 : decode cX11_roundNow 5 = .ok (.invokevirtual 329, 3) := by decide +kernel
theorem dX11_roundNow_8 : decode cX11_roundNow 8 = .ok (.aload_n 0, 1) := by decide +kernel
theorem dX11_roundNow_9 : decode cX11_roundNow 9 = .ok (.getfield 251, 3) := by decide +kernel
theorem dX11_roundNow_12 : decode cX11_roundNow 12 = .ok (.aload_n 0, 1) := by decide +kernel
theorem dX11_roundNow_13 : decode cX11_roundNow 13 = .ok (.invokevirtual 287, 3) := by decide +kernel
theorem dX11_roundNow_16 : decode cX11_roundNow 16 = .ok (.idiv, 1) := by decide +kernel
theorem dX11_roundNow_17 : decode cX11_roundNow 17 = .ok (.istore_n 1, 1) := by decide +kernel
theorem dX11_roundNow_18 : decode cX11_roundNow 18 = .ok (.aload_n 0, 1) := by decide +kernel
theorem dX11_roundNow_19 : decode cX11_roundNow 19 = .ok (.getfield 251, 3) := by decide +kernel
theorem dX11_roundNow_22 : decode cX11_roundNow 22 = .ok (.aload_n 0, 1) := by decide +kernel
theorem dX11_roundNow_23 : decode cX11_roundNow 23 = .ok (.invokevirtual 287, 3) := by decide +kernel
theorem dX11_roundNow_26 : decode cX11_roundNow 26 = .ok (.irem, 1) := by decide +kernel
theorem dX11_roundNow_27 : decode cX11_roundNow 27 = .ok (.istore_n 2, 1) := by decide +kernel
theorem dX11_roundNow_28 : decode cX11_roundNow 28 = .ok (.aload_n 0, 1) := by decide +kernel
theorem dX11_roundNow_29 : decode cX11_roundNow 29 = .ok (.getfield 254, 3) := by decide +kernel
theorem dX11_roundNow_32 : decode cX11_roundNow 32 = .ok (.istore_n 3, 1) := by decide +kernel
theorem dX11_roundNow_33 : decode cX11_roundNow 33 = .ok (.aload_n 0, 1) := by decide +kernel
theorem dX11_roundNow_34 : decode cX11_roundNow 34 = .ok (.invokevirtual 317, 3) := by decide +kernel
theorem dX11_roundNow_37 : decode cX11_roundNow 37 = .ok (.iconst 0, 1) := by decide +kernel
theorem dX11_roundNow_38 : decode cX11_roundNow 38 = .ok (.istore 4, 2) := by decide +kernel
theorem dX11_roundNow_40 : decode cX11_roundNow 40 = .ok (.iload 4, 2) := by decide +kernel
theorem dX11_roundNow_42 : decode cX11_roundNow 42 = .ok (.bipush 81, 2) := by decide +kernel
theorem dX11_roundNow_44 : decode cX11_roundNow 44 = .ok (.if_icmp .ge 35, 3) := by decide +kernel
theorem dX11_roundNow_47 : decode cX11_roundNow 47 = .ok (.aload_n 0, 1) := by decide +kernel
theorem dX11_roundNow_48 : decode cX11_roundNow 48 = .ok (.getfield 57, 3) := by decide +kernel
theorem dX11_roundNow_51 : decode cX11_roundNow 51 = .ok (.bipush 80, 2) := by decide +kernel
theorem dX11_roundNow_53 : decode cX11_roundNow 53 = .ok (.bipush 81, 2) := by decide +kernel
theorem dX11_roundNow_55 : decode cX11_roundNow 55 = .ok (.iconst 3, 1) := by decide +kernel
theorem dX11_roundNow_56 : decode cX11_roundNow 56 = .ok (.iload_n 1, 1) := by decide +kernel
theorem dX11_roundNow_57 : decode cX11_roundNow 57 = .ok (.imul, 1) := by decide +kernel
theorem dX11_roundNow_58 : decode cX11_roundNow 58 = .ok (.iload_n 2, 1) := by decide +kernel
theorem dX11_roundNow_59 : decode cX11_roundNow 59 = .ok (.iadd, 1) := by decide +kernel
theorem dX11_roundNow_60 : decode cX11_roundNow 60 = .ok (.imul, 1) := by decide +kernel
theorem dX11_roundNow_61 : decode cX11_roundNow 61 = .ok (.iadd, 1) := by decide +kernel
theorem dX11_roundNow_62 : decode cX11_roundNow 62 = .ok (.iload 4, 2) := by decide +kernel
theorem dX11_roundNow_64 : decode cX11_roundNow 64 = .ok (.iadd, 1) := by decide +kernel
theorem dX11_roundNow_65 : decode cX11_roundNow 65 = .ok (.aload_n 0, 1) := by decide +kernel
theorem dX11_roundNow_66 : decode cX11_roundNow 66 = .ok (.getfield 47, 3) := by decide +kernel
theorem dX11_roundNow_69 : decode cX11_roundNow 69 = .ok (.iload 4, 2) := by decide +kernel
theorem dX11_roundNow_71 : decode cX11_roundNow 71 = .ok (.iaload, 1) := by decide +kernel
theorem dX11_roundNow_72 : decode cX11_roundNow 72 = .ok (.iastore, 1) := by decide +kernel
theorem dX11_roundNow_73 : decode cX11_roundNow 73 = .ok (.iinc 4 1, 3) := by decide +kernel
theorem dX11_roundNow_76 : decode cX11_roundNow 76 = .ok (.goto (-36), 3) := by decide +kernel
theorem dX11_roundNow_79 : decode cX11_roundNow 79 = .ok (.aload_n 0, 1) := by decide +kernel
theorem dX11_roundNow_80 : decode cX11_roundNow 80 = .ok (.getfield 57, 3) := by decide +kernel
theorem dX11_roundNow_83 : decode cX11_roundNow 83 = .ok (.sipush 1970, 3) := by decide +kernel
theorem dX11_roundNow_86 : decode cX11_roundNow 86 = .ok (.iload_n 1, 1) := by decide +kernel
theorem dX11_roundNow_87 : decode cX11_roundNow 87 = .ok (.iadd, 1) := by decide +kernel
theorem dX11_roundNow_88 : decode cX11_roundNow 88 = .ok (.iload_n 2, 1) := by decide +kernel
theorem dX11_roundNow_89 : decode cX11_roundNow 89 = .ok (.ifCond .ne 7, 3) := by decide +kernel
theorem dX11_roundNow_92 : decode cX11_roundNow 92 = .ok (.iconst 0, 1) := by decide +kernel
theorem dX11_roundNow_93 : decode cX11_roundNow 93 = .ok (.goto 13, 3) := by decide +kernel
theorem dX11_roundNow_96 : decode cX11_roundNow 96 = .ok (.aload_n 0, 1) := by decide +kernel
theorem dX11_roundNow_97 : decode cX11_roundNow 97 = .ok (.getfield 57, 3) := by decide +kernel
theorem dX11_roundNow_100 : decode cX11_roundNow 100 = .ok (.sipush 1970, 3) := by decide +kernel
theorem dX11_roundNow_103 : decode cX11_roundNow 103 = .ok (.iload_n 1, 1) := by decide +kernel
theorem dX11_roundNow_104 : decode cX11_roundNow 104 = .ok (.iadd, 1) := by decide +kernel
theorem dX11_roundNow_105 : decode cX11_roundNow 105 = .ok (.iaload, 1) := by decide +kernel
theorem dX11_roundNow_106 : decode cX11_roundNow 106 = .ok (.aload_n 0, 1) := by decide +kernel
theorem dX11_roundNow_107 : decode cX11_roundNow 107 = .ok (.getfield 254, 3) := by decide +kernel
theorem dX11_roundNow_110 : decode cX11_roundNow 110 = .ok (.iadd, 1) := by decide +kernel
theorem dX11_roundNow_111 : decode cX11_roundNow 111 = .ok (.iload_n 3, 1) := by decide +kernel
theorem dX11_roundNow_112 : decode cX11_roundNow 112 = .ok (.isub, 1) := by decide +kernel
theorem dX11_roundNow_113 : decode cX11_roundNow 113 = .ok (.iastore, 1) := by decide +kernel
theorem dX11_roundNow_114 : decode cX11_roundNow 114 = .ok (.iload_n 2, 1) := by decide +kernel
theorem dX11_roundNow_115 : decode cX11_roundNow 115 = .ok (.aload_n 0, 1) := by decide +kernel
theorem dX11_roundNow_116 : decode cX11_roundNow 116 = .ok (.invokevirtual 287, 3) := by decide +kernel
theorem dX11_roundNow_119 : decode cX11_roundNow 119 = .ok (.iconst 1, 1) := by decide +kernel
theorem dX11_roundNow_120 : decode cX11_roundNow 120 = .ok (.isub, 1) := by decide +kernel
theorem dX11_roundNow_121 : decode cX11_roundNow 121 = .ok (.if_icmp .ne 195, 3) := by decide +kernel
theorem dX11_roundNow_124 : decode cX11_roundNow 124 = .ok (.iconst 0, 1) := by decide +kernel
theorem dX11_roundNow_125 : decode cX11_roundNow 125 = .ok (.istore 4, 2) := by decide +kernel
theorem dX11_roundNow_127 : decode cX11_roundNow 127 = .ok (.iload 4, 2) := by decide +kernel
theorem dX11_roundNow_129 : decode cX11_roundNow 129 = .ok (.aload_n 0, 1) := by decide +kernel
theorem dX11_roundNow_130 : decode cX11_roundNow 130 = .ok (.getfield 215, 3) := by decide +kernel
theorem dX11_roundNow_133 : decode cX11_roundNow 133 = .ok (.if_icmp .ge 183, 3) := by decide +kernel
theorem dX11_roundNow_136 : decode cX11_roundNow 136 = .ok (.iload_n 1, 1) := by decide +kernel
theorem dX11_roundNow_137 : decode cX11_roundNow 137 = .ok (.iload 4, 2) := by decide +kernel
theorem dX11_roundNow_139 : decode cX11_roundNow 139 = .ok (.invokestatic 332, 3) := by decide +kernel
theorem dX11_roundNow_142 : decode cX11_roundNow 142 = .ok (.istore 5, 2) := by decide +kernel
theorem dX11_roundNow_144 : decode cX11_roundNow 144 = .ok (.aload_n 0, 1) := by decide +kernel
theorem dX11_roundNow_145 : decode cX11_roundNow 145 = .ok (.getfield 57, 3) := by decide +kernel
theorem dX11_roundNow_148 : decode cX11_roundNow 148 = .ok (.iload 5, 2) := by decide +kernel
theorem dX11_roundNow_150 : decode cX11_roundNow 150 = .ok (.aload_n 0, 1) := by decide +kernel
theorem dX11_roundNow_151 : decode cX11_roundNow 151 = .ok (.getfield 26, 3) := by decide +kernel
theorem dX11_roundNow_154 : decode cX11_roundNow 154 = .ok (.iload 4, 2) := by decide +kernel
theorem dX11_roundNow_156 : decode cX11_roundNow 156 = .ok (.iaload, 1) := by decide +kernel
theorem dX11_roundNow_157 : decode cX11_roundNow 157 = .ok (.iastore, 1) := by decide +kernel
theorem dX11_roundNow_158 : decode cX11_roundNow 158 = .ok (.aload_n 0, 1) := by decide +kernel
theorem dX11_roundNow_159 : decode cX11_roundNow 159 = .ok (.getfield 57, 3) := by decide +kernel
theorem dX11_roundNow_162 : decode cX11_roundNow 162 = .ok (.iload 5, 2) := by decide +kernel
theorem dX11_roundNow_164 : decode cX11_roundNow 164 = .ok (.iconst 1, 1) := by decide +kernel
theorem dX11_roundNow_165 : decode cX11_roundNow 165 = .ok (.iadd, 1) := by decide +kernel
theorem dX11_roundNow_166 : decode cX11_roundNow 166 = .ok (.aload_n 0, 1) := by decide +kernel
theorem dX11_roundNow_167 : decode cX11_roundNow 167 = .ok (.getfield 50, 3) := by decide +kernel
theorem dX11_roundNow_170 : decode cX11_roundNow 170 = .ok (.iload 4, 2) := by decide +kernel
theorem dX11_roundNow_172 : decode cX11_roundNow 172 = .ok (.baload, 1) := by decide +kernel
theorem dX11_roundNow_173 : decode cX11_roundNow 173 = .ok (.ifCond .eq 7, 3) := by decide +kernel
theorem dX11_roundNow_176 : decode cX11_roundNow 176 = .ok (.iconst 1, 1) := by decide +kernel
theorem dX11_roundNow_177 : decode cX11_roundNow 177 = .ok (.goto 4, 3) := by decide +kernel
theorem dX11_roundNow_180 : decode cX11_roundNow 180 = .ok (.iconst 0, 1) := by decide +kernel
theorem dX11_roundNow_181 : decode cX11_roundNow 181 = .ok (.iastore, 1) := by decide +kernel
theorem dX11_roundNow_182 : decode cX11_roundNow 182 = .ok (.aload_n 0, 1) := by decide +kernel
theorem dX11_roundNow_183 : decode cX11_roundNow 183 = .ok (.getfield 57, 3) := by decide +kernel
theorem dX11_roundNow_186 : decode cX11_roundNow 186 = .ok (.iload 5, 2) := by decide +kernel
theorem dX11_roundNow_188 : decode cX11_roundNow 188 = .ok (.iconst 2, 1) := by decide +kernel
theorem dX11_roundNow_189 : decode cX11_roundNow 189 = .ok (.iadd, 1) := by decide +kernel
theorem dX11_roundNow_190 : decode cX11_roundNow 190 = .ok (.aload_n 0, 1) := by decide +kernel
theorem dX11_roundNow_191 : decode cX11_roundNow 191 = .ok (.getfield 35, 3) := by decide +kernel
theorem dX11_roundNow_194 : decode cX11_roundNow 194 = .ok (.iload 4, 2) := by decide +kernel
theorem dX11_roundNow_196 : decode cX11_roundNow 196 = .ok (.iaload, 1) := by decide +kernel
theorem dX11_roundNow_197 : decode cX11_roundNow 197 = .ok (.iastore, 1) := by decide +kernel
theorem dX11_roundNow_198 : decode cX11_roundNow 198 = .ok (.aload_n 0, 1) := by decide +kernel
theorem dX11_roundNow_199 : decode cX11_roundNow 199 = .ok (.getfield 57, 3) := by decide +kernel
theorem dX11_roundNow_202 : decode cX11_roundNow 202 = .ok (.iload 5, 2) := by decide +kernel
theorem dX11_roundNow_204 : decode cX11_roundNow 204 = .ok (.iconst 3, 1) := by decide +kernel
theorem dX11_roundNow_205 : decode cX11_roundNow 205 = .ok (.iadd, 1) := by decide +kernel
theorem dX11_roundNow_206 : decode cX11_roundNow 206 = .ok (.aload_n 0, 1) := by decide +kernel
theorem dX11_roundNow_207 : decode cX11_roundNow 207 = .ok (.getfield 38, 3) := by decide +kernel
theorem dX11_roundNow_210 : decode cX11_roundNow 210 = .ok (.iload 4, 2) := by decide +kernel
theorem dX11_roundNow_212 : decode cX11_roundNow 212 = .ok (.iaload, 1) := by decide +kernel
theorem dX11_roundNow_213 : decode cX11_roundNow 213 = .ok (.iastore, 1) := by decide +kernel
theorem dX11_roundNow_214 : decode cX11_roundNow 214 = .ok (.aload_n 0, 1) := by decide +kernel
theorem dX11_roundNow_215 : decode cX11_roundNow 215 = .ok (.getfield 57, 3) := by decide +kernel
theorem dX11_roundNow_218 : decode cX11_roundNow 218 = .ok (.iload 5, 2) := by decide +kernel
theorem dX11_roundNow_220 : decode cX11_roundNow 220 = .ok (.iconst 4, 1) := by decide +kernel
theorem dX11_roundNow_221 : decode cX11_roundNow 221 = .ok (.iadd, 1) := by decide +kernel
theorem dX11_roundNow_222 : decode cX11_roundNow 222 = .ok (.aload_n 0, 1) := by decide +kernel
theorem dX11_roundNow_223 : decode cX11_roundNow 223 = .ok (.getfield 32, 3) := by decide +kernel
theorem dX11_roundNow_226 : decode cX11_roundNow 226 = .ok (.iload 4, 2) := by decide +kernel
theorem dX11_roundNow_228 : decode cX11_roundNow 228 = .ok (.iaload, 1) := by decide +kernel
theorem dX11_roundNow_229 : decode cX11_roundNow 229 = .ok (.iastore, 1) := by decide +kernel
theorem dX11_roundNow_230 : decode cX11_roundNow 230 = .ok (.aload_n 0, 1) := by decide +kernel
theorem dX11_roundNow_231 : decode cX11_roundNow 231 = .ok (.getfield 57, 3) := by decide +kernel
theorem dX11_roundNow_234 : decode cX11_roundNow 234 = .ok (.iload 5, 2) := by decide +kernel
theorem dX11_roundNow_236 : decode cX11_roundNow 236 = .ok (.iconst 5, 1) := by decide +kernel
theorem dX11_roundNow_237 : decode cX11_roundNow 237 = .ok (.iadd, 1) := by decide +kernel
theorem dX11_roundNow_238 : decode cX11_roundNow 238 = .ok (.aload_n 0, 1) := by decide +kernel
theorem dX11_roundNow_239 : decode cX11_roundNow 239 = .ok (.getfield 212, 3) := by decide +kernel
theorem dX11_roundNow_242 : decode cX11_roundNow 242 = .ok (.ifCond .ne 13, 3) := by decide +kernel
theorem dX11_roundNow_245 : decode cX11_roundNow 245 = .ok (.aload_n 0, 1) := by decide +kernel
theorem dX11_roundNow_246 : decode cX11_roundNow 246 = .ok (.getfield 41, 3) := by decide +kernel
theorem dX11_roundNow_249 : decode cX11_roundNow 249 = .ok (.iload 4, 2) := by decide +kernel
theorem dX11_roundNow_251 : decode cX11_roundNow 251 = .ok (.iaload, 1) := by decide +kernel
theorem dX11_roundNow_252 : decode cX11_roundNow 252 = .ok (.goto 4, 3) := by decide +kernel
theorem dX11_roundNow_255 : decode cX11_roundNow 255 = .ok (.iconst (-1), 1) := by decide +kernel
theorem dX11_roundNow_256 : decode cX11_roundNow 256 = .ok (.iastore, 1) := by decide +kernel
theorem dX11_roundNow_257 : decode cX11_roundNow 257 = .ok (.aload_n 0, 1) := by decide +kernel
theorem dX11_roundNow_258 : decode cX11_roundNow 258 = .ok (.getfield 57, 3) := by decide +kernel
theorem dX11_roundNow_261 : decode cX11_roundNow 261 = .ok (.iload 5, 2) := by decide +kernel
theorem dX11_roundNow_263 : decode cX11_roundNow 263 = .ok (.bipush 6, 2) := by decide +kernel
theorem dX11_roundNow_265 : decode cX11_roundNow 265 = .ok (.iadd, 1) := by decide +kernel
theorem dX11_roundNow_266 : decode cX11_roundNow 266 = .ok (.aload_n 0, 1) := by decide +kernel
theorem dX11_roundNow_267 : decode cX11_roundNow 267 = .ok (.getfield 212, 3) := by decide +kernel
theorem dX11_roundNow_270 : decode cX11_roundNow 270 = .ok (.ifCond .ne 13, 3) := by decide +kernel
theorem dX11_roundNow_273 : decode cX11_roundNow 273 = .ok (.aload_n 0, 1) := by decide +kernel
theorem dX11_roundNow_274 : decode cX11_roundNow 274 = .ok (.getfield 44, 3) := by decide +kernel
theorem dX11_roundNow_277 : decode cX11_roundNow 277 = .ok (.iload 4, 2) := by decide +kernel
theorem dX11_roundNow_279 : decode cX11_roundNow 279 = .ok (.iaload, 1) := by decide +kernel
theorem dX11_roundNow_280 : decode cX11_roundNow 280 = .ok (.goto 4, 3) := by decide +kernel
theorem dX11_roundNow_283 : decode cX11_roundNow 283 = .ok (.iconst (-1), 1) := by decide +kernel
theorem dX11_roundNow_284 : decode cX11_roundNow 284 = .ok (.iastore, 1) := by decide +kernel
theorem dX11_roundNow_285 : decode cX11_roundNow 285 = .ok (.aload_n 0, 1) := by decide +kernel
theorem dX11_roundNow_286 : decode cX11_roundNow 286 = .ok (.getfield 57, 3) := by decide +kernel
theorem dX11_roundNow_289 : decode cX11_roundNow 289 = .ok (.iload 5, 2) := by decide +kernel
theorem dX11_roundNow_291 : decode cX11_roundNow 291 = .ok (.bipush 7, 2) := by decide +kernel
theorem dX11_roundNow_293 : decode cX11_roundNow 293 = .ok (.iadd, 1) := by decide +kernel
theorem dX11_roundNow_294 : decode cX11_roundNow 294 = .ok (.aload_n 0, 1) := by decide +kernel
theorem dX11_roundNow_295 : decode cX11_roundNow 295 = .ok (.getfield 54, 3) := by decide +kernel
theorem dX11_roundNow_298 : decode cX11_roundNow 298 = .ok (.iload 4, 2) := by decide +kernel
theorem dX11_roundNow_300 : decode cX11_roundNow 300 = .ok (.baload, 1) := by decide +kernel
theorem dX11_roundNow_301 : decode cX11_roundNow 301 = .ok (.ifCond .eq 7, 3) := by decide +kernel
theorem dX11_roundNow_304 : decode cX11_roundNow 304 = .ok (.iconst 1, 1) := by decide +kernel
theorem dX11_roundNow_305 : decode cX11_roundNow 305 = .ok (.goto 4, 3) := by decide +kernel
theorem dX11_roundNow_308 : decode cX11_roundNow 308 = .ok (.iconst 0, 1) := by decide +kernel
theorem dX11_roundNow_309 : decode cX11_roundNow 309 = .ok (.iastore, 1) := by decide +kernel
theorem dX11_roundNow_310 : decode cX11_roundNow 310 = .ok (.iinc 4 1, 3) := by decide +kernel
theorem dX11_roundNow_313 : decode cX11_roundNow 313 = .ok (.goto (-186), 3) := by decide +kernel
theorem dX11_roundNow_316 : decode cX11_roundNow 316 = .ok (.aload_n 0, 1) := by decide +kernel
theorem dX11_roundNow_317 : decode cX11_roundNow 317 = .ok (.invokevirtual 323, 3) := by decide +kernel
theorem dX11_roundNow_320 : decode cX11_roundNow 320 = .ok (.return_, 1) := by decide +kernel
theorem dX11_rounds_0 : decode cX11_rounds 0 = .ok (.aload_n 0, 1) := by decide +kernel
theorem dX11_rounds_1 : decode cX11_rounds 1 = .ok (.getfield 251, 3) := by decide +kernel
theorem dX11_rounds_4 : decode cX11_rounds 4 = .ok (.aload_n 0, 1) := by decide +kernel
theorem dX11_rounds_5 : decode cX11_rounds 5 = .ok (.invokevirtual 287, 3) := by decide +kernel
theorem dX11_rounds_8 : decode cX11_rounds 8 = .ok (.idiv, 1) := by decide +kernel
theorem dX11_rounds_9 : decode cX11_rounds 9 = .ok (.istore_n 1, 1) := by decide +kernel
theorem dX11_rounds_10 : decode cX11_rounds 10 = .ok (.aload_n 0, 1) := by decide +kernel
theorem dX11_rounds_11 : decode cX11_rounds 11 = .ok (.getfield 251, 3) := by decide +kernel
theorem dX11_rounds_14 : decode cX11_rounds 14 = .ok (.aload_n 0, 1) := by decide +kernel
theorem dX11_rounds_15 : decode cX11_rounds 15 = .ok (.invokevirtual 287, 3) := by decide +kernel
theorem dX11_rounds_18 : decode cX11_rounds 18 = .ok (.irem, 1) := by decide +kernel
theorem dX11_rounds_19 : decode cX11_rounds 19 = .ok (.istore_n 2, 1) := by decide +kernel
theorem dX11_rounds_20 : decode cX11_rounds 20 = .ok (.aload_n 0, 1) := by decide +kernel
theorem dX11_rounds_21 : decode cX11_rounds 21 = .ok (.iload_n 1, 1) := by decide +kernel
theorem dX11_rounds_22 : decode cX11_rounds 22 = .ok (.iload_n 2, 1) := by decide +kernel
theorem dX11_rounds_23 : decode cX11_rounds 23 = .ok (.invokevirtual 301, 3) := by decide +kernel
theorem dX11_rounds_26 : decode cX11_rounds 26 = .ok (.iconst 0, 1) := by decide +kernel
theorem dX11_rounds_27 : decode cX11_rounds 27 = .ok (.istore_n 3, 1) := by decide +kernel
theorem dX11_rounds_28 : decode cX11_rounds 28 = .ok (.iload_n 3, 1) := by decide +kernel
theorem dX11_rounds_29 : decode cX11_rounds 29 = .ok (.aload_n 0, 1) := by decide +kernel
theorem dX11_rounds_30 : decode cX11_rounds 30 = .ok (.getfield 215, 3) := by decide +kernel
theorem dX11_rounds_33 : decode cX11_rounds 33 = .ok (.if_icmp .ge 50, 3) := by decide +kernel
theorem dX11_rounds_36 : decode cX11_rounds 36 = .ok (.iload_n 2, 1) := by decide +kernel
theorem dX11_rounds_37 : decode cX11_rounds 37 = .ok (.ifCond .ne 11, 3) := by decide +kernel
theorem dX11_rounds_40 : decode cX11_rounds 40 = .ok (.aload_n 0, 1) := by decide +kernel
theorem dX11_rounds_41 : decode cX11_rounds 41 = .ok (.iload_n 3, 1) := by decide +kernel
theorem dX11_rounds_42 : decode cX11_rounds 42 = .ok (.invokevirtual 305, 3) := by decide +kernel
theorem dX11_rounds_45 : decode cX11_rounds 45 = .ok (.goto 32, 3) := by decide +kernel
theorem dX11_rounds_48 : decode cX11_rounds 48 = .ok (.iload_n 2, 1) := by decide +kernel
theorem dX11_rounds_49 : decode cX11_rounds 49 = .ok (.aload_n 0, 1) := by decide +kernel
theorem dX11_rounds_50 : decode cX11_rounds 50 = .ok (.invokevirtual 287, 3) := by decide +kernel
theorem dX11_rounds_53 : decode cX11_rounds 53 = .ok (.iconst 1, 1) := by decide +kernel
theorem dX11_rounds_54 : decode cX11_rounds 54 = .ok (.isub, 1) := by decide +kernel
theorem dX11_rounds_55 : decode cX11_rounds 55 = .ok (.if_icmp .ne 17, 3) := by decide +kernel
theorem dX11_rounds_58 : decode cX11_rounds 58 = .ok (.aload_n 0, 1) := by decide +kernel
theorem dX11_rounds_59 : decode cX11_rounds 59 = .ok (.iload_n 3, 1) := by decide +kernel
theorem dX11_rounds_60 : decode cX11_rounds 60 = .ok (.iload_n 1, 1) := by decide +kernel
theorem dX11_rounds_61 : decode cX11_rounds 61 = .ok (.aload_n 0, 1) := by decide +kernel
theorem dX11_rounds_62 : decode cX11_rounds 62 = .ok (.getfield 215, 3) := by decide +kernel
theorem dX11_rounds_65 : decode cX11_rounds 65 = .ok (.irem, 1) := by decide +kernel
theorem dX11_rounds_66 : decode cX11_rounds 66 = .ok (.invokevirtual 308, 3) := by decide +kernel
theorem dX11_rounds_69 : decode cX11_rounds 69 = .ok (.goto 8, 3) := by decide +kernel
theorem dX11_rounds_72 : decode cX11_rounds 72 = .ok (.aload_n 0, 1) := by decide +kernel
theorem dX11_rounds_73 : decode cX11_rounds 73 = .ok (.iload_n 3, 1) := by decide +kernel
theorem dX11_rounds_74 : decode cX11_rounds 74 = .ok (.invokevirtual 311, 3) := by decide +kernel
theorem dX11_rounds_77 : decode cX11_rounds 77 = .ok (.iinc 3 1, 3) := by decide +kernel
theorem dX11_rounds_80 : decode cX11_rounds 80 = .ok (.goto (-52), 3) := by decide +kernel
theorem dX11_rounds_83 : decode cX11_rounds 83 = .ok (.aload_n 0, 1) := by decide +kernel
theorem dX11_rounds_84 : decode cX11_rounds 84 = .ok (.dup, 1) := by decide +kernel
theorem dX11_rounds_85 : decode cX11_rounds 85 = .ok (.getfield 251, 3) := by decide +kernel
theorem dX11_rounds_88 : decode cX11_rounds 88 = .ok (.iconst 1, 1) := by decide +kernel
theorem dX11_rounds_89 : decode cX11_rounds 89 = .ok (.iadd, 1) := by decide +kernel
theorem dX11_rounds_90 : decode cX11_rounds 90 = .ok (.putfield 251, 3) := by decide +kernel
theorem dX11_rounds_93 : decode cX11_rounds 93 = .ok (.return_, 1) := by decide +kernel
theorem dX11_rule_0 : decode cX11_rule 0 = .ok (.aload_n 0, 1) := by decide +kernel
theorem dX11_rule_1 : decode cX11_rule 1 = .ok (.iconst 0, 1) := by decide +kernel
theorem dX11_rule_2 : decode cX11_rule 2 = .ok (.putfield 80, 3) := by decide +kernel
theorem dX11_rule_5 : decode cX11_rule 5 = .ok (.iload_n 1, 1) := by decide +kernel
theorem dX11_rule_6 : decode cX11_rule 6 = .ok (.bipush 10, 2) := by decide +kernel
theorem dX11_rule_8 : decode cX11_rule 8 = .ok (.if_icmp .ne 8, 3) := by decide +kernel
theorem dX11_rule_11 : decode cX11_rule 11 = .ok (.aload_n 0, 1) := by decide +kernel
theorem dX11_rule_12 : decode cX11_rule 12 = .ok (.getfield 248, 3) := by decide +kernel
theorem dX11_rule_15 : decode cX11_rule 15 = .ok (.ireturn, 1) := by decide +kernel
theorem dX11_rule_16 : decode cX11_rule 16 = .ok (.aload_n 0, 1) := by decide +kernel
theorem dX11_rule_17 : decode cX11_rule 17 = .ok (.getfield 232, 3) := by decide +kernel
theorem dX11_rule_20 : decode cX11_rule 20 = .ok (.ifCond .ne 7, 3) := by decide +kernel
theorem dX11_rule_23 : decode cX11_rule 23 = .ok (.ldc_w 357, 3) := by decide +kernel
theorem dX11_rule_26 : decode cX11_rule 26 = .ok (.ireturn, 1) := by decide +kernel
theorem dX11_rule_27 : decode cX11_rule 27 = .ok (.aload_n 0, 1) := by decide +kernel
theorem dX11_rule_28 : decode cX11_rule 28 = .ok (.invokevirtual 329, 3) := by decide +kernel
theorem dX11_rule_31 : decode cX11_rule 31 = .ok (.iload_n 1, 1) := by decide +kernel
theorem dX11_rule_32 : decode cX11_rule 32 = .ok (.tableswitch 129 0 11 #[64, 69, 74, 79, 84, 89, 94, 99, 109, 119, 129, 124], 64) := by decide +kernel
theorem dX11_rule_96 : decode cX11_rule 96 = .ok (.aload_n 0, 1) := by decide +kernel
theorem dX11_rule_97 : decode cX11_rule 97 = .ok (.getfield 212, 3) := by decide +kernel
theorem dX11_rule_100 : decode cX11_rule 100 = .ok (.ireturn, 1) := by decide +kernel
theorem dX11_rule_101 : decode cX11_rule 101 = .ok (.aload_n 0, 1) := by decide +kernel
theorem dX11_rule_102 : decode cX11_rule 102 = .ok (.getfield 215, 3) := by decide +kernel
theorem dX11_rule_105 : decode cX11_rule 105 = .ok (.ireturn, 1) := by decide +kernel
theorem dX11_rule_106 : decode cX11_rule 106 = .ok (.aload_n 0, 1) := by decide +kernel
theorem dX11_rule_107 : decode cX11_rule 107 = .ok (.getfield 218, 3) := by decide +kernel
theorem dX11_rule_110 : decode cX11_rule 110 = .ok (.ireturn, 1) := by decide +kernel
theorem dX11_rule_111 : decode cX11_rule 111 = .ok (.aload_n 0, 1) := by decide +kernel
theorem dX11_rule_112 : decode cX11_rule 112 = .ok (.getfield 220, 3) := by decide +kernel
theorem dX11_rule_115 : decode cX11_rule 115 = .ok (.ireturn, 1) := by decide +kernel
theorem dX11_rule_116 : decode cX11_rule 116 = .ok (.aload_n 0, 1) := by decide +kernel
theorem dX11_rule_117 : decode cX11_rule 117 = .ok (.getfield 224, 3) := by decide +kernel
theorem dX11_rule_120 : decode cX11_rule 120 = .ok (.ireturn, 1) := by decide +kernel
theorem dX11_rule_121 : decode cX11_rule 121 = .ok (.aload_n 0, 1) := by decide +kernel
theorem dX11_rule_122 : decode cX11_rule 122 = .ok (.getfield 226, 3) := by decide +kernel
theorem dX11_rule_125 : decode cX11_rule 125 = .ok (.ireturn, 1) := by decide +kernel
theorem dX11_rule_126 : decode cX11_rule 126 = .ok (.aload_n 0, 1) := by decide +kernel
theorem dX11_rule_127 : decode cX11_rule 127 = .ok (.getfield 222, 3) := by decide +kernel
theorem dX11_rule_130 : decode cX11_rule 130 = .ok (.ireturn, 1) := by decide +kernel
theorem dX11_rule_131 : decode cX11_rule 131 = .ok (.aload_n 0, 1) := by decide +kernel
theorem dX11_rule_132 : decode cX11_rule 132 = .ok (.getfield 251, 3) := by decide +kernel
theorem dX11_rule_135 : decode cX11_rule 135 = .ok (.aload_n 0, 1) := by decide +kernel
theorem dX11_rule_136 : decode cX11_rule 136 = .ok (.invokevirtual 287, 3) := by decide +kernel
theorem dX11_rule_139 : decode cX11_rule 139 = .ok (.idiv, 1) := by decide +kernel
theorem dX11_rule_140 : decode cX11_rule 140 = .ok (.ireturn, 1) := by decide +kernel
theorem dX11_rule_141 : decode cX11_rule 141 = .ok (.aload_n 0, 1) := by decide +kernel
theorem dX11_rule_142 : decode cX11_rule 142 = .ok (.getfield 251, 3) := by decide +kernel
theorem dX11_rule_145 : decode cX11_rule 145 = .ok (.aload_n 0, 1) := by decide +kernel
theorem dX11_rule_146 : decode cX11_rule 146 = .ok (.invokevirtual 287, 3) := by decide +kernel
theorem dX11_rule_149 : decode cX11_rule 149 = .ok (.irem, 1) := by decide +kernel
theorem dX11_rule_150 : decode cX11_rule 150 = .ok (.ireturn, 1) := by decide +kernel
theorem dX11_rule_151 : decode cX11_rule 151 = .ok (.aload_n 0, 1) := by decide +kernel
theorem dX11_rule_152 : decode cX11_rule 152 = .ok (.invokevirtual 287, 3) := by decide +kernel
theorem dX11_rule_155 : decode cX11_rule 155 = .ok (.ireturn, 1) := by decide +kernel
theorem dX11_rule_156 : decode cX11_rule 156 = .ok (.aload_n 0, 1) := by decide +kernel
theorem dX11_rule_157 : decode cX11_rule 157 = .ok (.getfield 236, 3) := by decide +kernel
theorem dX11_rule_160 : decode cX11_rule 160 = .ok (.ireturn, 1) := by decide +kernel
theorem dX11_rule_161 : decode cX11_rule 161 = .ok (.ldc_w 357, 3) := by decide +kernel
theorem dX11_rule_164 : decode cX11_rule 164 = .ok (.ireturn, 1) := by decide +kernel
theorem dX11_ruled_0 : decode cX11_ruled 0 = .ok (.aload_n 0, 1) := by decide +kernel
theorem dX11_ruled_1 : decode cX11_ruled 1 = .ok (.iconst 0, 1) := by decide +kernel
theorem dX11_ruled_2 : decode cX11_ruled 2 = .ok (.putfield 80, 3) := by decide +kernel
theorem dX11_ruled_5 : decode cX11_ruled 5 = .ok (.aload_n 0, 1) := by decide +kernel
theorem dX11_ruled_6 : decode cX11_ruled 6 = .ok (.iload_n 1, 1) := by decide +kernel
theorem dX11_ruled_7 : decode cX11_ruled 7 = .ok (.invokevirtual 347, 3) := by decide +kernel
theorem dX11_ruled_10 : decode cX11_ruled 10 = .ok (.ifCond .eq 15, 3) := by decide +kernel
theorem dX11_ruled_13 : decode cX11_ruled 13 = .ok (.iload_n 2, 1) := by decide +kernel
theorem dX11_ruled_14 : decode cX11_ruled 14 = .ok (.i2l, 1) := by decide +kernel
theorem dX11_ruled_15 : decode cX11_ruled 15 = .ok (.lconst 0, 1) := by decide +kernel
theorem dX11_ruled_16 : decode cX11_ruled 16 = .ok (.ldc2_w 267, 3) := by decide +kernel
theorem dX11_ruled_19 : decode cX11_ruled 19 = .ok (.invokestatic 132, 3) := by decide +kernel
theorem dX11_ruled_22 : decode cX11_ruled 22 = .ok (.ifCond .ne 5, 3) := by decide +kernel
theorem dX11_ruled_25 : decode cX11_ruled 25 = .ok (.iconst (-1), 1) := by decide +kernel
theorem dX11_ruled_26 : decode cX11_ruled 26 = .ok (.ireturn, 1) := by decide +kernel
theorem dX11_ruled_27 : decode cX11_ruled 27 = .ok (.iconst 0, 1) := by decide +kernel
theorem dX11_ruled_28 : decode cX11_ruled 28 = .ok (.istore_n 3, 1) := by decide +kernel
theorem dX11_ruled_29 : decode cX11_ruled 29 = .ok (.iconst 0, 1) := by decide +kernel
theorem dX11_ruled_30 : decode cX11_ruled 30 = .ok (.istore 4, 2) := by decide +kernel
theorem dX11_ruled_32 : decode cX11_ruled 32 = .ok (.iload 4, 2) := by decide +kernel
theorem dX11_ruled_34 : decode cX11_ruled 34 = .ok (.aload_n 0, 1) := by decide +kernel
theorem dX11_ruled_35 : decode cX11_ruled 35 = .ok (.invokevirtual 358, 3) := by decide +kernel
theorem dX11_ruled_38 : decode cX11_ruled 38 = .ok (.if_icmp .ge 185, 3) := by decide +kernel
theorem dX11_ruled_41 : decode cX11_ruled 41 = .ok (.iload 4, 2) := by decide +kernel
theorem dX11_ruled_43 : decode cX11_ruled 43 = .ok (.aload_n 0, 1) := by decide +kernel
theorem dX11_ruled_44 : decode cX11_ruled 44 = .ok (.getfield 215, 3) := by decide +kernel
theorem dX11_ruled_47 : decode cX11_ruled 47 = .ok (.irem, 1) := by decide +kernel
theorem dX11_ruled_48 : decode cX11_ruled 48 = .ok (.iload_n 1, 1) := by decide +kernel
theorem dX11_ruled_49 : decode cX11_ruled 49 = .ok (.if_icmp .eq 6, 3) := by decide +kernel
theorem dX11_ruled_52 : decode cX11_ruled 52 = .ok (.goto 165, 3) := by decide +kernel
theorem dX11_ruled_55 : decode cX11_ruled 55 = .ok (.iload_n 2, 1) := by decide +kernel
theorem dX11_ruled_56 : decode cX11_ruled 56 = .ok (.ifCond .ne 6, 3) := by decide +kernel
theorem dX11_ruled_59 : decode cX11_ruled 59 = .ok (.iinc 3 1, 3) := by decide +kernel
theorem dX11_ruled_62 : decode cX11_ruled 62 = .ok (.iload_n 2, 1) := by decide +kernel
theorem dX11_ruled_63 : decode cX11_ruled 63 = .ok (.iconst 1, 1) := by decide +kernel
theorem dX11_ruled_64 : decode cX11_ruled 64 = .ok (.if_icmp .ne 15, 3) := by decide +kernel
theorem dX11_ruled_67 : decode cX11_ruled 67 = .ok (.iload_n 3, 1) := by decide +kernel
theorem dX11_ruled_68 : decode cX11_ruled 68 = .ok (.aload_n 0, 1) := by decide +kernel
theorem dX11_ruled_69 : decode cX11_ruled 69 = .ok (.iload 4, 2) := by decide +kernel
theorem dX11_ruled_71 : decode cX11_ruled 71 = .ok (.bipush 7, 2) := by decide +kernel
theorem dX11_ruled_73 : decode cX11_ruled 73 = .ok (.iconst 1, 1) := by decide +kernel
theorem dX11_ruled_74 : decode cX11_ruled 74 = .ok (.invokevirtual 439, 3) := by decide +kernel
theorem dX11_ruled_77 : decode cX11_ruled 77 = .ok (.iadd, 1) := by decide +kernel
theorem dX11_ruled_78 : decode cX11_ruled 78 = .ok (.istore_n 3, 1) := by decide +kernel
theorem dX11_ruled_79 : decode cX11_ruled 79 = .ok (.iconst 0, 1) := by decide +kernel
theorem dX11_ruled_80 : decode cX11_ruled 80 = .ok (.istore 5, 2) := by decide +kernel
theorem dX11_ruled_82 : decode cX11_ruled 82 = .ok (.iload 5, 2) := by decide +kernel
theorem dX11_ruled_84 : decode cX11_ruled 84 = .ok (.aload_n 0, 1) := by decide +kernel
theorem dX11_ruled_85 : decode cX11_ruled 85 = .ok (.getfield 215, 3) := by decide +kernel
theorem dX11_ruled_88 : decode cX11_ruled 88 = .ok (.if_icmp .ge 129, 3) := by decide +kernel
theorem dX11_ruled_91 : decode cX11_ruled 91 = .ok (.iload_n 2, 1) := by decide +kernel
theorem dX11_ruled_92 : decode cX11_ruled 92 = .ok (.iconst 1, 1) := by decide +kernel
theorem dX11_ruled_93 : decode cX11_ruled 93 = .ok (.if_icmp .le 124, 3) := by decide +kernel
theorem dX11_ruled_96 : decode cX11_ruled 96 = .ok (.aload_n 0, 1) := by decide +kernel
theorem dX11_ruled_97 : decode cX11_ruled 97 = .ok (.getfield 57, 3) := by decide +kernel
theorem dX11_ruled_100 : decode cX11_ruled 100 = .ok (.bipush 80, 2) := by decide +kernel
theorem dX11_ruled_102 : decode cX11_ruled 102 = .ok (.bipush 81, 2) := by decide +kernel
theorem dX11_ruled_104 : decode cX11_ruled 104 = .ok (.iconst 3, 1) := by decide +kernel
theorem dX11_ruled_105 : decode cX11_ruled 105 = .ok (.iload 4, 2) := by decide +kernel
theorem dX11_ruled_107 : decode cX11_ruled 107 = .ok (.imul, 1) := by decide +kernel
theorem dX11_ruled_108 : decode cX11_ruled 108 = .ok (.aload_n 0, 1) := by decide +kernel
theorem dX11_ruled_109 : decode cX11_ruled 109 = .ok (.invokevirtual 287, 3) := by decide +kernel
theorem dX11_ruled_112 : decode cX11_ruled 112 = .ok (.iadd, 1) := by decide +kernel
theorem dX11_ruled_113 : decode cX11_ruled 113 = .ok (.iconst 1, 1) := by decide +kernel
theorem dX11_ruled_114 : decode cX11_ruled 114 = .ok (.isub, 1) := by decide +kernel
theorem dX11_ruled_115 : decode cX11_ruled 115 = .ok (.imul, 1) := by decide +kernel
theorem dX11_ruled_116 : decode cX11_ruled 116 = .ok (.iadd, 1) := by decide +kernel
theorem dX11_ruled_117 : decode cX11_ruled 117 = .ok (.bipush 9, 2) := by decide +kernel
theorem dX11_ruled_119 : decode cX11_ruled 119 = .ok (.iload_n 1, 1) := by decide +kernel
theorem dX11_ruled_120 : decode cX11_ruled 120 = .ok (.imul, 1) := by decide +kernel
theorem dX11_ruled_121 : decode cX11_ruled 121 = .ok (.iadd, 1) := by decide +kernel
theorem dX11_ruled_122 : decode cX11_ruled 122 = .ok (.iload 5, 2) := by decide +kernel
theorem dX11_ruled_124 : decode cX11_ruled 124 = .ok (.iadd, 1) := by decide +kernel
theorem dX11_ruled_125 : decode cX11_ruled 125 = .ok (.iaload, 1) := by decide +kernel
theorem dX11_ruled_126 : decode cX11_ruled 126 = .ok (.istore 6, 2) := by decide +kernel
theorem dX11_ruled_128 : decode cX11_ruled 128 = .ok (.iload 5, 2) := by decide +kernel
theorem dX11_ruled_130 : decode cX11_ruled 130 = .ok (.iload_n 1, 1) := by decide +kernel
theorem dX11_ruled_131 : decode cX11_ruled 131 = .ok (.if_icmp .ne 6, 3) := by decide +kernel
theorem dX11_ruled_134 : decode cX11_ruled 134 = .ok (.goto 77, 3) := by decide +kernel
theorem dX11_ruled_137 : decode cX11_ruled 137 = .ok (.iload_n 2, 1) := by decide +kernel
theorem dX11_ruled_138 : decode cX11_ruled 138 = .ok (.iconst 3, 1) := by decide +kernel
theorem dX11_ruled_139 : decode cX11_ruled 139 = .ok (.if_icmp .ne 17, 3) := by decide +kernel
theorem dX11_ruled_142 : decode cX11_ruled 142 = .ok (.iload 6, 2) := by decide +kernel
theorem dX11_ruled_144 : decode cX11_ruled 144 = .ok (.iconst 2, 1) := by decide +kernel
theorem dX11_ruled_145 : decode cX11_ruled 145 = .ok (.if_icmp .eq 7, 3) := by decide +kernel
theorem dX11_ruled_148 : decode cX11_ruled 148 = .ok (.iconst 1, 1) := by decide +kernel
theorem dX11_ruled_149 : decode cX11_ruled 149 = .ok (.goto 47, 3) := by decide +kernel
theorem dX11_ruled_152 : decode cX11_ruled 152 = .ok (.iconst 0, 1) := by decide +kernel
theorem dX11_ruled_153 : decode cX11_ruled 153 = .ok (.goto 43, 3) := by decide +kernel
theorem dX11_ruled_156 : decode cX11_ruled 156 = .ok (.aload_n 0, 1) := by decide +kernel
theorem dX11_ruled_157 : decode cX11_ruled 157 = .ok (.getfield 57, 3) := by decide +kernel
theorem dX11_ruled_160 : decode cX11_ruled 160 = .ok (.iload 4, 2) := by decide +kernel
theorem dX11_ruled_162 : decode cX11_ruled 162 = .ok (.iload 5, 2) := by decide +kernel
theorem dX11_ruled_164 : decode cX11_ruled 164 = .ok (.invokestatic 332, 3) := by decide +kernel
theorem dX11_ruled_167 : decode cX11_ruled 167 = .ok (.iconst 1, 1) := by decide +kernel
theorem dX11_ruled_168 : decode cX11_ruled 168 = .ok (.iadd, 1) := by decide +kernel
theorem dX11_ruled_169 : decode cX11_ruled 169 = .ok (.iaload, 1) := by decide +kernel
theorem dX11_ruled_170 : decode cX11_ruled 170 = .ok (.iconst 1, 1) := by decide +kernel
theorem dX11_ruled_171 : decode cX11_ruled 171 = .ok (.if_icmp .ne 24, 3) := by decide +kernel
theorem dX11_ruled_174 : decode cX11_ruled 174 = .ok (.iload 6, 2) := by decide +kernel
theorem dX11_ruled_176 : decode cX11_ruled 176 = .ok (.aload_n 0, 1) := by decide +kernel
theorem dX11_ruled_177 : decode cX11_ruled 177 = .ok (.getfield 57, 3) := by decide +kernel
theorem dX11_ruled_180 : decode cX11_ruled 180 = .ok (.iload 4, 2) := by decide +kernel
theorem dX11_ruled_182 : decode cX11_ruled 182 = .ok (.iload 5, 2) := by decide +kernel
theorem dX11_ruled_184 : decode cX11_ruled 184 = .ok (.invokestatic 332, 3) := by decide +kernel
theorem dX11_ruled_187 : decode cX11_ruled 187 = .ok (.iaload, 1) := by decide +kernel
theorem dX11_ruled_188 : decode cX11_ruled 188 = .ok (.if_icmp .eq 7, 3) := by decide +kernel
theorem dX11_ruled_191 : decode cX11_ruled 191 = .ok (.iconst 1, 1) := by decide +kernel
theorem dX11_ruled_192 : decode cX11_ruled 192 = .ok (.goto 4, 3) := by decide +kernel
theorem dX11_ruled_195 : decode cX11_ruled 195 = .ok (.iconst 0, 1) := by decide +kernel
theorem dX11_ruled_196 : decode cX11_ruled 196 = .ok (.istore 7, 2) := by decide +kernel
theorem dX11_ruled_198 : decode cX11_ruled 198 = .ok (.iload_n 3, 1) := by decide +kernel
theorem dX11_ruled_199 : decode cX11_ruled 199 = .ok (.iload 7, 2) := by decide +kernel
theorem dX11_ruled_201 : decode cX11_ruled 201 = .ok (.ifCond .eq 7, 3) := by decide +kernel
theorem dX11_ruled_204 : decode cX11_ruled 204 = .ok (.iconst 1, 1) := by decide +kernel
theorem dX11_ruled_205 : decode cX11_ruled 205 = .ok (.goto 4, 3) := by decide +kernel
theorem dX11_ruled_208 : decode cX11_ruled 208 = .ok (.iconst 0, 1) := by decide +kernel
theorem dX11_ruled_209 : decode cX11_ruled 209 = .ok (.iadd, 1) := by decide +kernel
theorem dX11_ruled_210 : decode cX11_ruled 210 = .ok (.istore_n 3, 1) := by decide +kernel
theorem dX11_ruled_211 : decode cX11_ruled 211 = .ok (.iinc 5 1, 3) := by decide +kernel
theorem dX11_ruled_214 : decode cX11_ruled 214 = .ok (.goto (-132), 3) := by decide +kernel
theorem dX11_ruled_217 : decode cX11_ruled 217 = .ok (.iinc 4 1, 3) := by decide +kernel
theorem dX11_ruled_220 : decode cX11_ruled 220 = .ok (.goto (-188), 3) := by decide +kernel
theorem dX11_ruled_223 : decode cX11_ruled 223 = .ok (.iload_n 3, 1) := by decide +kernel
theorem dX11_ruled_224 : decode cX11_ruled 224 = .ok (.ireturn, 1) := by decide +kernel
theorem dX11_run_0 : decode cX11_run 0 = .ok (.aload_n 0, 1) := by decide +kernel
theorem dX11_run_1 : decode cX11_run 1 = .ok (.iconst 0, 1) := by decide +kernel
theorem dX11_run_2 : decode cX11_run 2 = .ok (.putfield 80, 3) := by decide +kernel
theorem dX11_run_5 : decode cX11_run 5 = .ok (.aload_n 0, 1) := by decide +kernel
theorem dX11_run_6 : decode cX11_run 6 = .ok (.getfield 232, 3) := by decide +kernel
theorem dX11_run_9 : decode cX11_run 9 = .ok (.ifCond .eq 17, 3) := by decide +kernel
theorem dX11_run_12 : decode cX11_run 12 = .ok (.aload_n 0, 1) := by decide +kernel
theorem dX11_run_13 : decode cX11_run 13 = .ok (.getfield 57, 3) := by decide +kernel
theorem dX11_run_16 : decode cX11_run 16 = .ok (.bipush 72, 2) := by decide +kernel
theorem dX11_run_18 : decode cX11_run 18 = .ok (.iaload, 1) := by decide +kernel
theorem dX11_run_19 : decode cX11_run 19 = .ok (.aload_n 0, 1) := by decide +kernel
theorem dX11_run_20 : decode cX11_run 20 = .ok (.invokevirtual 335, 3) := by decide +kernel
theorem dX11_run_23 : decode cX11_run 23 = .ok (.if_icmp .ne 5, 3) := by decide +kernel
theorem dX11_run_26 : decode cX11_run 26 = .ok (.iconst (-1), 1) := by decide +kernel
theorem dX11_run_27 : decode cX11_run 27 = .ok (.ireturn, 1) := by decide +kernel
theorem dX11_run_28 : decode cX11_run 28 = .ok (.aload_n 0, 1) := by decide +kernel
theorem dX11_run_29 : decode cX11_run 29 = .ok (.invokevirtual 335, 3) := by decide +kernel
theorem dX11_run_32 : decode cX11_run 32 = .ok (.aload_n 0, 1) := by decide +kernel
theorem dX11_run_33 : decode cX11_run 33 = .ok (.getfield 57, 3) := by decide +kernel
theorem dX11_run_36 : decode cX11_run 36 = .ok (.bipush 72, 2) := by decide +kernel
theorem dX11_run_38 : decode cX11_run 38 = .ok (.iaload, 1) := by decide +kernel
theorem dX11_run_39 : decode cX11_run 39 = .ok (.isub, 1) := by decide +kernel
theorem dX11_run_40 : decode cX11_run 40 = .ok (.istore_n 1, 1) := by decide +kernel
theorem dX11_run_41 : decode cX11_run 41 = .ok (.iconst 0, 1) := by decide +kernel
theorem dX11_run_42 : decode cX11_run 42 = .ok (.istore_n 2, 1) := by decide +kernel
theorem dX11_run_43 : decode cX11_run 43 = .ok (.iload_n 2, 1) := by decide +kernel
theorem dX11_run_44 : decode cX11_run 44 = .ok (.iload_n 1, 1) := by decide +kernel
theorem dX11_run_45 : decode cX11_run 45 = .ok (.if_icmp .ge 13, 3) := by decide +kernel
theorem dX11_run_48 : decode cX11_run 48 = .ok (.aload_n 0, 1) := by decide +kernel
theorem dX11_run_49 : decode cX11_run 49 = .ok (.invokevirtual 338, 3) := by decide +kernel
theorem dX11_run_52 : decode cX11_run 52 = .ok (.iinc 2 1, 3) := by decide +kernel
theorem dX11_run_55 : decode cX11_run 55 = .ok (.goto (-12), 3) := by decide +kernel
theorem dX11_run_58 : decode cX11_run 58 = .ok (.iload_n 1, 1) := by decide +kernel
theorem dX11_run_59 : decode cX11_run 59 = .ok (.ireturn, 1) := by decide +kernel
theorem dX11_runsWhole_0 : decode cX11_runsWhole 0 = .ok (.aload_n 0, 1) := by decide +kernel
theorem dX11_runsWhole_1 : decode cX11_runsWhole 1 = .ok (.iload_n 1, 1) := by decide +kernel
theorem dX11_runsWhole_2 : decode cX11_runsWhole 2 = .ok (.putfield 277, 3) := by decide +kernel
theorem dX11_runsWhole_5 : decode cX11_runsWhole 5 = .ok (.aload_n 0, 1) := by decide +kernel
theorem dX11_runsWhole_6 : decode cX11_runsWhole 6 = .ok (.iload_n 2, 1) := by decide +kernel
theorem dX11_runsWhole_7 : decode cX11_runsWhole 7 = .ok (.putfield 284, 3) := by decide +kernel
theorem dX11_runsWhole_10 : decode cX11_runsWhole 10 = .ok (.aload_n 0, 1) := by decide +kernel
theorem dX11_runsWhole_11 : decode cX11_runsWhole 11 = .ok (.invokevirtual 314, 3) := by decide +kernel
theorem dX11_runsWhole_14 : decode cX11_runsWhole 14 = .ok (.aload_n 0, 1) := by decide +kernel
theorem dX11_runsWhole_15 : decode cX11_runsWhole 15 = .ok (.getfield 220, 3) := by decide +kernel
theorem dX11_runsWhole_18 : decode cX11_runsWhole 18 = .ok (.aload_n 0, 1) := by decide +kernel
theorem dX11_runsWhole_19 : decode cX11_runsWhole 19 = .ok (.invokevirtual 287, 3) := by decide +kernel
theorem dX11_runsWhole_22 : decode cX11_runsWhole 22 = .ok (.imul, 1) := by decide +kernel
theorem dX11_runsWhole_23 : decode cX11_runsWhole 23 = .ok (.istore_n 3, 1) := by decide +kernel
theorem dX11_runsWhole_24 : decode cX11_runsWhole 24 = .ok (.iload_n 3, 1) := by decide +kernel
theorem dX11_runsWhole_25 : decode cX11_runsWhole 25 = .ok (.ifCond .le 13, 3) := by decide +kernel
theorem dX11_runsWhole_28 : decode cX11_runsWhole 28 = .ok (.aload_n 0, 1) := by decide +kernel
theorem dX11_runsWhole_29 : decode cX11_runsWhole 29 = .ok (.invokevirtual 317, 3) := by decide +kernel
theorem dX11_runsWhole_32 : decode cX11_runsWhole 32 = .ok (.iinc 3 (-1), 3) := by decide +kernel
theorem dX11_runsWhole_35 : decode cX11_runsWhole 35 = .ok (.goto (-11), 3) := by decide +kernel
theorem dX11_runsWhole_38 : decode cX11_runsWhole 38 = .ok (.return_, 1) := by decide +kernel
theorem dX11_say_0 : decode cX11_say 0 = .ok (.aload_n 0, 1) := by decide +kernel
theorem dX11_say_1 : decode cX11_say 1 = .ok (.iconst 0, 1) := by decide +kernel
theorem dX11_say_2 : decode cX11_say 2 = .ok (.putfield 80, 3) := by decide +kernel
theorem dX11_say_5 : decode cX11_say 5 = .ok (.aload_n 0, 1) := by decide +kernel
theorem dX11_say_6 : decode cX11_say 6 = .ok (.getfield 232, 3) := by decide +kernel
theorem dX11_say_9 : decode cX11_say 9 = .ok (.ifCond .ne 9, 3) := by decide +kernel
theorem dX11_say_12 : decode cX11_say 12 = .ok (.aload_n 0, 1) := by decide +kernel
theorem dX11_say_13 : decode cX11_say 13 = .ok (.iconst 0, 1) := by decide +kernel
theorem dX11_say_14 : decode cX11_say 14 = .ok (.invokevirtual 341, 3) := by decide +kernel
theorem dX11_say_17 : decode cX11_say 17 = .ok (.ireturn, 1) := by decide +kernel
theorem dX11_say_18 : decode cX11_say 18 = .ok (.aload_n 0, 1) := by decide +kernel
theorem dX11_say_19 : decode cX11_say 19 = .ok (.iload_n 1, 1) := by decide +kernel
theorem dX11_say_20 : decode cX11_say 20 = .ok (.iload_n 2, 1) := by decide +kernel
theorem dX11_say_21 : decode cX11_say 21 = .ok (.invokevirtual 344, 3) := by decide +kernel
theorem dX11_say_24 : decode cX11_say 24 = .ok (.ifCond .eq 33, 3) := by decide +kernel
theorem dX11_say_27 : decode cX11_say 27 = .ok (.aload_n 0, 1) := by decide +kernel
theorem dX11_say_28 : decode cX11_say 28 = .ok (.iload_n 3, 1) := by decide +kernel
theorem dX11_say_29 : decode cX11_say 29 = .ok (.invokevirtual 347, 3) := by decide +kernel
theorem dX11_say_32 : decode cX11_say 32 = .ok (.ifCond .eq 25, 3) := by decide +kernel
theorem dX11_say_35 : decode cX11_say 35 = .ok (.aload_n 0, 1) := by decide +kernel
theorem dX11_say_36 : decode cX11_say 36 = .ok (.iload 4, 2) := by decide +kernel
theorem dX11_say_38 : decode cX11_say 38 = .ok (.invokevirtual 347, 3) := by decide +kernel
theorem dX11_say_41 : decode cX11_say 41 = .ok (.ifCond .eq 16, 3) := by decide +kernel
theorem dX11_say_44 : decode cX11_say 44 = .ok (.iload 5, 2) := by decide +kernel
theorem dX11_say_46 : decode cX11_say 46 = .ok (.i2l, 1) := by decide +kernel
theorem dX11_say_47 : decode cX11_say 47 = .ok (.lconst 0, 1) := by decide +kernel
theorem dX11_say_48 : decode cX11_say 48 = .ok (.ldc2_w 350, 3) := by decide +kernel
theorem dX11_say_51 : decode cX11_say 51 = .ok (.invokestatic 132, 3) := by decide +kernel
theorem dX11_say_54 : decode cX11_say 54 = .ok (.ifCond .ne 9, 3) := by decide +kernel
theorem dX11_say_57 : decode cX11_say 57 = .ok (.aload_n 0, 1) := by decide +kernel
theorem dX11_say_58 : decode cX11_say 58 = .ok (.iconst 1, 1) := by decide +kernel
theorem dX11_say_59 : decode cX11_say 59 = .ok (.invokevirtual 341, 3) := by decide +kernel
theorem dX11_say_62 : decode cX11_say 62 = .ok (.ireturn, 1) := by decide +kernel
theorem dX11_say_63 : decode cX11_say 63 = .ok (.aload_n 0, 1) := by decide +kernel
theorem dX11_say_64 : decode cX11_say 64 = .ok (.invokevirtual 329, 3) := by decide +kernel
theorem dX11_say_67 : decode cX11_say 67 = .ok (.aload_n 0, 1) := by decide +kernel
theorem dX11_say_68 : decode cX11_say 68 = .ok (.iload_n 3, 1) := by decide +kernel
theorem dX11_say_69 : decode cX11_say 69 = .ok (.invokevirtual 274, 3) := by decide +kernel
theorem dX11_say_72 : decode cX11_say 72 = .ok (.ifCond .ne 9, 3) := by decide +kernel
theorem dX11_say_75 : decode cX11_say 75 = .ok (.aload_n 0, 1) := by decide +kernel
theorem dX11_say_76 : decode cX11_say 76 = .ok (.iconst 2, 1) := by decide +kernel
theorem dX11_say_77 : decode cX11_say 77 = .ok (.invokevirtual 341, 3) := by decide +kernel
theorem dX11_say_80 : decode cX11_say 80 = .ok (.ireturn, 1) := by decide +kernel
theorem dX11_say_81 : decode cX11_say 81 = .ok (.aload_n 0, 1) := by decide +kernel
theorem dX11_say_82 : decode cX11_say 82 = .ok (.invokevirtual 287, 3) := by decide +kernel
theorem dX11_say_85 : decode cX11_say 85 = .ok (.iload_n 1, 1) := by decide +kernel
theorem dX11_say_86 : decode cX11_say 86 = .ok (.imul, 1) := by decide +kernel
theorem dX11_say_87 : decode cX11_say 87 = .ok (.iload_n 2, 1) := by decide +kernel
theorem dX11_say_88 : decode cX11_say 88 = .ok (.iadd, 1) := by decide +kernel
theorem dX11_say_89 : decode cX11_say 89 = .ok (.aload_n 0, 1) := by decide +kernel
theorem dX11_say_90 : decode cX11_say 90 = .ok (.getfield 251, 3) := by decide +kernel
theorem dX11_say_93 : decode cX11_say 93 = .ok (.if_icmp .ge 9, 3) := by decide +kernel
theorem dX11_say_96 : decode cX11_say 96 = .ok (.aload_n 0, 1) := by decide +kernel
theorem dX11_say_97 : decode cX11_say 97 = .ok (.iconst 3, 1) := by decide +kernel
theorem dX11_say_98 : decode cX11_say 98 = .ok (.invokevirtual 341, 3) := by decide +kernel
theorem dX11_say_101 : decode cX11_say 101 = .ok (.ireturn, 1) := by decide +kernel
theorem dX11_say_102 : decode cX11_say 102 = .ok (.aload_n 0, 1) := by decide +kernel
theorem dX11_say_103 : decode cX11_say 103 = .ok (.getfield 236, 3) := by decide +kernel
theorem dX11_say_106 : decode cX11_say 106 = .ok (.bipush 30, 2) := by decide +kernel
theorem dX11_say_108 : decode cX11_say 108 = .ok (.if_icmp .ne 9, 3) := by decide +kernel
theorem dX11_say_111 : decode cX11_say 111 = .ok (.aload_n 0, 1) := by decide +kernel
theorem dX11_say_112 : decode cX11_say 112 = .ok (.iconst 4, 1) := by decide +kernel
theorem dX11_say_113 : decode cX11_say 113 = .ok (.invokevirtual 341, 3) := by decide +kernel
theorem dX11_say_116 : decode cX11_say 116 = .ok (.ireturn, 1) := by decide +kernel
theorem dX11_say_117 : decode cX11_say 117 = .ok (.aload_n 0, 1) := by decide +kernel
theorem dX11_say_118 : decode cX11_say 118 = .ok (.invokevirtual 326, 3) := by decide +kernel
theorem dX11_say_121 : decode cX11_say 121 = .ok (.iconst 5, 1) := by decide +kernel
theorem dX11_say_122 : decode cX11_say 122 = .ok (.aload_n 0, 1) := by decide +kernel
theorem dX11_say_123 : decode cX11_say 123 = .ok (.getfield 236, 3) := by decide +kernel
theorem dX11_say_126 : decode cX11_say 126 = .ok (.imul, 1) := by decide +kernel
theorem dX11_say_127 : decode cX11_say 127 = .ok (.istore 6, 2) := by decide +kernel
theorem dX11_say_129 : decode cX11_say 129 = .ok (.aload_n 0, 1) := by decide +kernel
theorem dX11_say_130 : decode cX11_say 130 = .ok (.getfield 23, 3) := by decide +kernel
theorem dX11_say_133 : decode cX11_say 133 = .ok (.iload 6, 2) := by decide +kernel
theorem dX11_say_135 : decode cX11_say 135 = .ok (.iload_n 1, 1) := by decide +kernel
theorem dX11_say_136 : decode cX11_say 136 = .ok (.iastore, 1) := by decide +kernel
theorem dX11_say_137 : decode cX11_say 137 = .ok (.aload_n 0, 1) := by decide +kernel
theorem dX11_say_138 : decode cX11_say 138 = .ok (.getfield 23, 3) := by decide +kernel
theorem dX11_say_141 : decode cX11_say 141 = .ok (.iload 6, 2) := by decide +kernel
theorem dX11_say_143 : decode cX11_say 143 = .ok (.iconst 1, 1) := by decide +kernel
theorem dX11_say_144 : decode cX11_say 144 = .ok (.iadd, 1) := by decide +kernel
theorem dX11_say_145 : decode cX11_say 145 = .ok (.iload_n 2, 1) := by decide +kernel
theorem dX11_say_146 : decode cX11_say 146 = .ok (.iastore, 1) := by decide +kernel
theorem dX11_say_147 : decode cX11_say 147 = .ok (.aload_n 0, 1) := by decide +kernel
theorem dX11_say_148 : decode cX11_say 148 = .ok (.getfield 23, 3) := by decide +kernel
theorem dX11_say_151 : decode cX11_say 151 = .ok (.iload 6, 2) := by decide +kernel
theorem dX11_say_153 : decode cX11_say 153 = .ok (.iconst 2, 1) := by decide +kernel
theorem dX11_say_154 : decode cX11_say 154 = .ok (.iadd, 1) := by decide +kernel
theorem dX11_say_155 : decode cX11_say 155 = .ok (.iload_n 3, 1) := by decide +kernel
theorem dX11_say_156 : decode cX11_say 156 = .ok (.iastore, 1) := by decide +kernel
theorem dX11_say_157 : decode cX11_say 157 = .ok (.aload_n 0, 1) := by decide +kernel
theorem dX11_say_158 : decode cX11_say 158 = .ok (.getfield 23, 3) := by decide +kernel
theorem dX11_say_161 : decode cX11_say 161 = .ok (.iload 6, 2) := by decide +kernel
theorem dX11_say_163 : decode cX11_say 163 = .ok (.iconst 3, 1) := by decide +kernel
theorem dX11_say_164 : decode cX11_say 164 = .ok (.iadd, 1) := by decide +kernel
theorem dX11_say_165 : decode cX11_say 165 = .ok (.iload 4, 2) := by decide +kernel
theorem dX11_say_167 : decode cX11_say 167 = .ok (.iastore, 1) := by decide +kernel
theorem dX11_say_168 : decode cX11_say 168 = .ok (.aload_n 0, 1) := by decide +kernel
theorem dX11_say_169 : decode cX11_say 169 = .ok (.getfield 23, 3) := by decide +kernel
theorem dX11_say_172 : decode cX11_say 172 = .ok (.iload 6, 2) := by decide +kernel
theorem dX11_say_174 : decode cX11_say 174 = .ok (.iconst 4, 1) := by decide +kernel
theorem dX11_say_175 : decode cX11_say 175 = .ok (.iadd, 1) := by decide +kernel
theorem dX11_say_176 : decode cX11_say 176 = .ok (.iload 5, 2) := by decide +kernel
theorem dX11_say_178 : decode cX11_say 178 = .ok (.iastore, 1) := by decide +kernel
theorem dX11_say_179 : decode cX11_say 179 = .ok (.aload_n 0, 1) := by decide +kernel
theorem dX11_say_180 : decode cX11_say 180 = .ok (.dup, 1) := by decide +kernel
theorem dX11_say_181 : decode cX11_say 181 = .ok (.getfield 236, 3) := by decide +kernel
theorem dX11_say_184 : decode cX11_say 184 = .ok (.iconst 1, 1) := by decide +kernel
theorem dX11_say_185 : decode cX11_say 185 = .ok (.iadd, 1) := by decide +kernel
theorem dX11_say_186 : decode cX11_say 186 = .ok (.putfield 236, 3) := by decide +kernel
theorem dX11_say_189 : decode cX11_say 189 = .ok (.aload_n 0, 1) := by decide +kernel
theorem dX11_say_190 : decode cX11_say 190 = .ok (.invokevirtual 323, 3) := by decide +kernel
theorem dX11_say_193 : decode cX11_say 193 = .ok (.aload_n 0, 1) := by decide +kernel
theorem dX11_say_194 : decode cX11_say 194 = .ok (.getfield 236, 3) := by decide +kernel
theorem dX11_say_197 : decode cX11_say 197 = .ok (.ireturn, 1) := by decide +kernel
theorem dX11_sends_0 : decode cX11_sends 0 = .ok (.iload_n 2, 1) := by decide +kernel
theorem dX11_sends_1 : decode cX11_sends 1 = .ok (.aload_n 0, 1) := by decide +kernel
theorem dX11_sends_2 : decode cX11_sends 2 = .ok (.invokevirtual 287, 3) := by decide +kernel
theorem dX11_sends_5 : decode cX11_sends 5 = .ok (.iconst 1, 1) := by decide +kernel
theorem dX11_sends_6 : decode cX11_sends 6 = .ok (.isub, 1) := by decide +kernel
theorem dX11_sends_7 : decode cX11_sends 7 = .ok (.if_icmp .ne 7, 3) := by decide +kernel
theorem dX11_sends_10 : decode cX11_sends 10 = .ok (.iconst 1, 1) := by decide +kernel
theorem dX11_sends_11 : decode cX11_sends 11 = .ok (.goto 4, 3) := by decide +kernel
theorem dX11_sends_14 : decode cX11_sends 14 = .ok (.iconst 0, 1) := by decide +kernel
theorem dX11_sends_15 : decode cX11_sends 15 = .ok (.istore_n 3, 1) := by decide +kernel
theorem dX11_sends_16 : decode cX11_sends 16 = .ok (.iconst 0, 1) := by decide +kernel
theorem dX11_sends_17 : decode cX11_sends 17 = .ok (.istore 4, 2) := by decide +kernel
theorem dX11_sends_19 : decode cX11_sends 19 = .ok (.iload 4, 2) := by decide +kernel
theorem dX11_sends_21 : decode cX11_sends 21 = .ok (.bipush 81, 2) := by decide +kernel
theorem dX11_sends_23 : decode cX11_sends 23 = .ok (.if_icmp .ge 17, 3) := by decide +kernel
theorem dX11_sends_26 : decode cX11_sends 26 = .ok (.aload_n 0, 1) := by decide +kernel
theorem dX11_sends_27 : decode cX11_sends 27 = .ok (.getfield 47, 3) := by decide +kernel
theorem dX11_sends_30 : decode cX11_sends 30 = .ok (.iload 4, 2) := by decide +kernel
theorem dX11_sends_32 : decode cX11_sends 32 = .ok (.iconst (-1), 1) := by decide +kernel
theorem dX11_sends_33 : decode cX11_sends 33 = .ok (.iastore, 1) := by decide +kernel
theorem dX11_sends_34 : decode cX11_sends 34 = .ok (.iinc 4 1, 3) := by decide +kernel
theorem dX11_sends_37 : decode cX11_sends 37 = .ok (.goto (-18), 3) := by decide +kernel
theorem dX11_sends_40 : decode cX11_sends 40 = .ok (.iconst 0, 1) := by decide +kernel
theorem dX11_sends_41 : decode cX11_sends 41 = .ok (.istore 4, 2) := by decide +kernel
theorem dX11_sends_43 : decode cX11_sends 43 = .ok (.iload 4, 2) := by decide +kernel
theorem dX11_sends_45 : decode cX11_sends 45 = .ok (.aload_n 0, 1) := by decide +kernel
theorem dX11_sends_46 : decode cX11_sends 46 = .ok (.getfield 215, 3) := by decide +kernel
theorem dX11_sends_49 : decode cX11_sends 49 = .ok (.if_icmp .ge 157, 3) := by decide +kernel
theorem dX11_sends_52 : decode cX11_sends 52 = .ok (.iload_n 3, 1) := by decide +kernel
theorem dX11_sends_53 : decode cX11_sends 53 = .ok (.ifCond .eq 17, 3) := by decide +kernel
theorem dX11_sends_56 : decode cX11_sends 56 = .ok (.iload 4, 2) := by decide +kernel
theorem dX11_sends_58 : decode cX11_sends 58 = .ok (.iload_n 1, 1) := by decide +kernel
theorem dX11_sends_59 : decode cX11_sends 59 = .ok (.aload_n 0, 1) := by decide +kernel
theorem dX11_sends_60 : decode cX11_sends 60 = .ok (.getfield 215, 3) := by decide +kernel
theorem dX11_sends_63 : decode cX11_sends 63 = .ok (.irem, 1) := by decide +kernel
theorem dX11_sends_64 : decode cX11_sends 64 = .ok (.if_icmp .eq 6, 3) := by decide +kernel
theorem dX11_sends_67 : decode cX11_sends 67 = .ok (.goto 133, 3) := by decide +kernel
theorem dX11_sends_70 : decode cX11_sends 70 = .ok (.iload_n 2, 1) := by decide +kernel
theorem dX11_sends_71 : decode cX11_sends 71 = .ok (.ifCond .eq 14, 3) := by decide +kernel
theorem dX11_sends_74 : decode cX11_sends 74 = .ok (.aload_n 0, 1) := by decide +kernel
theorem dX11_sends_75 : decode cX11_sends 75 = .ok (.getfield 212, 3) := by decide +kernel
theorem dX11_sends_78 : decode cX11_sends 78 = .ok (.ifCond .ne 17, 3) := by decide +kernel
theorem dX11_sends_81 : decode cX11_sends 81 = .ok (.iload_n 3, 1) := by decide +kernel
theorem dX11_sends_82 : decode cX11_sends 82 = .ok (.ifCond .eq 13, 3) := by decide +kernel
theorem dX11_sends_85 : decode cX11_sends 85 = .ok (.aload_n 0, 1) := by decide +kernel
theorem dX11_sends_86 : decode cX11_sends 86 = .ok (.getfield 26, 3) := by decide +kernel
theorem dX11_sends_89 : decode cX11_sends 89 = .ok (.iload 4, 2) := by decide +kernel
theorem dX11_sends_91 : decode cX11_sends 91 = .ok (.iaload, 1) := by decide +kernel
theorem dX11_sends_92 : decode cX11_sends 92 = .ok (.goto 10, 3) := by decide +kernel
theorem dX11_sends_95 : decode cX11_sends 95 = .ok (.aload_n 0, 1) := by decide +kernel
theorem dX11_sends_96 : decode cX11_sends 96 = .ok (.getfield 32, 3) := by decide +kernel
theorem dX11_sends_99 : decode cX11_sends 99 = .ok (.iload 4, 2) := by decide +kernel
theorem dX11_sends_101 : decode cX11_sends 101 = .ok (.iaload, 1) := by decide +kernel
theorem dX11_sends_102 : decode cX11_sends 102 = .ok (.istore 5, 2) := by decide +kernel
theorem dX11_sends_104 : decode cX11_sends 104 = .ok (.iconst 0, 1) := by decide +kernel
theorem dX11_sends_105 : decode cX11_sends 105 = .ok (.istore 6, 2) := by decide +kernel
theorem dX11_sends_107 : decode cX11_sends 107 = .ok (.iload 6, 2) := by decide +kernel
theorem dX11_sends_109 : decode cX11_sends 109 = .ok (.aload_n 0, 1) := by decide +kernel
theorem dX11_sends_110 : decode cX11_sends 110 = .ok (.getfield 215, 3) := by decide +kernel
theorem dX11_sends_113 : decode cX11_sends 113 = .ok (.if_icmp .ge 87, 3) := by decide +kernel
theorem dX11_sends_116 : decode cX11_sends 116 = .ok (.aload_n 0, 1) := by decide +kernel
theorem dX11_sends_117 : decode cX11_sends 117 = .ok (.iload_n 1, 1) := by decide +kernel
