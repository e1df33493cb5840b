theorem dX11_brings_9 : decode cX11_brings 9 = .ok (.ishr, 1) := by decide +kernel
theorem dX11_brings_10 : decode cX11_brings 10 = .ok (.sipush 255, 3) := by decide +kernel
theorem dX11_brings_13 : decode cX11_brings 13 = .ok (.iand, 1) := by decide +kernel
theorem dX11_brings_14 : decode cX11_brings 14 = .ok (.istore_n 3, 1) := by decide +kernel
theorem dX11_brings_15 : decode cX11_brings 15 = .ok (.iload_n 3, 1) := by decide +kernel
theorem dX11_brings_16 : decode cX11_brings 16 = .ok (.ifCond .ne 6, 3) := by decide +kernel
theorem dX11_brings_19 : decode cX11_brings 19 = .ok (.goto 24, 3) := by decide +kernel
theorem dX11_brings_22 : decode cX11_brings 22 = .ok (.aload_n 0, 1) := by decide +kernel
theorem dX11_brings_23 : decode cX11_brings 23 = .ok (.getfield 9, 3) := by decide +kernel
theorem dX11_brings_26 : decode cX11_brings 26 = .ok (.aload_n 0, 1) := by decide +kernel
theorem dX11_brings_27 : decode cX11_brings 27 = .ok (.getfield 84, 3) := by decide +kernel
theorem dX11_brings_30 : decode cX11_brings 30 = .ok (.iload_n 3, 1) := by decide +kernel
theorem dX11_brings_31 : decode cX11_brings 31 = .ok (.i2b, 1) := by decide +kernel
theorem dX11_brings_32 : decode cX11_brings 32 = .ok (.bastore, 1) := by decide +kernel
theorem dX11_brings_33 : decode cX11_brings 33 = .ok (.aload_n 0, 1) := by decide +kernel
theorem dX11_brings_34 : decode cX11_brings 34 = .ok (.dup, 1) := by decide +kernel
theorem dX11_brings_35 : decode cX11_brings 35 = .ok (.getfield 84, 3) := by decide +kernel
theorem dX11_brings_38 : decode cX11_brings 38 = .ok (.iconst 1, 1) := by decide +kernel
theorem dX11_brings_39 : decode cX11_brings 39 = .ok (.iadd, 1) := by decide +kernel
theorem dX11_brings_40 : decode cX11_brings 40 = .ok (.putfield 84, 3) := by decide +kernel
theorem dX11_brings_43 : decode cX11_brings 43 = .ok (.iinc 2 (-8), 3) := by decide +kernel
theorem dX11_brings_46 : decode cX11_brings 46 = .ok (.goto (-43), 3) := by decide +kernel
theorem dX11_brings_49 : decode cX11_brings 49 = .ok (.return_, 1) := by decide +kernel
theorem dX11_broken_0 : decode cX11_broken 0 = .ok (.aload_n 0, 1) := by decide +kernel
theorem dX11_broken_1 : decode cX11_broken 1 = .ok (.iconst 0, 1) := by decide +kernel
theorem dX11_broken_2 : decode cX11_broken 2 = .ok (.putfield 80, 3) := by decide +kernel
theorem dX11_broken_5 : decode cX11_broken 5 = .ok (.aload_n 0, 1) := by decide +kernel
theorem dX11_broken_6 : decode cX11_broken 6 = .ok (.invokevirtual 396, 3) := by decide +kernel
theorem dX11_broken_9 : decode cX11_broken 9 = .ok (.ifCond .eq 10, 3) := by decide +kernel
theorem dX11_broken_12 : decode cX11_broken 12 = .ok (.aload_n 0, 1) := by decide +kernel
theorem dX11_broken_13 : decode cX11_broken 13 = .ok (.invokevirtual 399, 3) := by decide +kernel
theorem dX11_broken_16 : decode cX11_broken 16 = .ok (.goto 5, 3) := by decide +kernel
theorem dX11_broken_19 : decode cX11_broken 19 = .ok (.bipush (-2), 2) := by decide +kernel
theorem dX11_broken_21 : decode cX11_broken 21 = .ok (.ireturn, 1) := by decide +kernel
theorem dX11_brokenPlan_0 : decode cX11_brokenPlan 0 = .ok (.aload_n 0, 1) := by decide +kernel
theorem dX11_brokenPlan_1 : decode cX11_brokenPlan 1 = .ok (.iconst 0, 1) := by decide +kernel
theorem dX11_brokenPlan_2 : decode cX11_brokenPlan 2 = .ok (.putfield 80, 3) := by decide +kernel
theorem dX11_brokenPlan_5 : decode cX11_brokenPlan 5 = .ok (.aload_n 0, 1) := by decide +kernel
theorem dX11_brokenPlan_6 : decode cX11_brokenPlan 6 = .ok (.invokevirtual 396, 3) := by decide +kernel
theorem dX11_brokenPlan_9 : decode cX11_brokenPlan 9 = .ok (.ifCond .ne 6, 3) := by decide +kernel
theorem dX11_brokenPlan_12 : decode cX11_brokenPlan 12 = .ok (.bipush (-2), 2) := by decide +kernel
theorem dX11_brokenPlan_14 : decode cX11_brokenPlan 14 = .ok (.ireturn, 1) := by decide +kernel
theorem dX11_brokenPlan_15 : decode cX11_brokenPlan 15 = .ok (.aload_n 0, 1) := by decide +kernel
theorem dX11_brokenPlan_16 : decode cX11_brokenPlan 16 = .ok (.invokevirtual 399, 3) := by decide +kernel
theorem dX11_brokenPlan_19 : decode cX11_brokenPlan 19 = .ok (.istore_n 2, 1) := by decide +kernel
theorem dX11_brokenPlan_20 : decode cX11_brokenPlan 20 = .ok (.iload_n 2, 1) := by decide +kernel
theorem dX11_brokenPlan_21 : decode cX11_brokenPlan 21 = .ok (.iconst (-1), 1) := by decide +kernel
theorem dX11_brokenPlan_22 : decode cX11_brokenPlan 22 = .ok (.if_icmp .ne 5, 3) := by decide +kernel
theorem dX11_brokenPlan_25 : decode cX11_brokenPlan 25 = .ok (.iconst (-1), 1) := by decide +kernel
theorem dX11_brokenPlan_26 : decode cX11_brokenPlan 26 = .ok (.ireturn, 1) := by decide +kernel
theorem dX11_brokenPlan_27 : decode cX11_brokenPlan 27 = .ok (.aload_n 0, 1) := by decide +kernel
theorem dX11_brokenPlan_28 : decode cX11_brokenPlan 28 = .ok (.iload_n 2, 1) := by decide +kernel
theorem dX11_brokenPlan_29 : decode cX11_brokenPlan 29 = .ok (.invokevirtual 436, 3) := by decide +kernel
theorem dX11_brokenPlan_32 : decode cX11_brokenPlan 32 = .ok (.iload_n 1, 1) := by decide +kernel
theorem dX11_brokenPlan_33 : decode cX11_brokenPlan 33 = .ok (.iconst (-1), 1) := by decide +kernel
theorem dX11_brokenPlan_34 : decode cX11_brokenPlan 34 = .ok (.if_icmp .ne 10, 3) := by decide +kernel
theorem dX11_brokenPlan_37 : decode cX11_brokenPlan 37 = .ok (.aload_n 0, 1) := by decide +kernel
theorem dX11_brokenPlan_38 : decode cX11_brokenPlan 38 = .ok (.getfield 414, 3) := by decide +kernel
theorem dX11_brokenPlan_41 : decode cX11_brokenPlan 41 = .ok (.goto 29, 3) := by decide +kernel
theorem dX11_brokenPlan_44 : decode cX11_brokenPlan 44 = .ok (.iload_n 1, 1) := by decide +kernel
theorem dX11_brokenPlan_45 : decode cX11_brokenPlan 45 = .ok (.i2l, 1) := by decide +kernel
theorem dX11_brokenPlan_46 : decode cX11_brokenPlan 46 = .ok (.lconst 0, 1) := by decide +kernel
theorem dX11_brokenPlan_47 : decode cX11_brokenPlan 47 = .ok (.aload_n 0, 1) := by decide +kernel
theorem dX11_brokenPlan_48 : decode cX11_brokenPlan 48 = .ok (.getfield 414, 3) := by decide +kernel
theorem dX11_brokenPlan_51 : decode cX11_brokenPlan 51 = .ok (.iconst 1, 1) := by decide +kernel
theorem dX11_brokenPlan_52 : decode cX11_brokenPlan 52 = .ok (.isub, 1) := by decide +kernel
theorem dX11_brokenPlan_53 : decode cX11_brokenPlan 53 = .ok (.i2l, 1) := by decide +kernel
theorem dX11_brokenPlan_54 : decode cX11_brokenPlan 54 = .ok (.invokestatic 132, 3) := by decide +kernel
theorem dX11_brokenPlan_57 : decode cX11_brokenPlan 57 = .ok (.ifCond .eq 12, 3) := by decide +kernel
theorem dX11_brokenPlan_60 : decode cX11_brokenPlan 60 = .ok (.aload_n 0, 1) := by decide +kernel
theorem dX11_brokenPlan_61 : decode cX11_brokenPlan 61 = .ok (.getfield 74, 3) := by decide +kernel
theorem dX11_brokenPlan_64 : decode cX11_brokenPlan 64 = .ok (.iload_n 1, 1) := by decide +kernel
theorem dX11_brokenPlan_65 : decode cX11_brokenPlan 65 = .ok (.iaload, 1) := by decide +kernel
theorem dX11_brokenPlan_66 : decode cX11_brokenPlan 66 = .ok (.goto 4, 3) := by decide +kernel
theorem dX11_brokenPlan_69 : decode cX11_brokenPlan 69 = .ok (.iconst (-1), 1) := by decide +kernel
theorem dX11_brokenPlan_70 : decode cX11_brokenPlan 70 = .ok (.ireturn, 1) := by decide +kernel
theorem dX11_brokenStarts_0 : decode cX11_brokenStarts 0 = .ok (.aload_n 0, 1) := by decide +kernel
theorem dX11_brokenStarts_1 : decode cX11_brokenStarts 1 = .ok (.iconst 0, 1) := by decide +kernel
theorem dX11_brokenStarts_2 : decode cX11_brokenStarts 2 = .ok (.putfield 80, 3) := by decide +kernel
theorem dX11_brokenStarts_5 : decode cX11_brokenStarts 5 = .ok (.iload_n 1, 1) := by decide +kernel
theorem dX11_brokenStarts_6 : decode cX11_brokenStarts 6 = .ok (.i2l, 1) := by decide +kernel
theorem dX11_brokenStarts_7 : decode cX11_brokenStarts 7 = .ok (.lconst 0, 1) := by decide +kernel
theorem dX11_brokenStarts_8 : decode cX11_brokenStarts 8 = .ok (.lconst 1, 1) := by decide +kernel
theorem dX11_brokenStarts_9 : decode cX11_brokenStarts 9 = .ok (.invokestatic 132, 3) := by decide +kernel
theorem dX11_brokenStarts_12 : decode cX11_brokenStarts 12 = .ok (.ifCond .eq 10, 3) := by decide +kernel
theorem dX11_brokenStarts_15 : decode cX11_brokenStarts 15 = .ok (.aload_n 0, 1) := by decide +kernel
theorem dX11_brokenStarts_16 : decode cX11_brokenStarts 16 = .ok (.invokevirtual 396, 3) := by decide +kernel
theorem dX11_brokenStarts_19 : decode cX11_brokenStarts 19 = .ok (.ifCond .ne 6, 3) := by decide +kernel
theorem dX11_brokenStarts_22 : decode cX11_brokenStarts 22 = .ok (.bipush (-2), 2) := by decide +kernel
theorem dX11_brokenStarts_24 : decode cX11_brokenStarts 24 = .ok (.ireturn, 1) := by decide +kernel
theorem dX11_brokenStarts_25 : decode cX11_brokenStarts 25 = .ok (.aload_n 0, 1) := by decide +kernel
theorem dX11_brokenStarts_26 : decode cX11_brokenStarts 26 = .ok (.invokevirtual 408, 3) := by decide +kernel
theorem dX11_brokenStarts_29 : decode cX11_brokenStarts 29 = .ok (.iload_n 1, 1) := by decide +kernel
theorem dX11_brokenStarts_30 : decode cX11_brokenStarts 30 = .ok (.ifCond .ne 10, 3) := by decide +kernel
theorem dX11_brokenStarts_33 : decode cX11_brokenStarts 33 = .ok (.aload_n 0, 1) := by decide +kernel
theorem dX11_brokenStarts_34 : decode cX11_brokenStarts 34 = .ok (.getfield 402, 3) := by decide +kernel
theorem dX11_brokenStarts_37 : decode cX11_brokenStarts 37 = .ok (.goto 7, 3) := by decide +kernel
theorem dX11_brokenStarts_40 : decode cX11_brokenStarts 40 = .ok (.aload_n 0, 1) := by decide +kernel
theorem dX11_brokenStarts_41 : decode cX11_brokenStarts 41 = .ok (.getfield 405, 3) := by decide +kernel
theorem dX11_brokenStarts_44 : decode cX11_brokenStarts 44 = .ok (.ireturn, 1) := by decide +kernel
theorem dX11_byChance_0 : decode cX11_byChance 0 = .ok (.aload_n 0, 1) := by decide +kernel
theorem dX11_byChance_1 : decode cX11_byChance 1 = .ok (.iconst 0, 1) := by decide +kernel
theorem dX11_byChance_2 : decode cX11_byChance 2 = .ok (.putfield 80, 3) := by decide +kernel
theorem dX11_byChance_5 : decode cX11_byChance 5 = .ok (.aload_n 0, 1) := by decide +kernel
theorem dX11_byChance_6 : decode cX11_byChance 6 = .ok (.getfield 232, 3) := by decide +kernel
theorem dX11_byChance_9 : decode cX11_byChance 9 = .ok (.ifCond .eq 28, 3) := by decide +kernel
theorem dX11_byChance_12 : decode cX11_byChance 12 = .ok (.iload_n 1, 1) := by decide +kernel
theorem dX11_byChance_13 : decode cX11_byChance 13 = .ok (.i2l, 1) := by decide +kernel
theorem dX11_byChance_14 : decode cX11_byChance 14 = .ok (.lconst 1, 1) := by decide +kernel
theorem dX11_byChance_15 : decode cX11_byChance 15 = .ok (.ldc2_w 446, 3) := by decide +kernel
theorem dX11_byChance_18 : decode cX11_byChance 18 = .ok (.invokestatic 132, 3) := by decide +kernel
theorem dX11_byChance_21 : decode cX11_byChance 21 = .ok (.ifCond .eq 16, 3) := by decide +kernel
theorem dX11_byChance_24 : decode cX11_byChance 24 = .ok (.iload 4, 2) := by decide +kernel
theorem dX11_byChance_26 : decode cX11_byChance 26 = .ok (.i2l, 1) := by decide +kernel
theorem dX11_byChance_27 : decode cX11_byChance 27 = .ok (.lconst 0, 1) := by decide +kernel
theorem dX11_byChance_28 : decode cX11_byChance 28 = .ok (.ldc2_w 267, 3) := by decide +kernel
theorem dX11_byChance_31 : decode cX11_byChance 31 = .ok (.invokestatic 132, 3) := by decide +kernel
theorem dX11_byChance_34 : decode cX11_byChance 34 = .ok (.ifCond .ne 6, 3) := by decide +kernel
theorem dX11_byChance_37 : decode cX11_byChance 37 = .ok (.bipush (-2), 2) := by decide +kernel
theorem dX11_byChance_39 : decode cX11_byChance 39 = .ok (.ireturn, 1) := by decide +kernel
theorem dX11_byChance_40 : decode cX11_byChance 40 = .ok (.aload_n 0, 1) := by decide +kernel
theorem dX11_byChance_41 : decode cX11_byChance 41 = .ok (.invokevirtual 329, 3) := by decide +kernel
theorem dX11_byChance_44 : decode cX11_byChance 44 = .ok (.aload_n 0, 1) := by decide +kernel
theorem dX11_byChance_45 : decode cX11_byChance 45 = .ok (.getfield 228, 3) := by decide +kernel
theorem dX11_byChance_48 : decode cX11_byChance 48 = .ok (.lstore 5, 2) := by decide +kernel
theorem dX11_byChance_50 : decode cX11_byChance 50 = .ok (.iconst 0, 1) := by decide +kernel
theorem dX11_byChance_51 : decode cX11_byChance 51 = .ok (.istore 7, 2) := by decide +kernel
theorem dX11_byChance_53 : decode cX11_byChance 53 = .ok (.iconst 0, 1) := by decide +kernel
theorem dX11_byChance_54 : decode cX11_byChance 54 = .ok (.istore 8, 2) := by decide +kernel
theorem dX11_byChance_56 : decode cX11_byChance 56 = .ok (.iconst (-1), 1) := by decide +kernel
theorem dX11_byChance_57 : decode cX11_byChance 57 = .ok (.istore 9, 2) := by decide +kernel
theorem dX11_byChance_59 : decode cX11_byChance 59 = .ok (.iconst 0, 1) := by decide +kernel
theorem dX11_byChance_60 : decode cX11_byChance 60 = .ok (.istore 10, 2) := by decide +kernel
theorem dX11_byChance_62 : decode cX11_byChance 62 = .ok (.iconst 0, 1) := by decide +kernel
theorem dX11_byChance_63 : decode cX11_byChance 63 = .ok (.istore 11, 2) := by decide +kernel
theorem dX11_byChance_65 : decode cX11_byChance 65 = .ok (.aload_n 0, 1) := by decide +kernel
theorem dX11_byChance_66 : decode cX11_byChance 66 = .ok (.iload 11, 2) := by decide +kernel
theorem dX11_byChance_68 : decode cX11_byChance 68 = .ok (.invokevirtual 274, 3) := by decide +kernel
theorem dX11_byChance_71 : decode cX11_byChance 71 = .ok (.ifCond .eq 9, 3) := by decide +kernel
theorem dX11_byChance_74 : decode cX11_byChance 74 = .ok (.iinc 11 1, 3) := by decide +kernel
theorem dX11_byChance_77 : decode cX11_byChance 77 = .ok (.goto (-12), 3) := by decide +kernel
theorem dX11_byChance_80 : decode cX11_byChance 80 = .ok (.iconst 0, 1) := by decide +kernel
theorem dX11_byChance_81 : decode cX11_byChance 81 = .ok (.istore 12, 2) := by decide +kernel
theorem dX11_byChance_83 : decode cX11_byChance 83 = .ok (.iload 12, 2) := by decide +kernel
theorem dX11_byChance_85 : decode cX11_byChance 85 = .ok (.iload_n 1, 1) := by decide +kernel
theorem dX11_byChance_86 : decode cX11_byChance 86 = .ok (.if_icmp .ge 100, 3) := by decide +kernel
theorem dX11_byChance_89 : decode cX11_byChance 89 = .ok (.aload_n 0, 1) := by decide +kernel
theorem dX11_byChance_90 : decode cX11_byChance 90 = .ok (.lload_n 2, 1) := by decide +kernel
theorem dX11_byChance_91 : decode cX11_byChance 91 = .ok (.iload 12, 2) := by decide +kernel
theorem dX11_byChance_93 : decode cX11_byChance 93 = .ok (.i2l, 1) := by decide +kernel
theorem dX11_byChance_94 : decode cX11_byChance 94 = .ok (.ladd, 1) := by decide +kernel
theorem dX11_byChance_95 : decode cX11_byChance 95 = .ok (.putfield 228, 3) := by decide +kernel
theorem dX11_byChance_98 : decode cX11_byChance 98 = .ok (.aload_n 0, 1) := by decide +kernel
theorem dX11_byChance_99 : decode cX11_byChance 99 = .ok (.iconst 2, 1) := by decide +kernel
theorem dX11_byChance_100 : decode cX11_byChance 100 = .ok (.iconst 0, 1) := by decide +kernel
theorem dX11_byChance_101 : decode cX11_byChance 101 = .ok (.invokevirtual 389, 3) := by decide +kernel
theorem dX11_byChance_104 : decode cX11_byChance 104 = .ok (.aload_n 0, 1) := by decide +kernel
theorem dX11_byChance_105 : decode cX11_byChance 105 = .ok (.invokevirtual 392, 3) := by decide +kernel
theorem dX11_byChance_108 : decode cX11_byChance 108 = .ok (.istore 13, 2) := by decide +kernel
theorem dX11_byChance_110 : decode cX11_byChance 110 = .ok (.iload 7, 2) := by decide +kernel
theorem dX11_byChance_112 : decode cX11_byChance 112 = .ok (.iload 13, 2) := by decide +kernel
theorem dX11_byChance_114 : decode cX11_byChance 114 = .ok (.ifCond .eq 7, 3) := by decide +kernel
theorem dX11_byChance_117 : decode cX11_byChance 117 = .ok (.iconst 1, 1) := by decide +kernel
theorem dX11_byChance_118 : decode cX11_byChance 118 = .ok (.goto 4, 3) := by decide +kernel
theorem dX11_byChance_121 : decode cX11_byChance 121 = .ok (.iconst 0, 1) := by decide +kernel
theorem dX11_byChance_122 : decode cX11_byChance 122 = .ok (.iadd, 1) := by decide +kernel
theorem dX11_byChance_123 : decode cX11_byChance 123 = .ok (.istore 7, 2) := by decide +kernel
theorem dX11_byChance_125 : decode cX11_byChance 125 = .ok (.iload 8, 2) := by decide +kernel
theorem dX11_byChance_127 : decode cX11_byChance 127 = .ok (.aload_n 0, 1) := by decide +kernel
theorem dX11_byChance_128 : decode cX11_byChance 128 = .ok (.getfield 254, 3) := by decide +kernel
theorem dX11_byChance_131 : decode cX11_byChance 131 = .ok (.iadd, 1) := by decide +kernel
theorem dX11_byChance_132 : decode cX11_byChance 132 = .ok (.istore 8, 2) := by decide +kernel
theorem dX11_byChance_134 : decode cX11_byChance 134 = .ok (.iload 13, 2) := by decide +kernel
theorem dX11_byChance_136 : decode cX11_byChance 136 = .ok (.ifCond .ne 14, 3) := by decide +kernel
theorem dX11_byChance_139 : decode cX11_byChance 139 = .ok (.iload 9, 2) := by decide +kernel
theorem dX11_byChance_141 : decode cX11_byChance 141 = .ok (.iconst (-1), 1) := by decide +kernel
theorem dX11_byChance_142 : decode cX11_byChance 142 = .ok (.if_icmp .ne 8, 3) := by decide +kernel
theorem dX11_byChance_145 : decode cX11_byChance 145 = .ok (.iload 12, 2) := by decide +kernel
theorem dX11_byChance_147 : decode cX11_byChance 147 = .ok (.goto 5, 3) := by decide +kernel
theorem dX11_byChance_150 : decode cX11_byChance 150 = .ok (.iload 9, 2) := by decide +kernel
theorem dX11_byChance_152 : decode cX11_byChance 152 = .ok (.istore 9, 2) := by decide +kernel
theorem dX11_byChance_154 : decode cX11_byChance 154 = .ok (.iload 10, 2) := by decide +kernel
theorem dX11_byChance_156 : decode cX11_byChance 156 = .ok (.iload 13, 2) := by decide +kernel
theorem dX11_byChance_158 : decode cX11_byChance 158 = .ok (.ifCond .eq 18, 3) := by decide +kernel
theorem dX11_byChance_161 : decode cX11_byChance 161 = .ok (.aload_n 0, 1) := by decide +kernel
theorem dX11_byChance_162 : decode cX11_byChance 162 = .ok (.getfield 26, 3) := by decide +kernel
theorem dX11_byChance_165 : decode cX11_byChance 165 = .ok (.iload 11, 2) := by decide +kernel
theorem dX11_byChance_167 : decode cX11_byChance 167 = .ok (.iaload, 1) := by decide +kernel
theorem dX11_byChance_168 : decode cX11_byChance 168 = .ok (.iconst 1, 1) := by decide +kernel
theorem dX11_byChance_169 : decode cX11_byChance 169 = .ok (.if_icmp .ne 7, 3) := by decide +kernel
theorem dX11_byChance_172 : decode cX11_byChance 172 = .ok (.iconst 1, 1) := by decide +kernel
theorem dX11_byChance_173 : decode cX11_byChance 173 = .ok (.goto 4, 3) := by decide +kernel
theorem dX11_byChance_176 : decode cX11_byChance 176 = .ok (.iconst 0, 1) := by decide +kernel
theorem dX11_byChance_177 : decode cX11_byChance 177 = .ok (.iadd, 1) := by decide +kernel
theorem dX11_byChance_178 : decode cX11_byChance 178 = .ok (.istore 10, 2) := by decide +kernel
theorem dX11_byChance_180 : decode cX11_byChance 180 = .ok (.iinc 12 1, 3) := by decide +kernel
theorem dX11_byChance_183 : decode cX11_byChance 183 = .ok (.goto (-100), 3) := by decide +kernel
theorem dX11_byChance_186 : decode cX11_byChance 186 = .ok (.aload_n 0, 1) := by decide +kernel
theorem dX11_byChance_187 : decode cX11_byChance 187 = .ok (.lload 5, 2) := by decide +kernel
theorem dX11_byChance_189 : decode cX11_byChance 189 = .ok (.putfield 228, 3) := by decide +kernel
theorem dX11_byChance_192 : decode cX11_byChance 192 = .ok (.iload 4, 2) := by decide +kernel
theorem dX11_byChance_194 : decode cX11_byChance 194 = .ok (.ifCond .ne 8, 3) := by decide +kernel
theorem dX11_byChance_197 : decode cX11_byChance 197 = .ok (.iload 7, 2) := by decide +kernel
theorem dX11_byChance_199 : decode cX11_byChance 199 = .ok (.goto 27, 3) := by decide +kernel
theorem dX11_byChance_202 : decode cX11_byChance 202 = .ok (.iload 4, 2) := by decide +kernel
theorem dX11_byChance_204 : decode cX11_byChance 204 = .ok (.iconst 1, 1) := by decide +kernel
theorem dX11_byChance_205 : decode cX11_byChance 205 = .ok (.if_icmp .ne 8, 3) := by decide +kernel
theorem dX11_byChance_208 : decode cX11_byChance 208 = .ok (.iload 8, 2) := by decide +kernel
theorem dX11_byChance_210 : decode cX11_byChance 210 = .ok (.goto 16, 3) := by decide +kernel
theorem dX11_byChance_213 : decode cX11_byChance 213 = .ok (.iload 4, 2) := by decide +kernel
theorem dX11_byChance_215 : decode cX11_byChance 215 = .ok (.iconst 2, 1) := by decide +kernel
theorem dX11_byChance_216 : decode cX11_byChance 216 = .ok (.if_icmp .ne 8, 3) := by decide +kernel
theorem dX11_byChance_219 : decode cX11_byChance 219 = .ok (.iload 9, 2) := by decide +kernel
theorem dX11_byChance_221 : decode cX11_byChance 221 = .ok (.goto 5, 3) := by decide +kernel
theorem dX11_byChance_224 : decode cX11_byChance 224 = .ok (.iload 10, 2) := by decide +kernel
theorem dX11_byChance_226 : decode cX11_byChance 226 = .ok (.ireturn, 1) := by decide +kernel
theorem dX11_byPlan_0 : decode cX11_byPlan 0 = .ok (.aload_n 0, 1) := by decide +kernel
theorem dX11_byPlan_1 : decode cX11_byPlan 1 = .ok (.getfield 236, 3) := by decide +kernel
theorem dX11_byPlan_4 : decode cX11_byPlan 4 = .ok (.iconst 1, 1) := by decide +kernel
theorem dX11_byPlan_5 : decode cX11_byPlan 5 = .ok (.isub, 1) := by decide +kernel
theorem dX11_byPlan_6 : decode cX11_byPlan 6 = .ok (.istore 6, 2) := by decide +kernel
theorem dX11_byPlan_8 : decode cX11_byPlan 8 = .ok (.iload 6, 2) := by decide +kernel
theorem dX11_byPlan_10 : decode cX11_byPlan 10 = .ok (.ifCond .lt 76, 3) := by decide +kernel
theorem dX11_byPlan_13 : decode cX11_byPlan 13 = .ok (.iconst 5, 1) := by decide +kernel
theorem dX11_byPlan_14 : decode cX11_byPlan 14 = .ok (.iload 6, 2) := by decide +kernel
theorem dX11_byPlan_16 : decode cX11_byPlan 16 = .ok (.imul, 1) := by decide +kernel
theorem dX11_byPlan_17 : decode cX11_byPlan 17 = .ok (.istore 7, 2) := by decide +kernel
theorem dX11_byPlan_19 : decode cX11_byPlan 19 = .ok (.aload_n 0, 1) := by decide +kernel
theorem dX11_byPlan_20 : decode cX11_byPlan 20 = .ok (.getfield 23, 3) := by decide +kernel
theorem dX11_byPlan_23 : decode cX11_byPlan 23 = .ok (.iload 7, 2) := by decide +kernel
theorem dX11_byPlan_25 : decode cX11_byPlan 25 = .ok (.iaload, 1) := by decide +kernel
theorem dX11_byPlan_26 : decode cX11_byPlan 26 = .ok (.iload_n 1, 1) := by decide +kernel
theorem dX11_byPlan_27 : decode cX11_byPlan 27 = .ok (.if_icmp .ne 53, 3) := by decide +kernel
theorem dX11_byPlan_30 : decode cX11_byPlan 30 = .ok (.aload_n 0, 1) := by decide +kernel
theorem dX11_byPlan_31 : decode cX11_byPlan 31 = .ok (.getfield 23, 3) := by decide +kernel
theorem dX11_byPlan_34 : decode cX11_byPlan 34 = .ok (.iload 7, 2) := by decide +kernel
theorem dX11_byPlan_36 : decode cX11_byPlan 36 = .ok (.iconst 1, 1) := by decide +kernel
theorem dX11_byPlan_37 : decode cX11_byPlan 37 = .ok (.iadd, 1) := by decide +kernel
theorem dX11_byPlan_38 : decode cX11_byPlan 38 = .ok (.iaload, 1) := by decide +kernel
theorem dX11_byPlan_39 : decode cX11_byPlan 39 = .ok (.iload_n 2, 1) := by decide +kernel
theorem dX11_byPlan_40 : decode cX11_byPlan 40 = .ok (.if_icmp .ne 40, 3) := by decide +kernel
theorem dX11_byPlan_43 : decode cX11_byPlan 43 = .ok (.aload_n 0, 1) := by decide +kernel
theorem dX11_byPlan_44 : decode cX11_byPlan 44 = .ok (.getfield 23, 3) := by decide +kernel
theorem dX11_byPlan_47 : decode cX11_byPlan 47 = .ok (.iload 7, 2) := by decide +kernel
theorem dX11_byPlan_49 : decode cX11_byPlan 49 = .ok (.iconst 2, 1) := by decide +kernel
theorem dX11_byPlan_50 : decode cX11_byPlan 50 = .ok (.iadd, 1) := by decide +kernel
theorem dX11_byPlan_51 : decode cX11_byPlan 51 = .ok (.iaload, 1) := by decide +kernel
theorem dX11_byPlan_52 : decode cX11_byPlan 52 = .ok (.iload_n 3, 1) := by decide +kernel
theorem dX11_byPlan_53 : decode cX11_byPlan 53 = .ok (.if_icmp .ne 27, 3) := by decide +kernel
theorem dX11_byPlan_56 : decode cX11_byPlan 56 = .ok (.aload_n 0, 1) := by decide +kernel
theorem dX11_byPlan_57 : decode cX11_byPlan 57 = .ok (.getfield 23, 3) := by decide +kernel
theorem dX11_byPlan_60 : decode cX11_byPlan 60 = .ok (.iload 7, 2) := by decide +kernel
theorem dX11_byPlan_62 : decode cX11_byPlan 62 = .ok (.iconst 3, 1) := by decide +kernel
theorem dX11_byPlan_63 : decode cX11_byPlan 63 = .ok (.iadd, 1) := by decide +kernel
theorem dX11_byPlan_64 : decode cX11_byPlan 64 = .ok (.iaload, 1) := by decide +kernel
theorem dX11_byPlan_65 : decode cX11_byPlan 65 = .ok (.iload 4, 2) := by decide +kernel
theorem dX11_byPlan_67 : decode cX11_byPlan 67 = .ok (.if_icmp .ne 13, 3) := by decide +kernel
theorem dX11_byPlan_70 : decode cX11_byPlan 70 = .ok (.aload_n 0, 1) := by decide +kernel
theorem dX11_byPlan_71 : decode cX11_byPlan 71 = .ok (.getfield 23, 3) := by decide +kernel
theorem dX11_byPlan_74 : decode cX11_byPlan 74 = .ok (.iload 7, 2) := by decide +kernel
theorem dX11_byPlan_76 : decode cX11_byPlan 76 = .ok (.iconst 4, 1) := by decide +kernel
theorem dX11_byPlan_77 : decode cX11_byPlan 77 = .ok (.iadd, 1) := by decide +kernel
theorem dX11_byPlan_78 : decode cX11_byPlan 78 = .ok (.iaload, 1) := by decide +kernel
theorem dX11_byPlan_79 : decode cX11_byPlan 79 = .ok (.ireturn, 1) := by decide +kernel
theorem dX11_byPlan_80 : decode cX11_byPlan 80 = .ok (.iinc 6 (-1), 3) := by decide +kernel
theorem dX11_byPlan_83 : decode cX11_byPlan 83 = .ok (.goto (-75), 3) := by decide +kernel
theorem dX11_byPlan_86 : decode cX11_byPlan 86 = .ok (.iconst 0, 1) := by decide +kernel
theorem dX11_byPlan_87 : decode cX11_byPlan 87 = .ok (.istore 6, 2) := by decide +kernel
theorem dX11_byPlan_89 : decode cX11_byPlan 89 = .ok (.iload 6, 2) := by decide +kernel
theorem dX11_byPlan_91 : decode cX11_byPlan 91 = .ok (.aload_n 0, 1) := by decide +kernel
theorem dX11_byPlan_92 : decode cX11_byPlan 92 = .ok (.getfield 248, 3) := by decide +kernel
theorem dX11_byPlan_95 : decode cX11_byPlan 95 = .ok (.if_icmp .ge 149, 3) := by decide +kernel
theorem dX11_byPlan_98 : decode cX11_byPlan 98 = .ok (.iconst 5, 1) := by decide +kernel
theorem dX11_byPlan_99 : decode cX11_byPlan 99 = .ok (.iload 6, 2) := by decide +kernel
theorem dX11_byPlan_101 : decode cX11_byPlan 101 = .ok (.imul, 1) := by decide +kernel
theorem dX11_byPlan_102 : decode cX11_byPlan 102 = .ok (.istore 7, 2) := by decide +kernel
theorem dX11_byPlan_104 : decode cX11_byPlan 104 = .ok (.aload_n 0, 1) := by decide +kernel
theorem dX11_byPlan_105 : decode cX11_byPlan 105 = .ok (.getfield 17, 3) := by decide +kernel
theorem dX11_byPlan_108 : decode cX11_byPlan 108 = .ok (.iload 7, 2) := by decide +kernel
theorem dX11_byPlan_110 : decode cX11_byPlan 110 = .ok (.iaload, 1) := by decide +kernel
theorem dX11_byPlan_111 : decode cX11_byPlan 111 = .ok (.iload_n 1, 1) := by decide +kernel
theorem dX11_byPlan_112 : decode cX11_byPlan 112 = .ok (.invokestatic 269, 3) := by decide +kernel
theorem dX11_byPlan_115 : decode cX11_byPlan 115 = .ok (.ifCond .eq 123, 3) := by decide +kernel
theorem dX11_byPlan_118 : decode cX11_byPlan 118 = .ok (.aload_n 0, 1) := by decide +kernel
theorem dX11_byPlan_119 : decode cX11_byPlan 119 = .ok (.getfield 17, 3) := by decide +kernel
theorem dX11_byPlan_122 : decode cX11_byPlan 122 = .ok (.iload 7, 2) := by decide +kernel
theorem dX11_byPlan_124 : decode cX11_byPlan 124 = .ok (.iconst 1, 1) := by decide +kernel
theorem dX11_byPlan_125 : decode cX11_byPlan 125 = .ok (.iadd, 1) := by decide +kernel
theorem dX11_byPlan_126 : decode cX11_byPlan 126 = .ok (.iaload, 1) := by decide +kernel
theorem dX11_byPlan_127 : decode cX11_byPlan 127 = .ok (.iload_n 2, 1) := by decide +kernel
theorem dX11_byPlan_128 : decode cX11_byPlan 128 = .ok (.invokestatic 269, 3) := by decide +kernel
theorem dX11_byPlan_131 : decode cX11_byPlan 131 = .ok (.ifCond .eq 107, 3) := by decide +kernel
theorem dX11_byPlan_134 : decode cX11_byPlan 134 = .ok (.aload_n 0, 1) := by decide +kernel
theorem dX11_byPlan_135 : decode cX11_byPlan 135 = .ok (.getfield 17, 3) := by decide +kernel
theorem dX11_byPlan_138 : decode cX11_byPlan 138 = .ok (.iload 7, 2) := by decide +kernel
theorem dX11_byPlan_140 : decode cX11_byPlan 140 = .ok (.iconst 2, 1) := by decide +kernel
theorem dX11_byPlan_141 : decode cX11_byPlan 141 = .ok (.iadd, 1) := by decide +kernel
theorem dX11_byPlan_142 : decode cX11_byPlan 142 = .ok (.iaload, 1) := by decide +kernel
theorem dX11_byPlan_143 : decode cX11_byPlan 143 = .ok (.iload_n 3, 1) := by decide +kernel
theorem dX11_byPlan_144 : decode cX11_byPlan 144 = .ok (.invokestatic 269, 3) := by decide +kernel
theorem dX11_byPlan_147 : decode cX11_byPlan 147 = .ok (.ifCond .eq 91, 3) := by decide +kernel
theorem dX11_byPlan_150 : decode cX11_byPlan 150 = .ok (.aload_n 0, 1) := by decide +kernel
theorem dX11_byPlan_151 : decode cX11_byPlan 151 = .ok (.getfield 17, 3) := by decide +kernel
theorem dX11_byPlan_154 : decode cX11_byPlan 154 = .ok (.iload 7, 2) := by decide +kernel
theorem dX11_byPlan_156 : decode cX11_byPlan 156 = .ok (.iconst 3, 1) := by decide +kernel
theorem dX11_byPlan_157 : decode cX11_byPlan 157 = .ok (.iadd, 1) := by decide +kernel
theorem dX11_byPlan_158 : decode cX11_byPlan 158 = .ok (.iaload, 1) := by decide +kernel
theorem dX11_byPlan_159 : decode cX11_byPlan 159 = .ok (.iload 4, 2) := by decide +kernel
theorem dX11_byPlan_161 : decode cX11_byPlan 161 = .ok (.invokestatic 269, 3) := by decide +kernel
theorem dX11_byPlan_164 : decode cX11_byPlan 164 = .ok (.ifCond .ne 6, 3) := by decide +kernel
theorem dX11_byPlan_167 : decode cX11_byPlan 167 = .ok (.goto 71, 3) := by decide +kernel
theorem dX11_byPlan_170 : decode cX11_byPlan 170 = .ok (.aload_n 0, 1) := by decide +kernel
theorem dX11_byPlan_171 : decode cX11_byPlan 171 = .ok (.getfield 17, 3) := by decide +kernel
theorem dX11_byPlan_174 : decode cX11_byPlan 174 = .ok (.iload 7, 2) := by decide +kernel
theorem dX11_byPlan_176 : decode cX11_byPlan 176 = .ok (.iconst 4, 1) := by decide +kernel
theorem dX11_byPlan_177 : decode cX11_byPlan 177 = .ok (.iadd, 1) := by decide +kernel
theorem dX11_byPlan_178 : decode cX11_byPlan 178 = .ok (.iaload, 1) := by decide +kernel
theorem dX11_byPlan_179 : decode cX11_byPlan 179 = .ok (.istore 8, 2) := by decide +kernel
theorem dX11_byPlan_181 : decode cX11_byPlan 181 = .ok (.iload 8, 2) := by decide +kernel
theorem dX11_byPlan_183 : decode cX11_byPlan 183 = .ok (.iconst 3, 1) := by decide +kernel
theorem dX11_byPlan_184 : decode cX11_byPlan 184 = .ok (.if_icmp .ge 6, 3) := by decide +kernel
theorem dX11_byPlan_187 : decode cX11_byPlan 187 = .ok (.iload 8, 2) := by decide +kernel
theorem dX11_byPlan_189 : decode cX11_byPlan 189 = .ok (.ireturn, 1) := by decide +kernel
theorem dX11_byPlan_190 : decode cX11_byPlan 190 = .ok (.iload 8, 2) := by decide +kernel
theorem dX11_byPlan_192 : decode cX11_byPlan 192 = .ok (.iconst 3, 1) := by decide +kernel
theorem dX11_byPlan_193 : decode cX11_byPlan 193 = .ok (.if_icmp .ne 6, 3) := by decide +kernel
theorem dX11_byPlan_196 : decode cX11_byPlan 196 = .ok (.iload 5, 2) := by decide +kernel
theorem dX11_byPlan_198 : decode cX11_byPlan 198 = .ok (.ireturn, 1) := by decide +kernel
theorem dX11_byPlan_199 : decode cX11_byPlan 199 = .ok (.iload 8, 2) := by decide +kernel
theorem dX11_byPlan_201 : decode cX11_byPlan 201 = .ok (.iconst 4, 1) := by decide +kernel
theorem dX11_byPlan_202 : decode cX11_byPlan 202 = .ok (.if_icmp .ne 18, 3) := by decide +kernel
theorem dX11_byPlan_205 : decode cX11_byPlan 205 = .ok (.iload 5, 2) := by decide +kernel
theorem dX11_byPlan_207 : decode cX11_byPlan 207 = .ok (.iconst 2, 1) := by decide +kernel
theorem dX11_byPlan_208 : decode cX11_byPlan 208 = .ok (.if_icmp .ne 7, 3) := by decide +kernel
theorem dX11_byPlan_211 : decode cX11_byPlan 211 = .ok (.iconst 2, 1) := by decide +kernel
theorem dX11_byPlan_212 : decode cX11_byPlan 212 = .ok (.goto 7, 3) := by decide +kernel
theorem dX11_byPlan_215 : decode cX11_byPlan 215 = .ok (.iconst 1, 1) := by decide +kernel
theorem dX11_byPlan_216 : decode cX11_byPlan 216 = .ok (.iload 5, 2) := by decide +kernel
theorem dX11_byPlan_218 : decode cX11_byPlan 218 = .ok (.isub, 1) := by decide +kernel
theorem dX11_byPlan_219 : decode cX11_byPlan 219 = .ok (.ireturn, 1) := by decide +kernel
theorem dX11_byPlan_220 : decode cX11_byPlan 220 = .ok (.iload 8, 2) := by decide +kernel
theorem dX11_byPlan_222 : decode cX11_byPlan 222 = .ok (.iconst 5, 1) := by decide +kernel
theorem dX11_byPlan_223 : decode cX11_byPlan 223 = .ok (.if_icmp .ne 10, 3) := by decide +kernel
theorem dX11_byPlan_226 : decode cX11_byPlan 226 = .ok (.iload 4, 2) := by decide +kernel
theorem dX11_byPlan_228 : decode cX11_byPlan 228 = .ok (.iconst 2, 1) := by decide +kernel
theorem dX11_byPlan_229 : decode cX11_byPlan 229 = .ok (.irem, 1) := by decide +kernel
theorem dX11_byPlan_230 : decode cX11_byPlan 230 = .ok (.goto 7, 3) := by decide +kernel
theorem dX11_byPlan_233 : decode cX11_byPlan 233 = .ok (.aload_n 0, 1) := by decide +kernel
theorem dX11_byPlan_234 : decode cX11_byPlan 234 = .ok (.invokevirtual 272, 3) := by decide +kernel
theorem dX11_byPlan_237 : decode cX11_byPlan 237 = .ok (.ireturn, 1) := by decide +kernel
theorem dX11_byPlan_238 : decode cX11_byPlan 238 = .ok (.iinc 6 1, 3) := by decide +kernel
theorem dX11_byPlan_241 : decode cX11_byPlan 241 = .ok (.goto (-152), 3) := by decide +kernel
theorem dX11_byPlan_244 : decode cX11_byPlan 244 = .ok (.iload 5, 2) := by decide +kernel
theorem dX11_byPlan_246 : decode cX11_byPlan 246 = .ok (.ireturn, 1) := by decide +kernel
theorem dX11_bytesOf_0 : decode cX11_bytesOf 0 = .ok (.iconst 0, 1) := by decide +kernel
theorem dX11_bytesOf_1 : decode cX11_bytesOf 1 = .ok (.istore_n 1, 1) := by decide +kernel
theorem dX11_bytesOf_2 : decode cX11_bytesOf 2 = .ok (.iconst 0, 1) := by decide +kernel
theorem dX11_bytesOf_3 : decode cX11_bytesOf 3 = .ok (.istore_n 2, 1) := by decide +kernel
theorem dX11_bytesOf_4 : decode cX11_bytesOf 4 = .ok (.iload_n 2, 1) := by decide +kernel
theorem dX11_bytesOf_5 : decode cX11_bytesOf 5 = .ok (.iconst 4, 1) := by decide +kernel
theorem dX11_bytesOf_6 : decode cX11_bytesOf 6 = .ok (.if_icmp .ge 30, 3) := by decide +kernel
theorem dX11_bytesOf_9 : decode cX11_bytesOf 9 = .ok (.iload_n 1, 1) := by decide +kernel
theorem dX11_bytesOf_10 : decode cX11_bytesOf 10 = .ok (.iload_n 0, 1) := by decide +kernel
theorem dX11_bytesOf_11 : decode cX11_bytesOf 11 = .ok (.bipush 8, 2) := by decide +kernel
theorem dX11_bytesOf_13 : decode cX11_bytesOf 13 = .ok (.iload_n 2, 1) := by decide +kernel
theorem dX11_bytesOf_14 : decode cX11_bytesOf 14 = .ok (.imul, 1) := by decide +kernel
theorem dX11_bytesOf_15 : decode cX11_bytesOf 15 = .ok (.ishr, 1) := by decide +kernel
theorem dX11_bytesOf_16 : decode cX11_bytesOf 16 = .ok (.sipush 255, 3) := by decide +kernel
theorem dX11_bytesOf_19 : decode cX11_bytesOf 19 = .ok (.iand, 1) := by decide +kernel
theorem dX11_bytesOf_20 : decode cX11_bytesOf 20 = .ok (.ifCond .ne 7, 3) := by decide +kernel
theorem dX11_bytesOf_23 : decode cX11_bytesOf 23 = .ok (.iconst 0, 1) := by decide +kernel
theorem dX11_bytesOf_24 : decode cX11_bytesOf 24 = .ok (.goto 4, 3) := by decide +kernel
theorem dX11_bytesOf_27 : decode cX11_bytesOf 27 = .ok (.iconst 1, 1) := by decide +kernel
theorem dX11_bytesOf_28 : decode cX11_bytesOf 28 = .ok (.iadd, 1) := by decide +kernel
theorem dX11_bytesOf_29 : decode cX11_bytesOf 29 = .ok (.istore_n 1, 1) := by decide +kernel
theorem dX11_bytesOf_30 : decode cX11_bytesOf 30 = .ok (.iinc 2 1, 3) := by decide +kernel
theorem dX11_bytesOf_33 : decode cX11_bytesOf 33 = .ok (.goto (-29), 3) := by decide +kernel
theorem dX11_bytesOf_36 : decode cX11_bytesOf 36 = .ok (.iload_n 1, 1) := by decide +kernel
theorem dX11_bytesOf_37 : decode cX11_bytesOf 37 = .ok (.ireturn, 1) := by decide +kernel
theorem dX11_canBreak_0 : decode cX11_canBreak 0 = .ok (.aload_n 0, 1) := by decide +kernel
theorem dX11_canBreak_1 : decode cX11_canBreak 1 = .ok (.iconst 0, 1) := by decide +kernel
theorem dX11_canBreak_2 : decode cX11_canBreak 2 = .ok (.putfield 80, 3) := by decide +kernel
theorem dX11_canBreak_5 : decode cX11_canBreak 5 = .ok (.iload_n 1, 1) := by decide +kernel
theorem dX11_canBreak_6 : decode cX11_canBreak 6 = .ok (.i2l, 1) := by decide +kernel
theorem dX11_canBreak_7 : decode cX11_canBreak 7 = .ok (.lconst 0, 1) := by decide +kernel
theorem dX11_canBreak_8 : decode cX11_canBreak 8 = .ok (.lconst 1, 1) := by decide +kernel
theorem dX11_canBreak_9 : decode cX11_canBreak 9 = .ok (.invokestatic 132, 3) := by decide +kernel
theorem dX11_canBreak_12 : decode cX11_canBreak 12 = .ok (.ifCond .eq 18, 3) := by decide +kernel
theorem dX11_canBreak_15 : decode cX11_canBreak 15 = .ok (.aload_n 0, 1) := by decide +kernel
theorem dX11_canBreak_16 : decode cX11_canBreak 16 = .ok (.getfield 232, 3) := by decide +kernel
theorem dX11_canBreak_19 : decode cX11_canBreak 19 = .ok (.ifCond .eq 11, 3) := by decide +kernel
theorem dX11_canBreak_22 : decode cX11_canBreak 22 = .ok (.aload_n 0, 1) := by decide +kernel
theorem dX11_canBreak_23 : decode cX11_canBreak 23 = .ok (.getfield 215, 3) := by decide +kernel
theorem dX11_canBreak_26 : decode cX11_canBreak 26 = .ok (.iconst 5, 1) := by decide +kernel
theorem dX11_canBreak_27 : decode cX11_canBreak 27 = .ok (.if_icmp .le 6, 3) := by decide +kernel
theorem dX11_canBreak_30 : decode cX11_canBreak 30 = .ok (.bipush (-2), 2) := by decide +kernel
theorem dX11_canBreak_32 : decode cX11_canBreak 32 = .ok (.ireturn, 1) := by decide +kernel
theorem dX11_canBreak_33 : decode cX11_canBreak 33 = .ok (.aload_n 0, 1) := by decide +kernel
theorem dX11_canBreak_34 : decode cX11_canBreak 34 = .ok (.invokevirtual 329, 3) := by decide +kernel
theorem dX11_canBreak_37 : decode cX11_canBreak 37 = .ok (.aload_n 0, 1) := by decide +kernel
theorem dX11_canBreak_38 : decode cX11_canBreak 38 = .ok (.getfield 226, 3) := by decide +kernel
theorem dX11_canBreak_41 : decode cX11_canBreak 41 = .ok (.invokestatic 383, 3) := by decide +kernel
theorem dX11_canBreak_44 : decode cX11_canBreak 44 = .ok (.istore_n 2, 1) := by decide +kernel
theorem dX11_canBreak_45 : decode cX11_canBreak 45 = .ok (.iconst 0, 1) := by decide +kernel
theorem dX11_canBreak_46 : decode cX11_canBreak 46 = .ok (.istore_n 3, 1) := by decide +kernel
theorem dX11_canBreak_47 : decode cX11_canBreak 47 = .ok (.iload_n 3, 1) := by decide +kernel
theorem dX11_canBreak_48 : decode cX11_canBreak 48 = .ok (.iconst 1, 1) := by decide +kernel
theorem dX11_canBreak_49 : decode cX11_canBreak 49 = .ok (.aload_n 0, 1) := by decide +kernel
theorem dX11_canBreak_50 : decode cX11_canBreak 50 = .ok (.getfield 215, 3) := by decide +kernel
theorem dX11_canBreak_53 : decode cX11_canBreak 53 = .ok (.ishl, 1) := by decide +kernel
theorem dX11_canBreak_54 : decode cX11_canBreak 54 = .ok (.iconst 1, 1) := by decide +kernel
theorem dX11_canBreak_55 : decode cX11_canBreak 55 = .ok (.isub, 1) := by decide +kernel
theorem dX11_canBreak_56 : decode cX11_canBreak 56 = .ok (.if_icmp .ge 38, 3) := by decide +kernel
theorem dX11_canBreak_59 : decode cX11_canBreak 59 = .ok (.aload_n 0, 1) := by decide +kernel
theorem dX11_canBreak_60 : decode cX11_canBreak 60 = .ok (.iload_n 3, 1) := by decide +kernel
theorem dX11_canBreak_61 : decode cX11_canBreak 61 = .ok (.putfield 226, 3) := by decide +kernel
theorem dX11_canBreak_64 : decode cX11_canBreak 64 = .ok (.iload_n 3, 1) := by decide +kernel
theorem dX11_canBreak_65 : decode cX11_canBreak 65 = .ok (.invokestatic 383, 3) := by decide +kernel
theorem dX11_canBreak_68 : decode cX11_canBreak 68 = .ok (.iload_n 2, 1) := by decide +kernel
theorem dX11_canBreak_69 : decode cX11_canBreak 69 = .ok (.if_icmp .ne 19, 3) := by decide +kernel
theorem dX11_canBreak_72 : decode cX11_canBreak 72 = .ok (.aload_n 0, 1) := by decide +kernel
theorem dX11_canBreak_73 : decode cX11_canBreak 73 = .ok (.aload_n 0, 1) := by decide +kernel
theorem dX11_canBreak_74 : decode cX11_canBreak 74 = .ok (.getfield 220, 3) := by decide +kernel
theorem dX11_canBreak_77 : decode cX11_canBreak 77 = .ok (.invokevirtual 386, 3) := by decide +kernel
theorem dX11_canBreak_80 : decode cX11_canBreak 80 = .ok (.bipush 12, 2) := by decide +kernel
theorem dX11_canBreak_82 : decode cX11_canBreak 82 = .ok (.if_icmp .le 6, 3) := by decide +kernel
theorem dX11_canBreak_85 : decode cX11_canBreak 85 = .ok (.bipush (-2), 2) := by decide +kernel
theorem dX11_canBreak_87 : decode cX11_canBreak 87 = .ok (.ireturn, 1) := by decide +kernel
theorem dX11_canBreak_88 : decode cX11_canBreak 88 = .ok (.iinc 3 1, 3) := by decide +kernel
theorem dX11_canBreak_91 : decode cX11_canBreak 91 = .ok (.goto (-44), 3) := by decide +kernel
theorem dX11_canBreak_94 : decode cX11_canBreak 94 = .ok (.iconst 0, 1) := by decide +kernel
theorem dX11_canBreak_95 : decode cX11_canBreak 95 = .ok (.istore_n 3, 1) := by decide +kernel
theorem dX11_canBreak_96 : decode cX11_canBreak 96 = .ok (.iconst (-1), 1) := by decide +kernel
theorem dX11_canBreak_97 : decode cX11_canBreak 97 = .ok (.istore 4, 2) := by decide +kernel
theorem dX11_canBreak_99 : decode cX11_canBreak 99 = .ok (.iconst 0, 1) := by decide +kernel
theorem dX11_canBreak_100 : decode cX11_canBreak 100 = .ok (.istore 5, 2) := by decide +kernel
theorem dX11_canBreak_102 : decode cX11_canBreak 102 = .ok (.iload 5, 2) := by decide +kernel
theorem dX11_canBreak_104 : decode cX11_canBreak 104 = .ok (.iconst 1, 1) := by decide +kernel
theorem dX11_canBreak_105 : decode cX11_canBreak 105 = .ok (.aload_n 0, 1) := by decide +kernel
theorem dX11_canBreak_106 : decode cX11_canBreak 106 = .ok (.getfield 215, 3) := by decide +kernel
theorem dX11_canBreak_109 : decode cX11_canBreak 109 = .ok (.ishl, 1) := by decide +kernel
theorem dX11_canBreak_110 : decode cX11_canBreak 110 = .ok (.iconst 1, 1) := by decide +kernel
theorem dX11_canBreak_111 : decode cX11_canBreak 111 = .ok (.isub, 1) := by decide +kernel
theorem dX11_canBreak_112 : decode cX11_canBreak 112 = .ok (.if_icmp .ge 55, 3) := by decide +kernel
theorem dX11_canBreak_115 : decode cX11_canBreak 115 = .ok (.iload 5, 2) := by decide +kernel
theorem dX11_canBreak_117 : decode cX11_canBreak 117 = .ok (.invokestatic 383, 3) := by decide +kernel
theorem dX11_canBreak_120 : decode cX11_canBreak 120 = .ok (.iload_n 2, 1) := by decide +kernel
theorem dX11_canBreak_121 : decode cX11_canBreak 121 = .ok (.if_icmp .eq 6, 3) := by decide +kernel
theorem dX11_canBreak_124 : decode cX11_canBreak 124 = .ok (.goto 37, 3) := by decide +kernel
theorem dX11_canBreak_127 : decode cX11_canBreak 127 = .ok (.aload_n 0, 1) := by decide +kernel
theorem dX11_canBreak_128 : decode cX11_canBreak 128 = .ok (.iload 5, 2) := by decide +kernel
theorem dX11_canBreak_130 : decode cX11_canBreak 130 = .ok (.putfield 226, 3) := by decide +kernel
theorem dX11_canBreak_133 : decode cX11_canBreak 133 = .ok (.aload_n 0, 1) := by decide +kernel
theorem dX11_canBreak_134 : decode cX11_canBreak 134 = .ok (.invokevirtual 411, 3) := by decide +kernel
theorem dX11_canBreak_137 : decode cX11_canBreak 137 = .ok (.ifCond .ne 6, 3) := by decide +kernel
theorem dX11_canBreak_140 : decode cX11_canBreak 140 = .ok (.goto 21, 3) := by decide +kernel
theorem dX11_canBreak_143 : decode cX11_canBreak 143 = .ok (.iinc 3 1, 3) := by decide +kernel
theorem dX11_canBreak_146 : decode cX11_canBreak 146 = .ok (.iload 4, 2) := by decide +kernel
theorem dX11_canBreak_148 : decode cX11_canBreak 148 = .ok (.iconst (-1), 1) := by decide +kernel
theorem dX11_canBreak_149 : decode cX11_canBreak 149 = .ok (.if_icmp .ne 8, 3) := by decide +kernel
theorem dX11_canBreak_152 : decode cX11_canBreak 152 = .ok (.iload 5, 2) := by decide +kernel
theorem dX11_canBreak_154 : decode cX11_canBreak 154 = .ok (.goto 5, 3) := by decide +kernel
theorem dX11_canBreak_157 : decode cX11_canBreak 157 = .ok (.iload 4, 2) := by decide +kernel
theorem dX11_canBreak_159 : decode cX11_canBreak 159 = .ok (.istore 4, 2) := by decide +kernel
theorem dX11_canBreak_161 : decode cX11_canBreak 161 = .ok (.iinc 5 1, 3) := by decide +kernel
theorem dX11_canBreak_164 : decode cX11_canBreak 164 = .ok (.goto (-62), 3) := by decide +kernel
theorem dX11_canBreak_167 : decode cX11_canBreak 167 = .ok (.iload_n 1, 1) := by decide +kernel
theorem dX11_canBreak_168 : decode cX11_canBreak 168 = .ok (.ifCond .ne 7, 3) := by decide +kernel
theorem dX11_canBreak_171 : decode cX11_canBreak 171 = .ok (.iload_n 3, 1) := by decide +kernel
theorem dX11_canBreak_172 : decode cX11_canBreak 172 = .ok (.goto 5, 3) := by decide +kernel
theorem dX11_canBreak_175 : decode cX11_canBreak 175 = .ok (.iload 4, 2) := by decide +kernel
theorem dX11_canBreak_177 : decode cX11_canBreak 177 = .ok (.ireturn, 1) := by decide +kernel
theorem dX11_canSearch_0 : decode cX11_canSearch 0 = .ok (.aload_n 0, 1) := by decide +kernel
theorem dX11_canSearch_1 : decode cX11_canSearch 1 = .ok (.getfield 232, 3) := by decide +kernel
theorem dX11_canSearch_4 : decode cX11_canSearch 4 = .ok (.ifCond .ne 5, 3) := by decide +kernel
theorem dX11_canSearch_7 : decode cX11_canSearch 7 = .ok (.iconst 0, 1) := by decide +kernel
theorem dX11_canSearch_8 : decode cX11_canSearch 8 = .ok (.ireturn, 1) := by decide +kernel
theorem dX11_canSearch_9 : decode cX11_canSearch 9 = .ok (.aload_n 0, 1) := by decide +kernel
theorem dX11_canSearch_10 : decode cX11_canSearch 10 = .ok (.invokevirtual 329, 3) := by decide +kernel
theorem dX11_canSearch_13 : decode cX11_canSearch 13 = .ok (.aload_n 0, 1) := by decide +kernel
theorem dX11_canSearch_14 : decode cX11_canSearch 14 = .ok (.aload_n 0, 1) := by decide +kernel
theorem dX11_canSearch_15 : decode cX11_canSearch 15 = .ok (.getfield 220, 3) := by decide +kernel
theorem dX11_canSearch_18 : decode cX11_canSearch 18 = .ok (.invokevirtual 386, 3) := by decide +kernel
theorem dX11_canSearch_21 : decode cX11_canSearch 21 = .ok (.bipush 12, 2) := by decide +kernel
theorem dX11_canSearch_23 : decode cX11_canSearch 23 = .ok (.if_icmp .gt 7, 3) := by decide +kernel
theorem dX11_canSearch_26 : decode cX11_canSearch 26 = .ok (.iconst 1, 1) := by decide +kernel
theorem dX11_canSearch_27 : decode cX11_canSearch 27 = .ok (.goto 4, 3) := by decide +kernel
theorem dX11_canSearch_30 : decode cX11_canSearch 30 = .ok (.iconst 0, 1) := by decide +kernel
theorem dX11_canSearch_31 : decode cX11_canSearch 31 = .ok (.ireturn, 1) := by decide +kernel
theorem dX11_changes_0 : decode cX11_changes 0 = .ok (.iconst 0, 1) := by decide +kernel
theorem dX11_changes_1 : decode cX11_changes 1 = .ok (.istore_n 1, 1) := by decide +kernel
theorem dX11_changes_2 : decode cX11_changes 2 = .ok (.iconst 0, 1) := by decide +kernel
theorem dX11_changes_3 : decode cX11_changes 3 = .ok (.istore_n 2, 1) := by decide +kernel
theorem dX11_changes_4 : decode cX11_changes 4 = .ok (.iload_n 2, 1) := by decide +kernel
theorem dX11_changes_5 : decode cX11_changes 5 = .ok (.aload_n 0, 1) := by decide +kernel
theorem dX11_changes_6 : decode cX11_changes 6 = .ok (.invokevirtual 358, 3) := by decide +kernel
theorem dX11_changes_9 : decode cX11_changes 9 = .ok (.if_icmp .ge 58, 3) := by decide +kernel
theorem dX11_changes_12 : decode cX11_changes 12 = .ok (.iconst 0, 1) := by decide +kernel
theorem dX11_changes_13 : decode cX11_changes 13 = .ok (.istore_n 3, 1) := by decide +kernel
theorem dX11_changes_14 : decode cX11_changes 14 = .ok (.iload_n 3, 1) := by decide +kernel
theorem dX11_changes_15 : decode cX11_changes 15 = .ok (.aload_n 0, 1) := by decide +kernel
theorem dX11_changes_16 : decode cX11_changes 16 = .ok (.getfield 215, 3) := by decide +kernel
theorem dX11_changes_19 : decode cX11_changes 19 = .ok (.if_icmp .ge 42, 3) := by decide +kernel
theorem dX11_changes_22 : decode cX11_changes 22 = .ok (.iload_n 1, 1) := by decide +kernel
theorem dX11_changes_23 : decode cX11_changes 23 = .ok (.aload_n 0, 1) := by decide +kernel
theorem dX11_changes_24 : decode cX11_changes 24 = .ok (.iload_n 3, 1) := by decide +kernel
theorem dX11_changes_25 : decode cX11_changes 25 = .ok (.invokevirtual 363, 3) := by decide +kernel
theorem dX11_changes_28 : decode cX11_changes 28 = .ok (.ifCond .eq 24, 3) := by decide +kernel
theorem dX11_changes_31 : decode cX11_changes 31 = .ok (.aload_n 0, 1) := by decide +kernel
theorem dX11_changes_32 : decode cX11_changes 32 = .ok (.iload_n 2, 1) := by decide +kernel
theorem dX11_changes_33 : decode cX11_changes 33 = .ok (.iload_n 3, 1) := by decide +kernel
theorem dX11_changes_34 : decode cX11_changes 34 = .ok (.invokevirtual 366, 3) := by decide +kernel
theorem dX11_changes_37 : decode cX11_changes 37 = .ok (.aload_n 0, 1) := by decide +kernel
theorem dX11_changes_38 : decode cX11_changes 38 = .ok (.iload_n 2, 1) := by decide +kernel
theorem dX11_changes_39 : decode cX11_changes 39 = .ok (.iconst 1, 1) := by decide +kernel
theorem dX11_changes_40 : decode cX11_changes 40 = .ok (.isub, 1) := by decide +kernel
theorem dX11_changes_41 : decode cX11_changes 41 = .ok (.iload_n 3, 1) := by decide +kernel
theorem dX11_changes_42 : decode cX11_changes 42 = .ok (.invokevirtual 366, 3) := by decide +kernel
theorem dX11_changes_45 : decode cX11_changes 45 = .ok (.if_icmp .eq 7, 3) := by decide +kernel
theorem dX11_changes_48 : decode cX11_changes 48 = .ok (.iconst 1, 1) := by decide +kernel
theorem dX11_changes_49 : decode cX11_changes 49 = .ok (.goto 4, 3) := by decide +kernel
theorem dX11_changes_52 : decode cX11_changes 52 = .ok (.iconst 0, 1) := by decide +kernel
theorem dX11_changes_53 : decode cX11_changes 53 = .ok (.iadd, 1) := by decide +kernel
theorem dX11_changes_54 : decode cX11_changes 54 = .ok (.istore_n 1, 1) := by decide +kernel
theorem dX11_changes_55 : decode cX11_changes 55 = .ok (.iinc 3 1, 3) := by decide +kernel
theorem dX11_changes_58 : decode cX11_changes 58 = .ok (.goto (-44), 3) := by decide +kernel
theorem dX11_changes_61 : decode cX11_changes 61 = .ok (.iinc 2 1, 3) := by decide +kernel
theorem dX11_changes_64 : decode cX11_changes 64 = .ok (.goto (-60), 3) := by decide +kernel
theorem dX11_changes_67 : decode cX11_changes 67 = .ok (.iload_n 1, 1) := by decide +kernel
theorem dX11_changes_68 : decode cX11_changes 68 = .ok (.ireturn, 1) := by decide +kernel
theorem dX11_council_0 : decode cX11_council 0 = .ok (.aload_n 0, 1) := by decide +kernel
theorem dX11_council_1 : decode cX11_council 1 = .ok (.iconst 0, 1) := by decide +kernel
theorem dX11_council_2 : decode cX11_council 2 = .ok (.putfield 80, 3) := by decide +kernel
theorem dX11_council_5 : decode cX11_council 5 = .ok (.aload_n 0, 1) := by decide +kernel
theorem dX11_council_6 : decode cX11_council 6 = .ok (.invokevirtual 206, 3) := by decide +kernel
theorem dX11_council_9 : decode cX11_council 9 = .ok (.iconst (-1), 1) := by decide +kernel
theorem dX11_council_10 : decode cX11_council 10 = .ok (.if_icmp .eq 5, 3) := by decide +kernel
theorem dX11_council_13 : decode cX11_council 13 = .ok (.iconst (-1), 1) := by decide +kernel
theorem dX11_council_14 : decode cX11_council 14 = .ok (.ireturn, 1) := by decide +kernel
theorem dX11_council_15 : decode cX11_council 15 = .ok (.aload_n 0, 1) := by decide +kernel
theorem dX11_council_16 : decode cX11_council 16 = .ok (.iconst 0, 1) := by decide +kernel
theorem dX11_council_17 : decode cX11_council 17 = .ok (.putfield 84, 3) := by decide +kernel
theorem dX11_council_20 : decode cX11_council 20 = .ok (.aload_n 0, 1) := by decide +kernel
theorem dX11_council_21 : decode cX11_council 21 = .ok (.aload_n 0, 1) := by decide +kernel
theorem dX11_council_22 : decode cX11_council 22 = .ok (.getfield 178, 3) := by decide +kernel
theorem dX11_council_25 : decode cX11_council 25 = .ok (.putfield 212, 3) := by decide +kernel
theorem dX11_council_28 : decode cX11_council 28 = .ok (.aload_n 0, 1) := by decide +kernel
theorem dX11_council_29 : decode cX11_council 29 = .ok (.aload_n 0, 1) := by decide +kernel
theorem dX11_council_30 : decode cX11_council 30 = .ok (.getfield 13, 3) := by decide +kernel
theorem dX11_council_33 : decode cX11_council 33 = .ok (.iconst 0, 1) := by decide +kernel
theorem dX11_council_34 : decode cX11_council 34 = .ok (.iaload, 1) := by decide +kernel
theorem dX11_council_35 : decode cX11_council 35 = .ok (.putfield 215, 3) := by decide +kernel
theorem dX11_council_38 : decode cX11_council 38 = .ok (.aload_n 0, 1) := by decide +kernel
theorem dX11_council_39 : decode cX11_council 39 = .ok (.aload_n 0, 1) := by decide +kernel
theorem dX11_council_40 : decode cX11_council 40 = .ok (.getfield 13, 3) := by decide +kernel
theorem dX11_council_43 : decode cX11_council 43 = .ok (.iconst 1, 1) := by decide +kernel
theorem dX11_council_44 : decode cX11_council 44 = .ok (.iaload, 1) := by decide +kernel
theorem dX11_council_45 : decode cX11_council 45 = .ok (.putfield 218, 3) := by decide +kernel
theorem dX11_council_48 : decode cX11_council 48 = .ok (.aload_n 0, 1) := by decide +kernel
theorem dX11_council_49 : decode cX11_council 49 = .ok (.aload_n 0, 1) := by decide +kernel
theorem dX11_council_50 : decode cX11_council 50 = .ok (.getfield 13, 3) := by decide +kernel
theorem dX11_council_53 : decode cX11_council 53 = .ok (.iconst 2, 1) := by decide +kernel
theorem dX11_council_54 : decode cX11_council 54 = .ok (.iaload, 1) := by decide +kernel
theorem dX11_council_55 : decode cX11_council 55 = .ok (.putfield 220, 3) := by decide +kernel
theorem dX11_council_58 : decode cX11_council 58 = .ok (.aload_n 0, 1) := by decide +kernel
theorem dX11_council_59 : decode cX11_council 59 = .ok (.aload_n 0, 1) := by decide +kernel
theorem dX11_council_60 : decode cX11_council 60 = .ok (.getfield 13, 3) := by decide +kernel
theorem dX11_council_63 : decode cX11_council 63 = .ok (.iconst 5, 1) := by decide +kernel
theorem dX11_council_64 : decode cX11_council 64 = .ok (.iaload, 1) := by decide +kernel
theorem dX11_council_65 : decode cX11_council 65 = .ok (.putfield 222, 3) := by decide +kernel
theorem dX11_council_68 : decode cX11_council 68 = .ok (.aload_n 0, 1) := by decide +kernel
theorem dX11_council_69 : decode cX11_council 69 = .ok (.aload_n 0, 1) := by decide +kernel
theorem dX11_council_70 : decode cX11_council 70 = .ok (.getfield 13, 3) := by decide +kernel
theorem dX11_council_73 : decode cX11_council 73 = .ok (.iconst 3, 1) := by decide +kernel
theorem dX11_council_74 : decode cX11_council 74 = .ok (.iaload, 1) := by decide +kernel
theorem dX11_council_75 : decode cX11_council 75 = .ok (.putfield 224, 3) := by decide +kernel
theorem dX11_council_78 : decode cX11_council 78 = .ok (.aload_n 0, 1) := by decide +kernel
theorem dX11_council_79 : decode cX11_council 79 = .ok (.aload_n 0, 1) := by decide +kernel
theorem dX11_council_80 : decode cX11_council 80 = .ok (.getfield 13, 3) := by decide +kernel
theorem dX11_council_83 : decode cX11_council 83 = .ok (.iconst 4, 1) := by decide +kernel
theorem dX11_council_84 : decode cX11_council 84 = .ok (.iaload, 1) := by decide +kernel
theorem dX11_council_85 : decode cX11_council 85 = .ok (.putfield 226, 3) := by decide +kernel
theorem dX11_council_88 : decode cX11_council 88 = .ok (.aload_n 0, 1) := by decide +kernel
theorem dX11_council_89 : decode cX11_council 89 = .ok (.lload_n 1, 1) := by decide +kernel
theorem dX11_council_90 : decode cX11_council 90 = .ok (.putfield 228, 3) := by decide +kernel
theorem dX11_council_93 : decode cX11_council 93 = .ok (.aload_n 0, 1) := by decide +kernel
theorem dX11_council_94 : decode cX11_council 94 = .ok (.iconst 1, 1) := by decide +kernel
theorem dX11_council_95 : decode cX11_council 95 = .ok (.putfield 232, 3) := by decide +kernel
theorem dX11_council_98 : decode cX11_council 98 = .ok (.aload_n 0, 1) := by decide +kernel
theorem dX11_council_99 : decode cX11_council 99 = .ok (.iconst 0, 1) := by decide +kernel
theorem dX11_council_100 : decode cX11_council 100 = .ok (.putfield 236, 3) := by decide +kernel
theorem dX11_council_103 : decode cX11_council 103 = .ok (.aload_n 0, 1) := by decide +kernel
theorem dX11_council_104 : decode cX11_council 104 = .ok (.iconst 0, 1) := by decide +kernel
theorem dX11_council_105 : decode cX11_council 105 = .ok (.putfield 239, 3) := by decide +kernel
theorem dX11_council_108 : decode cX11_council 108 = .ok (.aload_n 0, 1) := by decide +kernel
theorem dX11_council_109 : decode cX11_council 109 = .ok (.iconst 0, 1) := by decide +kernel
theorem dX11_council_110 : decode cX11_council 110 = .ok (.putfield 242, 3) := by decide +kernel
theorem dX11_council_113 : decode cX11_council 113 = .ok (.aload_n 0, 1) := by decide +kernel
theorem dX11_council_114 : decode cX11_council 114 = .ok (.invokevirtual 245, 3) := by decide +kernel
theorem dX11_council_117 : decode cX11_council 117 = .ok (.aload_n 0, 1) := by decide +kernel
theorem dX11_council_118 : decode cX11_council 118 = .ok (.getfield 215, 3) := by decide +kernel
theorem dX11_council_121 : decode cX11_council 121 = .ok (.ireturn, 1) := by decide +kernel
theorem dX11_count_0 : decode cX11_count 0 = .ok (.aload_n 0, 1) := by decide +kernel
theorem dX11_count_1 : decode cX11_count 1 = .ok (.iconst 0, 1) := by decide +kernel
theorem dX11_count_2 : decode cX11_count 2 = .ok (.putfield 80, 3) := by decide +kernel
theorem dX11_count_5 : decode cX11_count 5 = .ok (.iload_n 1, 1) := by decide +kernel
theorem dX11_count_6 : decode cX11_count 6 = .ok (.ifCond .ne 10, 3) := by decide +kernel
theorem dX11_count_9 : decode cX11_count 9 = .ok (.aload_n 0, 1) := by decide +kernel
theorem dX11_count_10 : decode cX11_count 10 = .ok (.getfield 84, 3) := by decide +kernel
theorem dX11_count_13 : decode cX11_count 13 = .ok (.goto 42, 3) := by decide +kernel
theorem dX11_count_16 : decode cX11_count 16 = .ok (.iload_n 1, 1) := by decide +kernel
theorem dX11_count_17 : decode cX11_count 17 = .ok (.iconst 1, 1) := by decide +kernel
theorem dX11_count_18 : decode cX11_count 18 = .ok (.if_icmp .ne 10, 3) := by decide +kernel
theorem dX11_count_21 : decode cX11_count 21 = .ok (.aload_n 0, 1) := by decide +kernel
theorem dX11_count_22 : decode cX11_count 22 = .ok (.getfield 239, 3) := by decide +kernel
theorem dX11_count_25 : decode cX11_count 25 = .ok (.goto 30, 3) := by decide +kernel
theorem dX11_count_28 : decode cX11_count 28 = .ok (.iload_n 1, 1) := by decide +kernel
theorem dX11_count_29 : decode cX11_count 29 = .ok (.iconst 2, 1) := by decide +kernel
theorem dX11_count_30 : decode cX11_count 30 = .ok (.if_icmp .ne 24, 3) := by decide +kernel
theorem dX11_count_33 : decode cX11_count 33 = .ok (.aload_n 0, 1) := by decide +kernel
theorem dX11_count_34 : decode cX11_count 34 = .ok (.getfield 232, 3) := by decide +kernel
theorem dX11_count_37 : decode cX11_count 37 = .ok (.ifCond .eq 13, 3) := by decide +kernel
theorem dX11_count_40 : decode cX11_count 40 = .ok (.aload_n 0, 1) := by decide +kernel
theorem dX11_count_41 : decode cX11_count 41 = .ok (.getfield 57, 3) := by decide +kernel
theorem dX11_count_44 : decode cX11_count 44 = .ok (.bipush 72, 2) := by decide +kernel
theorem dX11_count_46 : decode cX11_count 46 = .ok (.iaload, 1) := by decide +kernel
theorem dX11_count_47 : decode cX11_count 47 = .ok (.goto 8, 3) := by decide +kernel
theorem dX11_count_50 : decode cX11_count 50 = .ok (.iconst 0, 1) := by decide +kernel
theorem dX11_count_51 : decode cX11_count 51 = .ok (.goto 4, 3) := by decide +kernel
theorem dX11_count_54 : decode cX11_count 54 = .ok (.iconst (-1), 1) := by decide +kernel
theorem dX11_count_55 : decode cX11_count 55 = .ok (.ireturn, 1) := by decide +kernel
theorem dX11_countOf_0 : decode cX11_countOf 0 = .ok (.iconst 0, 1) := by decide +kernel
theorem dX11_countOf_1 : decode cX11_countOf 1 = .ok (.istore_n 3, 1) := by decide +kernel
theorem dX11_countOf_2 : decode cX11_countOf 2 = .ok (.iconst 0, 1) := by decide +kernel
theorem dX11_countOf_3 : decode cX11_countOf 3 = .ok (.istore 4, 2) := by decide +kernel
theorem dX11_countOf_5 : decode cX11_countOf 5 = .ok (.iload 4, 2) := by decide +kernel
theorem dX11_countOf_7 : decode cX11_countOf 7 = .ok (.aload_n 0, 1) := by decide +kernel
theorem dX11_countOf_8 : decode cX11_countOf 8 = .ok (.getfield 215, 3) := by decide +kernel
theorem dX11_countOf_11 : decode cX11_countOf 11 = .ok (.if_icmp .ge 33, 3) := by decide +kernel
theorem dX11_countOf_14 : decode cX11_countOf 14 = .ok (.iload_n 3, 1) := by decide +kernel
theorem dX11_countOf_15 : decode cX11_countOf 15 = .ok (.aload_n 0, 1) := by decide +kernel
theorem dX11_countOf_16 : decode cX11_countOf 16 = .ok (.getfield 47, 3) := by decide +kernel
theorem dX11_countOf_19 : decode cX11_countOf 19 = .ok (.bipush 9, 2) := by decide +kernel
theorem dX11_countOf_21 : decode cX11_countOf 21 = .ok (.iload 4, 2) := by decide +kernel
theorem dX11_countOf_23 : decode cX11_countOf 23 = .ok (.imul, 1) := by decide +kernel
theorem dX11_countOf_24 : decode cX11_countOf 24 = .ok (.iload_n 1, 1) := by decide +kernel
theorem dX11_countOf_25 : decode cX11_countOf 25 = .ok (.iadd, 1) := by decide +kernel
theorem dX11_countOf_26 : decode cX11_countOf 26 = .ok (.iaload, 1) := by decide +kernel
theorem dX11_countOf_27 : decode cX11_countOf 27 = .ok (.iload_n 2, 1) := by decide +kernel
theorem dX11_countOf_28 : decode cX11_countOf 28 = .ok (.if_icmp .ne 7, 3) := by decide +kernel
theorem dX11_countOf_31 : decode cX11_countOf 31 = .ok (.iconst 1, 1) := by decide +kernel
theorem dX11_countOf_32 : decode cX11_countOf 32 = .ok (.goto 4, 3) := by decide +kernel
theorem dX11_countOf_35 : decode cX11_countOf 35 = .ok (.iconst 0, 1) := by decide +kernel
theorem dX11_countOf_36 : decode cX11_countOf 36 = .ok (.iadd, 1) := by decide +kernel
theorem dX11_countOf_37 : decode cX11_countOf 37 = .ok (.istore_n 3, 1) := by decide +kernel
theorem dX11_countOf_38 : decode cX11_countOf 38 = .ok (.iinc 4 1, 3) := by decide +kernel
theorem dX11_countOf_41 : decode cX11_countOf 41 = .ok (.goto (-36), 3) := by decide +kernel
theorem dX11_countOf_44 : decode cX11_countOf 44 = .ok (.iload_n 3, 1) := by decide +kernel
theorem dX11_countOf_45 : decode cX11_countOf 45 = .ok (.ireturn, 1) := by decide +kernel
theorem dX11_digit_0 : decode cX11_digit 0 = .ok (.aload_n 0, 1) := by decide +kernel
theorem dX11_digit_1 : decode cX11_digit 1 = .ok (.invokevirtual 126, 3) := by decide +kernel
theorem dX11_digit_4 : decode cX11_digit 4 = .ok (.aload_n 0, 1) := by decide +kernel
theorem dX11_digit_5 : decode cX11_digit 5 = .ok (.getfield 123, 3) := by decide +kernel
theorem dX11_digit_8 : decode cX11_digit 8 = .ok (.iconst 1, 1) := by decide +kernel
theorem dX11_digit_9 : decode cX11_digit 9 = .ok (.if_icmp .ne 19, 3) := by decide +kernel
theorem dX11_digit_12 : decode cX11_digit 12 = .ok (.aload_n 0, 1) := by decide +kernel
theorem dX11_digit_13 : decode cX11_digit 13 = .ok (.iconst 0, 1) := by decide +kernel
theorem dX11_digit_14 : decode cX11_digit 14 = .ok (.invokevirtual 129, 3) := by decide +kernel
theorem dX11_digit_17 : decode cX11_digit 17 = .ok (.i2l, 1) := by decide +kernel
theorem dX11_digit_18 : decode cX11_digit 18 = .ok (.iload_n 1, 1) := by decide +kernel
theorem dX11_digit_19 : decode cX11_digit 19 = .ok (.i2l, 1) := by decide +kernel
theorem dX11_digit_20 : decode cX11_digit 20 = .ok (.iload_n 2, 1) := by decide +kernel
theorem dX11_digit_21 : decode cX11_digit 21 = .ok (.i2l, 1) := by decide +kernel
theorem dX11_digit_22 : decode cX11_digit 22 = .ok (.invokestatic 132, 3) := by decide +kernel
theorem dX11_digit_25 : decode cX11_digit 25 = .ok (.ifCond .ne 13, 3) := by decide +kernel
theorem dX11_digit_28 : decode cX11_digit 28 = .ok (.aload_n 0, 1) := by decide +kernel
theorem dX11_digit_29 : decode cX11_digit 29 = .ok (.aload_n 0, 1) := by decide +kernel
theorem dX11_digit_30 : decode cX11_digit 30 = .ok (.getfield 116, 3) := by decide +kernel
theorem dX11_digit_33 : decode cX11_digit 33 = .ok (.invokevirtual 136, 3) := by decide +kernel
theorem dX11_digit_36 : decode cX11_digit 36 = .ok (.iload_n 1, 1) := by decide +kernel
theorem dX11_digit_37 : decode cX11_digit 37 = .ok (.ireturn, 1) := by decide +kernel
theorem dX11_digit_38 : decode cX11_digit 38 = .ok (.aload_n 0, 1) := by decide +kernel
theorem dX11_digit_39 : decode cX11_digit 39 = .ok (.iconst 0, 1) := by decide +kernel
theorem dX11_digit_40 : decode cX11_digit 40 = .ok (.invokevirtual 129, 3) := by decide +kernel
theorem dX11_digit_43 : decode cX11_digit 43 = .ok (.ireturn, 1) := by decide +kernel
theorem dX11_digitAt_0 : decode cX11_digitAt 0 = .ok (.aload_n 0, 1) := by decide +kernel
theorem dX11_digitAt_1 : decode cX11_digitAt 1 = .ok (.getfield 9, 3) := by decide +kernel
theorem dX11_digitAt_4 : decode cX11_digitAt 4 = .ok (.aload_n 0, 1) := by decide +kernel
theorem dX11_digitAt_5 : decode cX11_digitAt 5 = .ok (.getfield 116, 3) := by decide +kernel
theorem dX11_digitAt_8 : decode cX11_digitAt 8 = .ok (.iload_n 1, 1) := by decide +kernel
theorem dX11_digitAt_9 : decode cX11_digitAt 9 = .ok (.iadd, 1) := by decide +kernel
theorem dX11_digitAt_10 : decode cX11_digitAt 10 = .ok (.baload, 1) := by decide +kernel
theorem dX11_digitAt_11 : decode cX11_digitAt 11 = .ok (.bipush 48, 2) := by decide +kernel
theorem dX11_digitAt_13 : decode cX11_digitAt 13 = .ok (.isub, 1) := by decide +kernel
theorem dX11_digitAt_14 : decode cX11_digitAt 14 = .ok (.ireturn, 1) := by decide +kernel
theorem dX11_digits_0 : decode cX11_digits 0 = .ok (.aload_n 0, 1) := by decide +kernel
theorem dX11_digits_1 : decode cX11_digits 1 = .ok (.invokevirtual 105, 3) := by decide +kernel
theorem dX11_digits_4 : decode cX11_digits 4 = .ok (.istore_n 1, 1) := by decide +kernel
theorem dX11_digits_5 : decode cX11_digits 5 = .ok (.aload_n 0, 1) := by decide +kernel
theorem dX11_digits_6 : decode cX11_digits 6 = .ok (.aload_n 0, 1) := by decide +kernel
theorem dX11_digits_7 : decode cX11_digits 7 = .ok (.getfield 95, 3) := by decide +kernel
theorem dX11_digits_10 : decode cX11_digits 10 = .ok (.putfield 116, 3) := by decide +kernel
theorem dX11_digits_13 : decode cX11_digits 13 = .ok (.aload_n 0, 1) := by decide +kernel
theorem dX11_digits_14 : decode cX11_digits 14 = .ok (.invokevirtual 98, 3) := by decide +kernel
theorem dX11_digits_17 : decode cX11_digits 17 = .ok (.invokestatic 119, 3) := by decide +kernel
theorem dX11_digits_20 : decode cX11_digits 20 = .ok (.ifCond .eq 16, 3) := by decide +kernel
theorem dX11_digits_23 : decode cX11_digits 23 = .ok (.aload_n 0, 1) := by decide +kernel
theorem dX11_digits_24 : decode cX11_digits 24 = .ok (.dup, 1) := by decide +kernel
theorem dX11_digits_25 : decode cX11_digits 25 = .ok (.getfield 95, 3) := by decide +kernel
theorem dX11_digits_28 : decode cX11_digits 28 = .ok (.iconst 1, 1) := by decide +kernel
theorem dX11_digits_29 : decode cX11_digits 29 = .ok (.iadd, 1) := by decide +kernel
theorem dX11_digits_30 : decode cX11_digits 30 = .ok (.putfield 95, 3) := by decide +kernel
theorem dX11_digits_33 : decode cX11_digits 33 = .ok (.goto (-20), 3) := by decide +kernel
theorem dX11_digits_36 : decode cX11_digits 36 = .ok (.aload_n 0, 1) := by decide +kernel
theorem dX11_digits_37 : decode cX11_digits 37 = .ok (.aload_n 0, 1) := by decide +kernel
theorem dX11_digits_38 : decode cX11_digits 38 = .ok (.getfield 95, 3) := by decide +kernel
theorem dX11_digits_41 : decode cX11_digits 41 = .ok (.aload_n 0, 1) := by decide +kernel
theorem dX11_digits_42 : decode cX11_digits 42 = .ok (.getfield 116, 3) := by decide +kernel
theorem dX11_digits_45 : decode cX11_digits 45 = .ok (.isub, 1) := by decide +kernel
theorem dX11_digits_46 : decode cX11_digits 46 = .ok (.putfield 123, 3) := by decide +kernel
theorem dX11_digits_49 : decode cX11_digits 49 = .ok (.return_, 1) := by decide +kernel
theorem dX11_draw_0 : decode cX11_draw 0 = .ok (.aload_n 0, 1) := by decide +kernel
theorem dX11_draw_1 : decode cX11_draw 1 = .ok (.aload_n 0, 1) := by decide +kernel
theorem dX11_draw_2 : decode cX11_draw 2 = .ok (.getfield 260, 3) := by decide +kernel
theorem dX11_draw_5 : decode cX11_draw 5 = .ok (.ldc2_w 263, 3) := by decide +kernel
theorem dX11_draw_8 : decode cX11_draw 8 = .ok (.lmul, 1) := by decide +kernel
theorem dX11_draw_9 : decode cX11_draw 9 = .ok (.ldc2_w 265, 3) := by decide +kernel
theorem dX11_draw_12 : decode cX11_draw 12 = .ok (.ladd, 1) := by decide +kernel
theorem dX11_draw_13 : decode cX11_draw 13 = .ok (.putfield 260, 3) := by decide +kernel
theorem dX11_draw_16 : decode cX11_draw 16 = .ok (.aload_n 0, 1) := by decide +kernel
theorem dX11_draw_17 : decode cX11_draw 17 = .ok (.getfield 260, 3) := by decide +kernel
theorem dX11_draw_20 : decode cX11_draw 20 = .ok (.bipush 33, 2) := by decide +kernel
theorem dX11_draw_22 : decode cX11_draw 22 = .ok (.lushr, 1) := by decide +kernel
theorem dX11_draw_23 : decode cX11_draw 23 = .ok (.ldc2_w 267, 3) := by decide +kernel
theorem dX11_draw_26 : decode cX11_draw 26 = .ok (.lrem, 1) := by decide +kernel
theorem dX11_draw_27 : decode cX11_draw 27 = .ok (.l2i, 1) := by decide +kernel
theorem dX11_draw_28 : decode cX11_draw 28 = .ok (.ireturn, 1) := by decide +kernel
theorem dX11_each_0 : decode cX11_each 0 = .ok (.aload_n 0, 1) := by decide +kernel
theorem dX11_each_1 : decode cX11_each 1 = .ok (.getfield 212, 3) := by decide +kernel
theorem dX11_each_4 : decode cX11_each 4 = .ok (.ifCond .ne 7, 3) := by decide +kernel
theorem dX11_each_7 : decode cX11_each 7 = .ok (.iconst 3, 1) := by decide +kernel
theorem dX11_each_8 : decode cX11_each 8 = .ok (.goto 4, 3) := by decide +kernel
theorem dX11_each_11 : decode cX11_each 11 = .ok (.iconst 2, 1) := by decide +kernel
theorem dX11_each_12 : decode cX11_each 12 = .ok (.ireturn, 1) := by decide +kernel
theorem dX11_end_0 : decode cX11_end 0 = .ok (.aload_n 0, 1) := by decide +kernel
theorem dX11_end_1 : decode cX11_end 1 = .ok (.iconst 0, 1) := by decide +kernel
theorem dX11_end_2 : decode cX11_end 2 = .ok (.putfield 80, 3) := by decide +kernel
theorem dX11_end_5 : decode cX11_end 5 = .ok (.iload_n 1, 1) := by decide +kernel
theorem dX11_end_6 : decode cX11_end 6 = .ok (.ifCond .lt 11, 3) := by decide +kernel
theorem dX11_end_9 : decode cX11_end 9 = .ok (.iload_n 1, 1) := by decide +kernel
theorem dX11_end_10 : decode cX11_end 10 = .ok (.aload_n 0, 1) := by decide +kernel
theorem dX11_end_11 : decode cX11_end 11 = .ok (.getfield 84, 3) := by decide +kernel
theorem dX11_end_14 : decode cX11_end 14 = .ok (.if_icmp .le 5, 3) := by decide +kernel
theorem dX11_end_17 : decode cX11_end 17 = .ok (.iconst 0, 1) := by decide +kernel
theorem dX11_end_18 : decode cX11_end 18 = .ok (.ireturn, 1) := by decide +kernel
theorem dX11_end_19 : decode cX11_end 19 = .ok (.aload_n 0, 1) := by decide +kernel
theorem dX11_end_20 : decode cX11_end 20 = .ok (.iload_n 1, 1) := by decide +kernel
theorem dX11_end_21 : decode cX11_end 21 = .ok (.putfield 84, 3) := by decide +kernel
theorem dX11_end_24 : decode cX11_end 24 = .ok (.iconst 1, 1) := by decide +kernel
theorem dX11_end_25 : decode cX11_end 25 = .ok (.ireturn, 1) := by decide +kernel
theorem dX11_fails_0 : decode cX11_fails 0 = .ok (.aload_n 0, 1) := by decide +kernel
theorem dX11_fails_1 : decode cX11_fails 1 = .ok (.getfield 102, 3) := by decide +kernel
theorem dX11_fails_4 : decode cX11_fails 4 = .ok (.iconst (-1), 1) := by decide +kernel
theorem dX11_fails_5 : decode cX11_fails 5 = .ok (.if_icmp .ne 8, 3) := by decide +kernel
theorem dX11_fails_8 : decode cX11_fails 8 = .ok (.aload_n 0, 1) := by decide +kernel
theorem dX11_fails_9 : decode cX11_fails 9 = .ok (.iload_n 1, 1) := by decide +kernel
theorem dX11_fails_10 : decode cX11_fails 10 = .ok (.putfield 102, 3) := by decide +kernel
theorem dX11_fails_13 : decode cX11_fails 13 = .ok (.return_, 1) := by decide +kernel
theorem dX11_falseOnes_0 : decode cX11_falseOnes 0 = .ok (.aload_n 0, 1) := by decide +kernel
theorem dX11_falseOnes_1 : decode cX11_falseOnes 1 = .ok (.iconst 0, 1) := by decide +kernel
theorem dX11_falseOnes_2 : decode cX11_falseOnes 2 = .ok (.putfield 80, 3) := by decide +kernel
theorem dX11_falseOnes_5 : decode cX11_falseOnes 5 = .ok (.aload_n 0, 1) := by decide +kernel
theorem dX11_falseOnes_6 : decode cX11_falseOnes 6 = .ok (.getfield 232, 3) := by decide +kernel
theorem dX11_falseOnes_9 : decode cX11_falseOnes 9 = .ok (.ifCond .ne 9, 3) := by decide +kernel
theorem dX11_falseOnes_12 : decode cX11_falseOnes 12 = .ok (.aload_n 0, 1) := by decide +kernel
theorem dX11_falseOnes_13 : decode cX11_falseOnes 13 = .ok (.iconst 0, 1) := by decide +kernel
theorem dX11_falseOnes_14 : decode cX11_falseOnes 14 = .ok (.invokevirtual 341, 3) := by decide +kernel
theorem dX11_falseOnes_17 : decode cX11_falseOnes 17 = .ok (.ireturn, 1) := by decide +kernel
theorem dX11_falseOnes_18 : decode cX11_falseOnes 18 = .ok (.iload_n 1, 1) := by decide +kernel
theorem dX11_falseOnes_19 : decode cX11_falseOnes 19 = .ok (.i2l, 1) := by decide +kernel
theorem dX11_falseOnes_20 : decode cX11_falseOnes 20 = .ok (.lconst 0, 1) := by decide +kernel
theorem dX11_falseOnes_21 : decode cX11_falseOnes 21 = .ok (.iconst 1, 1) := by decide +kernel
theorem dX11_falseOnes_22 : decode cX11_falseOnes 22 = .ok (.aload_n 0, 1) := by decide +kernel
theorem dX11_falseOnes_23 : decode cX11_falseOnes 23 = .ok (.getfield 215, 3) := by decide +kernel
theorem dX11_falseOnes_26 : decode cX11_falseOnes 26 = .ok (.ishl, 1) := by decide +kernel
theorem dX11_falseOnes_27 : decode cX11_falseOnes 27 = .ok (.iconst 2, 1) := by decide +kernel
theorem dX11_falseOnes_28 : decode cX11_falseOnes 28 = .ok (.isub, 1) := by decide +kernel
theorem dX11_falseOnes_29 : decode cX11_falseOnes 29 = .ok (.i2l, 1) := by decide +kernel
theorem dX11_falseOnes_30 : decode cX11_falseOnes 30 = .ok (.invokestatic 132, 3) := by decide +kernel
theorem dX11_falseOnes_33 : decode cX11_falseOnes 33 = .ok (.ifCond .ne 9, 3) := by decide +kernel
theorem dX11_falseOnes_36 : decode cX11_falseOnes 36 = .ok (.aload_n 0, 1) := by decide +kernel
theorem dX11_falseOnes_37 : decode cX11_falseOnes 37 = .ok (.iconst 1, 1) := by decide +kernel
theorem dX11_falseOnes_38 : decode cX11_falseOnes 38 = .ok (.invokevirtual 341, 3) := by decide +kernel
theorem dX11_falseOnes_41 : decode cX11_falseOnes 41 = .ok (.ireturn, 1) := by decide +kernel
theorem dX11_falseOnes_42 : decode cX11_falseOnes 42 = .ok (.aload_n 0, 1) := by decide +kernel
theorem dX11_falseOnes_43 : decode cX11_falseOnes 43 = .ok (.invokevirtual 329, 3) := by decide +kernel
theorem dX11_falseOnes_46 : decode cX11_falseOnes 46 = .ok (.aload_n 0, 1) := by decide +kernel
theorem dX11_falseOnes_47 : decode cX11_falseOnes 47 = .ok (.getfield 251, 3) := by decide +kernel
theorem dX11_falseOnes_50 : decode cX11_falseOnes 50 = .ok (.ifCond .le 9, 3) := by decide +kernel
theorem dX11_falseOnes_53 : decode cX11_falseOnes 53 = .ok (.aload_n 0, 1) := by decide +kernel
theorem dX11_falseOnes_54 : decode cX11_falseOnes 54 = .ok (.iconst 3, 1) := by decide +kernel
theorem dX11_falseOnes_55 : decode cX11_falseOnes 55 = .ok (.invokevirtual 341, 3) := by decide +kernel
theorem dX11_falseOnes_58 : decode cX11_falseOnes 58 = .ok (.ireturn, 1) := by decide +kernel
theorem dX11_falseOnes_59 : decode cX11_falseOnes 59 = .ok (.aload_n 0, 1) := by decide +kernel
theorem dX11_falseOnes_60 : decode cX11_falseOnes 60 = .ok (.invokevirtual 326, 3) := by decide +kernel
theorem dX11_falseOnes_63 : decode cX11_falseOnes 63 = .ok (.aload_n 0, 1) := by decide +kernel
theorem dX11_falseOnes_64 : decode cX11_falseOnes 64 = .ok (.getfield 226, 3) := by decide +kernel
theorem dX11_falseOnes_67 : decode cX11_falseOnes 67 = .ok (.istore_n 2, 1) := by decide +kernel
theorem dX11_falseOnes_68 : decode cX11_falseOnes 68 = .ok (.aload_n 0, 1) := by decide +kernel
theorem dX11_falseOnes_69 : decode cX11_falseOnes 69 = .ok (.iload_n 1, 1) := by decide +kernel
theorem dX11_falseOnes_70 : decode cX11_falseOnes 70 = .ok (.putfield 226, 3) := by decide +kernel
theorem dX11_falseOnes_73 : decode cX11_falseOnes 73 = .ok (.iconst 0, 1) := by decide +kernel
theorem dX11_falseOnes_74 : decode cX11_falseOnes 74 = .ok (.istore_n 3, 1) := by decide +kernel
theorem dX11_falseOnes_75 : decode cX11_falseOnes 75 = .ok (.iconst 0, 1) := by decide +kernel
theorem dX11_falseOnes_76 : decode cX11_falseOnes 76 = .ok (.istore 4, 2) := by decide +kernel
theorem dX11_falseOnes_78 : decode cX11_falseOnes 78 = .ok (.iload 4, 2) := by decide +kernel
theorem dX11_falseOnes_80 : decode cX11_falseOnes 80 = .ok (.aload_n 0, 1) := by decide +kernel
theorem dX11_falseOnes_81 : decode cX11_falseOnes 81 = .ok (.getfield 236, 3) := by decide +kernel
theorem dX11_falseOnes_84 : decode cX11_falseOnes 84 = .ok (.if_icmp .ge 71, 3) := by decide +kernel
theorem dX11_falseOnes_87 : decode cX11_falseOnes 87 = .ok (.iload_n 1, 1) := by decide +kernel
theorem dX11_falseOnes_88 : decode cX11_falseOnes 88 = .ok (.aload_n 0, 1) := by decide +kernel
theorem dX11_falseOnes_89 : decode cX11_falseOnes 89 = .ok (.getfield 23, 3) := by decide +kernel
theorem dX11_falseOnes_92 : decode cX11_falseOnes 92 = .ok (.iconst 5, 1) := by decide +kernel
theorem dX11_falseOnes_93 : decode cX11_falseOnes 93 = .ok (.iload 4, 2) := by decide +kernel
theorem dX11_falseOnes_95 : decode cX11_falseOnes 95 = .ok (.imul, 1) := by decide +kernel
theorem dX11_falseOnes_96 : decode cX11_falseOnes 96 = .ok (.iconst 2, 1) := by decide +kernel
theorem dX11_falseOnes_97 : decode cX11_falseOnes 97 = .ok (.iadd, 1) := by decide +kernel
theorem dX11_falseOnes_98 : decode cX11_falseOnes 98 = .ok (.iaload, 1) := by decide +kernel
theorem dX11_falseOnes_99 : decode cX11_falseOnes 99 = .ok (.invokestatic 161, 3) := by decide +kernel
theorem dX11_falseOnes_102 : decode cX11_falseOnes 102 = .ok (.ifCond .ne 6, 3) := by decide +kernel
theorem dX11_falseOnes_105 : decode cX11_falseOnes 105 = .ok (.goto 44, 3) := by decide +kernel
theorem dX11_falseOnes_108 : decode cX11_falseOnes 108 = .ok (.iconst 0, 1) := by decide +kernel
theorem dX11_falseOnes_109 : decode cX11_falseOnes 109 = .ok (.istore 5, 2) := by decide +kernel
theorem dX11_falseOnes_111 : decode cX11_falseOnes 111 = .ok (.iload 5, 2) := by decide +kernel
theorem dX11_falseOnes_113 : decode cX11_falseOnes 113 = .ok (.iconst 5, 1) := by decide +kernel
theorem dX11_falseOnes_114 : decode cX11_falseOnes 114 = .ok (.if_icmp .ge 32, 3) := by decide +kernel
theorem dX11_falseOnes_117 : decode cX11_falseOnes 117 = .ok (.aload_n 0, 1) := by decide +kernel
theorem dX11_falseOnes_118 : decode cX11_falseOnes 118 = .ok (.getfield 23, 3) := by decide +kernel
theorem dX11_falseOnes_121 : decode cX11_falseOnes 121 = .ok (.iconst 5, 1) := by decide +kernel
theorem dX11_falseOnes_122 : decode cX11_falseOnes 122 = .ok (.iload_n 3, 1) := by decide +kernel
theorem dX11_falseOnes_123 : decode cX11_falseOnes 123 = .ok (.imul, 1) := by decide +kernel
theorem dX11_falseOnes_124 : decode cX11_falseOnes 124 = .ok (.iload 5, 2) := by decide +kernel
theorem dX11_falseOnes_126 : decode cX11_falseOnes 126 = .ok (.iadd, 1) := by decide +kernel
theorem dX11_falseOnes_127 : decode cX11_falseOnes 127 = .ok (.aload_n 0, 1) := by decide +kernel
theorem dX11_falseOnes_128 : decode cX11_falseOnes 128 = .ok (.getfield 23, 3) := by decide +kernel
theorem dX11_falseOnes_131 : decode cX11_falseOnes 131 = .ok (.iconst 5, 1) := by decide +kernel
theorem dX11_falseOnes_132 : decode cX11_falseOnes 132 = .ok (.iload 4, 2) := by decide +kernel
theorem dX11_falseOnes_134 : decode cX11_falseOnes 134 = .ok (.imul, 1) := by decide +kernel
theorem dX11_falseOnes_135 : decode cX11_falseOnes 135 = .ok (.iload 5, 2) := by decide +kernel
theorem dX11_falseOnes_137 : decode cX11_falseOnes 137 = .ok (.iadd, 1) := by decide +kernel
theorem dX11_falseOnes_138 : decode cX11_falseOnes 138 = .ok (.iaload, 1) := by decide +kernel
theorem dX11_falseOnes_139 : decode cX11_falseOnes 139 = .ok (.iastore, 1) := by decide +kernel
theorem dX11_falseOnes_140 : decode cX11_falseOnes 140 = .ok (.iinc 5 1, 3) := by decide +kernel
theorem dX11_falseOnes_143 : decode cX11_falseOnes 143 = .ok (.goto (-32), 3) := by decide +kernel
theorem dX11_falseOnes_146 : decode cX11_falseOnes 146 = .ok (.iinc 3 1, 3) := by decide +kernel
theorem dX11_falseOnes_149 : decode cX11_falseOnes 149 = .ok (.iinc 4 1, 3) := by decide +kernel
theorem dX11_falseOnes_152 : decode cX11_falseOnes 152 = .ok (.goto (-74), 3) := by decide +kernel
theorem dX11_falseOnes_155 : decode cX11_falseOnes 155 = .ok (.aload_n 0, 1) := by decide +kernel
theorem dX11_falseOnes_156 : decode cX11_falseOnes 156 = .ok (.iload_n 3, 1) := by decide +kernel
theorem dX11_falseOnes_157 : decode cX11_falseOnes 157 = .ok (.putfield 236, 3) := by decide +kernel
theorem dX11_falseOnes_160 : decode cX11_falseOnes 160 = .ok (.aload_n 0, 1) := by decide +kernel
theorem dX11_falseOnes_161 : decode cX11_falseOnes 161 = .ok (.invokevirtual 323, 3) := by decide +kernel
theorem dX11_falseOnes_164 : decode cX11_falseOnes 164 = .ok (.iload_n 2, 1) := by decide +kernel
theorem dX11_falseOnes_165 : decode cX11_falseOnes 165 = .ok (.ireturn, 1) := by decide +kernel
theorem dX11_fault_0 : decode cX11_fault 0 = .ok (.aload_n 0, 1) := by decide +kernel
theorem dX11_fault_1 : decode cX11_fault 1 = .ok (.iconst 0, 1) := by decide +kernel
theorem dX11_fault_2 : decode cX11_fault 2 = .ok (.putfield 80, 3) := by decide +kernel
theorem dX11_fault_5 : decode cX11_fault 5 = .ok (.iload_n 1, 1) := by decide +kernel
theorem dX11_fault_6 : decode cX11_fault 6 = .ok (.ifCond .ne 10, 3) := by decide +kernel
theorem dX11_fault_9 : decode cX11_fault 9 = .ok (.aload_n 0, 1) := by decide +kernel
theorem dX11_fault_10 : decode cX11_fault 10 = .ok (.invokevirtual 206, 3) := by decide +kernel
theorem dX11_fault_13 : decode cX11_fault 13 = .ok (.goto 17, 3) := by decide +kernel
theorem dX11_fault_16 : decode cX11_fault 16 = .ok (.iload_n 1, 1) := by decide +kernel
theorem dX11_fault_17 : decode cX11_fault 17 = .ok (.iconst 1, 1) := by decide +kernel
theorem dX11_fault_18 : decode cX11_fault 18 = .ok (.if_icmp .ne 10, 3) := by decide +kernel
theorem dX11_fault_21 : decode cX11_fault 21 = .ok (.aload_n 0, 1) := by decide +kernel
theorem dX11_fault_22 : decode cX11_fault 22 = .ok (.invokevirtual 209, 3) := by decide +kernel
theorem dX11_fault_25 : decode cX11_fault 25 = .ok (.goto 5, 3) := by decide +kernel
theorem dX11_fault_28 : decode cX11_fault 28 = .ok (.bipush (-2), 2) := by decide +kernel
theorem dX11_fault_30 : decode cX11_fault 30 = .ok (.ireturn, 1) := by decide +kernel
theorem dX11_feed_0 : decode cX11_feed 0 = .ok (.aload_n 0, 1) := by decide +kernel
theorem dX11_feed_1 : decode cX11_feed 1 = .ok (.iconst 0, 1) := by decide +kernel
theorem dX11_feed_2 : decode cX11_feed 2 = .ok (.putfield 80, 3) := by decide +kernel
theorem dX11_feed_5 : decode cX11_feed 5 = .ok (.aload_n 0, 1) := by decide +kernel
theorem dX11_feed_6 : decode cX11_feed 6 = .ok (.getfield 84, 3) := by decide +kernel
theorem dX11_feed_9 : decode cX11_feed 9 = .ok (.iload_n 1, 1) := by decide +kernel
theorem dX11_feed_10 : decode cX11_feed 10 = .ok (.invokestatic 87, 3) := by decide +kernel
theorem dX11_feed_13 : decode cX11_feed 13 = .ok (.iadd, 1) := by decide +kernel
theorem dX11_feed_14 : decode cX11_feed 14 = .ok (.iload_n 2, 1) := by decide +kernel
theorem dX11_feed_15 : decode cX11_feed 15 = .ok (.invokestatic 87, 3) := by decide +kernel
theorem dX11_feed_18 : decode cX11_feed 18 = .ok (.iadd, 1) := by decide +kernel
theorem dX11_feed_19 : decode cX11_feed 19 = .ok (.iload_n 3, 1) := by decide +kernel
theorem dX11_feed_20 : decode cX11_feed 20 = .ok (.invokestatic 87, 3) := by decide +kernel
theorem dX11_feed_23 : decode cX11_feed 23 = .ok (.iadd, 1) := by decide +kernel
theorem dX11_feed_24 : decode cX11_feed 24 = .ok (.iload 4, 2) := by decide +kernel
theorem dX11_feed_26 : decode cX11_feed 26 = .ok (.invokestatic 87, 3) := by decide +kernel
theorem dX11_feed_29 : decode cX11_feed 29 = .ok (.iadd, 1) := by decide +kernel
theorem dX11_feed_30 : decode cX11_feed 30 = .ok (.iload 5, 2) := by decide +kernel
theorem dX11_feed_32 : decode cX11_feed 32 = .ok (.invokestatic 87, 3) := by decide +kernel
theorem dX11_feed_35 : decode cX11_feed 35 = .ok (.iadd, 1) := by decide +kernel
theorem dX11_feed_36 : decode cX11_feed 36 = .ok (.sipush 500, 3) := by decide +kernel
theorem dX11_feed_39 : decode cX11_feed 39 = .ok (.if_icmp .le 5, 3) := by decide +kernel
theorem dX11_feed_42 : decode cX11_feed 42 = .ok (.iconst (-1), 1) := by decide +kernel
theorem dX11_feed_43 : decode cX11_feed 43 = .ok (.ireturn, 1) := by decide +kernel
theorem dX11_feed_44 : decode cX11_feed 44 = .ok (.aload_n 0, 1) := by decide +kernel
theorem dX11_feed_45 : decode cX11_feed 45 = .ok (.iload_n 1, 1) := by decide +kernel
theorem dX11_feed_46 : decode cX11_feed 46 = .ok (.invokevirtual 91, 3) := by decide +kernel
theorem dX11_feed_49 : decode cX11_feed 49 = .ok (.aload_n 0, 1) := by decide +kernel
theorem dX11_feed_50 : decode cX11_feed 50 = .ok (.iload_n 2, 1) := by decide +kernel
theorem dX11_feed_51 : decode cX11_feed 51 = .ok (.invokevirtual 91, 3) := by decide +kernel
theorem dX11_feed_54 : decode cX11_feed 54 = .ok (.aload_n 0, 1) := by decide +kernel
theorem dX11_feed_55 : decode cX11_feed 55 = .ok (.iload_n 3, 1) := by decide +kernel
theorem dX11_feed_56 : decode cX11_feed 56 = .ok (.invokevirtual 91, 3) := by decide +kernel
theorem dX11_feed_59 : decode cX11_feed 59 = .ok (.aload_n 0, 1) := by decide +kernel
theorem dX11_feed_60 : decode cX11_feed 60 = .ok (.iload 4, 2) := by decide +kernel
theorem dX11_feed_62 : decode cX11_feed 62 = .ok (.invokevirtual 91, 3) := by decide +kernel
theorem dX11_feed_65 : decode cX11_feed 65 = .ok (.aload_n 0, 1) := by decide +kernel
theorem dX11_feed_66 : decode cX11_feed 66 = .ok (.iload 5, 2) := by decide +kernel
theorem dX11_feed_68 : decode cX11_feed 68 = .ok (.invokevirtual 91, 3) := by decide +kernel
theorem dX11_feed_71 : decode cX11_feed 71 = .ok (.aload_n 0, 1) := by decide +kernel
theorem dX11_feed_72 : decode cX11_feed 72 = .ok (.getfield 84, 3) := by decide +kernel
theorem dX11_feed_75 : decode cX11_feed 75 = .ok (.ireturn, 1) := by decide +kernel
theorem dX11_findsStarts_0 : decode cX11_findsStarts 0 = .ok (.aload_n 0, 1) := by decide +kernel
theorem dX11_findsStarts_1 : decode cX11_findsStarts 1 = .ok (.iconst 0, 1) := by decide +kernel
theorem dX11_findsStarts_2 : decode cX11_findsStarts 2 = .ok (.putfield 402, 3) := by decide +kernel
theorem dX11_findsStarts_5 : decode cX11_findsStarts 5 = .ok (.aload_n 0, 1) := by decide +kernel
theorem dX11_findsStarts_6 : decode cX11_findsStarts 6 = .ok (.iconst (-1), 1) := by decide +kernel
theorem dX11_findsStarts_7 : decode cX11_findsStarts 7 = .ok (.putfield 405, 3) := by decide +kernel
theorem dX11_findsStarts_10 : decode cX11_findsStarts 10 = .ok (.iconst 0, 1) := by decide +kernel
theorem dX11_findsStarts_11 : decode cX11_findsStarts 11 = .ok (.istore_n 1, 1) := by decide +kernel
theorem dX11_findsStarts_12 : decode cX11_findsStarts 12 = .ok (.iload_n 1, 1) := by decide +kernel
theorem dX11_findsStarts_13 : decode cX11_findsStarts 13 = .ok (.iconst 1, 1) := by decide +kernel
theorem dX11_findsStarts_14 : decode cX11_findsStarts 14 = .ok (.aload_n 0, 1) := by decide +kernel
theorem dX11_findsStarts_15 : decode cX11_findsStarts 15 = .ok (.getfield 215, 3) := by decide +kernel
theorem dX11_findsStarts_18 : decode cX11_findsStarts 18 = .ok (.ishl, 1) := by decide +kernel
theorem dX11_findsStarts_19 : decode cX11_findsStarts 19 = .ok (.if_icmp .ge 55, 3) := by decide +kernel
theorem dX11_findsStarts_22 : decode cX11_findsStarts 22 = .ok (.aload_n 0, 1) := by decide +kernel
theorem dX11_findsStarts_23 : decode cX11_findsStarts 23 = .ok (.iload_n 1, 1) := by decide +kernel
theorem dX11_findsStarts_24 : decode cX11_findsStarts 24 = .ok (.putfield 224, 3) := by decide +kernel
theorem dX11_findsStarts_27 : decode cX11_findsStarts 27 = .ok (.aload_n 0, 1) := by decide +kernel
theorem dX11_findsStarts_28 : decode cX11_findsStarts 28 = .ok (.invokevirtual 399, 3) := by decide +kernel
theorem dX11_findsStarts_31 : decode cX11_findsStarts 31 = .ok (.iconst (-1), 1) := by decide +kernel
theorem dX11_findsStarts_32 : decode cX11_findsStarts 32 = .ok (.if_icmp .ne 6, 3) := by decide +kernel
theorem dX11_findsStarts_35 : decode cX11_findsStarts 35 = .ok (.goto 33, 3) := by decide +kernel
theorem dX11_findsStarts_38 : decode cX11_findsStarts 38 = .ok (.aload_n 0, 1) := by decide +kernel
theorem dX11_findsStarts_39 : decode cX11_findsStarts 39 = .ok (.dup, 1) := by decide +kernel
theorem dX11_findsStarts_40 : decode cX11_findsStarts 40 = .ok (.getfield 402, 3) := by decide +kernel
theorem dX11_findsStarts_43 : decode cX11_findsStarts 43 = .ok (.iconst 1, 1) := by decide +kernel
theorem dX11_findsStarts_44 : decode cX11_findsStarts 44 = .ok (.iadd, 1) := by decide +kernel
theorem dX11_findsStarts_45 : decode cX11_findsStarts 45 = .ok (.putfield 402, 3) := by decide +kernel
theorem dX11_findsStarts_48 : decode cX11_findsStarts 48 = .ok (.aload_n 0, 1) := by decide +kernel
theorem dX11_findsStarts_49 : decode cX11_findsStarts 49 = .ok (.aload_n 0, 1) := by decide +kernel
theorem dX11_findsStarts_50 : decode cX11_findsStarts 50 = .ok (.getfield 405, 3) := by decide +kernel
theorem dX11_findsStarts_53 : decode cX11_findsStarts 53 = .ok (.iconst (-1), 1) := by decide +kernel
theorem dX11_findsStarts_54 : decode cX11_findsStarts 54 = .ok (.if_icmp .ne 7, 3) := by decide +kernel
theorem dX11_findsStarts_57 : decode cX11_findsStarts 57 = .ok (.iload_n 1, 1) := by decide +kernel
theorem dX11_findsStarts_58 : decode cX11_findsStarts 58 = .ok (.goto 7, 3) := by decide +kernel
theorem dX11_findsStarts_61 : decode cX11_findsStarts 61 = .ok (.aload_n 0, 1) := by decide +kernel
theorem dX11_findsStarts_62 : decode cX11_findsStarts 62 = .ok (.getfield 405, 3) := by decide +kernel
theorem dX11_findsStarts_65 : decode cX11_findsStarts 65 = .ok (.putfield 405, 3) := by decide +kernel
theorem dX11_findsStarts_68 : decode cX11_findsStarts 68 = .ok (.iinc 1 1, 3) := by decide +kernel
theorem dX11_findsStarts_71 : decode cX11_findsStarts 71 = .ok (.goto (-59), 3) := by decide +kernel
theorem dX11_findsStarts_74 : decode cX11_findsStarts 74 = .ok (.return_, 1) := by decide +kernel
theorem dX11_foretold_0 : decode cX11_foretold 0 = .ok (.iload_n 1, 1) := by decide +kernel
theorem dX11_foretold_1 : decode cX11_foretold 1 = .ok (.ifCond .ne 29, 3) := by decide +kernel
theorem dX11_foretold_4 : decode cX11_foretold 4 = .ok (.aload_n 0, 1) := by decide +kernel
theorem dX11_foretold_5 : decode cX11_foretold 5 = .ok (.getfield 220, 3) := by decide +kernel
theorem dX11_foretold_8 : decode cX11_foretold 8 = .ok (.iconst 2, 1) := by decide +kernel
theorem dX11_foretold_9 : decode cX11_foretold 9 = .ok (.aload_n 0, 1) := by decide +kernel
theorem dX11_foretold_10 : decode cX11_foretold 10 = .ok (.getfield 215, 3) := by decide +kernel
theorem dX11_foretold_13 : decode cX11_foretold 13 = .ok (.imul, 1) := by decide +kernel
theorem dX11_foretold_14 : decode cX11_foretold 14 = .ok (.aload_n 0, 1) := by decide +kernel
theorem dX11_foretold_15 : decode cX11_foretold 15 = .ok (.getfield 215, 3) := by decide +kernel
theorem dX11_foretold_18 : decode cX11_foretold 18 = .ok (.imul, 1) := by decide +kernel
theorem dX11_foretold_19 : decode cX11_foretold 19 = .ok (.aload_n 0, 1) := by decide +kernel
theorem dX11_foretold_20 : decode cX11_foretold 20 = .ok (.getfield 215, 3) := by decide +kernel
theorem dX11_foretold_23 : decode cX11_foretold 23 = .ok (.isub, 1) := by decide +kernel
theorem dX11_foretold_24 : decode cX11_foretold 24 = .ok (.iconst 1, 1) := by decide +kernel
theorem dX11_foretold_25 : decode cX11_foretold 25 = .ok (.isub, 1) := by decide +kernel
theorem dX11_foretold_26 : decode cX11_foretold 26 = .ok (.imul, 1) := by decide +kernel
theorem dX11_foretold_27 : decode cX11_foretold 27 = .ok (.goto 19, 3) := by decide +kernel
theorem dX11_foretold_30 : decode cX11_foretold 30 = .ok (.aload_n 0, 1) := by decide +kernel
theorem dX11_foretold_31 : decode cX11_foretold 31 = .ok (.getfield 220, 3) := by decide +kernel
theorem dX11_foretold_34 : decode cX11_foretold 34 = .ok (.aload_n 0, 1) := by decide +kernel
theorem dX11_foretold_35 : decode cX11_foretold 35 = .ok (.getfield 215, 3) := by decide +kernel
theorem dX11_foretold_38 : decode cX11_foretold 38 = .ok (.aload_n 0, 1) := by decide +kernel
theorem dX11_foretold_39 : decode cX11_foretold 39 = .ok (.getfield 215, 3) := by decide +kernel
theorem dX11_foretold_42 : decode cX11_foretold 42 = .ok (.imul, 1) := by decide +kernel
theorem dX11_foretold_43 : decode cX11_foretold 43 = .ok (.iconst 1, 1) := by decide +kernel
theorem dX11_foretold_44 : decode cX11_foretold 44 = .ok (.isub, 1) := by decide +kernel
theorem dX11_foretold_45 : decode cX11_foretold 45 = .ok (.imul, 1) := by decide +kernel
theorem dX11_foretold_46 : decode cX11_foretold 46 = .ok (.ireturn, 1) := by decide +kernel
theorem dX11_free_0 : decode cX11_free 0 = .ok (.aload_n 0, 1) := by decide +kernel
theorem dX11_free_1 : decode cX11_free 1 = .ok (.iconst 0, 1) := by decide +kernel
theorem dX11_free_2 : decode cX11_free 2 = .ok (.putfield 80, 3) := by decide +kernel
theorem dX11_free_5 : decode cX11_free 5 = .ok (.aload_n 0, 1) := by decide +kernel
theorem dX11_free_6 : decode cX11_free 6 = .ok (.getfield 232, 3) := by decide +kernel
theorem dX11_free_9 : decode cX11_free 9 = .ok (.ifCond .ne 5, 3) := by decide +kernel
theorem dX11_free_12 : decode cX11_free 12 = .ok (.iconst (-1), 1) := by decide +kernel
theorem dX11_free_13 : decode cX11_free 13 = .ok (.ireturn, 1) := by decide +kernel
theorem dX11_free_14 : decode cX11_free 14 = .ok (.aload_n 0, 1) := by decide +kernel
theorem dX11_free_15 : decode cX11_free 15 = .ok (.invokevirtual 329, 3) := by decide +kernel
theorem dX11_free_18 : decode cX11_free 18 = .ok (.aload_n 0, 1) := by decide +kernel
theorem dX11_free_19 : decode cX11_free 19 = .ok (.aload_n 0, 1) := by decide +kernel
theorem dX11_free_20 : decode cX11_free 20 = .ok (.getfield 220, 3) := by decide +kernel
theorem dX11_free_23 : decode cX11_free 23 = .ok (.invokevirtual 386, 3) := by decide +kernel
theorem dX11_free_26 : decode cX11_free 26 = .ok (.ireturn, 1) := by decide +kernel
theorem dX11_freeIn_0 : decode cX11_freeIn 0 = .ok (.aload_n 0, 1) := by decide +kernel
theorem dX11_freeIn_1 : decode cX11_freeIn 1 = .ok (.getfield 215, 3) := by decide +kernel
theorem dX11_freeIn_4 : decode cX11_freeIn 4 = .ok (.aload_n 0, 1) := by decide +kernel
theorem dX11_freeIn_5 : decode cX11_freeIn 5 = .ok (.getfield 226, 3) := by decide +kernel
theorem dX11_freeIn_8 : decode cX11_freeIn 8 = .ok (.invokestatic 383, 3) := by decide +kernel
theorem dX11_freeIn_11 : decode cX11_freeIn 11 = .ok (.isub, 1) := by decide +kernel
theorem dX11_freeIn_12 : decode cX11_freeIn 12 = .ok (.istore_n 2, 1) := by decide +kernel
theorem dX11_freeIn_13 : decode cX11_freeIn 13 = .ok (.iload_n 1, 1) := by decide +kernel
theorem dX11_freeIn_14 : decode cX11_freeIn 14 = .ok (.aload_n 0, 1) := by decide +kernel
theorem dX11_freeIn_15 : decode cX11_freeIn 15 = .ok (.invokevirtual 287, 3) := by decide +kernel
theorem dX11_freeIn_18 : decode cX11_freeIn 18 = .ok (.iconst 1, 1) := by decide +kernel
theorem dX11_freeIn_19 : decode cX11_freeIn 19 = .ok (.isub, 1) := by decide +kernel
theorem dX11_freeIn_20 : decode cX11_freeIn 20 = .ok (.imul, 1) := by decide +kernel
theorem dX11_freeIn_21 : decode cX11_freeIn 21 = .ok (.aload_n 0, 1) := by decide +kernel
theorem dX11_freeIn_22 : decode cX11_freeIn 22 = .ok (.getfield 226, 3) := by decide +kernel
theorem dX11_freeIn_25 : decode cX11_freeIn 25 = .ok (.invokestatic 383, 3) := by decide +kernel
theorem dX11_freeIn_28 : decode cX11_freeIn 28 = .ok (.imul, 1) := by decide +kernel
theorem dX11_freeIn_29 : decode cX11_freeIn 29 = .ok (.iload_n 2, 1) := by decide +kernel
theorem dX11_freeIn_30 : decode cX11_freeIn 30 = .ok (.imul, 1) := by decide +kernel
theorem dX11_freeIn_31 : decode cX11_freeIn 31 = .ok (.istore_n 3, 1) := by decide +kernel
theorem dX11_freeIn_32 : decode cX11_freeIn 32 = .ok (.iconst 0, 1) := by decide +kernel
theorem dX11_freeIn_33 : decode cX11_freeIn 33 = .ok (.istore 4, 2) := by decide +kernel
theorem dX11_freeIn_35 : decode cX11_freeIn 35 = .ok (.iload 4, 2) := by decide +kernel
theorem dX11_freeIn_37 : decode cX11_freeIn 37 = .ok (.iload_n 1, 1) := by decide +kernel
theorem dX11_freeIn_38 : decode cX11_freeIn 38 = .ok (.if_icmp .ge 31, 3) := by decide +kernel
theorem dX11_freeIn_41 : decode cX11_freeIn 41 = .ok (.iload_n 3, 1) := by decide +kernel
theorem dX11_freeIn_42 : decode cX11_freeIn 42 = .ok (.aload_n 0, 1) := by decide +kernel
theorem dX11_freeIn_43 : decode cX11_freeIn 43 = .ok (.iload 4, 2) := by decide +kernel
theorem dX11_freeIn_45 : decode cX11_freeIn 45 = .ok (.aload_n 0, 1) := by decide +kernel
theorem dX11_freeIn_46 : decode cX11_freeIn 46 = .ok (.getfield 215, 3) := by decide +kernel
theorem dX11_freeIn_49 : decode cX11_freeIn 49 = .ok (.irem, 1) := by decide +kernel
theorem dX11_freeIn_50 : decode cX11_freeIn 50 = .ok (.invokevirtual 274, 3) := by decide +kernel
theorem dX11_freeIn_53 : decode cX11_freeIn 53 = .ok (.ifCond .eq 7, 3) := by decide +kernel
theorem dX11_freeIn_56 : decode cX11_freeIn 56 = .ok (.iload_n 2, 1) := by decide +kernel
theorem dX11_freeIn_57 : decode cX11_freeIn 57 = .ok (.goto 4, 3) := by decide +kernel
theorem dX11_freeIn_60 : decode cX11_freeIn 60 = .ok (.iconst 0, 1) := by decide +kernel
theorem dX11_freeIn_61 : decode cX11_freeIn 61 = .ok (.iadd, 1) := by decide +kernel
theorem dX11_freeIn_62 : decode cX11_freeIn 62 = .ok (.istore_n 3, 1) := by decide +kernel
theorem dX11_freeIn_63 : decode cX11_freeIn 63 = .ok (.iinc 4 1, 3) := by decide +kernel
theorem dX11_freeIn_66 : decode cX11_freeIn 66 = .ok (.goto (-31), 3) := by decide +kernel
theorem dX11_freeIn_69 : decode cX11_freeIn 69 = .ok (.iload_n 3, 1) := by decide +kernel
theorem dX11_freeIn_70 : decode cX11_freeIn 70 = .ok (.ireturn, 1) := by decide +kernel
theorem dX11_greatest_0 : decode cX11_greatest 0 = .ok (.aload_n 0, 1) := by decide +kernel
theorem dX11_greatest_1 : decode cX11_greatest 1 = .ok (.iconst 0, 1) := by decide +kernel
theorem dX11_greatest_2 : decode cX11_greatest 2 = .ok (.putfield 80, 3) := by decide +kernel
theorem dX11_greatest_5 : decode cX11_greatest 5 = .ok (.iload_n 1, 1) := by decide +kernel
theorem dX11_greatest_6 : decode cX11_greatest 6 = .ok (.i2l, 1) := by decide +kernel
theorem dX11_greatest_7 : decode cX11_greatest 7 = .ok (.lconst 0, 1) := by decide +kernel
theorem dX11_greatest_8 : decode cX11_greatest 8 = .ok (.lconst 1, 1) := by decide +kernel
theorem dX11_greatest_9 : decode cX11_greatest 9 = .ok (.invokestatic 132, 3) := by decide +kernel
theorem dX11_greatest_12 : decode cX11_greatest 12 = .ok (.ifCond .eq 31, 3) := by decide +kernel
theorem dX11_greatest_15 : decode cX11_greatest 15 = .ok (.iload_n 2, 1) := by decide +kernel
theorem dX11_greatest_16 : decode cX11_greatest 16 = .ok (.i2l, 1) := by decide +kernel
theorem dX11_greatest_17 : decode cX11_greatest 17 = .ok (.lconst 1, 1) := by decide +kernel
theorem dX11_greatest_18 : decode cX11_greatest 18 = .ok (.ldc2_w 381, 3) := by decide +kernel
theorem dX11_greatest_21 : decode cX11_greatest 21 = .ok (.invokestatic 132, 3) := by decide +kernel
theorem dX11_greatest_24 : decode cX11_greatest 24 = .ok (.ifCond .eq 19, 3) := by decide +kernel
theorem dX11_greatest_27 : decode cX11_greatest 27 = .ok (.iload_n 2, 1) := by decide +kernel
theorem dX11_greatest_28 : decode cX11_greatest 28 = .ok (.iconst 1, 1) := by decide +kernel
theorem dX11_greatest_29 : decode cX11_greatest 29 = .ok (.isub, 1) := by decide +kernel
theorem dX11_greatest_30 : decode cX11_greatest 30 = .ok (.iload_n 1, 1) := by decide +kernel
theorem dX11_greatest_31 : decode cX11_greatest 31 = .ok (.ifCond .ne 7, 3) := by decide +kernel
theorem dX11_greatest_34 : decode cX11_greatest 34 = .ok (.iconst 3, 1) := by decide +kernel
theorem dX11_greatest_35 : decode cX11_greatest 35 = .ok (.goto 4, 3) := by decide +kernel
theorem dX11_greatest_38 : decode cX11_greatest 38 = .ok (.iconst 4, 1) := by decide +kernel
theorem dX11_greatest_39 : decode cX11_greatest 39 = .ok (.idiv, 1) := by decide +kernel
theorem dX11_greatest_40 : decode cX11_greatest 40 = .ok (.goto 4, 3) := by decide +kernel
theorem dX11_greatest_43 : decode cX11_greatest 43 = .ok (.iconst (-1), 1) := by decide +kernel
theorem dX11_greatest_44 : decode cX11_greatest 44 = .ok (.ireturn, 1) := by decide +kernel
theorem dX11_has_0 : decode cX11_has 0 = .ok (.iload_n 0, 1) := by decide +kernel
theorem dX11_has_1 : decode cX11_has 1 = .ok (.iload_n 1, 1) := by decide +kernel
theorem dX11_has_2 : decode cX11_has 2 = .ok (.ishr, 1) := by decide +kernel
theorem dX11_has_3 : decode cX11_has 3 = .ok (.iconst 1, 1) := by decide +kernel
theorem dX11_has_4 : decode cX11_has 4 = .ok (.iand, 1) := by decide +kernel
theorem dX11_has_5 : decode cX11_has 5 = .ok (.iconst 1, 1) := by decide +kernel
theorem dX11_has_6 : decode cX11_has 6 = .ok (.if_icmp .ne 7, 3) := by decide +kernel
theorem dX11_has_9 : decode cX11_has 9 = .ok (.iconst 1, 1) := by decide +kernel
theorem dX11_has_10 : decode cX11_has 10 = .ok (.goto 4, 3) := by decide +kernel
theorem dX11_has_13 : decode cX11_has 13 = .ok (.iconst 0, 1) := by decide +kernel
theorem dX11_has_14 : decode cX11_has 14 = .ok (.ireturn, 1) := by decide +kernel
theorem dX11_heard_0 : decode cX11_heard 0 = .ok (.aload_n 0, 1) := by decide +kernel
theorem dX11_heard_1 : decode cX11_heard 1 = .ok (.iconst 0, 1) := by decide +kernel
theorem dX11_heard_2 : decode cX11_heard 2 = .ok (.putfield 80, 3) := by decide +kernel
theorem dX11_heard_5 : decode cX11_heard 5 = .ok (.aload_n 0, 1) := by decide +kernel
theorem dX11_heard_6 : decode cX11_heard 6 = .ok (.iload_n 1, 1) := by decide +kernel
theorem dX11_heard_7 : decode cX11_heard 7 = .ok (.iload_n 2, 1) := by decide +kernel
theorem dX11_heard_8 : decode cX11_heard 8 = .ok (.invokevirtual 344, 3) := by decide +kernel
theorem dX11_heard_11 : decode cX11_heard 11 = .ok (.ifCond .eq 38, 3) := by decide +kernel
theorem dX11_heard_14 : decode cX11_heard 14 = .ok (.aload_n 0, 1) := by decide +kernel
theorem dX11_heard_15 : decode cX11_heard 15 = .ok (.iload_n 3, 1) := by decide +kernel
theorem dX11_heard_16 : decode cX11_heard 16 = .ok (.invokevirtual 347, 3) := by decide +kernel
theorem dX11_heard_19 : decode cX11_heard 19 = .ok (.ifCond .eq 30, 3) := by decide +kernel
theorem dX11_heard_22 : decode cX11_heard 22 = .ok (.aload_n 0, 1) := by decide +kernel
theorem dX11_heard_23 : decode cX11_heard 23 = .ok (.iload 4, 2) := by decide +kernel
theorem dX11_heard_25 : decode cX11_heard 25 = .ok (.invokevirtual 347, 3) := by decide +kernel
theorem dX11_heard_28 : decode cX11_heard 28 = .ok (.ifCond .eq 21, 3) := by decide +kernel
theorem dX11_heard_31 : decode cX11_heard 31 = .ok (.aload_n 0, 1) := by decide +kernel
theorem dX11_heard_32 : decode cX11_heard 32 = .ok (.invokevirtual 287, 3) := by decide +kernel
theorem dX11_heard_35 : decode cX11_heard 35 = .ok (.iload_n 1, 1) := by decide +kernel
theorem dX11_heard_36 : decode cX11_heard 36 = .ok (.imul, 1) := by decide +kernel
theorem dX11_heard_37 : decode cX11_heard 37 = .ok (.iload_n 2, 1) := by decide +kernel
theorem dX11_heard_38 : decode cX11_heard 38 = .ok (.iadd, 1) := by decide +kernel
theorem dX11_heard_39 : decode cX11_heard 39 = .ok (.aload_n 0, 1) := by decide +kernel
theorem dX11_heard_40 : decode cX11_heard 40 = .ok (.getfield 57, 3) := by decide +kernel
theorem dX11_heard_43 : decode cX11_heard 43 = .ok (.bipush 72, 2) := by decide +kernel
theorem dX11_heard_45 : decode cX11_heard 45 = .ok (.iaload, 1) := by decide +kernel
theorem dX11_heard_46 : decode cX11_heard 46 = .ok (.if_icmp .lt 5, 3) := by decide +kernel
theorem dX11_heard_49 : decode cX11_heard 49 = .ok (.iconst (-1), 1) := by decide +kernel
theorem dX11_heard_50 : decode cX11_heard 50 = .ok (.ireturn, 1) := by decide +kernel
theorem dX11_heard_51 : decode cX11_heard 51 = .ok (.aload_n 0, 1) := by decide +kernel
theorem dX11_heard_52 : decode cX11_heard 52 = .ok (.getfield 57, 3) := by decide +kernel
theorem dX11_heard_55 : decode cX11_heard 55 = .ok (.bipush 80, 2) := by decide +kernel
theorem dX11_heard_57 : decode cX11_heard 57 = .ok (.bipush 81, 2) := by decide +kernel
theorem dX11_heard_59 : decode cX11_heard 59 = .ok (.iconst 3, 1) := by decide +kernel
theorem dX11_heard_60 : decode cX11_heard 60 = .ok (.iload_n 1, 1) := by decide +kernel
theorem dX11_heard_61 : decode cX11_heard 61 = .ok (.imul, 1) := by decide +kernel
theorem dX11_heard_62 : decode cX11_heard 62 = .ok (.iload_n 2, 1) := by decide +kernel
theorem dX11_heard_63 : decode cX11_heard 63 = .ok (.iadd, 1) := by decide +kernel
theorem dX11_heard_64 : decode cX11_heard 64 = .ok (.imul, 1) := by decide +kernel
theorem dX11_heard_65 : decode cX11_heard 65 = .ok (.iadd, 1) := by decide +kernel
theorem dX11_heard_66 : decode cX11_heard 66 = .ok (.bipush 9, 2) := by decide +kernel
theorem dX11_heard_68 : decode cX11_heard 68 = .ok (.iload_n 3, 1) := by decide +kernel
theorem dX11_heard_69 : decode cX11_heard 69 = .ok (.imul, 1) := by decide +kernel
theorem dX11_heard_70 : decode cX11_heard 70 = .ok (.iadd, 1) := by decide +kernel
theorem dX11_heard_71 : decode cX11_heard 71 = .ok (.iload 4, 2) := by decide +kernel
theorem dX11_heard_73 : decode cX11_heard 73 = .ok (.iadd, 1) := by decide +kernel
theorem dX11_heard_74 : decode cX11_heard 74 = .ok (.iaload, 1) := by decide +kernel
theorem dX11_heard_75 : decode cX11_heard 75 = .ok (.ireturn, 1) := by decide +kernel
theorem dX11_hearsAll_0 : decode cX11_hearsAll 0 = .ok (.aload_n 0, 1) := by decide +kernel
theorem dX11_hearsAll_1 : decode cX11_hearsAll 1 = .ok (.getfield 35, 3) := by decide +kernel
theorem dX11_hearsAll_4 : decode cX11_hearsAll 4 = .ok (.iload_n 1, 1) := by decide +kernel
theorem dX11_hearsAll_5 : decode cX11_hearsAll 5 = .ok (.aload_n 0, 1) := by decide +kernel
theorem dX11_hearsAll_6 : decode cX11_hearsAll 6 = .ok (.iload_n 1, 1) := by decide +kernel
theorem dX11_hearsAll_7 : decode cX11_hearsAll 7 = .ok (.iconst 0, 1) := by decide +kernel
theorem dX11_hearsAll_8 : decode cX11_hearsAll 8 = .ok (.invokevirtual 293, 3) := by decide +kernel
theorem dX11_hearsAll_11 : decode cX11_hearsAll 11 = .ok (.iastore, 1) := by decide +kernel
theorem dX11_hearsAll_12 : decode cX11_hearsAll 12 = .ok (.aload_n 0, 1) := by decide +kernel
theorem dX11_hearsAll_13 : decode cX11_hearsAll 13 = .ok (.getfield 38, 3) := by decide +kernel
theorem dX11_hearsAll_16 : decode cX11_hearsAll 16 = .ok (.iload_n 1, 1) := by decide +kernel
theorem dX11_hearsAll_17 : decode cX11_hearsAll 17 = .ok (.aload_n 0, 1) := by decide +kernel
theorem dX11_hearsAll_18 : decode cX11_hearsAll 18 = .ok (.iload_n 1, 1) := by decide +kernel
theorem dX11_hearsAll_19 : decode cX11_hearsAll 19 = .ok (.iconst 1, 1) := by decide +kernel
theorem dX11_hearsAll_20 : decode cX11_hearsAll 20 = .ok (.invokevirtual 293, 3) := by decide +kernel
theorem dX11_hearsAll_23 : decode cX11_hearsAll 23 = .ok (.iastore, 1) := by decide +kernel
theorem dX11_hearsAll_24 : decode cX11_hearsAll 24 = .ok (.aload_n 0, 1) := by decide +kernel
theorem dX11_hearsAll_25 : decode cX11_hearsAll 25 = .ok (.getfield 35, 3) := by decide +kernel
theorem dX11_hearsAll_28 : decode cX11_hearsAll 28 = .ok (.iload_n 1, 1) := by decide +kernel
theorem dX11_hearsAll_29 : decode cX11_hearsAll 29 = .ok (.iaload, 1) := by decide +kernel
theorem dX11_hearsAll_30 : decode cX11_hearsAll 30 = .ok (.aload_n 0, 1) := by decide +kernel
theorem dX11_hearsAll_31 : decode cX11_hearsAll 31 = .ok (.getfield 38, 3) := by decide +kernel
theorem dX11_hearsAll_34 : decode cX11_hearsAll 34 = .ok (.iload_n 1, 1) := by decide +kernel
theorem dX11_hearsAll_35 : decode cX11_hearsAll 35 = .ok (.iaload, 1) := by decide +kernel
theorem dX11_hearsAll_36 : decode cX11_hearsAll 36 = .ok (.invokestatic 296, 3) := by decide +kernel
theorem dX11_hearsAll_39 : decode cX11_hearsAll 39 = .ok (.istore_n 2, 1) := by decide +kernel
theorem dX11_hearsAll_40 : decode cX11_hearsAll 40 = .ok (.aload_n 0, 1) := by decide +kernel
theorem dX11_hearsAll_41 : decode cX11_hearsAll 41 = .ok (.getfield 212, 3) := by decide +kernel
theorem dX11_hearsAll_44 : decode cX11_hearsAll 44 = .ok (.ifCond .ne 55, 3) := by decide +kernel
theorem dX11_hearsAll_47 : decode cX11_hearsAll 47 = .ok (.aload_n 0, 1) := by decide +kernel
theorem dX11_hearsAll_48 : decode cX11_hearsAll 48 = .ok (.getfield 32, 3) := by decide +kernel
theorem dX11_hearsAll_51 : decode cX11_hearsAll 51 = .ok (.iload_n 1, 1) := by decide +kernel
theorem dX11_hearsAll_52 : decode cX11_hearsAll 52 = .ok (.aload_n 0, 1) := by decide +kernel
theorem dX11_hearsAll_53 : decode cX11_hearsAll 53 = .ok (.getfield 35, 3) := by decide +kernel
theorem dX11_hearsAll_56 : decode cX11_hearsAll 56 = .ok (.iload_n 1, 1) := by decide +kernel
theorem dX11_hearsAll_57 : decode cX11_hearsAll 57 = .ok (.iaload, 1) := by decide +kernel
theorem dX11_hearsAll_58 : decode cX11_hearsAll 58 = .ok (.aload_n 0, 1) := by decide +kernel
theorem dX11_hearsAll_59 : decode cX11_hearsAll 59 = .ok (.getfield 215, 3) := by decide +kernel
theorem dX11_hearsAll_62 : decode cX11_hearsAll 62 = .ok (.aload_n 0, 1) := by decide +kernel
theorem dX11_hearsAll_63 : decode cX11_hearsAll 63 = .ok (.getfield 218, 3) := by decide +kernel
theorem dX11_hearsAll_66 : decode cX11_hearsAll 66 = .ok (.isub, 1) := by decide +kernel
theorem dX11_hearsAll_67 : decode cX11_hearsAll 67 = .ok (.if_icmp .lt 7, 3) := by decide +kernel
theorem dX11_hearsAll_70 : decode cX11_hearsAll 70 = .ok (.iconst 0, 1) := by decide +kernel
theorem dX11_hearsAll_71 : decode cX11_hearsAll 71 = .ok (.goto 26, 3) := by decide +kernel
theorem dX11_hearsAll_74 : decode cX11_hearsAll 74 = .ok (.aload_n 0, 1) := by decide +kernel
theorem dX11_hearsAll_75 : decode cX11_hearsAll 75 = .ok (.getfield 38, 3) := by decide +kernel
theorem dX11_hearsAll_78 : decode cX11_hearsAll 78 = .ok (.iload_n 1, 1) := by decide +kernel
theorem dX11_hearsAll_79 : decode cX11_hearsAll 79 = .ok (.iaload, 1) := by decide +kernel
theorem dX11_hearsAll_80 : decode cX11_hearsAll 80 = .ok (.aload_n 0, 1) := by decide +kernel
theorem dX11_hearsAll_81 : decode cX11_hearsAll 81 = .ok (.getfield 215, 3) := by decide +kernel
theorem dX11_hearsAll_84 : decode cX11_hearsAll 84 = .ok (.aload_n 0, 1) := by decide +kernel
theorem dX11_hearsAll_85 : decode cX11_hearsAll 85 = .ok (.getfield 218, 3) := by decide +kernel
theorem dX11_hearsAll_88 : decode cX11_hearsAll 88 = .ok (.isub, 1) := by decide +kernel
theorem dX11_hearsAll_89 : decode cX11_hearsAll 89 = .ok (.if_icmp .lt 7, 3) := by decide +kernel
theorem dX11_hearsAll_92 : decode cX11_hearsAll 92 = .ok (.iconst 1, 1) := by decide +kernel
theorem dX11_hearsAll_93 : decode cX11_hearsAll 93 = .ok (.goto 4, 3) := by decide +kernel
theorem dX11_hearsAll_96 : decode cX11_hearsAll 96 = .ok (.iconst 2, 1) := by decide +kernel
theorem dX11_hearsAll_97 : decode cX11_hearsAll 97 = .ok (.iastore, 1) := by decide +kernel
theorem dX11_hearsAll_98 : decode cX11_hearsAll 98 = .ok (.return_, 1) := by decide +kernel
theorem dX11_hearsAll_99 : decode cX11_hearsAll 99 = .ok (.aload_n 0, 1) := by decide +kernel
theorem dX11_hearsAll_100 : decode cX11_hearsAll 100 = .ok (.getfield 32, 3) := by decide +kernel
theorem dX11_hearsAll_103 : decode cX11_hearsAll 103 = .ok (.iload_n 1, 1) := by decide +kernel
theorem dX11_hearsAll_104 : decode cX11_hearsAll 104 = .ok (.aload_n 0, 1) := by decide +kernel
theorem dX11_hearsAll_105 : decode cX11_hearsAll 105 = .ok (.getfield 38, 3) := by decide +kernel
theorem dX11_hearsAll_108 : decode cX11_hearsAll 108 = .ok (.iload_n 1, 1) := by decide +kernel
theorem dX11_hearsAll_109 : decode cX11_hearsAll 109 = .ok (.iaload, 1) := by decide +kernel
theorem dX11_hearsAll_110 : decode cX11_hearsAll 110 = .ok (.aload_n 0, 1) := by decide +kernel
theorem dX11_hearsAll_111 : decode cX11_hearsAll 111 = .ok (.getfield 35, 3) := by decide +kernel
theorem dX11_hearsAll_114 : decode cX11_hearsAll 114 = .ok (.iload_n 1, 1) := by decide +kernel
theorem dX11_hearsAll_115 : decode cX11_hearsAll 115 = .ok (.iaload, 1) := by decide +kernel
theorem dX11_hearsAll_116 : decode cX11_hearsAll 116 = .ok (.if_icmp .le 7, 3) := by decide +kernel
theorem dX11_hearsAll_119 : decode cX11_hearsAll 119 = .ok (.iconst 1, 1) := by decide +kernel
theorem dX11_hearsAll_120 : decode cX11_hearsAll 120 = .ok (.goto 4, 3) := by decide +kernel
theorem dX11_hearsAll_123 : decode cX11_hearsAll 123 = .ok (.iconst 0, 1) := by decide +kernel
theorem dX11_hearsAll_124 : decode cX11_hearsAll 124 = .ok (.iastore, 1) := by decide +kernel
theorem dX11_hearsAll_125 : decode cX11_hearsAll 125 = .ok (.aload_n 0, 1) := by decide +kernel
theorem dX11_hearsAll_126 : decode cX11_hearsAll 126 = .ok (.getfield 50, 3) := by decide +kernel
theorem dX11_hearsAll_129 : decode cX11_hearsAll 129 = .ok (.iload_n 1, 1) := by decide +kernel
theorem dX11_hearsAll_130 : decode cX11_hearsAll 130 = .ok (.iconst 2, 1) := by decide +kernel
theorem dX11_hearsAll_131 : decode cX11_hearsAll 131 = .ok (.iload_n 2, 1) := by decide +kernel
theorem dX11_hearsAll_132 : decode cX11_hearsAll 132 = .ok (.imul, 1) := by decide +kernel
theorem dX11_hearsAll_133 : decode cX11_hearsAll 133 = .ok (.aload_n 0, 1) := by decide +kernel
theorem dX11_hearsAll_134 : decode cX11_hearsAll 134 = .ok (.getfield 215, 3) := by decide +kernel
theorem dX11_hearsAll_137 : decode cX11_hearsAll 137 = .ok (.iconst 2, 1) := by decide +kernel
theorem dX11_hearsAll_138 : decode cX11_hearsAll 138 = .ok (.aload_n 0, 1) := by decide +kernel
theorem dX11_hearsAll_139 : decode cX11_hearsAll 139 = .ok (.getfield 218, 3) := by decide +kernel
theorem dX11_hearsAll_142 : decode cX11_hearsAll 142 = .ok (.imul, 1) := by decide +kernel
theorem dX11_hearsAll_143 : decode cX11_hearsAll 143 = .ok (.iadd, 1) := by decide +kernel
theorem dX11_hearsAll_144 : decode cX11_hearsAll 144 = .ok (.if_icmp .le 7, 3) := by decide +kernel
theorem dX11_hearsAll_147 : decode cX11_hearsAll 147 = .ok (.iconst 1, 1) := by decide +kernel
theorem dX11_hearsAll_148 : decode cX11_hearsAll 148 = .ok (.goto 4, 3) := by decide +kernel
theorem dX11_hearsAll_151 : decode cX11_hearsAll 151 = .ok (.iconst 0, 1) := by decide +kernel
theorem dX11_hearsAll_152 : decode cX11_hearsAll 152 = .ok (.bastore, 1) := by decide +kernel
theorem dX11_hearsAll_153 : decode cX11_hearsAll 153 = .ok (.return_, 1) := by decide +kernel
theorem dX11_hearsOffers_0 : decode cX11_hearsOffers 0 = .ok (.aload_n 0, 1) := by decide +kernel
theorem dX11_hearsOffers_1 : decode cX11_hearsOffers 1 = .ok (.getfield 41, 3) := by decide +kernel
theorem dX11_hearsOffers_4 : decode cX11_hearsOffers 4 = .ok (.iload_n 1, 1) := by decide +kernel
theorem dX11_hearsOffers_5 : decode cX11_hearsOffers 5 = .ok (.aload_n 0, 1) := by decide +kernel
theorem dX11_hearsOffers_6 : decode cX11_hearsOffers 6 = .ok (.iload_n 1, 1) := by decide +kernel
theorem dX11_hearsOffers_7 : decode cX11_hearsOffers 7 = .ok (.iconst 0, 1) := by decide +kernel
theorem dX11_hearsOffers_8 : decode cX11_hearsOffers 8 = .ok (.invokevirtual 293, 3) := by decide +kernel
theorem dX11_hearsOffers_11 : decode cX11_hearsOffers 11 = .ok (.iastore, 1) := by decide +kernel
theorem dX11_hearsOffers_12 : decode cX11_hearsOffers 12 = .ok (.aload_n 0, 1) := by decide +kernel
theorem dX11_hearsOffers_13 : decode cX11_hearsOffers 13 = .ok (.getfield 44, 3) := by decide +kernel
theorem dX11_hearsOffers_16 : decode cX11_hearsOffers 16 = .ok (.iload_n 1, 1) := by decide +kernel
theorem dX11_hearsOffers_17 : decode cX11_hearsOffers 17 = .ok (.aload_n 0, 1) := by decide +kernel
theorem dX11_hearsOffers_18 : decode cX11_hearsOffers 18 = .ok (.iload_n 1, 1) := by decide +kernel
theorem dX11_hearsOffers_19 : decode cX11_hearsOffers 19 = .ok (.iconst 1, 1) := by decide +kernel
theorem dX11_hearsOffers_20 : decode cX11_hearsOffers 20 = .ok (.invokevirtual 293, 3) := by decide +kernel
theorem dX11_hearsOffers_23 : decode cX11_hearsOffers 23 = .ok (.iastore, 1) := by decide +kernel
theorem dX11_hearsOffers_24 : decode cX11_hearsOffers 24 = .ok (.aload_n 0, 1) := by decide +kernel
theorem dX11_hearsOffers_25 : decode cX11_hearsOffers 25 = .ok (.getfield 41, 3) := by decide +kernel
theorem dX11_hearsOffers_28 : decode cX11_hearsOffers 28 = .ok (.iload_n 1, 1) := by decide +kernel
theorem dX11_hearsOffers_29 : decode cX11_hearsOffers 29 = .ok (.iaload, 1) := by decide +kernel
theorem dX11_hearsOffers_30 : decode cX11_hearsOffers 30 = .ok (.aload_n 0, 1) := by decide +kernel
theorem dX11_hearsOffers_31 : decode cX11_hearsOffers 31 = .ok (.getfield 44, 3) := by decide +kernel
theorem dX11_hearsOffers_34 : decode cX11_hearsOffers 34 = .ok (.iload_n 1, 1) := by decide +kernel
theorem dX11_hearsOffers_35 : decode cX11_hearsOffers 35 = .ok (.iaload, 1) := by decide +kernel
theorem dX11_hearsOffers_36 : decode cX11_hearsOffers 36 = .ok (.invokestatic 296, 3) := by decide +kernel
theorem dX11_hearsOffers_39 : decode cX11_hearsOffers 39 = .ok (.istore_n 2, 1) := by decide +kernel
theorem dX11_hearsOffers_40 : decode cX11_hearsOffers 40 = .ok (.iload_n 2, 1) := by decide +kernel
theorem dX11_hearsOffers_41 : decode cX11_hearsOffers 41 = .ok (.aload_n 0, 1) := by decide +kernel
theorem dX11_hearsOffers_42 : decode cX11_hearsOffers 42 = .ok (.getfield 218, 3) := by decide +kernel
theorem dX11_hearsOffers_45 : decode cX11_hearsOffers 45 = .ok (.if_icmp .le 29, 3) := by decide +kernel
theorem dX11_hearsOffers_48 : decode cX11_hearsOffers 48 = .ok (.aload_n 0, 1) := by decide +kernel
theorem dX11_hearsOffers_49 : decode cX11_hearsOffers 49 = .ok (.getfield 26, 3) := by decide +kernel
theorem dX11_hearsOffers_52 : decode cX11_hearsOffers 52 = .ok (.iload_n 1, 1) := by decide +kernel
theorem dX11_hearsOffers_53 : decode cX11_hearsOffers 53 = .ok (.aload_n 0, 1) := by decide +kernel
theorem dX11_hearsOffers_54 : decode cX11_hearsOffers 54 = .ok (.getfield 44, 3) := by decide +kernel
theorem dX11_hearsOffers_57 : decode cX11_hearsOffers 57 = .ok (.iload_n 1, 1) := by decide +kernel
theorem dX11_hearsOffers_58 : decode cX11_hearsOffers 58 = .ok (.iaload, 1) := by decide +kernel
theorem dX11_hearsOffers_59 : decode cX11_hearsOffers 59 = .ok (.aload_n 0, 1) := by decide +kernel
theorem dX11_hearsOffers_60 : decode cX11_hearsOffers 60 = .ok (.getfield 41, 3) := by decide +kernel
theorem dX11_hearsOffers_63 : decode cX11_hearsOffers 63 = .ok (.iload_n 1, 1) := by decide +kernel
theorem dX11_hearsOffers_64 : decode cX11_hearsOffers 64 = .ok (.iaload, 1) := by decide +kernel
theorem dX11_hearsOffers_65 : decode cX11_hearsOffers 65 = .ok (.if_icmp .le 7, 3) := by decide +kernel
theorem dX11_hearsOffers_68 : decode cX11_hearsOffers 68 = .ok (.iconst 1, 1) := by decide +kernel
theorem dX11_hearsOffers_69 : decode cX11_hearsOffers 69 = .ok (.goto 4, 3) := by decide +kernel
theorem dX11_hearsOffers_72 : decode cX11_hearsOffers 72 = .ok (.iconst 0, 1) := by decide +kernel
theorem dX11_hearsOffers_73 : decode cX11_hearsOffers 73 = .ok (.iastore, 1) := by decide +kernel
theorem dX11_hearsOffers_74 : decode cX11_hearsOffers 74 = .ok (.aload_n 0, 1) := by decide +kernel
theorem dX11_hearsOffers_75 : decode cX11_hearsOffers 75 = .ok (.getfield 50, 3) := by decide +kernel
theorem dX11_hearsOffers_78 : decode cX11_hearsOffers 78 = .ok (.iload_n 1, 1) := by decide +kernel
theorem dX11_hearsOffers_79 : decode cX11_hearsOffers 79 = .ok (.iload_n 2, 1) := by decide +kernel
theorem dX11_hearsOffers_80 : decode cX11_hearsOffers 80 = .ok (.aload_n 0, 1) := by decide +kernel
theorem dX11_hearsOffers_81 : decode cX11_hearsOffers 81 = .ok (.getfield 215, 3) := by decide +kernel
theorem dX11_hearsOffers_84 : decode cX11_hearsOffers 84 = .ok (.aload_n 0, 1) := by decide +kernel
theorem dX11_hearsOffers_85 : decode cX11_hearsOffers 85 = .ok (.getfield 218, 3) := by decide +kernel
theorem dX11_hearsOffers_88 : decode cX11_hearsOffers 88 = .ok (.isub, 1) := by decide +kernel
theorem dX11_hearsOffers_89 : decode cX11_hearsOffers 89 = .ok (.if_icmp .lt 7, 3) := by decide +kernel
theorem dX11_hearsOffers_92 : decode cX11_hearsOffers 92 = .ok (.iconst 1, 1) := by decide +kernel
theorem dX11_hearsOffers_93 : decode cX11_hearsOffers 93 = .ok (.goto 4, 3) := by decide +kernel
theorem dX11_hearsOffers_96 : decode cX11_hearsOffers 96 = .ok (.iconst 0, 1) := by decide +kernel
theorem dX11_hearsOffers_97 : decode cX11_hearsOffers 97 = .ok (.bastore, 1) := by decide +kernel
theorem dX11_hearsOffers_98 : decode cX11_hearsOffers 98 = .ok (.return_, 1) := by decide +kernel
theorem dX11_hearsRuler_0 : decode cX11_hearsRuler 0 = .ok (.aload_n 0, 1) := by decide +kernel
theorem dX11_hearsRuler_1 : decode cX11_hearsRuler 1 = .ok (.getfield 47, 3) := by decide +kernel
theorem dX11_hearsRuler_4 : decode cX11_hearsRuler 4 = .ok (.bipush 9, 2) := by decide +kernel
theorem dX11_hearsRuler_6 : decode cX11_hearsRuler 6 = .ok (.iload_n 2, 1) := by decide +kernel
theorem dX11_hearsRuler_7 : decode cX11_hearsRuler 7 = .ok (.imul, 1) := by decide +kernel
theorem dX11_hearsRuler_8 : decode cX11_hearsRuler 8 = .ok (.iload_n 1, 1) := by decide +kernel
theorem dX11_hearsRuler_9 : decode cX11_hearsRuler 9 = .ok (.iadd, 1) := by decide +kernel
theorem dX11_hearsRuler_10 : decode cX11_hearsRuler 10 = .ok (.iaload, 1) := by decide +kernel
theorem dX11_hearsRuler_11 : decode cX11_hearsRuler 11 = .ok (.istore_n 3, 1) := by decide +kernel
theorem dX11_hearsRuler_12 : decode cX11_hearsRuler 12 = .ok (.aload_n 0, 1) := by decide +kernel
theorem dX11_hearsRuler_13 : decode cX11_hearsRuler 13 = .ok (.getfield 50, 3) := by decide +kernel
theorem dX11_hearsRuler_16 : decode cX11_hearsRuler 16 = .ok (.iload_n 1, 1) := by decide +kernel
theorem dX11_hearsRuler_17 : decode cX11_hearsRuler 17 = .ok (.baload, 1) := by decide +kernel
theorem dX11_hearsRuler_18 : decode cX11_hearsRuler 18 = .ok (.ifCond .eq 58, 3) := by decide +kernel
theorem dX11_hearsRuler_21 : decode cX11_hearsRuler 21 = .ok (.aload_n 0, 1) := by decide +kernel
theorem dX11_hearsRuler_22 : decode cX11_hearsRuler 22 = .ok (.getfield 212, 3) := by decide +kernel
theorem dX11_hearsRuler_25 : decode cX11_hearsRuler 25 = .ok (.iconst 1, 1) := by decide +kernel
theorem dX11_hearsRuler_26 : decode cX11_hearsRuler 26 = .ok (.if_icmp .ne 15, 3) := by decide +kernel
theorem dX11_hearsRuler_29 : decode cX11_hearsRuler 29 = .ok (.aload_n 0, 1) := by decide +kernel
theorem dX11_hearsRuler_30 : decode cX11_hearsRuler 30 = .ok (.getfield 26, 3) := by decide +kernel
theorem dX11_hearsRuler_33 : decode cX11_hearsRuler 33 = .ok (.iload_n 1, 1) := by decide +kernel
theorem dX11_hearsRuler_34 : decode cX11_hearsRuler 34 = .ok (.aload_n 0, 1) := by decide +kernel
theorem dX11_hearsRuler_35 : decode cX11_hearsRuler 35 = .ok (.getfield 32, 3) := by decide +kernel
theorem dX11_hearsRuler_38 : decode cX11_hearsRuler 38 = .ok (.iload_n 1, 1) := by decide +kernel
theorem dX11_hearsRuler_39 : decode cX11_hearsRuler 39 = .ok (.iaload, 1) := by decide +kernel
theorem dX11_hearsRuler_40 : decode cX11_hearsRuler 40 = .ok (.iastore, 1) := by decide +kernel
theorem dX11_hearsRuler_41 : decode cX11_hearsRuler 41 = .ok (.aload_n 0, 1) := by decide +kernel
theorem dX11_hearsRuler_42 : decode cX11_hearsRuler 42 = .ok (.getfield 54, 3) := by decide +kernel
theorem dX11_hearsRuler_45 : decode cX11_hearsRuler 45 = .ok (.iload_n 1, 1) := by decide +kernel
theorem dX11_hearsRuler_46 : decode cX11_hearsRuler 46 = .ok (.iconst 0, 1) := by decide +kernel
theorem dX11_hearsRuler_47 : decode cX11_hearsRuler 47 = .ok (.bastore, 1) := by decide +kernel
theorem dX11_hearsRuler_48 : decode cX11_hearsRuler 48 = .ok (.iload_n 3, 1) := by decide +kernel
theorem dX11_hearsRuler_49 : decode cX11_hearsRuler 49 = .ok (.aload_n 0, 1) := by decide +kernel
theorem dX11_hearsRuler_50 : decode cX11_hearsRuler 50 = .ok (.getfield 26, 3) := by decide +kernel
theorem dX11_hearsRuler_53 : decode cX11_hearsRuler 53 = .ok (.iload_n 1, 1) := by decide +kernel
theorem dX11_hearsRuler_54 : decode cX11_hearsRuler 54 = .ok (.iaload, 1) := by decide +kernel
theorem dX11_hearsRuler_55 : decode cX11_hearsRuler 55 = .ok (.if_icmp .eq 20, 3) := by decide +kernel
theorem dX11_hearsRuler_58 : decode cX11_hearsRuler 58 = .ok (.iload_n 1, 1) := by decide +kernel
theorem dX11_hearsRuler_59 : decode cX11_hearsRuler 59 = .ok (.iload_n 2, 1) := by decide +kernel
theorem dX11_hearsRuler_60 : decode cX11_hearsRuler 60 = .ok (.if_icmp .eq 15, 3) := by decide +kernel
theorem dX11_hearsRuler_63 : decode cX11_hearsRuler 63 = .ok (.aload_n 0, 1) := by decide +kernel
theorem dX11_hearsRuler_64 : decode cX11_hearsRuler 64 = .ok (.getfield 29, 3) := by decide +kernel
theorem dX11_hearsRuler_67 : decode cX11_hearsRuler 67 = .ok (.iload_n 1, 1) := by decide +kernel
theorem dX11_hearsRuler_68 : decode cX11_hearsRuler 68 = .ok (.dup2, 1) := by decide +kernel
theorem dX11_hearsRuler_69 : decode cX11_hearsRuler 69 = .ok (.iaload, 1) := by decide +kernel
theorem dX11_hearsRuler_70 : decode cX11_hearsRuler 70 = .ok (.iconst 1, 1) := by decide +kernel
theorem dX11_hearsRuler_71 : decode cX11_hearsRuler 71 = .ok (.iload_n 2, 1) := by decide +kernel
theorem dX11_hearsRuler_72 : decode cX11_hearsRuler 72 = .ok (.ishl, 1) := by decide +kernel
theorem dX11_hearsRuler_73 : decode cX11_hearsRuler 73 = .ok (.ior, 1) := by decide +kernel
theorem dX11_hearsRuler_74 : decode cX11_hearsRuler 74 = .ok (.iastore, 1) := by decide +kernel
theorem dX11_hearsRuler_75 : decode cX11_hearsRuler 75 = .ok (.return_, 1) := by decide +kernel
theorem dX11_hearsRuler_76 : decode cX11_hearsRuler 76 = .ok (.aload_n 0, 1) := by decide +kernel
theorem dX11_hearsRuler_77 : decode cX11_hearsRuler 77 = .ok (.getfield 54, 3) := by decide +kernel
theorem dX11_hearsRuler_80 : decode cX11_hearsRuler 80 = .ok (.iload_n 1, 1) := by decide +kernel
theorem dX11_hearsRuler_81 : decode cX11_hearsRuler 81 = .ok (.aload_n 0, 1) := by decide +kernel
theorem dX11_hearsRuler_82 : decode cX11_hearsRuler 82 = .ok (.getfield 222, 3) := by decide +kernel
theorem dX11_hearsRuler_85 : decode cX11_hearsRuler 85 = .ok (.ifCond .eq 16, 3) := by decide +kernel
theorem dX11_hearsRuler_88 : decode cX11_hearsRuler 88 = .ok (.aload_n 0, 1) := by decide +kernel
theorem dX11_hearsRuler_89 : decode cX11_hearsRuler 89 = .ok (.getfield 29, 3) := by decide +kernel
theorem dX11_hearsRuler_92 : decode cX11_hearsRuler 92 = .ok (.iload_n 1, 1) := by decide +kernel
theorem dX11_hearsRuler_93 : decode cX11_hearsRuler 93 = .ok (.iaload, 1) := by decide +kernel
theorem dX11_hearsRuler_94 : decode cX11_hearsRuler 94 = .ok (.iload_n 2, 1) := by decide +kernel
theorem dX11_hearsRuler_95 : decode cX11_hearsRuler 95 = .ok (.invokestatic 161, 3) := by decide +kernel
theorem dX11_hearsRuler_98 : decode cX11_hearsRuler 98 = .ok (.ifCond .ne 7, 3) := by decide +kernel
theorem dX11_hearsRuler_101 : decode cX11_hearsRuler 101 = .ok (.iconst 1, 1) := by decide +kernel
theorem dX11_hearsRuler_102 : decode cX11_hearsRuler 102 = .ok (.goto 4, 3) := by decide +kernel
theorem dX11_hearsRuler_105 : decode cX11_hearsRuler 105 = .ok (.iconst 0, 1) := by decide +kernel
theorem dX11_hearsRuler_106 : decode cX11_hearsRuler 106 = .ok (.bastore, 1) := by decide +kernel
theorem dX11_hearsRuler_107 : decode cX11_hearsRuler 107 = .ok (.aload_n 0, 1) := by decide +kernel
theorem dX11_hearsRuler_108 : decode cX11_hearsRuler 108 = .ok (.getfield 54, 3) := by decide +kernel
theorem dX11_hearsRuler_111 : decode cX11_hearsRuler 111 = .ok (.iload_n 1, 1) := by decide +kernel
theorem dX11_hearsRuler_112 : decode cX11_hearsRuler 112 = .ok (.baload, 1) := by decide +kernel
theorem dX11_hearsRuler_113 : decode cX11_hearsRuler 113 = .ok (.ifCond .eq 22, 3) := by decide +kernel
theorem dX11_hearsRuler_116 : decode cX11_hearsRuler 116 = .ok (.aload_n 0, 1) := by decide +kernel
theorem dX11_hearsRuler_117 : decode cX11_hearsRuler 117 = .ok (.getfield 26, 3) := by decide +kernel
theorem dX11_hearsRuler_120 : decode cX11_hearsRuler 120 = .ok (.iload_n 1, 1) := by decide +kernel
theorem dX11_hearsRuler_121 : decode cX11_hearsRuler 121 = .ok (.iload_n 3, 1) := by decide +kernel
theorem dX11_hearsRuler_122 : decode cX11_hearsRuler 122 = .ok (.iconst 2, 1) := by decide +kernel
theorem dX11_hearsRuler_123 : decode cX11_hearsRuler 123 = .ok (.if_icmp .ne 7, 3) := by decide +kernel
theorem dX11_hearsRuler_126 : decode cX11_hearsRuler 126 = .ok (.iconst 0, 1) := by decide +kernel
theorem dX11_hearsRuler_127 : decode cX11_hearsRuler 127 = .ok (.goto 4, 3) := by decide +kernel
theorem dX11_hearsRuler_130 : decode cX11_hearsRuler 130 = .ok (.iload_n 3, 1) := by decide +kernel
theorem dX11_hearsRuler_131 : decode cX11_hearsRuler 131 = .ok (.iastore, 1) := by decide +kernel
theorem dX11_hearsRuler_132 : decode cX11_hearsRuler 132 = .ok (.goto 23, 3) := by decide +kernel
theorem dX11_hearsRuler_135 : decode cX11_hearsRuler 135 = .ok (.aload_n 0, 1) := by decide +kernel
theorem dX11_hearsRuler_136 : decode cX11_hearsRuler 136 = .ok (.getfield 212, 3) := by decide +kernel
theorem dX11_hearsRuler_139 : decode cX11_hearsRuler 139 = .ok (.iconst 1, 1) := by decide +kernel
theorem dX11_hearsRuler_140 : decode cX11_hearsRuler 140 = .ok (.if_icmp .ne 15, 3) := by decide +kernel
theorem dX11_hearsRuler_143 : decode cX11_hearsRuler 143 = .ok (.aload_n 0, 1) := by decide +kernel
theorem dX11_hearsRuler_144 : decode cX11_hearsRuler 144 = .ok (.getfield 26, 3) := by decide +kernel
theorem dX11_hearsRuler_147 : decode cX11_hearsRuler 147 = .ok (.iload_n 1, 1) := by decide +kernel
theorem dX11_hearsRuler_148 : decode cX11_hearsRuler 148 = .ok (.aload_n 0, 1) := by decide +kernel
theorem dX11_hearsRuler_149 : decode cX11_hearsRuler 149 = .ok (.getfield 32, 3) := by decide +kernel
theorem dX11_hearsRuler_152 : decode cX11_hearsRuler 152 = .ok (.iload_n 1, 1) := by decide +kernel
theorem dX11_hearsRuler_153 : decode cX11_hearsRuler 153 = .ok (.iaload, 1) := by decide +kernel
theorem dX11_hearsRuler_154 : decode cX11_hearsRuler 154 = .ok (.iastore, 1) := by decide +kernel
theorem dX11_hearsRuler_155 : decode cX11_hearsRuler 155 = .ok (.return_, 1) := by decide +kernel
theorem dX11_held_0 : decode cX11_held 0 = .ok (.aload_n 0, 1) := by decide +kernel
theorem dX11_held_1 : decode cX11_held 1 = .ok (.iconst 0, 1) := by decide +kernel
theorem dX11_held_2 : decode cX11_held 2 = .ok (.putfield 80, 3) := by decide +kernel
theorem dX11_held_5 : decode cX11_held 5 = .ok (.aload_n 0, 1) := by decide +kernel
theorem dX11_held_6 : decode cX11_held 6 = .ok (.invokevirtual 396, 3) := by decide +kernel
theorem dX11_held_9 : decode cX11_held 9 = .ok (.ifCond .ne 6, 3) := by decide +kernel
theorem dX11_held_12 : decode cX11_held 12 = .ok (.bipush (-2), 2) := by decide +kernel
theorem dX11_held_14 : decode cX11_held 14 = .ok (.ireturn, 1) := by decide +kernel
theorem dX11_held_15 : decode cX11_held 15 = .ok (.aload_n 0, 1) := by decide +kernel
theorem dX11_held_16 : decode cX11_held 16 = .ok (.iload_n 2, 1) := by decide +kernel
theorem dX11_held_17 : decode cX11_held 17 = .ok (.invokevirtual 347, 3) := by decide +kernel
theorem dX11_held_20 : decode cX11_held 20 = .ok (.ifCond .eq 25, 3) := by decide +kernel
theorem dX11_held_23 : decode cX11_held 23 = .ok (.iload_n 1, 1) := by decide +kernel
theorem dX11_held_24 : decode cX11_held 24 = .ok (.i2l, 1) := by decide +kernel
theorem dX11_held_25 : decode cX11_held 25 = .ok (.lconst 0, 1) := by decide +kernel
theorem dX11_held_26 : decode cX11_held 26 = .ok (.iconst 1, 1) := by decide +kernel
theorem dX11_held_27 : decode cX11_held 27 = .ok (.aload_n 0, 1) := by decide +kernel
theorem dX11_held_28 : decode cX11_held 28 = .ok (.aload_n 0, 1) := by decide +kernel
theorem dX11_held_29 : decode cX11_held 29 = .ok (.getfield 220, 3) := by decide +kernel
theorem dX11_held_32 : decode cX11_held 32 = .ok (.invokevirtual 386, 3) := by decide +kernel
theorem dX11_held_35 : decode cX11_held 35 = .ok (.ishl, 1) := by decide +kernel
theorem dX11_held_36 : decode cX11_held 36 = .ok (.iconst 1, 1) := by decide +kernel
theorem dX11_held_37 : decode cX11_held 37 = .ok (.isub, 1) := by decide +kernel
theorem dX11_held_38 : decode cX11_held 38 = .ok (.i2l, 1) := by decide +kernel
theorem dX11_held_39 : decode cX11_held 39 = .ok (.invokestatic 132, 3) := by decide +kernel
theorem dX11_held_42 : decode cX11_held 42 = .ok (.ifCond .ne 5, 3) := by decide +kernel
theorem dX11_held_45 : decode cX11_held 45 = .ok (.iconst (-1), 1) := by decide +kernel
theorem dX11_held_46 : decode cX11_held 46 = .ok (.ireturn, 1) := by decide +kernel
theorem dX11_held_47 : decode cX11_held 47 = .ok (.aload_n 0, 1) := by decide +kernel
theorem dX11_held_48 : decode cX11_held 48 = .ok (.iconst 1, 1) := by decide +kernel
theorem dX11_held_49 : decode cX11_held 49 = .ok (.iload_n 1, 1) := by decide +kernel
theorem dX11_held_50 : decode cX11_held 50 = .ok (.invokevirtual 389, 3) := by decide +kernel
theorem dX11_held_53 : decode cX11_held 53 = .ok (.aload_n 0, 1) := by decide +kernel
theorem dX11_held_54 : decode cX11_held 54 = .ok (.getfield 26, 3) := by decide +kernel
theorem dX11_held_57 : decode cX11_held 57 = .ok (.iload_n 2, 1) := by decide +kernel
theorem dX11_held_58 : decode cX11_held 58 = .ok (.iaload, 1) := by decide +kernel
theorem dX11_held_59 : decode cX11_held 59 = .ok (.ireturn, 1) := by decide +kernel
theorem dX11_heldBehind_0 : decode cX11_heldBehind 0 = .ok (.iload_n 1, 1) := by decide +kernel
theorem dX11_heldBehind_1 : decode cX11_heldBehind 1 = .ok (.ifCond .ge 17, 3) := by decide +kernel
theorem dX11_heldBehind_4 : decode cX11_heldBehind 4 = .ok (.aload_n 0, 1) := by decide +kernel
theorem dX11_heldBehind_5 : decode cX11_heldBehind 5 = .ok (.getfield 57, 3) := by decide +kernel
theorem dX11_heldBehind_8 : decode cX11_heldBehind 8 = .ok (.bipush 75, 2) := by decide +kernel
theorem dX11_heldBehind_10 : decode cX11_heldBehind 10 = .ok (.iaload, 1) := by decide +kernel
theorem dX11_heldBehind_11 : decode cX11_heldBehind 11 = .ok (.iload_n 2, 1) := by decide +kernel
theorem dX11_heldBehind_12 : decode cX11_heldBehind 12 = .ok (.ishr, 1) := by decide +kernel
theorem dX11_heldBehind_13 : decode cX11_heldBehind 13 = .ok (.iconst 1, 1) := by decide +kernel
theorem dX11_heldBehind_14 : decode cX11_heldBehind 14 = .ok (.iand, 1) := by decide +kernel
theorem dX11_heldBehind_15 : decode cX11_heldBehind 15 = .ok (.goto 13, 3) := by decide +kernel
theorem dX11_heldBehind_18 : decode cX11_heldBehind 18 = .ok (.aload_n 0, 1) := by decide +kernel
theorem dX11_heldBehind_19 : decode cX11_heldBehind 19 = .ok (.getfield 57, 3) := by decide +kernel
theorem dX11_heldBehind_22 : decode cX11_heldBehind 22 = .ok (.iload_n 1, 1) := by decide +kernel
theorem dX11_heldBehind_23 : decode cX11_heldBehind 23 = .ok (.iload_n 2, 1) := by decide +kernel
theorem dX11_heldBehind_24 : decode cX11_heldBehind 24 = .ok (.invokestatic 332, 3) := by decide +kernel
theorem dX11_heldBehind_27 : decode cX11_heldBehind 27 = .ok (.iaload, 1) := by decide +kernel
theorem dX11_heldBehind_28 : decode cX11_heldBehind 28 = .ok (.ireturn, 1) := by decide +kernel
theorem dX11_here_0 : decode cX11_here 0 = .ok (.aload_n 0, 1) := by decide +kernel
theorem dX11_here_1 : decode cX11_here 1 = .ok (.getfield 95, 3) := by decide +kernel
theorem dX11_here_4 : decode cX11_here 4 = .ok (.aload_n 0, 1) := by decide +kernel
theorem dX11_here_5 : decode cX11_here 5 = .ok (.getfield 84, 3) := by decide +kernel
theorem dX11_here_8 : decode cX11_here 8 = .ok (.if_icmp .ge 19, 3) := by decide +kernel
theorem dX11_here_11 : decode cX11_here 11 = .ok (.aload_n 0, 1) := by decide +kernel
theorem dX11_here_12 : decode cX11_here 12 = .ok (.getfield 9, 3) := by decide +kernel
theorem dX11_here_15 : decode cX11_here 15 = .ok (.aload_n 0, 1) := by decide +kernel
theorem dX11_here_16 : decode cX11_here 16 = .ok (.getfield 95, 3) := by decide +kernel
theorem dX11_here_19 : decode cX11_here 19 = .ok (.baload, 1) := by decide +kernel
theorem dX11_here_20 : decode cX11_here 20 = .ok (.sipush 255, 3) := by decide +kernel
theorem dX11_here_23 : decode cX11_here 23 = .ok (.iand, 1) := by decide +kernel
theorem dX11_here_24 : decode cX11_here 24 = .ok (.goto 4, 3) := by decide +kernel
theorem dX11_here_27 : decode cX11_here 27 = .ok (.iconst (-1), 1) := by decide +kernel
theorem dX11_here_28 : decode cX11_here 28 = .ok (.ireturn, 1) := by decide +kernel
theorem dX11_holders_0 : decode cX11_holders 0 = .ok (.iconst 0, 1) := by decide +kernel
theorem dX11_holders_1 : decode cX11_holders 1 = .ok (.istore_n 1, 1) := by decide +kernel
theorem dX11_holders_2 : decode cX11_holders 2 = .ok (.iconst 0, 1) := by decide +kernel
theorem dX11_holders_3 : decode cX11_holders 3 = .ok (.istore_n 2, 1) := by decide +kernel
theorem dX11_holders_4 : decode cX11_holders 4 = .ok (.iload_n 2, 1) := by decide +kernel
theorem dX11_holders_5 : decode cX11_holders 5 = .ok (.aload_n 0, 1) := by decide +kernel
theorem dX11_holders_6 : decode cX11_holders 6 = .ok (.getfield 215, 3) := by decide +kernel
theorem dX11_holders_9 : decode cX11_holders 9 = .ok (.if_icmp .ge 20, 3) := by decide +kernel
theorem dX11_holders_12 : decode cX11_holders 12 = .ok (.iload_n 1, 1) := by decide +kernel
theorem dX11_holders_13 : decode cX11_holders 13 = .ok (.aload_n 0, 1) := by decide +kernel
theorem dX11_holders_14 : decode cX11_holders 14 = .ok (.getfield 26, 3) := by decide +kernel
theorem dX11_holders_17 : decode cX11_holders 17 = .ok (.iload_n 2, 1) := by decide +kernel
theorem dX11_holders_18 : decode cX11_holders 18 = .ok (.iaload, 1) := by decide +kernel
theorem dX11_holders_19 : decode cX11_holders 19 = .ok (.iload_n 2, 1) := by decide +kernel
theorem dX11_holders_20 : decode cX11_holders 20 = .ok (.ishl, 1) := by decide +kernel
theorem dX11_holders_21 : decode cX11_holders 21 = .ok (.ior, 1) := by decide +kernel
theorem dX11_holders_22 : decode cX11_holders 22 = .ok (.istore_n 1, 1) := by decide +kernel
theorem dX11_holders_23 : decode cX11_holders 23 = .ok (.iinc 2 1, 3) := by decide +kernel
theorem dX11_holders_26 : decode cX11_holders 26 = .ok (.goto (-22), 3) := by decide +kernel
theorem dX11_holders_29 : decode cX11_holders 29 = .ok (.iload_n 1, 1) := by decide +kernel
theorem dX11_holders_30 : decode cX11_holders 30 = .ok (.ireturn, 1) := by decide +kernel
theorem dX11_image_0 : decode cX11_image 0 = .ok (.aload_n 0, 1) := by decide +kernel
theorem dX11_image_1 : decode cX11_image 1 = .ok (.iconst 0, 1) := by decide +kernel
theorem dX11_image_2 : decode cX11_image 2 = .ok (.putfield 80, 3) := by decide +kernel
theorem dX11_image_5 : decode cX11_image 5 = .ok (.aload_n 0, 1) := by decide +kernel
theorem dX11_image_6 : decode cX11_image 6 = .ok (.getfield 232, 3) := by decide +kernel
theorem dX11_image_9 : decode cX11_image 9 = .ok (.ifCond .ne 5, 3) := by decide +kernel
theorem dX11_image_12 : decode cX11_image 12 = .ok (.iconst (-1), 1) := by decide +kernel
theorem dX11_image_13 : decode cX11_image 13 = .ok (.ireturn, 1) := by decide +kernel
theorem dX11_image_14 : decode cX11_image 14 = .ok (.iconst 0, 1) := by decide +kernel
theorem dX11_image_15 : decode cX11_image 15 = .ok (.istore_n 1, 1) := by decide +kernel
theorem dX11_image_16 : decode cX11_image 16 = .ok (.iload_n 1, 1) := by decide +kernel
theorem dX11_image_17 : decode cX11_image 17 = .ok (.sipush 2126, 3) := by decide +kernel
theorem dX11_image_20 : decode cX11_image 20 = .ok (.if_icmp .ge 21, 3) := by decide +kernel
theorem dX11_image_23 : decode cX11_image 23 = .ok (.aload_n 0, 1) := by decide +kernel
theorem dX11_image_24 : decode cX11_image 24 = .ok (.getfield 60, 3) := by decide +kernel
theorem dX11_image_27 : decode cX11_image 27 = .ok (.iload_n 1, 1) := by decide +kernel
theorem dX11_image_28 : decode cX11_image 28 = .ok (.aload_n 0, 1) := by decide +kernel
theorem dX11_image_29 : decode cX11_image 29 = .ok (.getfield 57, 3) := by decide +kernel
theorem dX11_image_32 : decode cX11_image 32 = .ok (.iload_n 1, 1) := by decide +kernel
theorem dX11_image_33 : decode cX11_image 33 = .ok (.iaload, 1) := by decide +kernel
theorem dX11_image_34 : decode cX11_image 34 = .ok (.iastore, 1) := by decide +kernel
theorem dX11_image_35 : decode cX11_image 35 = .ok (.iinc 1 1, 3) := by decide +kernel
theorem dX11_image_38 : decode cX11_image 38 = .ok (.goto (-22), 3) := by decide +kernel
theorem dX11_image_41 : decode cX11_image 41 = .ok (.aload_n 0, 1) := by decide +kernel
theorem dX11_image_42 : decode cX11_image 42 = .ok (.aload_n 0, 1) := by decide +kernel
theorem dX11_image_43 : decode cX11_image 43 = .ok (.getfield 320, 3) := by decide +kernel
theorem dX11_image_46 : decode cX11_image 46 = .ok (.putfield 352, 3) := by decide +kernel
theorem dX11_image_49 : decode cX11_image 49 = .ok (.aload_n 0, 1) := by decide +kernel
theorem dX11_image_50 : decode cX11_image 50 = .ok (.iconst 1, 1) := by decide +kernel
theorem dX11_image_51 : decode cX11_image 51 = .ok (.putfield 242, 3) := by decide +kernel
theorem dX11_image_54 : decode cX11_image 54 = .ok (.aload_n 0, 1) := by decide +kernel
theorem dX11_image_55 : decode cX11_image 55 = .ok (.getfield 57, 3) := by decide +kernel
theorem dX11_image_58 : decode cX11_image 58 = .ok (.bipush 72, 2) := by decide +kernel
theorem dX11_image_60 : decode cX11_image 60 = .ok (.iaload, 1) := by decide +kernel
theorem dX11_image_61 : decode cX11_image 61 = .ok (.ireturn, 1) := by decide +kernel
theorem dX11_inAll_0 : decode cX11_inAll 0 = .ok (.aload_n 0, 1) := by decide +kernel
theorem dX11_inAll_1 : decode cX11_inAll 1 = .ok (.getfield 220, 3) := by decide +kernel
theorem dX11_inAll_4 : decode cX11_inAll 4 = .ok (.aload_n 0, 1) := by decide +kernel
theorem dX11_inAll_5 : decode cX11_inAll 5 = .ok (.invokevirtual 287, 3) := by decide +kernel
theorem dX11_inAll_8 : decode cX11_inAll 8 = .ok (.imul, 1) := by decide +kernel
theorem dX11_inAll_9 : decode cX11_inAll 9 = .ok (.ireturn, 1) := by decide +kernel
theorem dX11_init_0 : decode cX11_init 0 = .ok (.aload_n 0, 1) := by decide +kernel
theorem dX11_init_1 : decode cX11_init 1 = .ok (.invokespecial 3, 3) := by decide +kernel
theorem dX11_init_4 : decode cX11_init 4 = .ok (.aload_n 0, 1) := by decide +kernel
theorem dX11_init_5 : decode cX11_init 5 = .ok (.sipush 500, 3) := by decide +kernel
theorem dX11_init_8 : decode cX11_init 8 = .ok (.newarray .byte, 2) := by decide +kernel
theorem dX11_init_10 : decode cX11_init 10 = .ok (.putfield 9, 3) := by decide +kernel
theorem dX11_init_13 : decode cX11_init 13 = .ok (.aload_n 0, 1) := by decide +kernel
theorem dX11_init_14 : decode cX11_init 14 = .ok (.bipush 6, 2) := by decide +kernel
theorem dX11_init_16 : decode cX11_init 16 = .ok (.newarray .int, 2) := by decide +kernel
theorem dX11_init_18 : decode cX11_init 18 = .ok (.putfield 13, 3) := by decide +kernel
theorem dX11_init_21 : decode cX11_init 21 = .ok (.aload_n 0, 1) := by decide +kernel
theorem dX11_init_22 : decode cX11_init 22 = .ok (.bipush 100, 2) := by decide +kernel
theorem dX11_init_24 : decode cX11_init 24 = .ok (.newarray .int, 2) := by decide +kernel
theorem dX11_init_26 : decode cX11_init 26 = .ok (.putfield 17, 3) := by decide +kernel
theorem dX11_init_29 : decode cX11_init 29 = .ok (.aload_n 0, 1) := by decide +kernel
theorem dX11_init_30 : decode cX11_init 30 = .ok (.bipush 100, 2) := by decide +kernel
theorem dX11_init_32 : decode cX11_init 32 = .ok (.newarray .int, 2) := by decide +kernel
theorem dX11_init_34 : decode cX11_init 34 = .ok (.putfield 20, 3) := by decide +kernel
theorem dX11_init_37 : decode cX11_init 37 = .ok (.aload_n 0, 1) := by decide +kernel
theorem dX11_init_38 : decode cX11_init 38 = .ok (.sipush 150, 3) := by decide +kernel
theorem dX11_init_41 : decode cX11_init 41 = .ok (.newarray .int, 2) := by decide +kernel
theorem dX11_init_43 : decode cX11_init 43 = .ok (.putfield 23, 3) := by decide +kernel
theorem dX11_init_46 : decode cX11_init 46 = .ok (.aload_n 0, 1) := by decide +kernel
theorem dX11_init_47 : decode cX11_init 47 = .ok (.bipush 9, 2) := by decide +kernel
theorem dX11_init_49 : decode cX11_init 49 = .ok (.newarray .int, 2) := by decide +kernel
theorem dX11_init_51 : decode cX11_init 51 = .ok (.putfield 26, 3) := by decide +kernel
theorem dX11_init_54 : decode cX11_init 54 = .ok (.aload_n 0, 1) := by decide +kernel
theorem dX11_init_55 : decode cX11_init 55 = .ok (.bipush 9, 2) := by decide +kernel
theorem dX11_init_57 : decode cX11_init 57 = .ok (.newarray .int, 2) := by decide +kernel
theorem dX11_init_59 : decode cX11_init 59 = .ok (.putfield 29, 3) := by decide +kernel
theorem dX11_init_62 : decode cX11_init 62 = .ok (.aload_n 0, 1) := by decide +kernel
theorem dX11_init_63 : decode cX11_init 63 = .ok (.bipush 9, 2) := by decide +kernel
theorem dX11_init_65 : decode cX11_init 65 = .ok (.newarray .int, 2) := by decide +kernel
theorem dX11_init_67 : decode cX11_init 67 = .ok (.putfield 32, 3) := by decide +kernel
theorem dX11_init_70 : decode cX11_init 70 = .ok (.aload_n 0, 1) := by decide +kernel
theorem dX11_init_71 : decode cX11_init 71 = .ok (.bipush 9, 2) := by decide +kernel
theorem dX11_init_73 : decode cX11_init 73 = .ok (.newarray .int, 2) := by decide +kernel
theorem dX11_init_75 : decode cX11_init 75 = .ok (.putfield 35, 3) := by decide +kernel
theorem dX11_init_78 : decode cX11_init 78 = .ok (.aload_n 0, 1) := by decide +kernel
theorem dX11_init_79 : decode cX11_init 79 = .ok (.bipush 9, 2) := by decide +kernel
theorem dX11_init_81 : decode cX11_init 81 = .ok (.newarray .int, 2) := by decide +kernel
theorem dX11_init_83 : decode cX11_init 83 = .ok (.putfield 38, 3) := by decide +kernel
theorem dX11_init_86 : decode cX11_init 86 = .ok (.aload_n 0, 1) := by decide +kernel
theorem dX11_init_87 : decode cX11_init 87 = .ok (.bipush 9, 2) := by decide +kernel
theorem dX11_init_89 : decode cX11_init 89 = .ok (.newarray .int, 2) := by decide +kernel
theorem dX11_init_91 : decode cX11_init 91 = .ok (.putfield 41, 3) := by decide +kernel
theorem dX11_init_94 : decode cX11_init 94 = .ok (.aload_n 0, 1) := by decide +kernel
theorem dX11_init_95 : decode cX11_init 95 = .ok (.bipush 9, 2) := by decide +kernel
theorem dX11_init_97 : decode cX11_init 97 = .ok (.newarray .int, 2) := by decide +kernel
theorem dX11_init_99 : decode cX11_init 99 = .ok (.putfield 44, 3) := by decide +kernel
theorem dX11_init_102 : decode cX11_init 102 = .ok (.aload_n 0, 1) := by decide +kernel
theorem dX11_init_103 : decode cX11_init 103 = .ok (.bipush 81, 2) := by decide +kernel
theorem dX11_init_105 : decode cX11_init 105 = .ok (.newarray .int, 2) := by decide +kernel
theorem dX11_init_107 : decode cX11_init 107 = .ok (.putfield 47, 3) := by decide +kernel
theorem dX11_init_110 : decode cX11_init 110 = .ok (.aload_n 0, 1) := by decide +kernel
theorem dX11_init_111 : decode cX11_init 111 = .ok (.bipush 9, 2) := by decide +kernel
theorem dX11_init_113 : decode cX11_init 113 = .ok (.newarray .boolean, 2) := by decide +kernel
theorem dX11_init_115 : decode cX11_init 115 = .ok (.putfield 50, 3) := by decide +kernel
theorem dX11_init_118 : decode cX11_init 118 = .ok (.aload_n 0, 1) := by decide +kernel
theorem dX11_init_119 : decode cX11_init 119 = .ok (.bipush 9, 2) := by decide +kernel
theorem dX11_init_121 : decode cX11_init 121 = .ok (.newarray .boolean, 2) := by decide +kernel
theorem dX11_init_123 : decode cX11_init 123 = .ok (.putfield 54, 3) := by decide +kernel
theorem dX11_init_126 : decode cX11_init 126 = .ok (.aload_n 0, 1) := by decide +kernel
theorem dX11_init_127 : decode cX11_init 127 = .ok (.sipush 2126, 3) := by decide +kernel
theorem dX11_init_130 : decode cX11_init 130 = .ok (.newarray .int, 2) := by decide +kernel
theorem dX11_init_132 : decode cX11_init 132 = .ok (.putfield 57, 3) := by decide +kernel
theorem dX11_init_135 : decode cX11_init 135 = .ok (.aload_n 0, 1) := by decide +kernel
theorem dX11_init_136 : decode cX11_init 136 = .ok (.sipush 2126, 3) := by decide +kernel
theorem dX11_init_139 : decode cX11_init 139 = .ok (.newarray .int, 2) := by decide +kernel
theorem dX11_init_141 : decode cX11_init 141 = .ok (.putfield 60, 3) := by decide +kernel
theorem dX11_init_144 : decode cX11_init 144 = .ok (.aload_n 0, 1) := by decide +kernel
theorem dX11_init_145 : decode cX11_init 145 = .ok (.ldc 63, 2) := by decide +kernel
theorem dX11_init_147 : decode cX11_init 147 = .ok (.newarray .int, 2) := by decide +kernel
theorem dX11_init_149 : decode cX11_init 149 = .ok (.putfield 64, 3) := by decide +kernel
theorem dX11_init_152 : decode cX11_init 152 = .ok (.aload_n 0, 1) := by decide +kernel
theorem dX11_init_153 : decode cX11_init 153 = .ok (.bipush 20, 2) := by decide +kernel
theorem dX11_init_155 : decode cX11_init 155 = .ok (.newarray .long, 2) := by decide +kernel
theorem dX11_init_157 : decode cX11_init 157 = .ok (.putfield 67, 3) := by decide +kernel
theorem dX11_init_160 : decode cX11_init 160 = .ok (.aload_n 0, 1) := by decide +kernel
theorem dX11_init_161 : decode cX11_init 161 = .ok (.iconst 5, 1) := by decide +kernel
theorem dX11_init_162 : decode cX11_init 162 = .ok (.newarray .int, 2) := by decide +kernel
theorem dX11_init_164 : decode cX11_init 164 = .ok (.putfield 71, 3) := by decide +kernel
theorem dX11_init_167 : decode cX11_init 167 = .ok (.aload_n 0, 1) := by decide +kernel
theorem dX11_init_168 : decode cX11_init 168 = .ok (.sipush 400, 3) := by decide +kernel
theorem dX11_init_171 : decode cX11_init 171 = .ok (.newarray .int, 2) := by decide +kernel
theorem dX11_init_173 : decode cX11_init 173 = .ok (.putfield 74, 3) := by decide +kernel
theorem dX11_init_176 : decode cX11_init 176 = .ok (.aload_n 0, 1) := by decide +kernel
theorem dX11_init_177 : decode cX11_init 177 = .ok (.sipush 200, 3) := by decide +kernel
theorem dX11_init_180 : decode cX11_init 180 = .ok (.newarray .int, 2) := by decide +kernel
theorem dX11_init_182 : decode cX11_init 182 = .ok (.putfield 77, 3) := by decide +kernel
theorem dX11_init_185 : decode cX11_init 185 = .ok (.return_, 1) := by decide +kernel
theorem dX11_isDigit_0 : decode cX11_isDigit 0 = .ok (.iload_n 0, 1) := by decide +kernel
theorem dX11_isDigit_1 : decode cX11_isDigit 1 = .ok (.bipush 48, 2) := by decide +kernel
theorem dX11_isDigit_3 : decode cX11_isDigit 3 = .ok (.if_icmp .lt 13, 3) := by decide +kernel
theorem dX11_isDigit_6 : decode cX11_isDigit 6 = .ok (.iload_n 0, 1) := by decide +kernel
theorem dX11_isDigit_7 : decode cX11_isDigit 7 = .ok (.bipush 57, 2) := by decide +kernel
theorem dX11_isDigit_9 : decode cX11_isDigit 9 = .ok (.if_icmp .gt 7, 3) := by decide +kernel
theorem dX11_isDigit_12 : decode cX11_isDigit 12 = .ok (.iconst 1, 1) := by decide +kernel
theorem dX11_isDigit_13 : decode cX11_isDigit 13 = .ok (.goto 4, 3) := by decide +kernel
theorem dX11_isDigit_16 : decode cX11_isDigit 16 = .ok (.iconst 0, 1) := by decide +kernel
theorem dX11_isDigit_17 : decode cX11_isDigit 17 = .ok (.ireturn, 1) := by decide +kernel
theorem dX11_isIn_0 : decode cX11_isIn 0 = .ok (.lload_n 0, 1) := by decide +kernel
theorem dX11_isIn_1 : decode cX11_isIn 1 = .ok (.lload_n 2, 1) := by decide +kernel
theorem dX11_isIn_2 : decode cX11_isIn 2 = .ok (.lcmp, 1) := by decide +kernel
theorem dX11_isIn_3 : decode cX11_isIn 3 = .ok (.ifCond .lt 14, 3) := by decide +kernel
theorem dX11_isIn_6 : decode cX11_isIn 6 = .ok (.lload_n 0, 1) := by decide +kernel
theorem dX11_isIn_7 : decode cX11_isIn 7 = .ok (.lload 4, 2) := by decide +kernel
theorem dX11_isIn_9 : decode cX11_isIn 9 = .ok (.lcmp, 1) := by decide +kernel
theorem dX11_isIn_10 : decode cX11_isIn 10 = .ok (.ifCond .gt 7, 3) := by decide +kernel
theorem dX11_isIn_13 : decode cX11_isIn 13 = .ok (.iconst 1, 1) := by decide +kernel
theorem dX11_isIn_14 : decode cX11_isIn 14 = .ok (.goto 4, 3) := by decide +kernel
theorem dX11_isIn_17 : decode cX11_isIn 17 = .ok (.iconst 0, 1) := by decide +kernel
theorem dX11_isIn_18 : decode cX11_isIn 18 = .ok (.ireturn, 1) := by decide +kernel
theorem dX11_isLiar_0 : decode cX11_isLiar 0 = .ok (.aload_n 0, 1) := by decide +kernel
theorem dX11_isLiar_1 : decode cX11_isLiar 1 = .ok (.getfield 226, 3) := by decide +kernel
theorem dX11_isLiar_4 : decode cX11_isLiar 4 = .ok (.iload_n 1, 1) := by decide +kernel
theorem dX11_isLiar_5 : decode cX11_isLiar 5 = .ok (.invokestatic 161, 3) := by decide +kernel
theorem dX11_isLiar_8 : decode cX11_isLiar 8 = .ok (.ireturn, 1) := by decide +kernel
theorem dX11_isPeer_0 : decode cX11_isPeer 0 = .ok (.aload_n 0, 1) := by decide +kernel
theorem dX11_isPeer_1 : decode cX11_isPeer 1 = .ok (.getfield 232, 3) := by decide +kernel
theorem dX11_isPeer_4 : decode cX11_isPeer 4 = .ok (.ifCond .eq 23, 3) := by decide +kernel
theorem dX11_isPeer_7 : decode cX11_isPeer 7 = .ok (.iload_n 1, 1) := by decide +kernel
theorem dX11_isPeer_8 : decode cX11_isPeer 8 = .ok (.i2l, 1) := by decide +kernel
theorem dX11_isPeer_9 : decode cX11_isPeer 9 = .ok (.lconst 0, 1) := by decide +kernel
theorem dX11_isPeer_10 : decode cX11_isPeer 10 = .ok (.aload_n 0, 1) := by decide +kernel
theorem dX11_isPeer_11 : decode cX11_isPeer 11 = .ok (.getfield 215, 3) := by decide +kernel
theorem dX11_isPeer_14 : decode cX11_isPeer 14 = .ok (.iconst 1, 1) := by decide +kernel
theorem dX11_isPeer_15 : decode cX11_isPeer 15 = .ok (.isub, 1) := by decide +kernel
theorem dX11_isPeer_16 : decode cX11_isPeer 16 = .ok (.i2l, 1) := by decide +kernel
theorem dX11_isPeer_17 : decode cX11_isPeer 17 = .ok (.invokestatic 132, 3) := by decide +kernel
theorem dX11_isPeer_20 : decode cX11_isPeer 20 = .ok (.ifCond .eq 7, 3) := by decide +kernel
theorem dX11_isPeer_23 : decode cX11_isPeer 23 = .ok (.iconst 1, 1) := by decide +kernel
theorem dX11_isPeer_24 : decode cX11_isPeer 24 = .ok (.goto 4, 3) := by decide +kernel
theorem dX11_isPeer_27 : decode cX11_isPeer 27 = .ok (.iconst 0, 1) := by decide +kernel
theorem dX11_isPeer_28 : decode cX11_isPeer 28 = .ok (.ireturn, 1) := by decide +kernel
theorem dX11_isRound_0 : decode cX11_isRound 0 = .ok (.aload_n 0, 1) := by decide +kernel
theorem dX11_isRound_1 : decode cX11_isRound 1 = .ok (.getfield 232, 3) := by decide +kernel
theorem dX11_isRound_4 : decode cX11_isRound 4 = .ok (.ifCond .eq 39, 3) := by decide +kernel
theorem dX11_isRound_7 : decode cX11_isRound 7 = .ok (.iload_n 1, 1) := by decide +kernel
theorem dX11_isRound_8 : decode cX11_isRound 8 = .ok (.i2l, 1) := by decide +kernel
theorem dX11_isRound_9 : decode cX11_isRound 9 = .ok (.lconst 0, 1) := by decide +kernel
theorem dX11_isRound_10 : decode cX11_isRound 10 = .ok (.aload_n 0, 1) := by decide +kernel
theorem dX11_isRound_11 : decode cX11_isRound 11 = .ok (.getfield 220, 3) := by decide +kernel
theorem dX11_isRound_14 : decode cX11_isRound 14 = .ok (.iconst 1, 1) := by decide +kernel
theorem dX11_isRound_15 : decode cX11_isRound 15 = .ok (.isub, 1) := by decide +kernel
theorem dX11_isRound_16 : decode cX11_isRound 16 = .ok (.i2l, 1) := by decide +kernel
theorem dX11_isRound_17 : decode cX11_isRound 17 = .ok (.invokestatic 132, 3) := by decide +kernel
theorem dX11_isRound_20 : decode cX11_isRound 20 = .ok (.ifCond .eq 23, 3) := by decide +kernel
theorem dX11_isRound_23 : decode cX11_isRound 23 = .ok (.iload_n 2, 1) := by decide +kernel
theorem dX11_isRound_24 : decode cX11_isRound 24 = .ok (.i2l, 1) := by decide +kernel
theorem dX11_isRound_25 : decode cX11_isRound 25 = .ok (.lconst 0, 1) := by decide +kernel
theorem dX11_isRound_26 : decode cX11_isRound 26 = .ok (.aload_n 0, 1) := by decide +kernel
theorem dX11_isRound_27 : decode cX11_isRound 27 = .ok (.invokevirtual 287, 3) := by decide +kernel
theorem dX11_isRound_30 : decode cX11_isRound 30 = .ok (.iconst 1, 1) := by decide +kernel
theorem dX11_isRound_31 : decode cX11_isRound 31 = .ok (.isub, 1) := by decide +kernel
theorem dX11_isRound_32 : decode cX11_isRound 32 = .ok (.i2l, 1) := by decide +kernel
theorem dX11_isRound_33 : decode cX11_isRound 33 = .ok (.invokestatic 132, 3) := by decide +kernel
theorem dX11_isRound_36 : decode cX11_isRound 36 = .ok (.ifCond .eq 7, 3) := by decide +kernel
theorem dX11_isRound_39 : decode cX11_isRound 39 = .ok (.iconst 1, 1) := by decide +kernel
theorem dX11_isRound_40 : decode cX11_isRound 40 = .ok (.goto 4, 3) := by decide +kernel
theorem dX11_isRound_43 : decode cX11_isRound 43 = .ok (.iconst 0, 1) := by decide +kernel
theorem dX11_isRound_44 : decode cX11_isRound 44 = .ok (.ireturn, 1) := by decide +kernel
theorem dX11_isSomeStart_0 : decode cX11_isSomeStart 0 = .ok (.aload_n 0, 1) := by decide +kernel
theorem dX11_isSomeStart_1 : decode cX11_isSomeStart 1 = .ok (.iload_n 1, 1) := by decide +kernel
theorem dX11_isSomeStart_2 : decode cX11_isSomeStart 2 = .ok (.invokevirtual 372, 3) := by decide +kernel
theorem dX11_isSomeStart_5 : decode cX11_isSomeStart 5 = .ok (.ifCond .le 7, 3) := by decide +kernel
theorem dX11_isSomeStart_8 : decode cX11_isSomeStart 8 = .ok (.iconst 1, 1) := by decide +kernel
theorem dX11_isSomeStart_9 : decode cX11_isSomeStart 9 = .ok (.goto 4, 3) := by decide +kernel
theorem dX11_isSomeStart_12 : decode cX11_isSomeStart 12 = .ok (.iconst 0, 1) := by decide +kernel
theorem dX11_isSomeStart_13 : decode cX11_isSomeStart 13 = .ok (.istore_n 2, 1) := by decide +kernel
theorem dX11_isSomeStart_14 : decode cX11_isSomeStart 14 = .ok (.iconst 0, 1) := by decide +kernel
theorem dX11_isSomeStart_15 : decode cX11_isSomeStart 15 = .ok (.istore_n 3, 1) := by decide +kernel
theorem dX11_isSomeStart_16 : decode cX11_isSomeStart 16 = .ok (.iload_n 3, 1) := by decide +kernel
theorem dX11_isSomeStart_17 : decode cX11_isSomeStart 17 = .ok (.aload_n 0, 1) := by decide +kernel
theorem dX11_isSomeStart_18 : decode cX11_isSomeStart 18 = .ok (.getfield 215, 3) := by decide +kernel
theorem dX11_isSomeStart_21 : decode cX11_isSomeStart 21 = .ok (.if_icmp .ge 29, 3) := by decide +kernel
theorem dX11_isSomeStart_24 : decode cX11_isSomeStart 24 = .ok (.aload_n 0, 1) := by decide +kernel
theorem dX11_isSomeStart_25 : decode cX11_isSomeStart 25 = .ok (.iload_n 3, 1) := by decide +kernel
theorem dX11_isSomeStart_26 : decode cX11_isSomeStart 26 = .ok (.invokevirtual 363, 3) := by decide +kernel
theorem dX11_isSomeStart_29 : decode cX11_isSomeStart 29 = .ok (.ifCond .eq 15, 3) := by decide +kernel
theorem dX11_isSomeStart_32 : decode cX11_isSomeStart 32 = .ok (.aload_n 0, 1) := by decide +kernel
theorem dX11_isSomeStart_33 : decode cX11_isSomeStart 33 = .ok (.iconst (-1), 1) := by decide +kernel
theorem dX11_isSomeStart_34 : decode cX11_isSomeStart 34 = .ok (.iload_n 3, 1) := by decide +kernel
theorem dX11_isSomeStart_35 : decode cX11_isSomeStart 35 = .ok (.invokevirtual 366, 3) := by decide +kernel
theorem dX11_isSomeStart_38 : decode cX11_isSomeStart 38 = .ok (.iload_n 2, 1) := by decide +kernel
theorem dX11_isSomeStart_39 : decode cX11_isSomeStart 39 = .ok (.if_icmp .ne 5, 3) := by decide +kernel
theorem dX11_isSomeStart_42 : decode cX11_isSomeStart 42 = .ok (.iconst 1, 1) := by decide +kernel
theorem dX11_isSomeStart_43 : decode cX11_isSomeStart 43 = .ok (.ireturn, 1) := by decide +kernel
theorem dX11_isSomeStart_44 : decode cX11_isSomeStart 44 = .ok (.iinc 3 1, 3) := by decide +kernel
theorem dX11_isSomeStart_47 : decode cX11_isSomeStart 47 = .ok (.goto (-31), 3) := by decide +kernel
theorem dX11_isSomeStart_50 : decode cX11_isSomeStart 50 = .ok (.iconst 0, 1) := by decide +kernel
theorem dX11_isSomeStart_51 : decode cX11_isSomeStart 51 = .ok (.ireturn, 1) := by decide +kernel
theorem dX11_isTrue_0 : decode cX11_isTrue 0 = .ok (.aload_n 0, 1) := by decide +kernel
theorem dX11_isTrue_1 : decode cX11_isTrue 1 = .ok (.getfield 57, 3) := by decide +kernel
theorem dX11_isTrue_4 : decode cX11_isTrue 4 = .ok (.bipush 76, 2) := by decide +kernel
theorem dX11_isTrue_6 : decode cX11_isTrue 6 = .ok (.iaload, 1) := by decide +kernel
theorem dX11_isTrue_7 : decode cX11_isTrue 7 = .ok (.iload_n 1, 1) := by decide +kernel
theorem dX11_isTrue_8 : decode cX11_isTrue 8 = .ok (.invokestatic 161, 3) := by decide +kernel
theorem dX11_isTrue_11 : decode cX11_isTrue 11 = .ok (.ifCond .ne 7, 3) := by decide +kernel
theorem dX11_isTrue_14 : decode cX11_isTrue 14 = .ok (.iconst 1, 1) := by decide +kernel
theorem dX11_isTrue_15 : decode cX11_isTrue 15 = .ok (.goto 4, 3) := by decide +kernel
theorem dX11_isTrue_18 : decode cX11_isTrue 18 = .ok (.iconst 0, 1) := by decide +kernel
theorem dX11_isTrue_19 : decode cX11_isTrue 19 = .ok (.ireturn, 1) := by decide +kernel
theorem dX11_keeps_0 : decode cX11_keeps 0 = .ok (.aload_n 0, 1) := by decide +kernel
theorem dX11_keeps_1 : decode cX11_keeps 1 = .ok (.getfield 239, 3) := by decide +kernel
theorem dX11_keeps_4 : decode cX11_keeps 4 = .ok (.bipush 20, 2) := by decide +kernel
theorem dX11_keeps_6 : decode cX11_keeps 6 = .ok (.if_icmp .ne 73, 3) := by decide +kernel
theorem dX11_keeps_9 : decode cX11_keeps 9 = .ok (.sipush 2126, 3) := by decide +kernel
theorem dX11_keeps_12 : decode cX11_keeps 12 = .ok (.istore_n 1, 1) := by decide +kernel
theorem dX11_keeps_13 : decode cX11_keeps 13 = .ok (.iload_n 1, 1) := by decide +kernel
theorem dX11_keeps_14 : decode cX11_keeps 14 = .ok (.ldc 63, 2) := by decide +kernel
theorem dX11_keeps_16 : decode cX11_keeps 16 = .ok (.if_icmp .ge 25, 3) := by decide +kernel
theorem dX11_keeps_19 : decode cX11_keeps 19 = .ok (.aload_n 0, 1) := by decide +kernel
theorem dX11_keeps_20 : decode cX11_keeps 20 = .ok (.getfield 64, 3) := by decide +kernel
theorem dX11_keeps_23 : decode cX11_keeps 23 = .ok (.iload_n 1, 1) := by decide +kernel
theorem dX11_keeps_24 : decode cX11_keeps 24 = .ok (.sipush 2126, 3) := by decide +kernel
theorem dX11_keeps_27 : decode cX11_keeps 27 = .ok (.isub, 1) := by decide +kernel
theorem dX11_keeps_28 : decode cX11_keeps 28 = .ok (.aload_n 0, 1) := by decide +kernel
theorem dX11_keeps_29 : decode cX11_keeps 29 = .ok (.getfield 64, 3) := by decide +kernel
theorem dX11_keeps_32 : decode cX11_keeps 32 = .ok (.iload_n 1, 1) := by decide +kernel
theorem dX11_keeps_33 : decode cX11_keeps 33 = .ok (.iaload, 1) := by decide +kernel
theorem dX11_keeps_34 : decode cX11_keeps 34 = .ok (.iastore, 1) := by decide +kernel
theorem dX11_keeps_35 : decode cX11_keeps 35 = .ok (.iinc 1 1, 3) := by decide +kernel
theorem dX11_keeps_38 : decode cX11_keeps 38 = .ok (.goto (-25), 3) := by decide +kernel
theorem dX11_keeps_41 : decode cX11_keeps 41 = .ok (.iconst 1, 1) := by decide +kernel
theorem dX11_keeps_42 : decode cX11_keeps 42 = .ok (.istore_n 1, 1) := by decide +kernel
theorem dX11_keeps_43 : decode cX11_keeps 43 = .ok (.iload_n 1, 1) := by decide +kernel
theorem dX11_keeps_44 : decode cX11_keeps 44 = .ok (.bipush 20, 2) := by decide +kernel
theorem dX11_keeps_46 : decode cX11_keeps 46 = .ok (.if_icmp .ge 23, 3) := by decide +kernel
theorem dX11_keeps_49 : decode cX11_keeps 49 = .ok (.aload_n 0, 1) := by decide +kernel
theorem dX11_keeps_50 : decode cX11_keeps 50 = .ok (.getfield 67, 3) := by decide +kernel
theorem dX11_keeps_53 : decode cX11_keeps 53 = .ok (.iload_n 1, 1) := by decide +kernel
theorem dX11_keeps_54 : decode cX11_keeps 54 = .ok (.iconst 1, 1) := by decide +kernel
theorem dX11_keeps_55 : decode cX11_keeps 55 = .ok (.isub, 1) := by decide +kernel
theorem dX11_keeps_56 : decode cX11_keeps 56 = .ok (.aload_n 0, 1) := by decide +kernel
theorem dX11_keeps_57 : decode cX11_keeps 57 = .ok (.getfield 67, 3) := by decide +kernel
theorem dX11_keeps_60 : decode cX11_keeps 60 = .ok (.iload_n 1, 1) := by decide +kernel
theorem dX11_keeps_61 : decode cX11_keeps 61 = .ok (.laload, 1) := by decide +kernel
theorem dX11_keeps_62 : decode cX11_keeps 62 = .ok (.lastore, 1) := by decide +kernel
theorem dX11_keeps_63 : decode cX11_keeps 63 = .ok (.iinc 1 1, 3) := by decide +kernel
theorem dX11_keeps_66 : decode cX11_keeps 66 = .ok (.goto (-23), 3) := by decide +kernel
theorem dX11_keeps_69 : decode cX11_keeps 69 = .ok (.aload_n 0, 1) := by decide +kernel
theorem dX11_keeps_70 : decode cX11_keeps 70 = .ok (.dup, 1) := by decide +kernel
theorem dX11_keeps_71 : decode cX11_keeps 71 = .ok (.getfield 239, 3) := by decide +kernel
theorem dX11_keeps_74 : decode cX11_keeps 74 = .ok (.iconst 1, 1) := by decide +kernel
theorem dX11_keeps_75 : decode cX11_keeps 75 = .ok (.isub, 1) := by decide +kernel
theorem dX11_keeps_76 : decode cX11_keeps 76 = .ok (.putfield 239, 3) := by decide +kernel
theorem dX11_keeps_79 : decode cX11_keeps 79 = .ok (.iconst 0, 1) := by decide +kernel
theorem dX11_keeps_80 : decode cX11_keeps 80 = .ok (.istore_n 1, 1) := by decide +kernel
theorem dX11_keeps_81 : decode cX11_keeps 81 = .ok (.iload_n 1, 1) := by decide +kernel
theorem dX11_keeps_82 : decode cX11_keeps 82 = .ok (.sipush 2126, 3) := by decide +kernel
theorem dX11_keeps_85 : decode cX11_keeps 85 = .ok (.if_icmp .ge 30, 3) := by decide +kernel
theorem dX11_keeps_88 : decode cX11_keeps 88 = .ok (.aload_n 0, 1) := by decide +kernel
theorem dX11_keeps_89 : decode cX11_keeps 89 = .ok (.getfield 64, 3) := by decide +kernel
theorem dX11_keeps_92 : decode cX11_keeps 92 = .ok (.sipush 2126, 3) := by decide +kernel
theorem dX11_keeps_95 : decode cX11_keeps 95 = .ok (.aload_n 0, 1) := by decide +kernel
theorem dX11_keeps_96 : decode cX11_keeps 96 = .ok (.getfield 239, 3) := by decide +kernel
theorem dX11_keeps_99 : decode cX11_keeps 99 = .ok (.imul, 1) := by decide +kernel
theorem dX11_keeps_100 : decode cX11_keeps 100 = .ok (.iload_n 1, 1) := by decide +kernel
theorem dX11_keeps_101 : decode cX11_keeps 101 = .ok (.iadd, 1) := by decide +kernel
theorem dX11_keeps_102 : decode cX11_keeps 102 = .ok (.aload_n 0, 1) := by decide +kernel
theorem dX11_keeps_103 : decode cX11_keeps 103 = .ok (.getfield 57, 3) := by decide +kernel
theorem dX11_keeps_106 : decode cX11_keeps 106 = .ok (.iload_n 1, 1) := by decide +kernel
theorem dX11_keeps_107 : decode cX11_keeps 107 = .ok (.iaload, 1) := by decide +kernel
theorem dX11_keeps_108 : decode cX11_keeps 108 = .ok (.iastore, 1) := by decide +kernel
theorem dX11_keeps_109 : decode cX11_keeps 109 = .ok (.iinc 1 1, 3) := by decide +kernel
theorem dX11_keeps_112 : decode cX11_keeps 112 = .ok (.goto (-31), 3) := by decide +kernel
theorem dX11_keeps_115 : decode cX11_keeps 115 = .ok (.aload_n 0, 1) := by decide +kernel
theorem dX11_keeps_116 : decode cX11_keeps 116 = .ok (.getfield 67, 3) := by decide +kernel
theorem dX11_keeps_119 : decode cX11_keeps 119 = .ok (.aload_n 0, 1) := by decide +kernel
theorem dX11_keeps_120 : decode cX11_keeps 120 = .ok (.getfield 239, 3) := by decide +kernel
theorem dX11_keeps_123 : decode cX11_keeps 123 = .ok (.aload_n 0, 1) := by decide +kernel
theorem dX11_keeps_124 : decode cX11_keeps 124 = .ok (.getfield 320, 3) := by decide +kernel
theorem dX11_keeps_127 : decode cX11_keeps 127 = .ok (.lastore, 1) := by decide +kernel
theorem dX11_keeps_128 : decode cX11_keeps 128 = .ok (.aload_n 0, 1) := by decide +kernel
theorem dX11_keeps_129 : decode cX11_keeps 129 = .ok (.dup, 1) := by decide +kernel
theorem dX11_keeps_130 : decode cX11_keeps 130 = .ok (.getfield 239, 3) := by decide +kernel
theorem dX11_keeps_133 : decode cX11_keeps 133 = .ok (.iconst 1, 1) := by decide +kernel
theorem dX11_keeps_134 : decode cX11_keeps 134 = .ok (.iadd, 1) := by decide +kernel
theorem dX11_keeps_135 : decode cX11_keeps 135 = .ok (.putfield 239, 3) := by decide +kernel
theorem dX11_keeps_138 : decode cX11_keeps 138 = .ok (.return_, 1) := by decide +kernel
