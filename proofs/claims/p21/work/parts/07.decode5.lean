theorem dX3_crossedIn_7 : decode cX3_crossedIn 7 = .ok (.istore 4, 2) := by decide +kernel
theorem dX3_crossedIn_9 : decode cX3_crossedIn 9 = .ok (.iconst 0, 1) := by decide +kernel
theorem dX3_crossedIn_10 : decode cX3_crossedIn 10 = .ok (.istore 5, 2) := by decide +kernel
theorem dX3_crossedIn_12 : decode cX3_crossedIn 12 = .ok (.iload 5, 2) := by decide +kernel
theorem dX3_crossedIn_14 : decode cX3_crossedIn 14 = .ok (.aload_n 1, 1) := by decide +kernel
theorem dX3_crossedIn_15 : decode cX3_crossedIn 15 = .ok (.getfield 124, 3) := by decide +kernel
theorem dX3_crossedIn_18 : decode cX3_crossedIn 18 = .ok (.if_icmp .ge 92, 3) := by decide +kernel
theorem dX3_crossedIn_21 : decode cX3_crossedIn 21 = .ok (.iload 5, 2) := by decide +kernel
theorem dX3_crossedIn_23 : decode cX3_crossedIn 23 = .ok (.iload_n 3, 1) := by decide +kernel
theorem dX3_crossedIn_24 : decode cX3_crossedIn 24 = .ok (.if_icmp .eq 22, 3) := by decide +kernel
theorem dX3_crossedIn_27 : decode cX3_crossedIn 27 = .ok (.aload_n 0, 1) := by decide +kernel
theorem dX3_crossedIn_28 : decode cX3_crossedIn 28 = .ok (.getfield 31, 3) := by decide +kernel
theorem dX3_crossedIn_31 : decode cX3_crossedIn 31 = .ok (.iload_n 2, 1) := by decide +kernel
theorem dX3_crossedIn_32 : decode cX3_crossedIn 32 = .ok (.iaload, 1) := by decide +kernel
theorem dX3_crossedIn_33 : decode cX3_crossedIn 33 = .ok (.iload 5, 2) := by decide +kernel
theorem dX3_crossedIn_35 : decode cX3_crossedIn 35 = .ok (.invokestatic 79, 3) := by decide +kernel
theorem dX3_crossedIn_38 : decode cX3_crossedIn 38 = .ok (.iconst 1, 1) := by decide +kernel
theorem dX3_crossedIn_39 : decode cX3_crossedIn 39 = .ok (.if_icmp .ne 7, 3) := by decide +kernel
theorem dX3_crossedIn_42 : decode cX3_crossedIn 42 = .ok (.iconst 1, 1) := by decide +kernel
theorem dX3_crossedIn_43 : decode cX3_crossedIn 43 = .ok (.goto 4, 3) := by decide +kernel
theorem dX3_crossedIn_46 : decode cX3_crossedIn 46 = .ok (.iconst 0, 1) := by decide +kernel
theorem dX3_crossedIn_47 : decode cX3_crossedIn 47 = .ok (.istore 6, 2) := by decide +kernel
theorem dX3_crossedIn_49 : decode cX3_crossedIn 49 = .ok (.aload_n 0, 1) := by decide +kernel
theorem dX3_crossedIn_50 : decode cX3_crossedIn 50 = .ok (.iload_n 2, 1) := by decide +kernel
theorem dX3_crossedIn_51 : decode cX3_crossedIn 51 = .ok (.aload_n 1, 1) := by decide +kernel
theorem dX3_crossedIn_52 : decode cX3_crossedIn 52 = .ok (.invokevirtual 109, 3) := by decide +kernel
theorem dX3_crossedIn_55 : decode cX3_crossedIn 55 = .ok (.iconst 1, 1) := by decide +kernel
theorem dX3_crossedIn_56 : decode cX3_crossedIn 56 = .ok (.isub, 1) := by decide +kernel
theorem dX3_crossedIn_57 : decode cX3_crossedIn 57 = .ok (.iload_n 3, 1) := by decide +kernel
theorem dX3_crossedIn_58 : decode cX3_crossedIn 58 = .ok (.iload 5, 2) := by decide +kernel
theorem dX3_crossedIn_60 : decode cX3_crossedIn 60 = .ok (.invokevirtual 183, 3) := by decide +kernel
theorem dX3_crossedIn_63 : decode cX3_crossedIn 63 = .ok (.aload_n 0, 1) := by decide +kernel
theorem dX3_crossedIn_64 : decode cX3_crossedIn 64 = .ok (.getfield 28, 3) := by decide +kernel
theorem dX3_crossedIn_67 : decode cX3_crossedIn 67 = .ok (.iload_n 2, 1) := by decide +kernel
theorem dX3_crossedIn_68 : decode cX3_crossedIn 68 = .ok (.iaload, 1) := by decide +kernel
theorem dX3_crossedIn_69 : decode cX3_crossedIn 69 = .ok (.iload 5, 2) := by decide +kernel
theorem dX3_crossedIn_71 : decode cX3_crossedIn 71 = .ok (.invokestatic 79, 3) := by decide +kernel
theorem dX3_crossedIn_74 : decode cX3_crossedIn 74 = .ok (.if_icmp .eq 7, 3) := by decide +kernel
theorem dX3_crossedIn_77 : decode cX3_crossedIn 77 = .ok (.iconst 1, 1) := by decide +kernel
theorem dX3_crossedIn_78 : decode cX3_crossedIn 78 = .ok (.goto 4, 3) := by decide +kernel
theorem dX3_crossedIn_81 : decode cX3_crossedIn 81 = .ok (.iconst 0, 1) := by decide +kernel
theorem dX3_crossedIn_82 : decode cX3_crossedIn 82 = .ok (.istore 7, 2) := by decide +kernel
theorem dX3_crossedIn_84 : decode cX3_crossedIn 84 = .ok (.iload 4, 2) := by decide +kernel
theorem dX3_crossedIn_86 : decode cX3_crossedIn 86 = .ok (.iload 6, 2) := by decide +kernel
theorem dX3_crossedIn_88 : decode cX3_crossedIn 88 = .ok (.ifCond .eq 12, 3) := by decide +kernel
theorem dX3_crossedIn_91 : decode cX3_crossedIn 91 = .ok (.iload 7, 2) := by decide +kernel
theorem dX3_crossedIn_93 : decode cX3_crossedIn 93 = .ok (.ifCond .eq 7, 3) := by decide +kernel
theorem dX3_crossedIn_96 : decode cX3_crossedIn 96 = .ok (.iconst 1, 1) := by decide +kernel
theorem dX3_crossedIn_97 : decode cX3_crossedIn 97 = .ok (.goto 4, 3) := by decide +kernel
theorem dX3_crossedIn_100 : decode cX3_crossedIn 100 = .ok (.iconst 0, 1) := by decide +kernel
theorem dX3_crossedIn_101 : decode cX3_crossedIn 101 = .ok (.iadd, 1) := by decide +kernel
theorem dX3_crossedIn_102 : decode cX3_crossedIn 102 = .ok (.istore 4, 2) := by decide +kernel
theorem dX3_crossedIn_104 : decode cX3_crossedIn 104 = .ok (.iinc 5 1, 3) := by decide +kernel
theorem dX3_crossedIn_107 : decode cX3_crossedIn 107 = .ok (.goto (-95), 3) := by decide +kernel
theorem dX3_crossedIn_110 : decode cX3_crossedIn 110 = .ok (.iload 4, 2) := by decide +kernel
theorem dX3_crossedIn_112 : decode cX3_crossedIn 112 = .ok (.ireturn, 1) := by decide +kernel
theorem dX3_draw_0 : decode cX3_draw 0 = .ok (.aload_n 0, 1) := by decide +kernel
theorem dX3_draw_1 : decode cX3_draw 1 = .ok (.aload_n 0, 1) := by decide +kernel
theorem dX3_draw_2 : decode cX3_draw 2 = .ok (.getfield 66, 3) := by decide +kernel
theorem dX3_draw_5 : decode cX3_draw 5 = .ok (.ldc2_w 83, 3) := by decide +kernel
theorem dX3_draw_8 : decode cX3_draw 8 = .ok (.lmul, 1) := by decide +kernel
theorem dX3_draw_9 : decode cX3_draw 9 = .ok (.ldc2_w 85, 3) := by decide +kernel
theorem dX3_draw_12 : decode cX3_draw 12 = .ok (.ladd, 1) := by decide +kernel
theorem dX3_draw_13 : decode cX3_draw 13 = .ok (.putfield 66, 3) := by decide +kernel
theorem dX3_draw_16 : decode cX3_draw 16 = .ok (.aload_n 0, 1) := by decide +kernel
theorem dX3_draw_17 : decode cX3_draw 17 = .ok (.getfield 66, 3) := by decide +kernel
theorem dX3_draw_20 : decode cX3_draw 20 = .ok (.bipush 33, 2) := by decide +kernel
theorem dX3_draw_22 : decode cX3_draw 22 = .ok (.lushr, 1) := by decide +kernel
theorem dX3_draw_23 : decode cX3_draw 23 = .ok (.ldc2_w 87, 3) := by decide +kernel
theorem dX3_draw_26 : decode cX3_draw 26 = .ok (.lrem, 1) := by decide +kernel
theorem dX3_draw_27 : decode cX3_draw 27 = .ok (.l2i, 1) := by decide +kernel
theorem dX3_draw_28 : decode cX3_draw 28 = .ok (.ireturn, 1) := by decide +kernel
theorem dX3_dropSaidByTrue_0 : decode cX3_dropSaidByTrue 0 = .ok (.iconst 0, 1) := by decide +kernel
theorem dX3_dropSaidByTrue_1 : decode cX3_dropSaidByTrue 1 = .ok (.istore_n 1, 1) := by decide +kernel
theorem dX3_dropSaidByTrue_2 : decode cX3_dropSaidByTrue 2 = .ok (.iconst 0, 1) := by decide +kernel
theorem dX3_dropSaidByTrue_3 : decode cX3_dropSaidByTrue 3 = .ok (.istore_n 2, 1) := by decide +kernel
theorem dX3_dropSaidByTrue_4 : decode cX3_dropSaidByTrue 4 = .ok (.iload_n 2, 1) := by decide +kernel
theorem dX3_dropSaidByTrue_5 : decode cX3_dropSaidByTrue 5 = .ok (.aload_n 0, 1) := by decide +kernel
theorem dX3_dropSaidByTrue_6 : decode cX3_dropSaidByTrue 6 = .ok (.getfield 59, 3) := by decide +kernel
theorem dX3_dropSaidByTrue_9 : decode cX3_dropSaidByTrue 9 = .ok (.if_icmp .ge 49, 3) := by decide +kernel
theorem dX3_dropSaidByTrue_12 : decode cX3_dropSaidByTrue 12 = .ok (.aload_n 0, 1) := by decide +kernel
theorem dX3_dropSaidByTrue_13 : decode cX3_dropSaidByTrue 13 = .ok (.getfield 9, 3) := by decide +kernel
theorem dX3_dropSaidByTrue_16 : decode cX3_dropSaidByTrue 16 = .ok (.iload_n 2, 1) := by decide +kernel
theorem dX3_dropSaidByTrue_17 : decode cX3_dropSaidByTrue 17 = .ok (.iaload, 1) := by decide +kernel
theorem dX3_dropSaidByTrue_18 : decode cX3_dropSaidByTrue 18 = .ok (.bipush 27, 2) := by decide +kernel
theorem dX3_dropSaidByTrue_20 : decode cX3_dropSaidByTrue 20 = .ok (.idiv, 1) := by decide +kernel
theorem dX3_dropSaidByTrue_21 : decode cX3_dropSaidByTrue 21 = .ok (.bipush 9, 2) := by decide +kernel
theorem dX3_dropSaidByTrue_23 : decode cX3_dropSaidByTrue 23 = .ok (.irem, 1) := by decide +kernel
theorem dX3_dropSaidByTrue_24 : decode cX3_dropSaidByTrue 24 = .ok (.istore_n 3, 1) := by decide +kernel
theorem dX3_dropSaidByTrue_25 : decode cX3_dropSaidByTrue 25 = .ok (.aload_n 0, 1) := by decide +kernel
theorem dX3_dropSaidByTrue_26 : decode cX3_dropSaidByTrue 26 = .ok (.getfield 44, 3) := by decide +kernel
theorem dX3_dropSaidByTrue_29 : decode cX3_dropSaidByTrue 29 = .ok (.iload_n 3, 1) := by decide +kernel
theorem dX3_dropSaidByTrue_30 : decode cX3_dropSaidByTrue 30 = .ok (.invokestatic 79, 3) := by decide +kernel
theorem dX3_dropSaidByTrue_33 : decode cX3_dropSaidByTrue 33 = .ok (.iconst 1, 1) := by decide +kernel
theorem dX3_dropSaidByTrue_34 : decode cX3_dropSaidByTrue 34 = .ok (.if_icmp .ne 18, 3) := by decide +kernel
theorem dX3_dropSaidByTrue_37 : decode cX3_dropSaidByTrue 37 = .ok (.aload_n 0, 1) := by decide +kernel
theorem dX3_dropSaidByTrue_38 : decode cX3_dropSaidByTrue 38 = .ok (.getfield 9, 3) := by decide +kernel
theorem dX3_dropSaidByTrue_41 : decode cX3_dropSaidByTrue 41 = .ok (.iload_n 1, 1) := by decide +kernel
theorem dX3_dropSaidByTrue_42 : decode cX3_dropSaidByTrue 42 = .ok (.aload_n 0, 1) := by decide +kernel
theorem dX3_dropSaidByTrue_43 : decode cX3_dropSaidByTrue 43 = .ok (.getfield 9, 3) := by decide +kernel
theorem dX3_dropSaidByTrue_46 : decode cX3_dropSaidByTrue 46 = .ok (.iload_n 2, 1) := by decide +kernel
theorem dX3_dropSaidByTrue_47 : decode cX3_dropSaidByTrue 47 = .ok (.iaload, 1) := by decide +kernel
theorem dX3_dropSaidByTrue_48 : decode cX3_dropSaidByTrue 48 = .ok (.iastore, 1) := by decide +kernel
theorem dX3_dropSaidByTrue_49 : decode cX3_dropSaidByTrue 49 = .ok (.iinc 1 1, 3) := by decide +kernel
theorem dX3_dropSaidByTrue_52 : decode cX3_dropSaidByTrue 52 = .ok (.iinc 2 1, 3) := by decide +kernel
theorem dX3_dropSaidByTrue_55 : decode cX3_dropSaidByTrue 55 = .ok (.goto (-51), 3) := by decide +kernel
theorem dX3_dropSaidByTrue_58 : decode cX3_dropSaidByTrue 58 = .ok (.aload_n 0, 1) := by decide +kernel
theorem dX3_dropSaidByTrue_59 : decode cX3_dropSaidByTrue 59 = .ok (.iload_n 1, 1) := by decide +kernel
theorem dX3_dropSaidByTrue_60 : decode cX3_dropSaidByTrue 60 = .ok (.putfield 59, 3) := by decide +kernel
theorem dX3_dropSaidByTrue_63 : decode cX3_dropSaidByTrue 63 = .ok (.return_, 1) := by decide +kernel
theorem dX3_hearAll_0 : decode cX3_hearAll 0 = .ok (.aload_n 1, 1) := by decide +kernel
theorem dX3_hearAll_1 : decode cX3_hearAll 1 = .ok (.getfield 148, 3) := by decide +kernel
theorem dX3_hearAll_4 : decode cX3_hearAll 4 = .ok (.ifCond .ne 11, 3) := by decide +kernel
theorem dX3_hearAll_7 : decode cX3_hearAll 7 = .ok (.iload_n 3, 1) := by decide +kernel
theorem dX3_hearAll_8 : decode cX3_hearAll 8 = .ok (.ifCond .ne 7, 3) := by decide +kernel
theorem dX3_hearAll_11 : decode cX3_hearAll 11 = .ok (.iconst 1, 1) := by decide +kernel
theorem dX3_hearAll_12 : decode cX3_hearAll 12 = .ok (.goto 4, 3) := by decide +kernel
theorem dX3_hearAll_15 : decode cX3_hearAll 15 = .ok (.iconst 0, 1) := by decide +kernel
theorem dX3_hearAll_16 : decode cX3_hearAll 16 = .ok (.istore 4, 2) := by decide +kernel
theorem dX3_hearAll_18 : decode cX3_hearAll 18 = .ok (.iload 4, 2) := by decide +kernel
theorem dX3_hearAll_20 : decode cX3_hearAll 20 = .ok (.ifCond .ne 10, 3) := by decide +kernel
theorem dX3_hearAll_23 : decode cX3_hearAll 23 = .ok (.aload_n 0, 1) := by decide +kernel
theorem dX3_hearAll_24 : decode cX3_hearAll 24 = .ok (.getfield 31, 3) := by decide +kernel
theorem dX3_hearAll_27 : decode cX3_hearAll 27 = .ok (.iload_n 2, 1) := by decide +kernel
theorem dX3_hearAll_28 : decode cX3_hearAll 28 = .ok (.iconst 0, 1) := by decide +kernel
theorem dX3_hearAll_29 : decode cX3_hearAll 29 = .ok (.iastore, 1) := by decide +kernel
theorem dX3_hearAll_30 : decode cX3_hearAll 30 = .ok (.iload 4, 2) := by decide +kernel
theorem dX3_hearAll_32 : decode cX3_hearAll 32 = .ok (.ifCond .ne 11, 3) := by decide +kernel
theorem dX3_hearAll_35 : decode cX3_hearAll 35 = .ok (.aload_n 1, 1) := by decide +kernel
theorem dX3_hearAll_36 : decode cX3_hearAll 36 = .ok (.getfield 148, 3) := by decide +kernel
theorem dX3_hearAll_39 : decode cX3_hearAll 39 = .ok (.iconst 1, 1) := by decide +kernel
theorem dX3_hearAll_40 : decode cX3_hearAll 40 = .ok (.if_icmp .ne 10, 3) := by decide +kernel
theorem dX3_hearAll_43 : decode cX3_hearAll 43 = .ok (.aload_n 0, 1) := by decide +kernel
theorem dX3_hearAll_44 : decode cX3_hearAll 44 = .ok (.getfield 25, 3) := by decide +kernel
theorem dX3_hearAll_47 : decode cX3_hearAll 47 = .ok (.iload_n 2, 1) := by decide +kernel
theorem dX3_hearAll_48 : decode cX3_hearAll 48 = .ok (.lconst 0, 1) := by decide +kernel
theorem dX3_hearAll_49 : decode cX3_hearAll 49 = .ok (.lastore, 1) := by decide +kernel
theorem dX3_hearAll_50 : decode cX3_hearAll 50 = .ok (.iconst 0, 1) := by decide +kernel
theorem dX3_hearAll_51 : decode cX3_hearAll 51 = .ok (.istore 5, 2) := by decide +kernel
theorem dX3_hearAll_53 : decode cX3_hearAll 53 = .ok (.iload 5, 2) := by decide +kernel
theorem dX3_hearAll_55 : decode cX3_hearAll 55 = .ok (.aload_n 1, 1) := by decide +kernel
theorem dX3_hearAll_56 : decode cX3_hearAll 56 = .ok (.getfield 124, 3) := by decide +kernel
theorem dX3_hearAll_59 : decode cX3_hearAll 59 = .ok (.if_icmp .ge 77, 3) := by decide +kernel
theorem dX3_hearAll_62 : decode cX3_hearAll 62 = .ok (.aload_n 0, 1) := by decide +kernel
theorem dX3_hearAll_63 : decode cX3_hearAll 63 = .ok (.aload_n 1, 1) := by decide +kernel
theorem dX3_hearAll_64 : decode cX3_hearAll 64 = .ok (.iload_n 2, 1) := by decide +kernel
theorem dX3_hearAll_65 : decode cX3_hearAll 65 = .ok (.iload_n 3, 1) := by decide +kernel
theorem dX3_hearAll_66 : decode cX3_hearAll 66 = .ok (.iload 5, 2) := by decide +kernel
theorem dX3_hearAll_68 : decode cX3_hearAll 68 = .ok (.invokevirtual 165, 3) := by decide +kernel
theorem dX3_hearAll_71 : decode cX3_hearAll 71 = .ok (.istore 6, 2) := by decide +kernel
theorem dX3_hearAll_73 : decode cX3_hearAll 73 = .ok (.aload_n 0, 1) := by decide +kernel
theorem dX3_hearAll_74 : decode cX3_hearAll 74 = .ok (.iload_n 2, 1) := by decide +kernel
theorem dX3_hearAll_75 : decode cX3_hearAll 75 = .ok (.iload_n 3, 1) := by decide +kernel
theorem dX3_hearAll_76 : decode cX3_hearAll 76 = .ok (.iload 5, 2) := by decide +kernel
theorem dX3_hearAll_78 : decode cX3_hearAll 78 = .ok (.invokevirtual 169, 3) := by decide +kernel
theorem dX3_hearAll_81 : decode cX3_hearAll 81 = .ok (.istore 7, 2) := by decide +kernel
theorem dX3_hearAll_83 : decode cX3_hearAll 83 = .ok (.iload 4, 2) := by decide +kernel
theorem dX3_hearAll_85 : decode cX3_hearAll 85 = .ok (.ifCond .eq 29, 3) := by decide +kernel
theorem dX3_hearAll_88 : decode cX3_hearAll 88 = .ok (.aload_n 0, 1) := by decide +kernel
theorem dX3_hearAll_89 : decode cX3_hearAll 89 = .ok (.getfield 25, 3) := by decide +kernel
theorem dX3_hearAll_92 : decode cX3_hearAll 92 = .ok (.iload_n 2, 1) := by decide +kernel
theorem dX3_hearAll_93 : decode cX3_hearAll 93 = .ok (.dup2, 1) := by decide +kernel
theorem dX3_hearAll_94 : decode cX3_hearAll 94 = .ok (.laload, 1) := by decide +kernel
theorem dX3_hearAll_95 : decode cX3_hearAll 95 = .ok (.aload_n 1, 1) := by decide +kernel
theorem dX3_hearAll_96 : decode cX3_hearAll 96 = .ok (.iload 6, 2) := by decide +kernel
theorem dX3_hearAll_98 : decode cX3_hearAll 98 = .ok (.iload 7, 2) := by decide +kernel
theorem dX3_hearAll_100 : decode cX3_hearAll 100 = .ok (.invokevirtual 173, 3) := by decide +kernel
theorem dX3_hearAll_103 : decode cX3_hearAll 103 = .ok (.i2l, 1) := by decide +kernel
theorem dX3_hearAll_104 : decode cX3_hearAll 104 = .ok (.iconst 4, 1) := by decide +kernel
theorem dX3_hearAll_105 : decode cX3_hearAll 105 = .ok (.iload 5, 2) := by decide +kernel
theorem dX3_hearAll_107 : decode cX3_hearAll 107 = .ok (.imul, 1) := by decide +kernel
theorem dX3_hearAll_108 : decode cX3_hearAll 108 = .ok (.lshl, 1) := by decide +kernel
theorem dX3_hearAll_109 : decode cX3_hearAll 109 = .ok (.lor, 1) := by decide +kernel
theorem dX3_hearAll_110 : decode cX3_hearAll 110 = .ok (.lastore, 1) := by decide +kernel
theorem dX3_hearAll_111 : decode cX3_hearAll 111 = .ok (.goto 19, 3) := by decide +kernel
theorem dX3_hearAll_114 : decode cX3_hearAll 114 = .ok (.aload_n 0, 1) := by decide +kernel
theorem dX3_hearAll_115 : decode cX3_hearAll 115 = .ok (.aload_n 1, 1) := by decide +kernel
theorem dX3_hearAll_116 : decode cX3_hearAll 116 = .ok (.iload_n 2, 1) := by decide +kernel
theorem dX3_hearAll_117 : decode cX3_hearAll 117 = .ok (.iload 5, 2) := by decide +kernel
theorem dX3_hearAll_119 : decode cX3_hearAll 119 = .ok (.aload_n 1, 1) := by decide +kernel
theorem dX3_hearAll_120 : decode cX3_hearAll 120 = .ok (.iload 6, 2) := by decide +kernel
theorem dX3_hearAll_122 : decode cX3_hearAll 122 = .ok (.iload 7, 2) := by decide +kernel
theorem dX3_hearAll_124 : decode cX3_hearAll 124 = .ok (.invokevirtual 176, 3) := by decide +kernel
theorem dX3_hearAll_127 : decode cX3_hearAll 127 = .ok (.invokevirtual 179, 3) := by decide +kernel
theorem dX3_hearAll_130 : decode cX3_hearAll 130 = .ok (.iinc 5 1, 3) := by decide +kernel
theorem dX3_hearAll_133 : decode cX3_hearAll 133 = .ok (.goto (-80), 3) := by decide +kernel
theorem dX3_hearAll_136 : decode cX3_hearAll 136 = .ok (.return_, 1) := by decide +kernel
theorem dX3_hearRuler_0 : decode cX3_hearRuler 0 = .ok (.iconst 0, 1) := by decide +kernel
theorem dX3_hearRuler_1 : decode cX3_hearRuler 1 = .ok (.istore 4, 2) := by decide +kernel
theorem dX3_hearRuler_3 : decode cX3_hearRuler 3 = .ok (.aload_n 0, 1) := by decide +kernel
theorem dX3_hearRuler_4 : decode cX3_hearRuler 4 = .ok (.getfield 34, 3) := by decide +kernel
theorem dX3_hearRuler_7 : decode cX3_hearRuler 7 = .ok (.iload_n 2, 1) := by decide +kernel
theorem dX3_hearRuler_8 : decode cX3_hearRuler 8 = .ok (.iconst 0, 1) := by decide +kernel
theorem dX3_hearRuler_9 : decode cX3_hearRuler 9 = .ok (.iastore, 1) := by decide +kernel
theorem dX3_hearRuler_10 : decode cX3_hearRuler 10 = .ok (.iconst 0, 1) := by decide +kernel
theorem dX3_hearRuler_11 : decode cX3_hearRuler 11 = .ok (.istore 5, 2) := by decide +kernel
theorem dX3_hearRuler_13 : decode cX3_hearRuler 13 = .ok (.iload 5, 2) := by decide +kernel
theorem dX3_hearRuler_15 : decode cX3_hearRuler 15 = .ok (.aload_n 1, 1) := by decide +kernel
theorem dX3_hearRuler_16 : decode cX3_hearRuler 16 = .ok (.getfield 124, 3) := by decide +kernel
theorem dX3_hearRuler_19 : decode cX3_hearRuler 19 = .ok (.if_icmp .ge 198, 3) := by decide +kernel
theorem dX3_hearRuler_22 : decode cX3_hearRuler 22 = .ok (.aload_n 0, 1) := by decide +kernel
theorem dX3_hearRuler_23 : decode cX3_hearRuler 23 = .ok (.iload_n 2, 1) := by decide +kernel
theorem dX3_hearRuler_24 : decode cX3_hearRuler 24 = .ok (.aload_n 1, 1) := by decide +kernel
theorem dX3_hearRuler_25 : decode cX3_hearRuler 25 = .ok (.invokevirtual 109, 3) := by decide +kernel
theorem dX3_hearRuler_28 : decode cX3_hearRuler 28 = .ok (.iconst 1, 1) := by decide +kernel
theorem dX3_hearRuler_29 : decode cX3_hearRuler 29 = .ok (.isub, 1) := by decide +kernel
theorem dX3_hearRuler_30 : decode cX3_hearRuler 30 = .ok (.iload_n 3, 1) := by decide +kernel
theorem dX3_hearRuler_31 : decode cX3_hearRuler 31 = .ok (.iload 5, 2) := by decide +kernel
theorem dX3_hearRuler_33 : decode cX3_hearRuler 33 = .ok (.invokevirtual 183, 3) := by decide +kernel
theorem dX3_hearRuler_36 : decode cX3_hearRuler 36 = .ok (.istore 6, 2) := by decide +kernel
theorem dX3_hearRuler_38 : decode cX3_hearRuler 38 = .ok (.aload_n 1, 1) := by decide +kernel
theorem dX3_hearRuler_39 : decode cX3_hearRuler 39 = .ok (.getfield 148, 3) := by decide +kernel
theorem dX3_hearRuler_42 : decode cX3_hearRuler 42 = .ok (.ifCond .ne 15, 3) := by decide +kernel
theorem dX3_hearRuler_45 : decode cX3_hearRuler 45 = .ok (.aload_n 0, 1) := by decide +kernel
theorem dX3_hearRuler_46 : decode cX3_hearRuler 46 = .ok (.getfield 50, 3) := by decide +kernel
theorem dX3_hearRuler_49 : decode cX3_hearRuler 49 = .ok (.iload 5, 2) := by decide +kernel
theorem dX3_hearRuler_51 : decode cX3_hearRuler 51 = .ok (.invokestatic 79, 3) := by decide +kernel
theorem dX3_hearRuler_54 : decode cX3_hearRuler 54 = .ok (.goto 14, 3) := by decide +kernel
theorem dX3_hearRuler_57 : decode cX3_hearRuler 57 = .ok (.aload_n 0, 1) := by decide +kernel
theorem dX3_hearRuler_58 : decode cX3_hearRuler 58 = .ok (.getfield 25, 3) := by decide +kernel
theorem dX3_hearRuler_61 : decode cX3_hearRuler 61 = .ok (.iload_n 2, 1) := by decide +kernel
theorem dX3_hearRuler_62 : decode cX3_hearRuler 62 = .ok (.laload, 1) := by decide +kernel
theorem dX3_hearRuler_63 : decode cX3_hearRuler 63 = .ok (.iload 5, 2) := by decide +kernel
theorem dX3_hearRuler_65 : decode cX3_hearRuler 65 = .ok (.invokestatic 151, 3) := by decide +kernel
theorem dX3_hearRuler_68 : decode cX3_hearRuler 68 = .ok (.istore 7, 2) := by decide +kernel
theorem dX3_hearRuler_70 : decode cX3_hearRuler 70 = .ok (.aload_n 0, 1) := by decide +kernel
theorem dX3_hearRuler_71 : decode cX3_hearRuler 71 = .ok (.getfield 31, 3) := by decide +kernel
theorem dX3_hearRuler_74 : decode cX3_hearRuler 74 = .ok (.iload_n 2, 1) := by decide +kernel
theorem dX3_hearRuler_75 : decode cX3_hearRuler 75 = .ok (.iaload, 1) := by decide +kernel
theorem dX3_hearRuler_76 : decode cX3_hearRuler 76 = .ok (.iload 5, 2) := by decide +kernel
theorem dX3_hearRuler_78 : decode cX3_hearRuler 78 = .ok (.invokestatic 79, 3) := by decide +kernel
theorem dX3_hearRuler_81 : decode cX3_hearRuler 81 = .ok (.iconst 1, 1) := by decide +kernel
theorem dX3_hearRuler_82 : decode cX3_hearRuler 82 = .ok (.if_icmp .ne 7, 3) := by decide +kernel
theorem dX3_hearRuler_85 : decode cX3_hearRuler 85 = .ok (.iconst 1, 1) := by decide +kernel
theorem dX3_hearRuler_86 : decode cX3_hearRuler 86 = .ok (.goto 4, 3) := by decide +kernel
theorem dX3_hearRuler_89 : decode cX3_hearRuler 89 = .ok (.iconst 0, 1) := by decide +kernel
theorem dX3_hearRuler_90 : decode cX3_hearRuler 90 = .ok (.istore 8, 2) := by decide +kernel
theorem dX3_hearRuler_92 : decode cX3_hearRuler 92 = .ok (.aload_n 1, 1) := by decide +kernel
theorem dX3_hearRuler_93 : decode cX3_hearRuler 93 = .ok (.getfield 186, 3) := by decide +kernel
theorem dX3_hearRuler_96 : decode cX3_hearRuler 96 = .ok (.ifCond .eq 21, 3) := by decide +kernel
theorem dX3_hearRuler_99 : decode cX3_hearRuler 99 = .ok (.aload_n 0, 1) := by decide +kernel
theorem dX3_hearRuler_100 : decode cX3_hearRuler 100 = .ok (.iload_n 3, 1) := by decide +kernel
theorem dX3_hearRuler_101 : decode cX3_hearRuler 101 = .ok (.invokevirtual 190, 3) := by decide +kernel
theorem dX3_hearRuler_104 : decode cX3_hearRuler 104 = .ok (.iload 5, 2) := by decide +kernel
theorem dX3_hearRuler_106 : decode cX3_hearRuler 106 = .ok (.invokestatic 79, 3) := by decide +kernel
theorem dX3_hearRuler_109 : decode cX3_hearRuler 109 = .ok (.iconst 1, 1) := by decide +kernel
theorem dX3_hearRuler_110 : decode cX3_hearRuler 110 = .ok (.if_icmp .ne 7, 3) := by decide +kernel
theorem dX3_hearRuler_113 : decode cX3_hearRuler 113 = .ok (.iconst 1, 1) := by decide +kernel
theorem dX3_hearRuler_114 : decode cX3_hearRuler 114 = .ok (.goto 4, 3) := by decide +kernel
theorem dX3_hearRuler_117 : decode cX3_hearRuler 117 = .ok (.iconst 0, 1) := by decide +kernel
theorem dX3_hearRuler_118 : decode cX3_hearRuler 118 = .ok (.istore 9, 2) := by decide +kernel
theorem dX3_hearRuler_120 : decode cX3_hearRuler 120 = .ok (.iload 8, 2) := by decide +kernel
theorem dX3_hearRuler_122 : decode cX3_hearRuler 122 = .ok (.ifCond .eq 34, 3) := by decide +kernel
theorem dX3_hearRuler_125 : decode cX3_hearRuler 125 = .ok (.iload 6, 2) := by decide +kernel
theorem dX3_hearRuler_127 : decode cX3_hearRuler 127 = .ok (.iload 7, 2) := by decide +kernel
theorem dX3_hearRuler_129 : decode cX3_hearRuler 129 = .ok (.if_icmp .eq 27, 3) := by decide +kernel
theorem dX3_hearRuler_132 : decode cX3_hearRuler 132 = .ok (.iload 5, 2) := by decide +kernel
theorem dX3_hearRuler_134 : decode cX3_hearRuler 134 = .ok (.iload_n 3, 1) := by decide +kernel
theorem dX3_hearRuler_135 : decode cX3_hearRuler 135 = .ok (.if_icmp .eq 21, 3) := by decide +kernel
theorem dX3_hearRuler_138 : decode cX3_hearRuler 138 = .ok (.aload_n 0, 1) := by decide +kernel
theorem dX3_hearRuler_139 : decode cX3_hearRuler 139 = .ok (.dup, 1) := by decide +kernel
theorem dX3_hearRuler_140 : decode cX3_hearRuler 140 = .ok (.getfield 62, 3) := by decide +kernel
theorem dX3_hearRuler_143 : decode cX3_hearRuler 143 = .ok (.lconst 1, 1) := by decide +kernel
theorem dX3_hearRuler_144 : decode cX3_hearRuler 144 = .ok (.iload_n 3, 1) := by decide +kernel
theorem dX3_hearRuler_145 : decode cX3_hearRuler 145 = .ok (.bipush 9, 2) := by decide +kernel
theorem dX3_hearRuler_147 : decode cX3_hearRuler 147 = .ok (.imul, 1) := by decide +kernel
theorem dX3_hearRuler_148 : decode cX3_hearRuler 148 = .ok (.iload 5, 2) := by decide +kernel
theorem dX3_hearRuler_150 : decode cX3_hearRuler 150 = .ok (.iadd, 1) := by decide +kernel
theorem dX3_hearRuler_151 : decode cX3_hearRuler 151 = .ok (.lshl, 1) := by decide +kernel
theorem dX3_hearRuler_152 : decode cX3_hearRuler 152 = .ok (.lor, 1) := by decide +kernel
theorem dX3_hearRuler_153 : decode cX3_hearRuler 153 = .ok (.putfield 62, 3) := by decide +kernel
theorem dX3_hearRuler_156 : decode cX3_hearRuler 156 = .ok (.iload 8, 2) := by decide +kernel
theorem dX3_hearRuler_158 : decode cX3_hearRuler 158 = .ok (.ifCond .ne 8, 3) := by decide +kernel
theorem dX3_hearRuler_161 : decode cX3_hearRuler 161 = .ok (.iload 9, 2) := by decide +kernel
theorem dX3_hearRuler_163 : decode cX3_hearRuler 163 = .ok (.ifCond .eq 16, 3) := by decide +kernel
theorem dX3_hearRuler_166 : decode cX3_hearRuler 166 = .ok (.iload 4, 2) := by decide +kernel
theorem dX3_hearRuler_168 : decode cX3_hearRuler 168 = .ok (.iload 7, 2) := by decide +kernel
theorem dX3_hearRuler_170 : decode cX3_hearRuler 170 = .ok (.iload 5, 2) := by decide +kernel
theorem dX3_hearRuler_172 : decode cX3_hearRuler 172 = .ok (.ishl, 1) := by decide +kernel
theorem dX3_hearRuler_173 : decode cX3_hearRuler 173 = .ok (.ior, 1) := by decide +kernel
theorem dX3_hearRuler_174 : decode cX3_hearRuler 174 = .ok (.istore 4, 2) := by decide +kernel
theorem dX3_hearRuler_176 : decode cX3_hearRuler 176 = .ok (.goto 35, 3) := by decide +kernel
theorem dX3_hearRuler_179 : decode cX3_hearRuler 179 = .ok (.aload_n 0, 1) := by decide +kernel
theorem dX3_hearRuler_180 : decode cX3_hearRuler 180 = .ok (.getfield 34, 3) := by decide +kernel
theorem dX3_hearRuler_183 : decode cX3_hearRuler 183 = .ok (.iload_n 2, 1) := by decide +kernel
theorem dX3_hearRuler_184 : decode cX3_hearRuler 184 = .ok (.dup2, 1) := by decide +kernel
theorem dX3_hearRuler_185 : decode cX3_hearRuler 185 = .ok (.iaload, 1) := by decide +kernel
theorem dX3_hearRuler_186 : decode cX3_hearRuler 186 = .ok (.iconst 1, 1) := by decide +kernel
theorem dX3_hearRuler_187 : decode cX3_hearRuler 187 = .ok (.iload 5, 2) := by decide +kernel
theorem dX3_hearRuler_189 : decode cX3_hearRuler 189 = .ok (.ishl, 1) := by decide +kernel
theorem dX3_hearRuler_190 : decode cX3_hearRuler 190 = .ok (.ior, 1) := by decide +kernel
theorem dX3_hearRuler_191 : decode cX3_hearRuler 191 = .ok (.iastore, 1) := by decide +kernel
theorem dX3_hearRuler_192 : decode cX3_hearRuler 192 = .ok (.iload 4, 2) := by decide +kernel
theorem dX3_hearRuler_194 : decode cX3_hearRuler 194 = .ok (.iload 6, 2) := by decide +kernel
theorem dX3_hearRuler_196 : decode cX3_hearRuler 196 = .ok (.iconst 1, 1) := by decide +kernel
theorem dX3_hearRuler_197 : decode cX3_hearRuler 197 = .ok (.if_icmp .ne 10, 3) := by decide +kernel
theorem dX3_hearRuler_200 : decode cX3_hearRuler 200 = .ok (.iconst 1, 1) := by decide +kernel
theorem dX3_hearRuler_201 : decode cX3_hearRuler 201 = .ok (.iload 5, 2) := by decide +kernel
theorem dX3_hearRuler_203 : decode cX3_hearRuler 203 = .ok (.ishl, 1) := by decide +kernel
theorem dX3_hearRuler_204 : decode cX3_hearRuler 204 = .ok (.goto 4, 3) := by decide +kernel
theorem dX3_hearRuler_207 : decode cX3_hearRuler 207 = .ok (.iconst 0, 1) := by decide +kernel
theorem dX3_hearRuler_208 : decode cX3_hearRuler 208 = .ok (.ior, 1) := by decide +kernel
theorem dX3_hearRuler_209 : decode cX3_hearRuler 209 = .ok (.istore 4, 2) := by decide +kernel
theorem dX3_hearRuler_211 : decode cX3_hearRuler 211 = .ok (.iinc 5 1, 3) := by decide +kernel
theorem dX3_hearRuler_214 : decode cX3_hearRuler 214 = .ok (.goto (-201), 3) := by decide +kernel
theorem dX3_hearRuler_217 : decode cX3_hearRuler 217 = .ok (.aload_n 0, 1) := by decide +kernel
theorem dX3_hearRuler_218 : decode cX3_hearRuler 218 = .ok (.iload 4, 2) := by decide +kernel
theorem dX3_hearRuler_220 : decode cX3_hearRuler 220 = .ok (.putfield 50, 3) := by decide +kernel
theorem dX3_hearRuler_223 : decode cX3_hearRuler 223 = .ok (.aload_n 0, 1) := by decide +kernel
theorem dX3_hearRuler_224 : decode cX3_hearRuler 224 = .ok (.getfield 28, 3) := by decide +kernel
theorem dX3_hearRuler_227 : decode cX3_hearRuler 227 = .ok (.iload_n 2, 1) := by decide +kernel
theorem dX3_hearRuler_228 : decode cX3_hearRuler 228 = .ok (.iload 4, 2) := by decide +kernel
theorem dX3_hearRuler_230 : decode cX3_hearRuler 230 = .ok (.iastore, 1) := by decide +kernel
theorem dX3_hearRuler_231 : decode cX3_hearRuler 231 = .ok (.return_, 1) := by decide +kernel
theorem dX3_init_0 : decode cX3_init 0 = .ok (.aload_n 0, 1) := by decide +kernel
theorem dX3_init_1 : decode cX3_init 1 = .ok (.invokespecial 3, 3) := by decide +kernel
theorem dX3_init_4 : decode cX3_init 4 = .ok (.aload_n 0, 1) := by decide +kernel
theorem dX3_init_5 : decode cX3_init 5 = .ok (.bipush 30, 2) := by decide +kernel
theorem dX3_init_7 : decode cX3_init 7 = .ok (.newarray .int, 2) := by decide +kernel
theorem dX3_init_9 : decode cX3_init 9 = .ok (.putfield 9, 3) := by decide +kernel
theorem dX3_init_12 : decode cX3_init 12 = .ok (.aload_n 0, 1) := by decide +kernel
theorem dX3_init_13 : decode cX3_init 13 = .ok (.sipush 162, 3) := by decide +kernel
theorem dX3_init_16 : decode cX3_init 16 = .ok (.newarray .long, 2) := by decide +kernel
theorem dX3_init_18 : decode cX3_init 18 = .ok (.putfield 15, 3) := by decide +kernel
theorem dX3_init_21 : decode cX3_init 21 = .ok (.aload_n 0, 1) := by decide +kernel
theorem dX3_init_22 : decode cX3_init 22 = .ok (.bipush 18, 2) := by decide +kernel
theorem dX3_init_24 : decode cX3_init 24 = .ok (.newarray .long, 2) := by decide +kernel
theorem dX3_init_26 : decode cX3_init 26 = .ok (.putfield 19, 3) := by decide +kernel
theorem dX3_init_29 : decode cX3_init 29 = .ok (.aload_n 0, 1) := by decide +kernel
theorem dX3_init_30 : decode cX3_init 30 = .ok (.bipush 18, 2) := by decide +kernel
theorem dX3_init_32 : decode cX3_init 32 = .ok (.newarray .long, 2) := by decide +kernel
theorem dX3_init_34 : decode cX3_init 34 = .ok (.putfield 22, 3) := by decide +kernel
theorem dX3_init_37 : decode cX3_init 37 = .ok (.aload_n 0, 1) := by decide +kernel
theorem dX3_init_38 : decode cX3_init 38 = .ok (.bipush 6, 2) := by decide +kernel
theorem dX3_init_40 : decode cX3_init 40 = .ok (.newarray .long, 2) := by decide +kernel
theorem dX3_init_42 : decode cX3_init 42 = .ok (.putfield 25, 3) := by decide +kernel
theorem dX3_init_45 : decode cX3_init 45 = .ok (.aload_n 0, 1) := by decide +kernel
theorem dX3_init_46 : decode cX3_init 46 = .ok (.bipush 6, 2) := by decide +kernel
theorem dX3_init_48 : decode cX3_init 48 = .ok (.newarray .int, 2) := by decide +kernel
theorem dX3_init_50 : decode cX3_init 50 = .ok (.putfield 28, 3) := by decide +kernel
theorem dX3_init_53 : decode cX3_init 53 = .ok (.aload_n 0, 1) := by decide +kernel
theorem dX3_init_54 : decode cX3_init 54 = .ok (.bipush 6, 2) := by decide +kernel
theorem dX3_init_56 : decode cX3_init 56 = .ok (.newarray .int, 2) := by decide +kernel
theorem dX3_init_58 : decode cX3_init 58 = .ok (.putfield 31, 3) := by decide +kernel
theorem dX3_init_61 : decode cX3_init 61 = .ok (.aload_n 0, 1) := by decide +kernel
theorem dX3_init_62 : decode cX3_init 62 = .ok (.bipush 6, 2) := by decide +kernel
theorem dX3_init_64 : decode cX3_init 64 = .ok (.newarray .int, 2) := by decide +kernel
theorem dX3_init_66 : decode cX3_init 66 = .ok (.putfield 34, 3) := by decide +kernel
theorem dX3_init_69 : decode cX3_init 69 = .ok (.aload_n 0, 1) := by decide +kernel
theorem dX3_init_70 : decode cX3_init 70 = .ok (.bipush 6, 2) := by decide +kernel
theorem dX3_init_72 : decode cX3_init 72 = .ok (.newarray .int, 2) := by decide +kernel
theorem dX3_init_74 : decode cX3_init 74 = .ok (.putfield 37, 3) := by decide +kernel
theorem dX3_init_77 : decode cX3_init 77 = .ok (.return_, 1) := by decide +kernel
theorem dX3_letter_0 : decode cX3_letter 0 = .ok (.aload_n 0, 1) := by decide +kernel
theorem dX3_letter_1 : decode cX3_letter 1 = .ok (.getfield 15, 3) := by decide +kernel
theorem dX3_letter_4 : decode cX3_letter 4 = .ok (.iload_n 1, 1) := by decide +kernel
theorem dX3_letter_5 : decode cX3_letter 5 = .ok (.iconst 3, 1) := by decide +kernel
theorem dX3_letter_6 : decode cX3_letter 6 = .ok (.imul, 1) := by decide +kernel
theorem dX3_letter_7 : decode cX3_letter 7 = .ok (.iload_n 2, 1) := by decide +kernel
theorem dX3_letter_8 : decode cX3_letter 8 = .ok (.iadd, 1) := by decide +kernel
theorem dX3_letter_9 : decode cX3_letter 9 = .ok (.bipush 9, 2) := by decide +kernel
theorem dX3_letter_11 : decode cX3_letter 11 = .ok (.imul, 1) := by decide +kernel
theorem dX3_letter_12 : decode cX3_letter 12 = .ok (.iload_n 3, 1) := by decide +kernel
theorem dX3_letter_13 : decode cX3_letter 13 = .ok (.iadd, 1) := by decide +kernel
theorem dX3_letter_14 : decode cX3_letter 14 = .ok (.laload, 1) := by decide +kernel
theorem dX3_letter_15 : decode cX3_letter 15 = .ok (.iload 4, 2) := by decide +kernel
theorem dX3_letter_17 : decode cX3_letter 17 = .ok (.invokestatic 151, 3) := by decide +kernel
theorem dX3_letter_20 : decode cX3_letter 20 = .ok (.ireturn, 1) := by decide +kernel
theorem dX3_onesHeard_0 : decode cX3_onesHeard 0 = .ok (.aload_n 0, 1) := by decide +kernel
theorem dX3_onesHeard_1 : decode cX3_onesHeard 1 = .ok (.getfield 19, 3) := by decide +kernel
theorem dX3_onesHeard_4 : decode cX3_onesHeard 4 = .ok (.iload_n 1, 1) := by decide +kernel
theorem dX3_onesHeard_5 : decode cX3_onesHeard 5 = .ok (.iconst 3, 1) := by decide +kernel
theorem dX3_onesHeard_6 : decode cX3_onesHeard 6 = .ok (.imul, 1) := by decide +kernel
theorem dX3_onesHeard_7 : decode cX3_onesHeard 7 = .ok (.iload_n 2, 1) := by decide +kernel
theorem dX3_onesHeard_8 : decode cX3_onesHeard 8 = .ok (.iadd, 1) := by decide +kernel
theorem dX3_onesHeard_9 : decode cX3_onesHeard 9 = .ok (.laload, 1) := by decide +kernel
theorem dX3_onesHeard_10 : decode cX3_onesHeard 10 = .ok (.iload_n 3, 1) := by decide +kernel
theorem dX3_onesHeard_11 : decode cX3_onesHeard 11 = .ok (.invokestatic 151, 3) := by decide +kernel
theorem dX3_onesHeard_14 : decode cX3_onesHeard 14 = .ok (.ireturn, 1) := by decide +kernel
theorem dX3_placeOf_0 : decode cX3_placeOf 0 = .ok (.iload_n 0, 1) := by decide +kernel
theorem dX3_placeOf_1 : decode cX3_placeOf 1 = .ok (.iconst 3, 1) := by decide +kernel
theorem dX3_placeOf_2 : decode cX3_placeOf 2 = .ok (.imul, 1) := by decide +kernel
theorem dX3_placeOf_3 : decode cX3_placeOf 3 = .ok (.iload_n 1, 1) := by decide +kernel
theorem dX3_placeOf_4 : decode cX3_placeOf 4 = .ok (.iadd, 1) := by decide +kernel
theorem dX3_placeOf_5 : decode cX3_placeOf 5 = .ok (.bipush 9, 2) := by decide +kernel
theorem dX3_placeOf_7 : decode cX3_placeOf 7 = .ok (.imul, 1) := by decide +kernel
theorem dX3_placeOf_8 : decode cX3_placeOf 8 = .ok (.iload_n 2, 1) := by decide +kernel
theorem dX3_placeOf_9 : decode cX3_placeOf 9 = .ok (.iadd, 1) := by decide +kernel
theorem dX3_placeOf_10 : decode cX3_placeOf 10 = .ok (.bipush 9, 2) := by decide +kernel
theorem dX3_placeOf_12 : decode cX3_placeOf 12 = .ok (.imul, 1) := by decide +kernel
theorem dX3_placeOf_13 : decode cX3_placeOf 13 = .ok (.iload_n 3, 1) := by decide +kernel
theorem dX3_placeOf_14 : decode cX3_placeOf 14 = .ok (.iadd, 1) := by decide +kernel
theorem dX3_placeOf_15 : decode cX3_placeOf 15 = .ok (.ireturn, 1) := by decide +kernel
theorem dX3_play_0 : decode cX3_play 0 = .ok (.aload_n 1, 1) := by decide +kernel
theorem dX3_play_1 : decode cX3_play 1 = .ok (.aload_n 0, 1) := by decide +kernel
theorem dX3_play_2 : decode cX3_play 2 = .ok (.getfield 47, 3) := by decide +kernel
theorem dX3_play_5 : decode cX3_play 5 = .ok (.invokevirtual 89, 3) := by decide +kernel
theorem dX3_play_8 : decode cX3_play 8 = .ok (.istore_n 3, 1) := by decide +kernel
theorem dX3_play_9 : decode cX3_play 9 = .ok (.iload_n 3, 1) := by decide +kernel
theorem dX3_play_10 : decode cX3_play 10 = .ok (.aload_n 1, 1) := by decide +kernel
theorem dX3_play_11 : decode cX3_play 11 = .ok (.getfield 95, 3) := by decide +kernel
theorem dX3_play_14 : decode cX3_play 14 = .ok (.if_icmp .ge 9, 3) := by decide +kernel
theorem dX3_play_17 : decode cX3_play 17 = .ok (.iload_n 3, 1) := by decide +kernel
theorem dX3_play_18 : decode cX3_play 18 = .ok (.bipush 6, 2) := by decide +kernel
theorem dX3_play_20 : decode cX3_play 20 = .ok (.if_icmp .lt 4, 3) := by decide +kernel
theorem dX3_play_23 : decode cX3_play 23 = .ok (.return_, 1) := by decide +kernel
theorem dX3_play_24 : decode cX3_play 24 = .ok (.aload_n 0, 1) := by decide +kernel
theorem dX3_play_25 : decode cX3_play 25 = .ok (.getfield 53, 3) := by decide +kernel
theorem dX3_play_28 : decode cX3_play 28 = .ok (.istore 4, 2) := by decide +kernel
theorem dX3_play_30 : decode cX3_play 30 = .ok (.aload_n 2, 1) := by decide +kernel
theorem dX3_play_31 : decode cX3_play 31 = .ok (.iload_n 3, 1) := by decide +kernel
theorem dX3_play_32 : decode cX3_play 32 = .ok (.putfield 98, 3) := by decide +kernel
theorem dX3_play_35 : decode cX3_play 35 = .ok (.aload_n 2, 1) := by decide +kernel
theorem dX3_play_36 : decode cX3_play 36 = .ok (.aload_n 1, 1) := by decide +kernel
theorem dX3_play_37 : decode cX3_play 37 = .ok (.aload_n 0, 1) := by decide +kernel
theorem dX3_play_38 : decode cX3_play 38 = .ok (.getfield 47, 3) := by decide +kernel
theorem dX3_play_41 : decode cX3_play 41 = .ok (.invokevirtual 103, 3) := by decide +kernel
theorem dX3_play_44 : decode cX3_play 44 = .ok (.putfield 106, 3) := by decide +kernel
theorem dX3_play_47 : decode cX3_play 47 = .ok (.aload_n 2, 1) := by decide +kernel
theorem dX3_play_48 : decode cX3_play 48 = .ok (.getfield 106, 3) := by decide +kernel
theorem dX3_play_51 : decode cX3_play 51 = .ok (.aload_n 1, 1) := by decide +kernel
theorem dX3_play_52 : decode cX3_play 52 = .ok (.invokevirtual 109, 3) := by decide +kernel
theorem dX3_play_55 : decode cX3_play 55 = .ok (.iconst 1, 1) := by decide +kernel
theorem dX3_play_56 : decode cX3_play 56 = .ok (.isub, 1) := by decide +kernel
theorem dX3_play_57 : decode cX3_play 57 = .ok (.if_icmp .ne 31, 3) := by decide +kernel
theorem dX3_play_60 : decode cX3_play 60 = .ok (.aload_n 1, 1) := by decide +kernel
theorem dX3_play_61 : decode cX3_play 61 = .ok (.iload_n 3, 1) := by decide +kernel
theorem dX3_play_62 : decode cX3_play 62 = .ok (.invokevirtual 113, 3) := by decide +kernel
theorem dX3_play_65 : decode cX3_play 65 = .ok (.istore 5, 2) := by decide +kernel
theorem dX3_play_67 : decode cX3_play 67 = .ok (.aload_n 0, 1) := by decide +kernel
theorem dX3_play_68 : decode cX3_play 68 = .ok (.aload_n 1, 1) := by decide +kernel
theorem dX3_play_69 : decode cX3_play 69 = .ok (.aload_n 2, 1) := by decide +kernel
theorem dX3_play_70 : decode cX3_play 70 = .ok (.iload 5, 2) := by decide +kernel
theorem dX3_play_72 : decode cX3_play 72 = .ok (.iload 5, 2) := by decide +kernel
theorem dX3_play_74 : decode cX3_play 74 = .ok (.invokevirtual 116, 3) := by decide +kernel
theorem dX3_play_77 : decode cX3_play 77 = .ok (.aload_n 0, 1) := by decide +kernel
theorem dX3_play_78 : decode cX3_play 78 = .ok (.aload_n 1, 1) := by decide +kernel
theorem dX3_play_79 : decode cX3_play 79 = .ok (.iload_n 3, 1) := by decide +kernel
theorem dX3_play_80 : decode cX3_play 80 = .ok (.iload 5, 2) := by decide +kernel
theorem dX3_play_82 : decode cX3_play 82 = .ok (.invokevirtual 120, 3) := by decide +kernel
theorem dX3_play_85 : decode cX3_play 85 = .ok (.goto 26, 3) := by decide +kernel
theorem dX3_play_88 : decode cX3_play 88 = .ok (.aload_n 0, 1) := by decide +kernel
theorem dX3_play_89 : decode cX3_play 89 = .ok (.aload_n 1, 1) := by decide +kernel
theorem dX3_play_90 : decode cX3_play 90 = .ok (.aload_n 2, 1) := by decide +kernel
theorem dX3_play_91 : decode cX3_play 91 = .ok (.iconst 0, 1) := by decide +kernel
theorem dX3_play_92 : decode cX3_play 92 = .ok (.aload_n 1, 1) := by decide +kernel
theorem dX3_play_93 : decode cX3_play 93 = .ok (.getfield 124, 3) := by decide +kernel
theorem dX3_play_96 : decode cX3_play 96 = .ok (.iconst 1, 1) := by decide +kernel
theorem dX3_play_97 : decode cX3_play 97 = .ok (.isub, 1) := by decide +kernel
theorem dX3_play_98 : decode cX3_play 98 = .ok (.invokevirtual 116, 3) := by decide +kernel
theorem dX3_play_101 : decode cX3_play 101 = .ok (.aload_n 0, 1) := by decide +kernel
theorem dX3_play_102 : decode cX3_play 102 = .ok (.aload_n 1, 1) := by decide +kernel
theorem dX3_play_103 : decode cX3_play 103 = .ok (.iload_n 3, 1) := by decide +kernel
theorem dX3_play_104 : decode cX3_play 104 = .ok (.aload_n 2, 1) := by decide +kernel
theorem dX3_play_105 : decode cX3_play 105 = .ok (.getfield 106, 3) := by decide +kernel
theorem dX3_play_108 : decode cX3_play 108 = .ok (.invokevirtual 127, 3) := by decide +kernel
theorem dX3_play_111 : decode cX3_play 111 = .ok (.aload_n 0, 1) := by decide +kernel
theorem dX3_play_112 : decode cX3_play 112 = .ok (.getfield 37, 3) := by decide +kernel
theorem dX3_play_115 : decode cX3_play 115 = .ok (.iload_n 3, 1) := by decide +kernel
theorem dX3_play_116 : decode cX3_play 116 = .ok (.aload_n 2, 1) := by decide +kernel
theorem dX3_play_117 : decode cX3_play 117 = .ok (.getfield 106, 3) := by decide +kernel
theorem dX3_play_120 : decode cX3_play 120 = .ok (.ifCond .ne 13, 3) := by decide +kernel
theorem dX3_play_123 : decode cX3_play 123 = .ok (.aload_n 0, 1) := by decide +kernel
theorem dX3_play_124 : decode cX3_play 124 = .ok (.getfield 53, 3) := by decide +kernel
theorem dX3_play_127 : decode cX3_play 127 = .ok (.iload 4, 2) := by decide +kernel
theorem dX3_play_129 : decode cX3_play 129 = .ok (.isub, 1) := by decide +kernel
theorem dX3_play_130 : decode cX3_play 130 = .ok (.goto 17, 3) := by decide +kernel
theorem dX3_play_133 : decode cX3_play 133 = .ok (.aload_n 0, 1) := by decide +kernel
theorem dX3_play_134 : decode cX3_play 134 = .ok (.getfield 37, 3) := by decide +kernel
theorem dX3_play_137 : decode cX3_play 137 = .ok (.iload_n 3, 1) := by decide +kernel
theorem dX3_play_138 : decode cX3_play 138 = .ok (.iaload, 1) := by decide +kernel
theorem dX3_play_139 : decode cX3_play 139 = .ok (.aload_n 0, 1) := by decide +kernel
theorem dX3_play_140 : decode cX3_play 140 = .ok (.getfield 53, 3) := by decide +kernel
theorem dX3_play_143 : decode cX3_play 143 = .ok (.iadd, 1) := by decide +kernel
theorem dX3_play_144 : decode cX3_play 144 = .ok (.iload 4, 2) := by decide +kernel
theorem dX3_play_146 : decode cX3_play 146 = .ok (.isub, 1) := by decide +kernel
theorem dX3_play_147 : decode cX3_play 147 = .ok (.iastore, 1) := by decide +kernel
theorem dX3_play_148 : decode cX3_play 148 = .ok (.aload_n 0, 1) := by decide +kernel
theorem dX3_play_149 : decode cX3_play 149 = .ok (.dup, 1) := by decide +kernel
theorem dX3_play_150 : decode cX3_play 150 = .ok (.getfield 47, 3) := by decide +kernel
theorem dX3_play_153 : decode cX3_play 153 = .ok (.iconst 1, 1) := by decide +kernel
theorem dX3_play_154 : decode cX3_play 154 = .ok (.iadd, 1) := by decide +kernel
theorem dX3_play_155 : decode cX3_play 155 = .ok (.putfield 47, 3) := by decide +kernel
theorem dX3_play_158 : decode cX3_play 158 = .ok (.return_, 1) := by decide +kernel
theorem dX3_reachedBy_0 : decode cX3_reachedBy 0 = .ok (.lconst 1, 1) := by decide +kernel
theorem dX3_reachedBy_1 : decode cX3_reachedBy 1 = .ok (.iconst 4, 1) := by decide +kernel
theorem dX3_reachedBy_2 : decode cX3_reachedBy 2 = .ok (.iload_n 2, 1) := by decide +kernel
theorem dX3_reachedBy_3 : decode cX3_reachedBy 3 = .ok (.imul, 1) := by decide +kernel
theorem dX3_reachedBy_4 : decode cX3_reachedBy 4 = .ok (.lshl, 1) := by decide +kernel
theorem dX3_reachedBy_5 : decode cX3_reachedBy 5 = .ok (.lconst 1, 1) := by decide +kernel
theorem dX3_reachedBy_6 : decode cX3_reachedBy 6 = .ok (.lsub, 1) := by decide +kernel
theorem dX3_reachedBy_7 : decode cX3_reachedBy 7 = .ok (.ldc2_w 155, 3) := by decide +kernel
theorem dX3_reachedBy_10 : decode cX3_reachedBy 10 = .ok (.iconst 4, 1) := by decide +kernel
theorem dX3_reachedBy_11 : decode cX3_reachedBy 11 = .ok (.iload_n 3, 1) := by decide +kernel
theorem dX3_reachedBy_12 : decode cX3_reachedBy 12 = .ok (.imul, 1) := by decide +kernel
theorem dX3_reachedBy_13 : decode cX3_reachedBy 13 = .ok (.lshl, 1) := by decide +kernel
theorem dX3_reachedBy_14 : decode cX3_reachedBy 14 = .ok (.ldc2_w 157, 3) := by decide +kernel
theorem dX3_reachedBy_17 : decode cX3_reachedBy 17 = .ok (.lxor, 1) := by decide +kernel
theorem dX3_reachedBy_18 : decode cX3_reachedBy 18 = .ok (.land, 1) := by decide +kernel
theorem dX3_reachedBy_19 : decode cX3_reachedBy 19 = .ok (.lstore 4, 2) := by decide +kernel
theorem dX3_reachedBy_21 : decode cX3_reachedBy 21 = .ok (.iload_n 2, 1) := by decide +kernel
theorem dX3_reachedBy_22 : decode cX3_reachedBy 22 = .ok (.iconst 1, 1) := by decide +kernel
theorem dX3_reachedBy_23 : decode cX3_reachedBy 23 = .ok (.isub, 1) := by decide +kernel
theorem dX3_reachedBy_24 : decode cX3_reachedBy 24 = .ok (.lload_n 0, 1) := by decide +kernel
theorem dX3_reachedBy_25 : decode cX3_reachedBy 25 = .ok (.iconst 1, 1) := by decide +kernel
theorem dX3_reachedBy_26 : decode cX3_reachedBy 26 = .ok (.lushr, 1) := by decide +kernel
theorem dX3_reachedBy_27 : decode cX3_reachedBy 27 = .ok (.ldc2_w 134, 3) := by decide +kernel
theorem dX3_reachedBy_30 : decode cX3_reachedBy 30 = .ok (.land, 1) := by decide +kernel
theorem dX3_reachedBy_31 : decode cX3_reachedBy 31 = .ok (.lload 4, 2) := by decide +kernel
theorem dX3_reachedBy_33 : decode cX3_reachedBy 33 = .ok (.land, 1) := by decide +kernel
theorem dX3_reachedBy_34 : decode cX3_reachedBy 34 = .ok (.invokestatic 159, 3) := by decide +kernel
theorem dX3_reachedBy_37 : decode cX3_reachedBy 37 = .ok (.isub, 1) := by decide +kernel
theorem dX3_reachedBy_38 : decode cX3_reachedBy 38 = .ok (.ireturn, 1) := by decide +kernel
theorem dX3_rowOf_0 : decode cX3_rowOf 0 = .ok (.aload_n 0, 1) := by decide +kernel
theorem dX3_rowOf_1 : decode cX3_rowOf 1 = .ok (.aload_n 1, 1) := by decide +kernel
theorem dX3_rowOf_2 : decode cX3_rowOf 2 = .ok (.aload_n 2, 1) := by decide +kernel
theorem dX3_rowOf_3 : decode cX3_rowOf 3 = .ok (.iload_n 3, 1) := by decide +kernel
theorem dX3_rowOf_4 : decode cX3_rowOf 4 = .ok (.invokevirtual 140, 3) := by decide +kernel
theorem dX3_rowOf_7 : decode cX3_rowOf 7 = .ok (.istore 4, 2) := by decide +kernel
theorem dX3_rowOf_9 : decode cX3_rowOf 9 = .ok (.aload_n 0, 1) := by decide +kernel
theorem dX3_rowOf_10 : decode cX3_rowOf 10 = .ok (.getfield 44, 3) := by decide +kernel
theorem dX3_rowOf_13 : decode cX3_rowOf 13 = .ok (.iload_n 3, 1) := by decide +kernel
theorem dX3_rowOf_14 : decode cX3_rowOf 14 = .ok (.invokestatic 79, 3) := by decide +kernel
theorem dX3_rowOf_17 : decode cX3_rowOf 17 = .ok (.ifCond .ne 11, 3) := by decide +kernel
theorem dX3_rowOf_20 : decode cX3_rowOf 20 = .ok (.iload 4, 2) := by decide +kernel
theorem dX3_rowOf_22 : decode cX3_rowOf 22 = .ok (.i2l, 1) := by decide +kernel
theorem dX3_rowOf_23 : decode cX3_rowOf 23 = .ok (.ldc2_w 134, 3) := by decide +kernel
theorem dX3_rowOf_26 : decode cX3_rowOf 26 = .ok (.lmul, 1) := by decide +kernel
theorem dX3_rowOf_27 : decode cX3_rowOf 27 = .ok (.lreturn, 1) := by decide +kernel
theorem dX3_rowOf_28 : decode cX3_rowOf 28 = .ok (.lconst 0, 1) := by decide +kernel
theorem dX3_rowOf_29 : decode cX3_rowOf 29 = .ok (.lstore 5, 2) := by decide +kernel
theorem dX3_rowOf_31 : decode cX3_rowOf 31 = .ok (.iconst 0, 1) := by decide +kernel
theorem dX3_rowOf_32 : decode cX3_rowOf 32 = .ok (.istore 7, 2) := by decide +kernel
theorem dX3_rowOf_34 : decode cX3_rowOf 34 = .ok (.iload 7, 2) := by decide +kernel
theorem dX3_rowOf_36 : decode cX3_rowOf 36 = .ok (.aload_n 1, 1) := by decide +kernel
theorem dX3_rowOf_37 : decode cX3_rowOf 37 = .ok (.getfield 124, 3) := by decide +kernel
theorem dX3_rowOf_40 : decode cX3_rowOf 40 = .ok (.if_icmp .ge 30, 3) := by decide +kernel
theorem dX3_rowOf_43 : decode cX3_rowOf 43 = .ok (.lload 5, 2) := by decide +kernel
theorem dX3_rowOf_45 : decode cX3_rowOf 45 = .ok (.aload_n 2, 1) := by decide +kernel
theorem dX3_rowOf_46 : decode cX3_rowOf 46 = .ok (.aload_n 0, 1) := by decide +kernel
theorem dX3_rowOf_47 : decode cX3_rowOf 47 = .ok (.iload_n 3, 1) := by decide +kernel
theorem dX3_rowOf_48 : decode cX3_rowOf 48 = .ok (.iload 7, 2) := by decide +kernel
theorem dX3_rowOf_50 : decode cX3_rowOf 50 = .ok (.iload 4, 2) := by decide +kernel
theorem dX3_rowOf_52 : decode cX3_rowOf 52 = .ok (.invokevirtual 144, 3) := by decide +kernel
theorem dX3_rowOf_55 : decode cX3_rowOf 55 = .ok (.i2l, 1) := by decide +kernel
theorem dX3_rowOf_56 : decode cX3_rowOf 56 = .ok (.iconst 4, 1) := by decide +kernel
theorem dX3_rowOf_57 : decode cX3_rowOf 57 = .ok (.iload 7, 2) := by decide +kernel
theorem dX3_rowOf_59 : decode cX3_rowOf 59 = .ok (.imul, 1) := by decide +kernel
theorem dX3_rowOf_60 : decode cX3_rowOf 60 = .ok (.lshl, 1) := by decide +kernel
theorem dX3_rowOf_61 : decode cX3_rowOf 61 = .ok (.lor, 1) := by decide +kernel
theorem dX3_rowOf_62 : decode cX3_rowOf 62 = .ok (.lstore 5, 2) := by decide +kernel
theorem dX3_rowOf_64 : decode cX3_rowOf 64 = .ok (.iinc 7 1, 3) := by decide +kernel
theorem dX3_rowOf_67 : decode cX3_rowOf 67 = .ok (.goto (-33), 3) := by decide +kernel
theorem dX3_rowOf_70 : decode cX3_rowOf 70 = .ok (.lload 5, 2) := by decide +kernel
theorem dX3_rowOf_72 : decode cX3_rowOf 72 = .ok (.lreturn, 1) := by decide +kernel
theorem dX3_saidLetter_0 : decode cX3_saidLetter 0 = .ok (.iload_n 1, 1) := by decide +kernel
theorem dX3_saidLetter_1 : decode cX3_saidLetter 1 = .ok (.iload_n 2, 1) := by decide +kernel
theorem dX3_saidLetter_2 : decode cX3_saidLetter 2 = .ok (.iload_n 3, 1) := by decide +kernel
theorem dX3_saidLetter_3 : decode cX3_saidLetter 3 = .ok (.iload 4, 2) := by decide +kernel
theorem dX3_saidLetter_5 : decode cX3_saidLetter 5 = .ok (.invokestatic 75, 3) := by decide +kernel
theorem dX3_saidLetter_8 : decode cX3_saidLetter 8 = .ok (.istore 5, 2) := by decide +kernel
theorem dX3_saidLetter_10 : decode cX3_saidLetter 10 = .ok (.aload_n 0, 1) := by decide +kernel
theorem dX3_saidLetter_11 : decode cX3_saidLetter 11 = .ok (.getfield 59, 3) := by decide +kernel
theorem dX3_saidLetter_14 : decode cX3_saidLetter 14 = .ok (.iconst 1, 1) := by decide +kernel
theorem dX3_saidLetter_15 : decode cX3_saidLetter 15 = .ok (.isub, 1) := by decide +kernel
theorem dX3_saidLetter_16 : decode cX3_saidLetter 16 = .ok (.istore 6, 2) := by decide +kernel
theorem dX3_saidLetter_18 : decode cX3_saidLetter 18 = .ok (.iload 6, 2) := by decide +kernel
theorem dX3_saidLetter_20 : decode cX3_saidLetter 20 = .ok (.ifCond .lt 33, 3) := by decide +kernel
theorem dX3_saidLetter_23 : decode cX3_saidLetter 23 = .ok (.aload_n 0, 1) := by decide +kernel
theorem dX3_saidLetter_24 : decode cX3_saidLetter 24 = .ok (.getfield 9, 3) := by decide +kernel
theorem dX3_saidLetter_27 : decode cX3_saidLetter 27 = .ok (.iload 6, 2) := by decide +kernel
theorem dX3_saidLetter_29 : decode cX3_saidLetter 29 = .ok (.iaload, 1) := by decide +kernel
theorem dX3_saidLetter_30 : decode cX3_saidLetter 30 = .ok (.iconst 3, 1) := by decide +kernel
theorem dX3_saidLetter_31 : decode cX3_saidLetter 31 = .ok (.idiv, 1) := by decide +kernel
theorem dX3_saidLetter_32 : decode cX3_saidLetter 32 = .ok (.iload 5, 2) := by decide +kernel
theorem dX3_saidLetter_34 : decode cX3_saidLetter 34 = .ok (.if_icmp .ne 13, 3) := by decide +kernel
theorem dX3_saidLetter_37 : decode cX3_saidLetter 37 = .ok (.aload_n 0, 1) := by decide +kernel
theorem dX3_saidLetter_38 : decode cX3_saidLetter 38 = .ok (.getfield 9, 3) := by decide +kernel
theorem dX3_saidLetter_41 : decode cX3_saidLetter 41 = .ok (.iload 6, 2) := by decide +kernel
theorem dX3_saidLetter_43 : decode cX3_saidLetter 43 = .ok (.iaload, 1) := by decide +kernel
theorem dX3_saidLetter_44 : decode cX3_saidLetter 44 = .ok (.iconst 3, 1) := by decide +kernel
theorem dX3_saidLetter_45 : decode cX3_saidLetter 45 = .ok (.irem, 1) := by decide +kernel
theorem dX3_saidLetter_46 : decode cX3_saidLetter 46 = .ok (.ireturn, 1) := by decide +kernel
theorem dX3_saidLetter_47 : decode cX3_saidLetter 47 = .ok (.iinc 6 (-1), 3) := by decide +kernel
theorem dX3_saidLetter_50 : decode cX3_saidLetter 50 = .ok (.goto (-32), 3) := by decide +kernel
theorem dX3_saidLetter_53 : decode cX3_saidLetter 53 = .ok (.iconst (-1), 1) := by decide +kernel
theorem dX3_saidLetter_54 : decode cX3_saidLetter 54 = .ok (.ireturn, 1) := by decide +kernel
theorem dX3_send_0 : decode cX3_send 0 = .ok (.aload_n 2, 1) := by decide +kernel
theorem dX3_send_1 : decode cX3_send 1 = .ok (.getfield 98, 3) := by decide +kernel
theorem dX3_send_4 : decode cX3_send 4 = .ok (.iconst 3, 1) := by decide +kernel
theorem dX3_send_5 : decode cX3_send 5 = .ok (.imul, 1) := by decide +kernel
theorem dX3_send_6 : decode cX3_send 6 = .ok (.aload_n 2, 1) := by decide +kernel
theorem dX3_send_7 : decode cX3_send 7 = .ok (.getfield 106, 3) := by decide +kernel
theorem dX3_send_10 : decode cX3_send 10 = .ok (.iadd, 1) := by decide +kernel
theorem dX3_send_11 : decode cX3_send 11 = .ok (.istore 5, 2) := by decide +kernel
theorem dX3_send_13 : decode cX3_send 13 = .ok (.aload_n 0, 1) := by decide +kernel
theorem dX3_send_14 : decode cX3_send 14 = .ok (.getfield 19, 3) := by decide +kernel
theorem dX3_send_17 : decode cX3_send 17 = .ok (.iload 5, 2) := by decide +kernel
theorem dX3_send_19 : decode cX3_send 19 = .ok (.lconst 0, 1) := by decide +kernel
theorem dX3_send_20 : decode cX3_send 20 = .ok (.lastore, 1) := by decide +kernel
theorem dX3_send_21 : decode cX3_send 21 = .ok (.aload_n 0, 1) := by decide +kernel
theorem dX3_send_22 : decode cX3_send 22 = .ok (.getfield 22, 3) := by decide +kernel
theorem dX3_send_25 : decode cX3_send 25 = .ok (.iload 5, 2) := by decide +kernel
theorem dX3_send_27 : decode cX3_send 27 = .ok (.lconst 0, 1) := by decide +kernel
theorem dX3_send_28 : decode cX3_send 28 = .ok (.lastore, 1) := by decide +kernel
theorem dX3_send_29 : decode cX3_send 29 = .ok (.iload_n 3, 1) := by decide +kernel
theorem dX3_send_30 : decode cX3_send 30 = .ok (.istore 6, 2) := by decide +kernel
theorem dX3_send_32 : decode cX3_send 32 = .ok (.iload 6, 2) := by decide +kernel
theorem dX3_send_34 : decode cX3_send 34 = .ok (.iload 4, 2) := by decide +kernel
theorem dX3_send_36 : decode cX3_send 36 = .ok (.if_icmp .gt 119, 3) := by decide +kernel
theorem dX3_send_39 : decode cX3_send 39 = .ok (.aload_n 0, 1) := by decide +kernel
theorem dX3_send_40 : decode cX3_send 40 = .ok (.aload_n 1, 1) := by decide +kernel
theorem dX3_send_41 : decode cX3_send 41 = .ok (.aload_n 2, 1) := by decide +kernel
theorem dX3_send_42 : decode cX3_send 42 = .ok (.iload 6, 2) := by decide +kernel
theorem dX3_send_44 : decode cX3_send 44 = .ok (.invokevirtual 130, 3) := by decide +kernel
theorem dX3_send_47 : decode cX3_send 47 = .ok (.lstore 7, 2) := by decide +kernel
theorem dX3_send_49 : decode cX3_send 49 = .ok (.aload_n 0, 1) := by decide +kernel
theorem dX3_send_50 : decode cX3_send 50 = .ok (.getfield 15, 3) := by decide +kernel
theorem dX3_send_53 : decode cX3_send 53 = .ok (.iload 5, 2) := by decide +kernel
theorem dX3_send_55 : decode cX3_send 55 = .ok (.bipush 9, 2) := by decide +kernel
theorem dX3_send_57 : decode cX3_send 57 = .ok (.imul, 1) := by decide +kernel
theorem dX3_send_58 : decode cX3_send 58 = .ok (.iload 6, 2) := by decide +kernel
theorem dX3_send_60 : decode cX3_send 60 = .ok (.iadd, 1) := by decide +kernel
theorem dX3_send_61 : decode cX3_send 61 = .ok (.lload 7, 2) := by decide +kernel
theorem dX3_send_63 : decode cX3_send 63 = .ok (.lastore, 1) := by decide +kernel
theorem dX3_send_64 : decode cX3_send 64 = .ok (.aload_n 0, 1) := by decide +kernel
theorem dX3_send_65 : decode cX3_send 65 = .ok (.getfield 19, 3) := by decide +kernel
theorem dX3_send_68 : decode cX3_send 68 = .ok (.iload 5, 2) := by decide +kernel
theorem dX3_send_70 : decode cX3_send 70 = .ok (.dup2, 1) := by decide +kernel
theorem dX3_send_71 : decode cX3_send 71 = .ok (.laload, 1) := by decide +kernel
theorem dX3_send_72 : decode cX3_send 72 = .ok (.lload 7, 2) := by decide +kernel
theorem dX3_send_74 : decode cX3_send 74 = .ok (.ldc2_w 134, 3) := by decide +kernel
theorem dX3_send_77 : decode cX3_send 77 = .ok (.land, 1) := by decide +kernel
theorem dX3_send_78 : decode cX3_send 78 = .ok (.ladd, 1) := by decide +kernel
theorem dX3_send_79 : decode cX3_send 79 = .ok (.lastore, 1) := by decide +kernel
theorem dX3_send_80 : decode cX3_send 80 = .ok (.aload_n 0, 1) := by decide +kernel
theorem dX3_send_81 : decode cX3_send 81 = .ok (.getfield 22, 3) := by decide +kernel
theorem dX3_send_84 : decode cX3_send 84 = .ok (.iload 5, 2) := by decide +kernel
theorem dX3_send_86 : decode cX3_send 86 = .ok (.dup2, 1) := by decide +kernel
theorem dX3_send_87 : decode cX3_send 87 = .ok (.laload, 1) := by decide +kernel
theorem dX3_send_88 : decode cX3_send 88 = .ok (.lload 7, 2) := by decide +kernel
theorem dX3_send_90 : decode cX3_send 90 = .ok (.iconst 1, 1) := by decide +kernel
theorem dX3_send_91 : decode cX3_send 91 = .ok (.lushr, 1) := by decide +kernel
theorem dX3_send_92 : decode cX3_send 92 = .ok (.ldc2_w 134, 3) := by decide +kernel
theorem dX3_send_95 : decode cX3_send 95 = .ok (.land, 1) := by decide +kernel
theorem dX3_send_96 : decode cX3_send 96 = .ok (.ladd, 1) := by decide +kernel
theorem dX3_send_97 : decode cX3_send 97 = .ok (.lastore, 1) := by decide +kernel
theorem dX3_send_98 : decode cX3_send 98 = .ok (.lload 7, 2) := by decide +kernel
theorem dX3_send_100 : decode cX3_send 100 = .ok (.aload_n 1, 1) := by decide +kernel
theorem dX3_send_101 : decode cX3_send 101 = .ok (.getfield 124, 3) := by decide +kernel
theorem dX3_send_104 : decode cX3_send 104 = .ok (.iload 6, 2) := by decide +kernel
theorem dX3_send_106 : decode cX3_send 106 = .ok (.invokestatic 136, 3) := by decide +kernel
theorem dX3_send_109 : decode cX3_send 109 = .ok (.istore 9, 2) := by decide +kernel
theorem dX3_send_111 : decode cX3_send 111 = .ok (.aload_n 0, 1) := by decide +kernel
theorem dX3_send_112 : decode cX3_send 112 = .ok (.dup, 1) := by decide +kernel
theorem dX3_send_113 : decode cX3_send 113 = .ok (.getfield 53, 3) := by decide +kernel
theorem dX3_send_116 : decode cX3_send 116 = .ok (.iload 9, 2) := by decide +kernel
theorem dX3_send_118 : decode cX3_send 118 = .ok (.iadd, 1) := by decide +kernel
theorem dX3_send_119 : decode cX3_send 119 = .ok (.putfield 53, 3) := by decide +kernel
theorem dX3_send_122 : decode cX3_send 122 = .ok (.aload_n 0, 1) := by decide +kernel
theorem dX3_send_123 : decode cX3_send 123 = .ok (.dup, 1) := by decide +kernel
theorem dX3_send_124 : decode cX3_send 124 = .ok (.getfield 56, 3) := by decide +kernel
theorem dX3_send_127 : decode cX3_send 127 = .ok (.aload_n 0, 1) := by decide +kernel
theorem dX3_send_128 : decode cX3_send 128 = .ok (.getfield 44, 3) := by decide +kernel
theorem dX3_send_131 : decode cX3_send 131 = .ok (.iload 6, 2) := by decide +kernel
theorem dX3_send_133 : decode cX3_send 133 = .ok (.invokestatic 79, 3) := by decide +kernel
theorem dX3_send_136 : decode cX3_send 136 = .ok (.ifCond .ne 8, 3) := by decide +kernel
theorem dX3_send_139 : decode cX3_send 139 = .ok (.iload 9, 2) := by decide +kernel
theorem dX3_send_141 : decode cX3_send 141 = .ok (.goto 4, 3) := by decide +kernel
theorem dX3_send_144 : decode cX3_send 144 = .ok (.iconst 0, 1) := by decide +kernel
theorem dX3_send_145 : decode cX3_send 145 = .ok (.iadd, 1) := by decide +kernel
theorem dX3_send_146 : decode cX3_send 146 = .ok (.putfield 56, 3) := by decide +kernel
theorem dX3_send_149 : decode cX3_send 149 = .ok (.iinc 6 1, 3) := by decide +kernel
theorem dX3_send_152 : decode cX3_send 152 = .ok (.goto (-120), 3) := by decide +kernel
theorem dX3_send_155 : decode cX3_send 155 = .ok (.return_, 1) := by decide +kernel
theorem dX3_suspectedBy_0 : decode cX3_suspectedBy 0 = .ok (.iconst 0, 1) := by decide +kernel
theorem dX3_suspectedBy_1 : decode cX3_suspectedBy 1 = .ok (.istore_n 2, 1) := by decide +kernel
theorem dX3_suspectedBy_2 : decode cX3_suspectedBy 2 = .ok (.iconst 0, 1) := by decide +kernel
theorem dX3_suspectedBy_3 : decode cX3_suspectedBy 3 = .ok (.istore_n 3, 1) := by decide +kernel
theorem dX3_suspectedBy_4 : decode cX3_suspectedBy 4 = .ok (.iload_n 3, 1) := by decide +kernel
theorem dX3_suspectedBy_5 : decode cX3_suspectedBy 5 = .ok (.bipush 6, 2) := by decide +kernel
theorem dX3_suspectedBy_7 : decode cX3_suspectedBy 7 = .ok (.if_icmp .ge 23, 3) := by decide +kernel
theorem dX3_suspectedBy_10 : decode cX3_suspectedBy 10 = .ok (.iload_n 2, 1) := by decide +kernel
theorem dX3_suspectedBy_11 : decode cX3_suspectedBy 11 = .ok (.aload_n 0, 1) := by decide +kernel
theorem dX3_suspectedBy_12 : decode cX3_suspectedBy 12 = .ok (.iload_n 3, 1) := by decide +kernel
theorem dX3_suspectedBy_13 : decode cX3_suspectedBy 13 = .ok (.invokevirtual 190, 3) := by decide +kernel
theorem dX3_suspectedBy_16 : decode cX3_suspectedBy 16 = .ok (.iload_n 1, 1) := by decide +kernel
theorem dX3_suspectedBy_17 : decode cX3_suspectedBy 17 = .ok (.invokestatic 79, 3) := by decide +kernel
theorem dX3_suspectedBy_20 : decode cX3_suspectedBy 20 = .ok (.iload_n 3, 1) := by decide +kernel
theorem dX3_suspectedBy_21 : decode cX3_suspectedBy 21 = .ok (.ishl, 1) := by decide +kernel
theorem dX3_suspectedBy_22 : decode cX3_suspectedBy 22 = .ok (.ior, 1) := by decide +kernel
theorem dX3_suspectedBy_23 : decode cX3_suspectedBy 23 = .ok (.istore_n 2, 1) := by decide +kernel
theorem dX3_suspectedBy_24 : decode cX3_suspectedBy 24 = .ok (.iinc 3 1, 3) := by decide +kernel
theorem dX3_suspectedBy_27 : decode cX3_suspectedBy 27 = .ok (.goto (-23), 3) := by decide +kernel
theorem dX3_suspectedBy_30 : decode cX3_suspectedBy 30 = .ok (.iload_n 2, 1) := by decide +kernel
theorem dX3_suspectedBy_31 : decode cX3_suspectedBy 31 = .ok (.ireturn, 1) := by decide +kernel
theorem dX3_takeView_0 : decode cX3_takeView 0 = .ok (.iload 4, 2) := by decide +kernel
theorem dX3_takeView_2 : decode cX3_takeView 2 = .ok (.iconst 4, 1) := by decide +kernel
theorem dX3_takeView_3 : decode cX3_takeView 3 = .ok (.irem, 1) := by decide +kernel
theorem dX3_takeView_4 : decode cX3_takeView 4 = .ok (.istore 5, 2) := by decide +kernel
theorem dX3_takeView_6 : decode cX3_takeView 6 = .ok (.aload_n 0, 1) := by decide +kernel
theorem dX3_takeView_7 : decode cX3_takeView 7 = .ok (.getfield 31, 3) := by decide +kernel
theorem dX3_takeView_10 : decode cX3_takeView 10 = .ok (.iload_n 2, 1) := by decide +kernel
theorem dX3_takeView_11 : decode cX3_takeView 11 = .ok (.dup2, 1) := by decide +kernel
theorem dX3_takeView_12 : decode cX3_takeView 12 = .ok (.iaload, 1) := by decide +kernel
theorem dX3_takeView_13 : decode cX3_takeView 13 = .ok (.iload 4, 2) := by decide +kernel
theorem dX3_takeView_15 : decode cX3_takeView 15 = .ok (.iconst 4, 1) := by decide +kernel
theorem dX3_takeView_16 : decode cX3_takeView 16 = .ok (.idiv, 1) := by decide +kernel
theorem dX3_takeView_17 : decode cX3_takeView 17 = .ok (.iload_n 3, 1) := by decide +kernel
theorem dX3_takeView_18 : decode cX3_takeView 18 = .ok (.ishl, 1) := by decide +kernel
theorem dX3_takeView_19 : decode cX3_takeView 19 = .ok (.ior, 1) := by decide +kernel
theorem dX3_takeView_20 : decode cX3_takeView 20 = .ok (.iastore, 1) := by decide +kernel
theorem dX3_takeView_21 : decode cX3_takeView 21 = .ok (.aload_n 1, 1) := by decide +kernel
theorem dX3_takeView_22 : decode cX3_takeView 22 = .ok (.getfield 148, 3) := by decide +kernel
theorem dX3_takeView_25 : decode cX3_takeView 25 = .ok (.iconst 1, 1) := by decide +kernel
theorem dX3_takeView_26 : decode cX3_takeView 26 = .ok (.if_icmp .ne 22, 3) := by decide +kernel
theorem dX3_takeView_29 : decode cX3_takeView 29 = .ok (.aload_n 0, 1) := by decide +kernel
theorem dX3_takeView_30 : decode cX3_takeView 30 = .ok (.getfield 25, 3) := by decide +kernel
theorem dX3_takeView_33 : decode cX3_takeView 33 = .ok (.iload_n 2, 1) := by decide +kernel
theorem dX3_takeView_34 : decode cX3_takeView 34 = .ok (.dup2, 1) := by decide +kernel
theorem dX3_takeView_35 : decode cX3_takeView 35 = .ok (.laload, 1) := by decide +kernel
theorem dX3_takeView_36 : decode cX3_takeView 36 = .ok (.iload 5, 2) := by decide +kernel
theorem dX3_takeView_38 : decode cX3_takeView 38 = .ok (.i2l, 1) := by decide +kernel
theorem dX3_takeView_39 : decode cX3_takeView 39 = .ok (.iconst 4, 1) := by decide +kernel
theorem dX3_takeView_40 : decode cX3_takeView 40 = .ok (.iload_n 3, 1) := by decide +kernel
theorem dX3_takeView_41 : decode cX3_takeView 41 = .ok (.imul, 1) := by decide +kernel
theorem dX3_takeView_42 : decode cX3_takeView 42 = .ok (.lshl, 1) := by decide +kernel
theorem dX3_takeView_43 : decode cX3_takeView 43 = .ok (.lor, 1) := by decide +kernel
theorem dX3_takeView_44 : decode cX3_takeView 44 = .ok (.lastore, 1) := by decide +kernel
theorem dX3_takeView_45 : decode cX3_takeView 45 = .ok (.goto 28, 3) := by decide +kernel
theorem dX3_takeView_48 : decode cX3_takeView 48 = .ok (.iload 5, 2) := by decide +kernel
theorem dX3_takeView_50 : decode cX3_takeView 50 = .ok (.iconst 2, 1) := by decide +kernel
theorem dX3_takeView_51 : decode cX3_takeView 51 = .ok (.if_icmp .eq 22, 3) := by decide +kernel
theorem dX3_takeView_54 : decode cX3_takeView 54 = .ok (.aload_n 0, 1) := by decide +kernel
theorem dX3_takeView_55 : decode cX3_takeView 55 = .ok (.aload_n 0, 1) := by decide +kernel
theorem dX3_takeView_56 : decode cX3_takeView 56 = .ok (.getfield 50, 3) := by decide +kernel
theorem dX3_takeView_59 : decode cX3_takeView 59 = .ok (.iconst 1, 1) := by decide +kernel
theorem dX3_takeView_60 : decode cX3_takeView 60 = .ok (.iload_n 3, 1) := by decide +kernel
theorem dX3_takeView_61 : decode cX3_takeView 61 = .ok (.ishl, 1) := by decide +kernel
theorem dX3_takeView_62 : decode cX3_takeView 62 = .ok (.iconst (-1), 1) := by decide +kernel
theorem dX3_takeView_63 : decode cX3_takeView 63 = .ok (.ixor, 1) := by decide +kernel
theorem dX3_takeView_64 : decode cX3_takeView 64 = .ok (.iand, 1) := by decide +kernel
theorem dX3_takeView_65 : decode cX3_takeView 65 = .ok (.iload 5, 2) := by decide +kernel
theorem dX3_takeView_67 : decode cX3_takeView 67 = .ok (.iload_n 3, 1) := by decide +kernel
theorem dX3_takeView_68 : decode cX3_takeView 68 = .ok (.ishl, 1) := by decide +kernel
theorem dX3_takeView_69 : decode cX3_takeView 69 = .ok (.ior, 1) := by decide +kernel
theorem dX3_takeView_70 : decode cX3_takeView 70 = .ok (.putfield 50, 3) := by decide +kernel
theorem dX3_takeView_73 : decode cX3_takeView 73 = .ok (.return_, 1) := by decide +kernel
theorem dX3_trueLetter_0 : decode cX3_trueLetter 0 = .ok (.aload_n 2, 1) := by decide +kernel
theorem dX3_trueLetter_1 : decode cX3_trueLetter 1 = .ok (.getfield 106, 3) := by decide +kernel
theorem dX3_trueLetter_4 : decode cX3_trueLetter 4 = .ok (.ifCond .eq 18, 3) := by decide +kernel
theorem dX3_trueLetter_7 : decode cX3_trueLetter 7 = .ok (.aload_n 1, 1) := by decide +kernel
theorem dX3_trueLetter_8 : decode cX3_trueLetter 8 = .ok (.getfield 148, 3) := by decide +kernel
theorem dX3_trueLetter_11 : decode cX3_trueLetter 11 = .ok (.ifCond .ne 15, 3) := by decide +kernel
theorem dX3_trueLetter_14 : decode cX3_trueLetter 14 = .ok (.aload_n 2, 1) := by decide +kernel
theorem dX3_trueLetter_15 : decode cX3_trueLetter 15 = .ok (.getfield 106, 3) := by decide +kernel
theorem dX3_trueLetter_18 : decode cX3_trueLetter 18 = .ok (.iconst 2, 1) := by decide +kernel
theorem dX3_trueLetter_19 : decode cX3_trueLetter 19 = .ok (.if_icmp .ne 7, 3) := by decide +kernel
theorem dX3_trueLetter_22 : decode cX3_trueLetter 22 = .ok (.iconst 1, 1) := by decide +kernel
theorem dX3_trueLetter_23 : decode cX3_trueLetter 23 = .ok (.goto 4, 3) := by decide +kernel
theorem dX3_trueLetter_26 : decode cX3_trueLetter 26 = .ok (.iconst 0, 1) := by decide +kernel
theorem dX3_trueLetter_27 : decode cX3_trueLetter 27 = .ok (.istore 4, 2) := by decide +kernel
theorem dX3_trueLetter_29 : decode cX3_trueLetter 29 = .ok (.iload 4, 2) := by decide +kernel
theorem dX3_trueLetter_31 : decode cX3_trueLetter 31 = .ok (.ifCond .eq 14, 3) := by decide +kernel
theorem dX3_trueLetter_34 : decode cX3_trueLetter 34 = .ok (.aload_n 0, 1) := by decide +kernel
theorem dX3_trueLetter_35 : decode cX3_trueLetter 35 = .ok (.getfield 50, 3) := by decide +kernel
theorem dX3_trueLetter_38 : decode cX3_trueLetter 38 = .ok (.iload_n 3, 1) := by decide +kernel
theorem dX3_trueLetter_39 : decode cX3_trueLetter 39 = .ok (.invokestatic 79, 3) := by decide +kernel
theorem dX3_trueLetter_42 : decode cX3_trueLetter 42 = .ok (.goto 16, 3) := by decide +kernel
theorem dX3_trueLetter_45 : decode cX3_trueLetter 45 = .ok (.aload_n 0, 1) := by decide +kernel
theorem dX3_trueLetter_46 : decode cX3_trueLetter 46 = .ok (.getfield 25, 3) := by decide +kernel
theorem dX3_trueLetter_49 : decode cX3_trueLetter 49 = .ok (.aload_n 2, 1) := by decide +kernel
theorem dX3_trueLetter_50 : decode cX3_trueLetter 50 = .ok (.getfield 98, 3) := by decide +kernel
theorem dX3_trueLetter_53 : decode cX3_trueLetter 53 = .ok (.laload, 1) := by decide +kernel
theorem dX3_trueLetter_54 : decode cX3_trueLetter 54 = .ok (.iload_n 3, 1) := by decide +kernel
theorem dX3_trueLetter_55 : decode cX3_trueLetter 55 = .ok (.invokestatic 151, 3) := by decide +kernel
theorem dX3_trueLetter_58 : decode cX3_trueLetter 58 = .ok (.ireturn, 1) := by decide +kernel
theorem dX3_trues_0 : decode cX3_trues 0 = .ok (.aload_n 1, 1) := by decide +kernel
theorem dX3_trues_1 : decode cX3_trues 1 = .ok (.invokevirtual 193, 3) := by decide +kernel
theorem dX3_trues_4 : decode cX3_trues 4 = .ok (.aload_n 0, 1) := by decide +kernel
theorem dX3_trues_5 : decode cX3_trues 5 = .ok (.getfield 44, 3) := by decide +kernel
theorem dX3_trues_8 : decode cX3_trues 8 = .ok (.iconst (-1), 1) := by decide +kernel
theorem dX3_trues_9 : decode cX3_trues 9 = .ok (.ixor, 1) := by decide +kernel
theorem dX3_trues_10 : decode cX3_trues 10 = .ok (.iand, 1) := by decide +kernel
theorem dX3_trues_11 : decode cX3_trues 11 = .ok (.ireturn, 1) := by decide +kernel
theorem dX3_waryOf_0 : decode cX3_waryOf 0 = .ok (.aload_n 0, 1) := by decide +kernel
theorem dX3_waryOf_1 : decode cX3_waryOf 1 = .ok (.getfield 62, 3) := by decide +kernel
theorem dX3_waryOf_4 : decode cX3_waryOf 4 = .ok (.iload_n 1, 1) := by decide +kernel
theorem dX3_waryOf_5 : decode cX3_waryOf 5 = .ok (.bipush 9, 2) := by decide +kernel
theorem dX3_waryOf_7 : decode cX3_waryOf 7 = .ok (.imul, 1) := by decide +kernel
theorem dX3_waryOf_8 : decode cX3_waryOf 8 = .ok (.lushr, 1) := by decide +kernel
theorem dX3_waryOf_9 : decode cX3_waryOf 9 = .ok (.l2i, 1) := by decide +kernel
theorem dX3_waryOf_10 : decode cX3_waryOf 10 = .ok (.sipush 511, 3) := by decide +kernel
theorem dX3_waryOf_13 : decode cX3_waryOf 13 = .ok (.iand, 1) := by decide +kernel
theorem dX3_waryOf_14 : decode cX3_waryOf 14 = .ok (.ireturn, 1) := by decide +kernel
theorem dX3_zerosHeard_0 : decode cX3_zerosHeard 0 = .ok (.aload_n 1, 1) := by decide +kernel
theorem dX3_zerosHeard_1 : decode cX3_zerosHeard 1 = .ok (.getfield 124, 3) := by decide +kernel
theorem dX3_zerosHeard_4 : decode cX3_zerosHeard 4 = .ok (.aload_n 0, 1) := by decide +kernel
theorem dX3_zerosHeard_5 : decode cX3_zerosHeard 5 = .ok (.iload_n 2, 1) := by decide +kernel
theorem dX3_zerosHeard_6 : decode cX3_zerosHeard 6 = .ok (.iload_n 3, 1) := by decide +kernel
theorem dX3_zerosHeard_7 : decode cX3_zerosHeard 7 = .ok (.iload 4, 2) := by decide +kernel
theorem dX3_zerosHeard_9 : decode cX3_zerosHeard 9 = .ok (.invokevirtual 169, 3) := by decide +kernel
theorem dX3_zerosHeard_12 : decode cX3_zerosHeard 12 = .ok (.isub, 1) := by decide +kernel
theorem dX3_zerosHeard_13 : decode cX3_zerosHeard 13 = .ok (.aload_n 0, 1) := by decide +kernel
theorem dX3_zerosHeard_14 : decode cX3_zerosHeard 14 = .ok (.getfield 22, 3) := by decide +kernel
theorem dX3_zerosHeard_17 : decode cX3_zerosHeard 17 = .ok (.iload_n 2, 1) := by decide +kernel
theorem dX3_zerosHeard_18 : decode cX3_zerosHeard 18 = .ok (.iconst 3, 1) := by decide +kernel
theorem dX3_zerosHeard_19 : decode cX3_zerosHeard 19 = .ok (.imul, 1) := by decide +kernel
theorem dX3_zerosHeard_20 : decode cX3_zerosHeard 20 = .ok (.iload_n 3, 1) := by decide +kernel
theorem dX3_zerosHeard_21 : decode cX3_zerosHeard 21 = .ok (.iadd, 1) := by decide +kernel
theorem dX3_zerosHeard_22 : decode cX3_zerosHeard 22 = .ok (.laload, 1) := by decide +kernel
theorem dX3_zerosHeard_23 : decode cX3_zerosHeard 23 = .ok (.iload 4, 2) := by decide +kernel
theorem dX3_zerosHeard_25 : decode cX3_zerosHeard 25 = .ok (.invokestatic 151, 3) := by decide +kernel
theorem dX3_zerosHeard_28 : decode cX3_zerosHeard 28 = .ok (.isub, 1) := by decide +kernel
theorem dX3_zerosHeard_29 : decode cX3_zerosHeard 29 = .ok (.ireturn, 1) := by decide +kernel
theorem dX4_choose_0 : decode cX4_choose 0 = .ok (.aload_n 1, 1) := by decide +kernel
theorem dX4_choose_1 : decode cX4_choose 1 = .ok (.getfield 7, 3) := by decide +kernel
theorem dX4_choose_4 : decode cX4_choose 4 = .ok (.iload_n 3, 1) := by decide +kernel
theorem dX4_choose_5 : decode cX4_choose 5 = .ok (.invokestatic 13, 3) := by decide +kernel
theorem dX4_choose_8 : decode cX4_choose 8 = .ok (.iconst 1, 1) := by decide +kernel
theorem dX4_choose_9 : decode cX4_choose 9 = .ok (.if_icmp .ne 6, 3) := by decide +kernel
theorem dX4_choose_12 : decode cX4_choose 12 = .ok (.iload 4, 2) := by decide +kernel
theorem dX4_choose_14 : decode cX4_choose 14 = .ok (.ireturn, 1) := by decide +kernel
theorem dX4_choose_15 : decode cX4_choose 15 = .ok (.aload_n 0, 1) := by decide +kernel
theorem dX4_choose_16 : decode cX4_choose 16 = .ok (.getfield 19, 3) := by decide +kernel
theorem dX4_choose_19 : decode cX4_choose 19 = .ok (.aload_n 0, 1) := by decide +kernel
theorem dX4_choose_20 : decode cX4_choose 20 = .ok (.getfield 24, 3) := by decide +kernel
theorem dX4_choose_23 : decode cX4_choose 23 = .ok (.invokestatic 13, 3) := by decide +kernel
theorem dX4_choose_26 : decode cX4_choose 26 = .ok (.istore 5, 2) := by decide +kernel
theorem dX4_choose_28 : decode cX4_choose 28 = .ok (.aload_n 0, 1) := by decide +kernel
theorem dX4_choose_29 : decode cX4_choose 29 = .ok (.dup, 1) := by decide +kernel
theorem dX4_choose_30 : decode cX4_choose 30 = .ok (.getfield 24, 3) := by decide +kernel
theorem dX4_choose_33 : decode cX4_choose 33 = .ok (.iconst 1, 1) := by decide +kernel
theorem dX4_choose_34 : decode cX4_choose 34 = .ok (.iadd, 1) := by decide +kernel
theorem dX4_choose_35 : decode cX4_choose 35 = .ok (.putfield 24, 3) := by decide +kernel
theorem dX4_choose_38 : decode cX4_choose 38 = .ok (.iload 5, 2) := by decide +kernel
theorem dX4_choose_40 : decode cX4_choose 40 = .ok (.ireturn, 1) := by decide +kernel
theorem dX4_init_0 : decode cX4_init 0 = .ok (.aload_n 0, 1) := by decide +kernel
theorem dX4_init_1 : decode cX4_init 1 = .ok (.invokespecial 1, 3) := by decide +kernel
theorem dX4_init_4 : decode cX4_init 4 = .ok (.return_, 1) := by decide +kernel
theorem dX5_actFor_0 : decode cX5_actFor 0 = .ok (.iconst 0, 1) := by decide +kernel
theorem dX5_actFor_1 : decode cX5_actFor 1 = .ok (.istore 5, 2) := by decide +kernel
theorem dX5_actFor_3 : decode cX5_actFor 3 = .ok (.iload 5, 2) := by decide +kernel
theorem dX5_actFor_5 : decode cX5_actFor 5 = .ok (.aload_n 0, 1) := by decide +kernel
theorem dX5_actFor_6 : decode cX5_actFor 6 = .ok (.getfield 21, 3) := by decide +kernel
theorem dX5_actFor_9 : decode cX5_actFor 9 = .ok (.if_icmp .ge 174, 3) := by decide +kernel
theorem dX5_actFor_12 : decode cX5_actFor 12 = .ok (.iload 5, 2) := by decide +kernel
theorem dX5_actFor_14 : decode cX5_actFor 14 = .ok (.iconst 5, 1) := by decide +kernel
theorem dX5_actFor_15 : decode cX5_actFor 15 = .ok (.imul, 1) := by decide +kernel
theorem dX5_actFor_16 : decode cX5_actFor 16 = .ok (.istore 6, 2) := by decide +kernel
theorem dX5_actFor_18 : decode cX5_actFor 18 = .ok (.aload_n 0, 1) := by decide +kernel
theorem dX5_actFor_19 : decode cX5_actFor 19 = .ok (.getfield 11, 3) := by decide +kernel
theorem dX5_actFor_22 : decode cX5_actFor 22 = .ok (.iload 6, 2) := by decide +kernel
theorem dX5_actFor_24 : decode cX5_actFor 24 = .ok (.iaload, 1) := by decide +kernel
theorem dX5_actFor_25 : decode cX5_actFor 25 = .ok (.iconst (-1), 1) := by decide +kernel
theorem dX5_actFor_26 : decode cX5_actFor 26 = .ok (.if_icmp .eq 14, 3) := by decide +kernel
theorem dX5_actFor_29 : decode cX5_actFor 29 = .ok (.aload_n 0, 1) := by decide +kernel
theorem dX5_actFor_30 : decode cX5_actFor 30 = .ok (.getfield 11, 3) := by decide +kernel
theorem dX5_actFor_33 : decode cX5_actFor 33 = .ok (.iload 6, 2) := by decide +kernel
theorem dX5_actFor_35 : decode cX5_actFor 35 = .ok (.iaload, 1) := by decide +kernel
theorem dX5_actFor_36 : decode cX5_actFor 36 = .ok (.iload_n 1, 1) := by decide +kernel
theorem dX5_actFor_37 : decode cX5_actFor 37 = .ok (.if_icmp .ne 7, 3) := by decide +kernel
theorem dX5_actFor_40 : decode cX5_actFor 40 = .ok (.iconst 1, 1) := by decide +kernel
theorem dX5_actFor_41 : decode cX5_actFor 41 = .ok (.goto 4, 3) := by decide +kernel
theorem dX5_actFor_44 : decode cX5_actFor 44 = .ok (.iconst 0, 1) := by decide +kernel
theorem dX5_actFor_45 : decode cX5_actFor 45 = .ok (.istore 7, 2) := by decide +kernel
theorem dX5_actFor_47 : decode cX5_actFor 47 = .ok (.iload 7, 2) := by decide +kernel
theorem dX5_actFor_49 : decode cX5_actFor 49 = .ok (.ifCond .eq 33, 3) := by decide +kernel
theorem dX5_actFor_52 : decode cX5_actFor 52 = .ok (.aload_n 0, 1) := by decide +kernel
theorem dX5_actFor_53 : decode cX5_actFor 53 = .ok (.getfield 11, 3) := by decide +kernel
theorem dX5_actFor_56 : decode cX5_actFor 56 = .ok (.iload 6, 2) := by decide +kernel
theorem dX5_actFor_58 : decode cX5_actFor 58 = .ok (.iconst 1, 1) := by decide +kernel
theorem dX5_actFor_59 : decode cX5_actFor 59 = .ok (.iadd, 1) := by decide +kernel
theorem dX5_actFor_60 : decode cX5_actFor 60 = .ok (.iaload, 1) := by decide +kernel
theorem dX5_actFor_61 : decode cX5_actFor 61 = .ok (.iconst (-1), 1) := by decide +kernel
theorem dX5_actFor_62 : decode cX5_actFor 62 = .ok (.if_icmp .eq 16, 3) := by decide +kernel
theorem dX5_actFor_65 : decode cX5_actFor 65 = .ok (.aload_n 0, 1) := by decide +kernel
theorem dX5_actFor_66 : decode cX5_actFor 66 = .ok (.getfield 11, 3) := by decide +kernel
theorem dX5_actFor_69 : decode cX5_actFor 69 = .ok (.iload 6, 2) := by decide +kernel
theorem dX5_actFor_71 : decode cX5_actFor 71 = .ok (.iconst 1, 1) := by decide +kernel
theorem dX5_actFor_72 : decode cX5_actFor 72 = .ok (.iadd, 1) := by decide +kernel
theorem dX5_actFor_73 : decode cX5_actFor 73 = .ok (.iaload, 1) := by decide +kernel
theorem dX5_actFor_74 : decode cX5_actFor 74 = .ok (.iload_n 2, 1) := by decide +kernel
theorem dX5_actFor_75 : decode cX5_actFor 75 = .ok (.if_icmp .ne 7, 3) := by decide +kernel
theorem dX5_actFor_78 : decode cX5_actFor 78 = .ok (.iconst 1, 1) := by decide +kernel
theorem dX5_actFor_79 : decode cX5_actFor 79 = .ok (.goto 4, 3) := by decide +kernel
theorem dX5_actFor_82 : decode cX5_actFor 82 = .ok (.iconst 0, 1) := by decide +kernel
theorem dX5_actFor_83 : decode cX5_actFor 83 = .ok (.istore 7, 2) := by decide +kernel
theorem dX5_actFor_85 : decode cX5_actFor 85 = .ok (.aload_n 0, 1) := by decide +kernel
theorem dX5_actFor_86 : decode cX5_actFor 86 = .ok (.getfield 11, 3) := by decide +kernel
theorem dX5_actFor_89 : decode cX5_actFor 89 = .ok (.iload 6, 2) := by decide +kernel
theorem dX5_actFor_91 : decode cX5_actFor 91 = .ok (.iconst 2, 1) := by decide +kernel
theorem dX5_actFor_92 : decode cX5_actFor 92 = .ok (.iadd, 1) := by decide +kernel
theorem dX5_actFor_93 : decode cX5_actFor 93 = .ok (.iaload, 1) := by decide +kernel
theorem dX5_actFor_94 : decode cX5_actFor 94 = .ok (.iconst (-1), 1) := by decide +kernel
theorem dX5_actFor_95 : decode cX5_actFor 95 = .ok (.if_icmp .eq 16, 3) := by decide +kernel
theorem dX5_actFor_98 : decode cX5_actFor 98 = .ok (.aload_n 0, 1) := by decide +kernel
theorem dX5_actFor_99 : decode cX5_actFor 99 = .ok (.getfield 11, 3) := by decide +kernel
theorem dX5_actFor_102 : decode cX5_actFor 102 = .ok (.iload 6, 2) := by decide +kernel
theorem dX5_actFor_104 : decode cX5_actFor 104 = .ok (.iconst 2, 1) := by decide +kernel
theorem dX5_actFor_105 : decode cX5_actFor 105 = .ok (.iadd, 1) := by decide +kernel
theorem dX5_actFor_106 : decode cX5_actFor 106 = .ok (.iaload, 1) := by decide +kernel
theorem dX5_actFor_107 : decode cX5_actFor 107 = .ok (.iload_n 3, 1) := by decide +kernel
theorem dX5_actFor_108 : decode cX5_actFor 108 = .ok (.if_icmp .ne 7, 3) := by decide +kernel
theorem dX5_actFor_111 : decode cX5_actFor 111 = .ok (.iconst 1, 1) := by decide +kernel
theorem dX5_actFor_112 : decode cX5_actFor 112 = .ok (.goto 4, 3) := by decide +kernel
theorem dX5_actFor_115 : decode cX5_actFor 115 = .ok (.iconst 0, 1) := by decide +kernel
theorem dX5_actFor_116 : decode cX5_actFor 116 = .ok (.istore 8, 2) := by decide +kernel
theorem dX5_actFor_118 : decode cX5_actFor 118 = .ok (.iload 8, 2) := by decide +kernel
theorem dX5_actFor_120 : decode cX5_actFor 120 = .ok (.ifCond .eq 34, 3) := by decide +kernel
theorem dX5_actFor_123 : decode cX5_actFor 123 = .ok (.aload_n 0, 1) := by decide +kernel
theorem dX5_actFor_124 : decode cX5_actFor 124 = .ok (.getfield 11, 3) := by decide +kernel
theorem dX5_actFor_127 : decode cX5_actFor 127 = .ok (.iload 6, 2) := by decide +kernel
theorem dX5_actFor_129 : decode cX5_actFor 129 = .ok (.iconst 3, 1) := by decide +kernel
theorem dX5_actFor_130 : decode cX5_actFor 130 = .ok (.iadd, 1) := by decide +kernel
theorem dX5_actFor_131 : decode cX5_actFor 131 = .ok (.iaload, 1) := by decide +kernel
theorem dX5_actFor_132 : decode cX5_actFor 132 = .ok (.iconst (-1), 1) := by decide +kernel
theorem dX5_actFor_133 : decode cX5_actFor 133 = .ok (.if_icmp .eq 17, 3) := by decide +kernel
theorem dX5_actFor_136 : decode cX5_actFor 136 = .ok (.aload_n 0, 1) := by decide +kernel
theorem dX5_actFor_137 : decode cX5_actFor 137 = .ok (.getfield 11, 3) := by decide +kernel
theorem dX5_actFor_140 : decode cX5_actFor 140 = .ok (.iload 6, 2) := by decide +kernel
theorem dX5_actFor_142 : decode cX5_actFor 142 = .ok (.iconst 3, 1) := by decide +kernel
theorem dX5_actFor_143 : decode cX5_actFor 143 = .ok (.iadd, 1) := by decide +kernel
theorem dX5_actFor_144 : decode cX5_actFor 144 = .ok (.iaload, 1) := by decide +kernel
theorem dX5_actFor_145 : decode cX5_actFor 145 = .ok (.iload 4, 2) := by decide +kernel
theorem dX5_actFor_147 : decode cX5_actFor 147 = .ok (.if_icmp .ne 7, 3) := by decide +kernel
theorem dX5_actFor_150 : decode cX5_actFor 150 = .ok (.iconst 1, 1) := by decide +kernel
theorem dX5_actFor_151 : decode cX5_actFor 151 = .ok (.goto 4, 3) := by decide +kernel
theorem dX5_actFor_154 : decode cX5_actFor 154 = .ok (.iconst 0, 1) := by decide +kernel
theorem dX5_actFor_155 : decode cX5_actFor 155 = .ok (.istore 8, 2) := by decide +kernel
theorem dX5_actFor_157 : decode cX5_actFor 157 = .ok (.iload 7, 2) := by decide +kernel
theorem dX5_actFor_159 : decode cX5_actFor 159 = .ok (.ifCond .eq 18, 3) := by decide +kernel
theorem dX5_actFor_162 : decode cX5_actFor 162 = .ok (.iload 8, 2) := by decide +kernel
theorem dX5_actFor_164 : decode cX5_actFor 164 = .ok (.ifCond .eq 13, 3) := by decide +kernel
theorem dX5_actFor_167 : decode cX5_actFor 167 = .ok (.aload_n 0, 1) := by decide +kernel
theorem dX5_actFor_168 : decode cX5_actFor 168 = .ok (.getfield 11, 3) := by decide +kernel
theorem dX5_actFor_171 : decode cX5_actFor 171 = .ok (.iload 6, 2) := by decide +kernel
theorem dX5_actFor_173 : decode cX5_actFor 173 = .ok (.iconst 4, 1) := by decide +kernel
theorem dX5_actFor_174 : decode cX5_actFor 174 = .ok (.iadd, 1) := by decide +kernel
theorem dX5_actFor_175 : decode cX5_actFor 175 = .ok (.iaload, 1) := by decide +kernel
theorem dX5_actFor_176 : decode cX5_actFor 176 = .ok (.ireturn, 1) := by decide +kernel
theorem dX5_actFor_177 : decode cX5_actFor 177 = .ok (.iinc 5 1, 3) := by decide +kernel
theorem dX5_actFor_180 : decode cX5_actFor 180 = .ok (.goto (-177), 3) := by decide +kernel
theorem dX5_actFor_183 : decode cX5_actFor 183 = .ok (.iconst 3, 1) := by decide +kernel
theorem dX5_actFor_184 : decode cX5_actFor 184 = .ok (.ireturn, 1) := by decide +kernel
theorem dX5_actOf_0 : decode cX5_actOf 0 = .ok (.aload_n 0, 1) := by decide +kernel
theorem dX5_actOf_1 : decode cX5_actOf 1 = .ok (.ldc 71, 2) := by decide +kernel
theorem dX5_actOf_3 : decode cX5_actOf 3 = .ok (.invokevirtual 47, 3) := by decide +kernel
theorem dX5_actOf_6 : decode cX5_actOf 6 = .ok (.ifCond .eq 5, 3) := by decide +kernel
theorem dX5_actOf_9 : decode cX5_actOf 9 = .ok (.iconst 3, 1) := by decide +kernel
theorem dX5_actOf_10 : decode cX5_actOf 10 = .ok (.ireturn, 1) := by decide +kernel
theorem dX5_actOf_11 : decode cX5_actOf 11 = .ok (.aload_n 0, 1) := by decide +kernel
theorem dX5_actOf_12 : decode cX5_actOf 12 = .ok (.ldc 73, 2) := by decide +kernel
theorem dX5_actOf_14 : decode cX5_actOf 14 = .ok (.invokevirtual 47, 3) := by decide +kernel
theorem dX5_actOf_17 : decode cX5_actOf 17 = .ok (.ifCond .eq 5, 3) := by decide +kernel
theorem dX5_actOf_20 : decode cX5_actOf 20 = .ok (.iconst 4, 1) := by decide +kernel
theorem dX5_actOf_21 : decode cX5_actOf 21 = .ok (.ireturn, 1) := by decide +kernel
theorem dX5_actOf_22 : decode cX5_actOf 22 = .ok (.aload_n 0, 1) := by decide +kernel
theorem dX5_actOf_23 : decode cX5_actOf 23 = .ok (.ldc 75, 2) := by decide +kernel
theorem dX5_actOf_25 : decode cX5_actOf 25 = .ok (.invokevirtual 47, 3) := by decide +kernel
theorem dX5_actOf_28 : decode cX5_actOf 28 = .ok (.ifCond .eq 5, 3) := by decide +kernel
theorem dX5_actOf_31 : decode cX5_actOf 31 = .ok (.iconst 5, 1) := by decide +kernel
theorem dX5_actOf_32 : decode cX5_actOf 32 = .ok (.ireturn, 1) := by decide +kernel
theorem dX5_actOf_33 : decode cX5_actOf 33 = .ok (.aload_n 0, 1) := by decide +kernel
theorem dX5_actOf_34 : decode cX5_actOf 34 = .ok (.ldc 77, 2) := by decide +kernel
theorem dX5_actOf_36 : decode cX5_actOf 36 = .ok (.invokevirtual 47, 3) := by decide +kernel
theorem dX5_actOf_39 : decode cX5_actOf 39 = .ok (.ifCond .eq 8, 3) := by decide +kernel
theorem dX5_actOf_42 : decode cX5_actOf 42 = .ok (.bipush 6, 2) := by decide +kernel
theorem dX5_actOf_44 : decode cX5_actOf 44 = .ok (.goto 9, 3) := by decide +kernel
theorem dX5_actOf_47 : decode cX5_actOf 47 = .ok (.aload_n 0, 1) := by decide +kernel
theorem dX5_actOf_48 : decode cX5_actOf 48 = .ok (.iconst 0, 1) := by decide +kernel
theorem dX5_actOf_49 : decode cX5_actOf 49 = .ok (.iconst 2, 1) := by decide +kernel
theorem dX5_actOf_50 : decode cX5_actOf 50 = .ok (.invokevirtual 55, 3) := by decide +kernel
theorem dX5_actOf_53 : decode cX5_actOf 53 = .ok (.ireturn, 1) := by decide +kernel
theorem dX5_copy_0 : decode cX5_copy 0 = .ok (.aload_n 1, 1) := by decide +kernel
theorem dX5_copy_1 : decode cX5_copy 1 = .ok (.getfield 11, 3) := by decide +kernel
theorem dX5_copy_4 : decode cX5_copy 4 = .ok (.iconst 0, 1) := by decide +kernel
theorem dX5_copy_5 : decode cX5_copy 5 = .ok (.aload_n 0, 1) := by decide +kernel
theorem dX5_copy_6 : decode cX5_copy 6 = .ok (.getfield 11, 3) := by decide +kernel
theorem dX5_copy_9 : decode cX5_copy 9 = .ok (.iconst 0, 1) := by decide +kernel
theorem dX5_copy_10 : decode cX5_copy 10 = .ok (.aload_n 0, 1) := by decide +kernel
theorem dX5_copy_11 : decode cX5_copy 11 = .ok (.getfield 11, 3) := by decide +kernel
theorem dX5_copy_14 : decode cX5_copy 14 = .ok (.arraylength, 1) := by decide +kernel
theorem dX5_copy_15 : decode cX5_copy 15 = .ok (.invokestatic 15, 3) := by decide +kernel
theorem dX5_copy_18 : decode cX5_copy 18 = .ok (.aload_n 0, 1) := by decide +kernel
theorem dX5_copy_19 : decode cX5_copy 19 = .ok (.aload_n 1, 1) := by decide +kernel
theorem dX5_copy_20 : decode cX5_copy 20 = .ok (.getfield 21, 3) := by decide +kernel
theorem dX5_copy_23 : decode cX5_copy 23 = .ok (.putfield 21, 3) := by decide +kernel
theorem dX5_copy_26 : decode cX5_copy 26 = .ok (.return_, 1) := by decide +kernel
theorem dX5_greatestOf_0 : decode cX5_greatestOf 0 = .ok (.iload_n 0, 1) := by decide +kernel
theorem dX5_greatestOf_1 : decode cX5_greatestOf 1 = .ok (.lookupswitch 31 #[(0, 27), (1, 29)], 27) := by decide +kernel
theorem dX5_greatestOf_28 : decode cX5_greatestOf 28 = .ok (.iconst 5, 1) := by decide +kernel
theorem dX5_greatestOf_29 : decode cX5_greatestOf 29 = .ok (.ireturn, 1) := by decide +kernel
theorem dX5_greatestOf_30 : decode cX5_greatestOf 30 = .ok (.iconst 2, 1) := by decide +kernel
theorem dX5_greatestOf_31 : decode cX5_greatestOf 31 = .ok (.ireturn, 1) := by decide +kernel
theorem dX5_greatestOf_32 : decode cX5_greatestOf 32 = .ok (.bipush 8, 2) := by decide +kernel
theorem dX5_greatestOf_34 : decode cX5_greatestOf 34 = .ok (.ireturn, 1) := by decide +kernel
theorem dX5_init_0 : decode cX5_init 0 = .ok (.aload_n 0, 1) := by decide +kernel
theorem dX5_init_1 : decode cX5_init 1 = .ok (.invokespecial 3, 3) := by decide +kernel
theorem dX5_init_4 : decode cX5_init 4 = .ok (.aload_n 0, 1) := by decide +kernel
theorem dX5_init_5 : decode cX5_init 5 = .ok (.bipush 100, 2) := by decide +kernel
theorem dX5_init_7 : decode cX5_init 7 = .ok (.newarray .int, 2) := by decide +kernel
theorem dX5_init_9 : decode cX5_init 9 = .ok (.putfield 11, 3) := by decide +kernel
theorem dX5_init_12 : decode cX5_init 12 = .ok (.return_, 1) := by decide +kernel
theorem dX5_part_0 : decode cX5_part 0 = .ok (.aload_n 0, 1) := by decide +kernel
theorem dX5_part_1 : decode cX5_part 1 = .ok (.getfield 11, 3) := by decide +kernel
theorem dX5_part_4 : decode cX5_part 4 = .ok (.iload_n 1, 1) := by decide +kernel
theorem dX5_part_5 : decode cX5_part 5 = .ok (.iconst 5, 1) := by decide +kernel
theorem dX5_part_6 : decode cX5_part 6 = .ok (.imul, 1) := by decide +kernel
theorem dX5_part_7 : decode cX5_part 7 = .ok (.iload_n 2, 1) := by decide +kernel
theorem dX5_part_8 : decode cX5_part 8 = .ok (.iadd, 1) := by decide +kernel
theorem dX5_part_9 : decode cX5_part 9 = .ok (.iaload, 1) := by decide +kernel
theorem dX5_part_10 : decode cX5_part 10 = .ok (.ireturn, 1) := by decide +kernel
theorem dX5_readFrom_0 : decode cX5_readFrom 0 = .ok (.aload_n 0, 1) := by decide +kernel
theorem dX5_readFrom_1 : decode cX5_readFrom 1 = .ok (.iconst 0, 1) := by decide +kernel
theorem dX5_readFrom_2 : decode cX5_readFrom 2 = .ok (.putfield 21, 3) := by decide +kernel
theorem dX5_readFrom_5 : decode cX5_readFrom 5 = .ok (.aload_n 1, 1) := by decide +kernel
theorem dX5_readFrom_6 : decode cX5_readFrom 6 = .ok (.invokevirtual 25, 3) := by decide +kernel
theorem dX5_readFrom_9 : decode cX5_readFrom 9 = .ok (.iconst 0, 1) := by decide +kernel
theorem dX5_readFrom_10 : decode cX5_readFrom 10 = .ok (.istore_n 2, 1) := by decide +kernel
theorem dX5_readFrom_11 : decode cX5_readFrom 11 = .ok (.iload_n 2, 1) := by decide +kernel
theorem dX5_readFrom_12 : decode cX5_readFrom 12 = .ok (.bipush 20, 2) := by decide +kernel
theorem dX5_readFrom_14 : decode cX5_readFrom 14 = .ok (.if_icmp .ge 62, 3) := by decide +kernel
theorem dX5_readFrom_17 : decode cX5_readFrom 17 = .ok (.aload_n 0, 1) := by decide +kernel
theorem dX5_readFrom_18 : decode cX5_readFrom 18 = .ok (.aload_n 1, 1) := by decide +kernel
theorem dX5_readFrom_19 : decode cX5_readFrom 19 = .ok (.iload_n 2, 1) := by decide +kernel
theorem dX5_readFrom_20 : decode cX5_readFrom 20 = .ok (.iconst 5, 1) := by decide +kernel
theorem dX5_readFrom_21 : decode cX5_readFrom 21 = .ok (.imul, 1) := by decide +kernel
theorem dX5_readFrom_22 : decode cX5_readFrom 22 = .ok (.invokevirtual 30, 3) := by decide +kernel
theorem dX5_readFrom_25 : decode cX5_readFrom 25 = .ok (.ifCond .ne 8, 3) := by decide +kernel
theorem dX5_readFrom_28 : decode cX5_readFrom 28 = .ok (.aload_n 1, 1) := by decide +kernel
theorem dX5_readFrom_29 : decode cX5_readFrom 29 = .ok (.getfield 34, 3) := by decide +kernel
theorem dX5_readFrom_32 : decode cX5_readFrom 32 = .ok (.ireturn, 1) := by decide +kernel
theorem dX5_readFrom_33 : decode cX5_readFrom 33 = .ok (.aload_n 0, 1) := by decide +kernel
theorem dX5_readFrom_34 : decode cX5_readFrom 34 = .ok (.iload_n 2, 1) := by decide +kernel
theorem dX5_readFrom_35 : decode cX5_readFrom 35 = .ok (.iconst 1, 1) := by decide +kernel
theorem dX5_readFrom_36 : decode cX5_readFrom 36 = .ok (.iadd, 1) := by decide +kernel
theorem dX5_readFrom_37 : decode cX5_readFrom 37 = .ok (.putfield 21, 3) := by decide +kernel
theorem dX5_readFrom_40 : decode cX5_readFrom 40 = .ok (.aload_n 1, 1) := by decide +kernel
theorem dX5_readFrom_41 : decode cX5_readFrom 41 = .ok (.invokevirtual 37, 3) := by decide +kernel
theorem dX5_readFrom_44 : decode cX5_readFrom 44 = .ok (.aload_n 1, 1) := by decide +kernel
theorem dX5_readFrom_45 : decode cX5_readFrom 45 = .ok (.getfield 40, 3) := by decide +kernel
theorem dX5_readFrom_48 : decode cX5_readFrom 48 = .ok (.ifCond .ne 5, 3) := by decide +kernel
theorem dX5_readFrom_51 : decode cX5_readFrom 51 = .ok (.iconst (-1), 1) := by decide +kernel
theorem dX5_readFrom_52 : decode cX5_readFrom 52 = .ok (.ireturn, 1) := by decide +kernel
theorem dX5_readFrom_53 : decode cX5_readFrom 53 = .ok (.aload_n 1, 1) := by decide +kernel
theorem dX5_readFrom_54 : decode cX5_readFrom 54 = .ok (.getfield 40, 3) := by decide +kernel
theorem dX5_readFrom_57 : decode cX5_readFrom 57 = .ok (.iconst 1, 1) := by decide +kernel
theorem dX5_readFrom_58 : decode cX5_readFrom 58 = .ok (.if_icmp .eq 8, 3) := by decide +kernel
theorem dX5_readFrom_61 : decode cX5_readFrom 61 = .ok (.aload_n 1, 1) := by decide +kernel
theorem dX5_readFrom_62 : decode cX5_readFrom 62 = .ok (.getfield 34, 3) := by decide +kernel
theorem dX5_readFrom_65 : decode cX5_readFrom 65 = .ok (.ireturn, 1) := by decide +kernel
theorem dX5_readFrom_66 : decode cX5_readFrom 66 = .ok (.aload_n 1, 1) := by decide +kernel
theorem dX5_readFrom_67 : decode cX5_readFrom 67 = .ok (.invokevirtual 37, 3) := by decide +kernel
theorem dX5_readFrom_70 : decode cX5_readFrom 70 = .ok (.iinc 2 1, 3) := by decide +kernel
theorem dX5_readFrom_73 : decode cX5_readFrom 73 = .ok (.goto (-62), 3) := by decide +kernel
theorem dX5_readFrom_76 : decode cX5_readFrom 76 = .ok (.aload_n 1, 1) := by decide +kernel
theorem dX5_readFrom_77 : decode cX5_readFrom 77 = .ok (.getfield 34, 3) := by decide +kernel
theorem dX5_readFrom_80 : decode cX5_readFrom 80 = .ok (.ireturn, 1) := by decide +kernel
theorem dX5_readLine_0 : decode cX5_readLine 0 = .ok (.iconst 0, 1) := by decide +kernel
theorem dX5_readLine_1 : decode cX5_readLine 1 = .ok (.istore_n 3, 1) := by decide +kernel
theorem dX5_readLine_2 : decode cX5_readLine 2 = .ok (.iload_n 3, 1) := by decide +kernel
theorem dX5_readLine_3 : decode cX5_readLine 3 = .ok (.iconst 4, 1) := by decide +kernel
theorem dX5_readLine_4 : decode cX5_readLine 4 = .ok (.if_icmp .ge 66, 3) := by decide +kernel
theorem dX5_readLine_7 : decode cX5_readLine 7 = .ok (.aload_n 0, 1) := by decide +kernel
theorem dX5_readLine_8 : decode cX5_readLine 8 = .ok (.getfield 11, 3) := by decide +kernel
theorem dX5_readLine_11 : decode cX5_readLine 11 = .ok (.iload_n 2, 1) := by decide +kernel
theorem dX5_readLine_12 : decode cX5_readLine 12 = .ok (.iload_n 3, 1) := by decide +kernel
theorem dX5_readLine_13 : decode cX5_readLine 13 = .ok (.iadd, 1) := by decide +kernel
theorem dX5_readLine_14 : decode cX5_readLine 14 = .ok (.iconst (-1), 1) := by decide +kernel
theorem dX5_readLine_15 : decode cX5_readLine 15 = .ok (.iastore, 1) := by decide +kernel
theorem dX5_readLine_16 : decode cX5_readLine 16 = .ok (.aload_n 1, 1) := by decide +kernel
theorem dX5_readLine_17 : decode cX5_readLine 17 = .ok (.iload_n 3, 1) := by decide +kernel
theorem dX5_readLine_18 : decode cX5_readLine 18 = .ok (.invokestatic 43, 3) := by decide +kernel
theorem dX5_readLine_21 : decode cX5_readLine 21 = .ok (.invokevirtual 47, 3) := by decide +kernel
theorem dX5_readLine_24 : decode cX5_readLine 24 = .ok (.ifCond .eq 40, 3) := by decide +kernel
theorem dX5_readLine_27 : decode cX5_readLine 27 = .ok (.aload_n 1, 1) := by decide +kernel
theorem dX5_readLine_28 : decode cX5_readLine 28 = .ok (.invokevirtual 37, 3) := by decide +kernel
theorem dX5_readLine_31 : decode cX5_readLine 31 = .ok (.aload_n 1, 1) := by decide +kernel
theorem dX5_readLine_32 : decode cX5_readLine 32 = .ok (.iconst 0, 1) := by decide +kernel
theorem dX5_readLine_33 : decode cX5_readLine 33 = .ok (.iload_n 3, 1) := by decide +kernel
theorem dX5_readLine_34 : decode cX5_readLine 34 = .ok (.invokestatic 51, 3) := by decide +kernel
theorem dX5_readLine_37 : decode cX5_readLine 37 = .ok (.invokevirtual 55, 3) := by decide +kernel
theorem dX5_readLine_40 : decode cX5_readLine 40 = .ok (.istore 4, 2) := by decide +kernel
theorem dX5_readLine_42 : decode cX5_readLine 42 = .ok (.iload 4, 2) := by decide +kernel
theorem dX5_readLine_44 : decode cX5_readLine 44 = .ok (.iconst (-1), 1) := by decide +kernel
theorem dX5_readLine_45 : decode cX5_readLine 45 = .ok (.if_icmp .ne 5, 3) := by decide +kernel
theorem dX5_readLine_48 : decode cX5_readLine 48 = .ok (.iconst 0, 1) := by decide +kernel
theorem dX5_readLine_49 : decode cX5_readLine 49 = .ok (.ireturn, 1) := by decide +kernel
theorem dX5_readLine_50 : decode cX5_readLine 50 = .ok (.aload_n 0, 1) := by decide +kernel
theorem dX5_readLine_51 : decode cX5_readLine 51 = .ok (.getfield 11, 3) := by decide +kernel
theorem dX5_readLine_54 : decode cX5_readLine 54 = .ok (.iload_n 2, 1) := by decide +kernel
theorem dX5_readLine_55 : decode cX5_readLine 55 = .ok (.iload_n 3, 1) := by decide +kernel
theorem dX5_readLine_56 : decode cX5_readLine 56 = .ok (.iadd, 1) := by decide +kernel
theorem dX5_readLine_57 : decode cX5_readLine 57 = .ok (.iload 4, 2) := by decide +kernel
theorem dX5_readLine_59 : decode cX5_readLine 59 = .ok (.iastore, 1) := by decide +kernel
theorem dX5_readLine_60 : decode cX5_readLine 60 = .ok (.aload_n 1, 1) := by decide +kernel
theorem dX5_readLine_61 : decode cX5_readLine 61 = .ok (.invokevirtual 37, 3) := by decide +kernel
theorem dX5_readLine_64 : decode cX5_readLine 64 = .ok (.iinc 3 1, 3) := by decide +kernel
theorem dX5_readLine_67 : decode cX5_readLine 67 = .ok (.goto (-65), 3) := by decide +kernel
theorem dX5_readLine_70 : decode cX5_readLine 70 = .ok (.aload_n 0, 1) := by decide +kernel
theorem dX5_readLine_71 : decode cX5_readLine 71 = .ok (.getfield 11, 3) := by decide +kernel
theorem dX5_readLine_74 : decode cX5_readLine 74 = .ok (.iload_n 2, 1) := by decide +kernel
theorem dX5_readLine_75 : decode cX5_readLine 75 = .ok (.iconst 4, 1) := by decide +kernel
theorem dX5_readLine_76 : decode cX5_readLine 76 = .ok (.iadd, 1) := by decide +kernel
theorem dX5_readLine_77 : decode cX5_readLine 77 = .ok (.aload_n 1, 1) := by decide +kernel
theorem dX5_readLine_78 : decode cX5_readLine 78 = .ok (.invokestatic 59, 3) := by decide +kernel
theorem dX5_readLine_81 : decode cX5_readLine 81 = .ok (.iastore, 1) := by decide +kernel
theorem dX5_readLine_82 : decode cX5_readLine 82 = .ok (.aload_n 0, 1) := by decide +kernel
theorem dX5_readLine_83 : decode cX5_readLine 83 = .ok (.getfield 11, 3) := by decide +kernel
theorem dX5_readLine_86 : decode cX5_readLine 86 = .ok (.iload_n 2, 1) := by decide +kernel
theorem dX5_readLine_87 : decode cX5_readLine 87 = .ok (.iconst 4, 1) := by decide +kernel
theorem dX5_readLine_88 : decode cX5_readLine 88 = .ok (.iadd, 1) := by decide +kernel
theorem dX5_readLine_89 : decode cX5_readLine 89 = .ok (.iaload, 1) := by decide +kernel
theorem dX5_readLine_90 : decode cX5_readLine 90 = .ok (.iconst (-1), 1) := by decide +kernel
theorem dX5_readLine_91 : decode cX5_readLine 91 = .ok (.if_icmp .eq 7, 3) := by decide +kernel
theorem dX5_readLine_94 : decode cX5_readLine 94 = .ok (.iconst 1, 1) := by decide +kernel
theorem dX5_readLine_95 : decode cX5_readLine 95 = .ok (.goto 4, 3) := by decide +kernel
theorem dX5_readLine_98 : decode cX5_readLine 98 = .ok (.iconst 0, 1) := by decide +kernel
theorem dX5_readLine_99 : decode cX5_readLine 99 = .ok (.ireturn, 1) := by decide +kernel
theorem dX5_wordOf_0 : decode cX5_wordOf 0 = .ok (.iload_n 0, 1) := by decide +kernel
theorem dX5_wordOf_1 : decode cX5_wordOf 1 = .ok (.tableswitch 36 0 2 #[27, 30, 33], 27) := by decide +kernel
theorem dX5_wordOf_28 : decode cX5_wordOf 28 = .ok (.ldc 63, 2) := by decide +kernel
theorem dX5_wordOf_30 : decode cX5_wordOf 30 = .ok (.areturn, 1) := by decide +kernel
theorem dX5_wordOf_31 : decode cX5_wordOf 31 = .ok (.ldc 65, 2) := by decide +kernel
theorem dX5_wordOf_33 : decode cX5_wordOf 33 = .ok (.areturn, 1) := by decide +kernel
theorem dX5_wordOf_34 : decode cX5_wordOf 34 = .ok (.ldc 67, 2) := by decide +kernel
theorem dX5_wordOf_36 : decode cX5_wordOf 36 = .ok (.areturn, 1) := by decide +kernel
theorem dX5_wordOf_37 : decode cX5_wordOf 37 = .ok (.ldc 69, 2) := by decide +kernel
theorem dX5_wordOf_39 : decode cX5_wordOf 39 = .ok (.areturn, 1) := by decide +kernel
theorem dX6_choose_0 : decode cX6_choose 0 = .ok (.aload_n 1, 1) := by decide +kernel
theorem dX6_choose_1 : decode cX6_choose 1 = .ok (.aload_n 0, 1) := by decide +kernel
theorem dX6_choose_2 : decode cX6_choose 2 = .ok (.getfield 18, 3) := by decide +kernel
theorem dX6_choose_5 : decode cX6_choose 5 = .ok (.aload_n 0, 1) := by decide +kernel
theorem dX6_choose_6 : decode cX6_choose 6 = .ok (.getfield 22, 3) := by decide +kernel
theorem dX6_choose_9 : decode cX6_choose 9 = .ok (.iload_n 2, 1) := by decide +kernel
theorem dX6_choose_10 : decode cX6_choose 10 = .ok (.iload_n 3, 1) := by decide +kernel
theorem dX6_choose_11 : decode cX6_choose 11 = .ok (.invokevirtual 25, 3) := by decide +kernel
theorem dX6_choose_14 : decode cX6_choose 14 = .ok (.istore 5, 2) := by decide +kernel
theorem dX6_choose_16 : decode cX6_choose 16 = .ok (.iload 5, 2) := by decide +kernel
theorem dX6_choose_18 : decode cX6_choose 18 = .ok (.iconst (-1), 1) := by decide +kernel
theorem dX6_choose_19 : decode cX6_choose 19 = .ok (.if_icmp .eq 6, 3) := by decide +kernel
theorem dX6_choose_22 : decode cX6_choose 22 = .ok (.iload 5, 2) := by decide +kernel
theorem dX6_choose_24 : decode cX6_choose 24 = .ok (.ireturn, 1) := by decide +kernel
theorem dX6_choose_25 : decode cX6_choose 25 = .ok (.aload_n 0, 1) := by decide +kernel
theorem dX6_choose_26 : decode cX6_choose 26 = .ok (.getfield 12, 3) := by decide +kernel
theorem dX6_choose_29 : decode cX6_choose 29 = .ok (.aload_n 0, 1) := by decide +kernel
theorem dX6_choose_30 : decode cX6_choose 30 = .ok (.getfield 18, 3) := by decide +kernel
theorem dX6_choose_33 : decode cX6_choose 33 = .ok (.aload_n 0, 1) := by decide +kernel
theorem dX6_choose_34 : decode cX6_choose 34 = .ok (.getfield 22, 3) := by decide +kernel
theorem dX6_choose_37 : decode cX6_choose 37 = .ok (.iload_n 2, 1) := by decide +kernel
theorem dX6_choose_38 : decode cX6_choose 38 = .ok (.iload_n 3, 1) := by decide +kernel
theorem dX6_choose_39 : decode cX6_choose 39 = .ok (.invokevirtual 31, 3) := by decide +kernel
theorem dX6_choose_42 : decode cX6_choose 42 = .ok (.istore 6, 2) := by decide +kernel
theorem dX6_choose_44 : decode cX6_choose 44 = .ok (.iload 6, 2) := by decide +kernel
theorem dX6_choose_46 : decode cX6_choose 46 = .ok (.tableswitch 57 3 6 #[30, 33, 48, 52], 30) := by decide +kernel
theorem dX6_choose_76 : decode cX6_choose 76 = .ok (.iload 4, 2) := by decide +kernel
theorem dX6_choose_78 : decode cX6_choose 78 = .ok (.ireturn, 1) := by decide +kernel
theorem dX6_choose_79 : decode cX6_choose 79 = .ok (.iload 4, 2) := by decide +kernel
theorem dX6_choose_81 : decode cX6_choose 81 = .ok (.iconst 2, 1) := by decide +kernel
theorem dX6_choose_82 : decode cX6_choose 82 = .ok (.if_icmp .ne 7, 3) := by decide +kernel
theorem dX6_choose_85 : decode cX6_choose 85 = .ok (.iconst 2, 1) := by decide +kernel
theorem dX6_choose_86 : decode cX6_choose 86 = .ok (.goto 7, 3) := by decide +kernel
theorem dX6_choose_89 : decode cX6_choose 89 = .ok (.iconst 1, 1) := by decide +kernel
theorem dX6_choose_90 : decode cX6_choose 90 = .ok (.iload 4, 2) := by decide +kernel
theorem dX6_choose_92 : decode cX6_choose 92 = .ok (.isub, 1) := by decide +kernel
theorem dX6_choose_93 : decode cX6_choose 93 = .ok (.ireturn, 1) := by decide +kernel
theorem dX6_choose_94 : decode cX6_choose 94 = .ok (.iload_n 3, 1) := by decide +kernel
theorem dX6_choose_95 : decode cX6_choose 95 = .ok (.iconst 2, 1) := by decide +kernel
theorem dX6_choose_96 : decode cX6_choose 96 = .ok (.irem, 1) := by decide +kernel
theorem dX6_choose_97 : decode cX6_choose 97 = .ok (.ireturn, 1) := by decide +kernel
theorem dX6_choose_98 : decode cX6_choose 98 = .ok (.aload_n 1, 1) := by decide +kernel
theorem dX6_choose_99 : decode cX6_choose 99 = .ok (.invokevirtual 34, 3) := by decide +kernel
theorem dX6_choose_102 : decode cX6_choose 102 = .ok (.ireturn, 1) := by decide +kernel
theorem dX6_choose_103 : decode cX6_choose 103 = .ok (.iload 6, 2) := by decide +kernel
theorem dX6_choose_105 : decode cX6_choose 105 = .ok (.ireturn, 1) := by decide +kernel
theorem dX6_init_0 : decode cX6_init 0 = .ok (.aload_n 0, 1) := by decide +kernel
theorem dX6_init_1 : decode cX6_init 1 = .ok (.invokespecial 3, 3) := by decide +kernel
theorem dX6_init_4 : decode cX6_init 4 = .ok (.aload_n 0, 1) := by decide +kernel
theorem dX6_init_5 : decode cX6_init 5 = .ok (.new 9, 3) := by decide +kernel
theorem dX6_init_8 : decode cX6_init 8 = .ok (.dup, 1) := by decide +kernel
theorem dX6_init_9 : decode cX6_init 9 = .ok (.invokespecial 11, 3) := by decide +kernel
theorem dX6_init_12 : decode cX6_init 12 = .ok (.putfield 12, 3) := by decide +kernel
theorem dX6_init_15 : decode cX6_init 15 = .ok (.return_, 1) := by decide +kernel
theorem dX7_addChoice_0 : decode cX7_addChoice 0 = .ok (.iconst 0, 1) := by decide +kernel
theorem dX7_addChoice_1 : decode cX7_addChoice 1 = .ok (.istore 5, 2) := by decide +kernel
theorem dX7_addChoice_3 : decode cX7_addChoice 3 = .ok (.iload 5, 2) := by decide +kernel
theorem dX7_addChoice_5 : decode cX7_addChoice 5 = .ok (.iload_n 2, 1) := by decide +kernel
theorem dX7_addChoice_6 : decode cX7_addChoice 6 = .ok (.if_icmp .ge 24, 3) := by decide +kernel
theorem dX7_addChoice_9 : decode cX7_addChoice 9 = .ok (.aload_n 0, 1) := by decide +kernel
theorem dX7_addChoice_10 : decode cX7_addChoice 10 = .ok (.getfield 25, 3) := by decide +kernel
theorem dX7_addChoice_13 : decode cX7_addChoice 13 = .ok (.iload_n 1, 1) := by decide +kernel
theorem dX7_addChoice_14 : decode cX7_addChoice 14 = .ok (.iload 5, 2) := by decide +kernel
theorem dX7_addChoice_16 : decode cX7_addChoice 16 = .ok (.iadd, 1) := by decide +kernel
theorem dX7_addChoice_17 : decode cX7_addChoice 17 = .ok (.iaload, 1) := by decide +kernel
theorem dX7_addChoice_18 : decode cX7_addChoice 18 = .ok (.iload_n 3, 1) := by decide +kernel
theorem dX7_addChoice_19 : decode cX7_addChoice 19 = .ok (.if_icmp .ne 5, 3) := by decide +kernel
theorem dX7_addChoice_22 : decode cX7_addChoice 22 = .ok (.iload_n 2, 1) := by decide +kernel
theorem dX7_addChoice_23 : decode cX7_addChoice 23 = .ok (.ireturn, 1) := by decide +kernel
theorem dX7_addChoice_24 : decode cX7_addChoice 24 = .ok (.iinc 5 1, 3) := by decide +kernel
theorem dX7_addChoice_27 : decode cX7_addChoice 27 = .ok (.goto (-24), 3) := by decide +kernel
theorem dX7_addChoice_30 : decode cX7_addChoice 30 = .ok (.aload_n 0, 1) := by decide +kernel
theorem dX7_addChoice_31 : decode cX7_addChoice 31 = .ok (.getfield 25, 3) := by decide +kernel
theorem dX7_addChoice_34 : decode cX7_addChoice 34 = .ok (.iload_n 1, 1) := by decide +kernel
theorem dX7_addChoice_35 : decode cX7_addChoice 35 = .ok (.iload_n 2, 1) := by decide +kernel
theorem dX7_addChoice_36 : decode cX7_addChoice 36 = .ok (.iadd, 1) := by decide +kernel
theorem dX7_addChoice_37 : decode cX7_addChoice 37 = .ok (.iload_n 3, 1) := by decide +kernel
theorem dX7_addChoice_38 : decode cX7_addChoice 38 = .ok (.iastore, 1) := by decide +kernel
theorem dX7_addChoice_39 : decode cX7_addChoice 39 = .ok (.aload_n 0, 1) := by decide +kernel
theorem dX7_addChoice_40 : decode cX7_addChoice 40 = .ok (.getfield 28, 3) := by decide +kernel
theorem dX7_addChoice_43 : decode cX7_addChoice 43 = .ok (.iload_n 1, 1) := by decide +kernel
theorem dX7_addChoice_44 : decode cX7_addChoice 44 = .ok (.iload_n 2, 1) := by decide +kernel
theorem dX7_addChoice_45 : decode cX7_addChoice 45 = .ok (.iadd, 1) := by decide +kernel
theorem dX7_addChoice_46 : decode cX7_addChoice 46 = .ok (.iload 4, 2) := by decide +kernel
theorem dX7_addChoice_48 : decode cX7_addChoice 48 = .ok (.iastore, 1) := by decide +kernel
theorem dX7_addChoice_49 : decode cX7_addChoice 49 = .ok (.iload_n 2, 1) := by decide +kernel
theorem dX7_addChoice_50 : decode cX7_addChoice 50 = .ok (.iconst 1, 1) := by decide +kernel
theorem dX7_addChoice_51 : decode cX7_addChoice 51 = .ok (.iadd, 1) := by decide +kernel
theorem dX7_addChoice_52 : decode cX7_addChoice 52 = .ok (.ireturn, 1) := by decide +kernel
theorem dX7_bitsOf_0 : decode cX7_bitsOf 0 = .ok (.iconst 0, 1) := by decide +kernel
theorem dX7_bitsOf_1 : decode cX7_bitsOf 1 = .ok (.istore_n 3, 1) := by decide +kernel
theorem dX7_bitsOf_2 : decode cX7_bitsOf 2 = .ok (.iconst 0, 1) := by decide +kernel
theorem dX7_bitsOf_3 : decode cX7_bitsOf 3 = .ok (.istore 4, 2) := by decide +kernel
theorem dX7_bitsOf_5 : decode cX7_bitsOf 5 = .ok (.iload 4, 2) := by decide +kernel
theorem dX7_bitsOf_7 : decode cX7_bitsOf 7 = .ok (.iload_n 1, 1) := by decide +kernel
theorem dX7_bitsOf_8 : decode cX7_bitsOf 8 = .ok (.if_icmp .ge 23, 3) := by decide +kernel
theorem dX7_bitsOf_11 : decode cX7_bitsOf 11 = .ok (.iload_n 3, 1) := by decide +kernel
theorem dX7_bitsOf_12 : decode cX7_bitsOf 12 = .ok (.iconst 1, 1) := by decide +kernel
theorem dX7_bitsOf_13 : decode cX7_bitsOf 13 = .ok (.iload_n 2, 1) := by decide +kernel
theorem dX7_bitsOf_14 : decode cX7_bitsOf 14 = .ok (.iload 4, 2) := by decide +kernel
theorem dX7_bitsOf_16 : decode cX7_bitsOf 16 = .ok (.aload_n 0, 1) := by decide +kernel
theorem dX7_bitsOf_17 : decode cX7_bitsOf 17 = .ok (.getfield 62, 3) := by decide +kernel
theorem dX7_bitsOf_20 : decode cX7_bitsOf 20 = .ok (.imul, 1) := by decide +kernel
theorem dX7_bitsOf_21 : decode cX7_bitsOf 21 = .ok (.iadd, 1) := by decide +kernel
theorem dX7_bitsOf_22 : decode cX7_bitsOf 22 = .ok (.ishl, 1) := by decide +kernel
theorem dX7_bitsOf_23 : decode cX7_bitsOf 23 = .ok (.ior, 1) := by decide +kernel
theorem dX7_bitsOf_24 : decode cX7_bitsOf 24 = .ok (.istore_n 3, 1) := by decide +kernel
theorem dX7_bitsOf_25 : decode cX7_bitsOf 25 = .ok (.iinc 4 1, 3) := by decide +kernel
theorem dX7_bitsOf_28 : decode cX7_bitsOf 28 = .ok (.goto (-23), 3) := by decide +kernel
theorem dX7_bitsOf_31 : decode cX7_bitsOf 31 = .ok (.iload_n 3, 1) := by decide +kernel
theorem dX7_bitsOf_32 : decode cX7_bitsOf 32 = .ok (.ireturn, 1) := by decide +kernel
theorem dX7_doesSuspicionCount_0 : decode cX7_doesSuspicionCount 0 = .ok (.aload_n 0, 1) := by decide +kernel
theorem dX7_doesSuspicionCount_1 : decode cX7_doesSuspicionCount 1 = .ok (.getfield 12, 3) := by decide +kernel
theorem dX7_doesSuspicionCount_4 : decode cX7_doesSuspicionCount 4 = .ok (.getfield 141, 3) := by decide +kernel
theorem dX7_doesSuspicionCount_7 : decode cX7_doesSuspicionCount 7 = .ok (.ifCond .eq 23, 3) := by decide +kernel
theorem dX7_doesSuspicionCount_10 : decode cX7_doesSuspicionCount 10 = .ok (.iload_n 1, 1) := by decide +kernel
theorem dX7_doesSuspicionCount_11 : decode cX7_doesSuspicionCount 11 = .ok (.aload_n 0, 1) := by decide +kernel
theorem dX7_doesSuspicionCount_12 : decode cX7_doesSuspicionCount 12 = .ok (.getfield 12, 3) := by decide +kernel
theorem dX7_doesSuspicionCount_15 : decode cX7_doesSuspicionCount 15 = .ok (.getfield 65, 3) := by decide +kernel
theorem dX7_doesSuspicionCount_18 : decode cX7_doesSuspicionCount 18 = .ok (.iadd, 1) := by decide +kernel
theorem dX7_doesSuspicionCount_19 : decode cX7_doesSuspicionCount 19 = .ok (.aload_n 0, 1) := by decide +kernel
theorem dX7_doesSuspicionCount_20 : decode cX7_doesSuspicionCount 20 = .ok (.getfield 39, 3) := by decide +kernel
theorem dX7_doesSuspicionCount_23 : decode cX7_doesSuspicionCount 23 = .ok (.if_icmp .ge 7, 3) := by decide +kernel
theorem dX7_doesSuspicionCount_26 : decode cX7_doesSuspicionCount 26 = .ok (.iconst 1, 1) := by decide +kernel
theorem dX7_doesSuspicionCount_27 : decode cX7_doesSuspicionCount 27 = .ok (.goto 4, 3) := by decide +kernel
theorem dX7_doesSuspicionCount_30 : decode cX7_doesSuspicionCount 30 = .ok (.iconst 0, 1) := by decide +kernel
theorem dX7_doesSuspicionCount_31 : decode cX7_doesSuspicionCount 31 = .ok (.ireturn, 1) := by decide +kernel
theorem dX7_explore_0 : decode cX7_explore 0 = .ok (.iload_n 1, 1) := by decide +kernel
theorem dX7_explore_1 : decode cX7_explore 1 = .ok (.aload_n 0, 1) := by decide +kernel
theorem dX7_explore_2 : decode cX7_explore 2 = .ok (.getfield 39, 3) := by decide +kernel
theorem dX7_explore_5 : decode cX7_explore 5 = .ok (.if_icmp .ge 9, 3) := by decide +kernel
theorem dX7_explore_8 : decode cX7_explore 8 = .ok (.iload_n 1, 1) := by decide +kernel
theorem dX7_explore_9 : decode cX7_explore 9 = .ok (.bipush 6, 2) := by decide +kernel
theorem dX7_explore_11 : decode cX7_explore 11 = .ok (.if_icmp .lt 11, 3) := by decide +kernel
theorem dX7_explore_14 : decode cX7_explore 14 = .ok (.aload_n 0, 1) := by decide +kernel
theorem dX7_explore_15 : decode cX7_explore 15 = .ok (.iload_n 2, 1) := by decide +kernel
theorem dX7_explore_16 : decode cX7_explore 16 = .ok (.iload 5, 2) := by decide +kernel
theorem dX7_explore_18 : decode cX7_explore 18 = .ok (.invokevirtual 86, 3) := by decide +kernel
theorem dX7_explore_21 : decode cX7_explore 21 = .ok (.return_, 1) := by decide +kernel
theorem dX7_explore_22 : decode cX7_explore 22 = .ok (.iload_n 1, 1) := by decide +kernel
theorem dX7_explore_23 : decode cX7_explore 23 = .ok (.bipush 9, 2) := by decide +kernel
theorem dX7_explore_25 : decode cX7_explore 25 = .ok (.ishl, 1) := by decide +kernel
theorem dX7_explore_26 : decode cX7_explore 26 = .ok (.iload_n 2, 1) := by decide +kernel
theorem dX7_explore_27 : decode cX7_explore 27 = .ok (.ior, 1) := by decide +kernel
theorem dX7_explore_28 : decode cX7_explore 28 = .ok (.istore 6, 2) := by decide +kernel
theorem dX7_explore_30 : decode cX7_explore 30 = .ok (.aload_n 0, 1) := by decide +kernel
theorem dX7_explore_31 : decode cX7_explore 31 = .ok (.getfield 31, 3) := by decide +kernel
theorem dX7_explore_34 : decode cX7_explore 34 = .ok (.iload 6, 2) := by decide +kernel
theorem dX7_explore_36 : decode cX7_explore 36 = .ok (.bipush 6, 2) := by decide +kernel
theorem dX7_explore_38 : decode cX7_explore 38 = .ok (.iushr, 1) := by decide +kernel
theorem dX7_explore_39 : decode cX7_explore 39 = .ok (.laload, 1) := by decide +kernel
theorem dX7_explore_40 : decode cX7_explore 40 = .ok (.iload 6, 2) := by decide +kernel
theorem dX7_explore_42 : decode cX7_explore 42 = .ok (.lushr, 1) := by decide +kernel
theorem dX7_explore_43 : decode cX7_explore 43 = .ok (.lconst 1, 1) := by decide +kernel
theorem dX7_explore_44 : decode cX7_explore 44 = .ok (.land, 1) := by decide +kernel
theorem dX7_explore_45 : decode cX7_explore 45 = .ok (.lconst 1, 1) := by decide +kernel
theorem dX7_explore_46 : decode cX7_explore 46 = .ok (.lcmp, 1) := by decide +kernel
theorem dX7_explore_47 : decode cX7_explore 47 = .ok (.ifCond .ne 4, 3) := by decide +kernel
theorem dX7_explore_50 : decode cX7_explore 50 = .ok (.return_, 1) := by decide +kernel
theorem dX7_explore_51 : decode cX7_explore 51 = .ok (.aload_n 0, 1) := by decide +kernel
theorem dX7_explore_52 : decode cX7_explore 52 = .ok (.getfield 90, 3) := by decide +kernel
theorem dX7_explore_55 : decode cX7_explore 55 = .ok (.istore 7, 2) := by decide +kernel
theorem dX7_explore_57 : decode cX7_explore 57 = .ok (.aload_n 0, 1) := by decide +kernel
theorem dX7_explore_58 : decode cX7_explore 58 = .ok (.getfield 12, 3) := by decide +kernel
theorem dX7_explore_61 : decode cX7_explore 61 = .ok (.getfield 93, 3) := by decide +kernel
theorem dX7_explore_64 : decode cX7_explore 64 = .ok (.ifCond .ne 15, 3) := by decide +kernel
theorem dX7_explore_67 : decode cX7_explore 67 = .ok (.aload_n 0, 1) := by decide +kernel
theorem dX7_explore_68 : decode cX7_explore 68 = .ok (.iload_n 1, 1) := by decide +kernel
theorem dX7_explore_69 : decode cX7_explore 69 = .ok (.iload_n 2, 1) := by decide +kernel
theorem dX7_explore_70 : decode cX7_explore 70 = .ok (.lload_n 3, 1) := by decide +kernel
theorem dX7_explore_71 : decode cX7_explore 71 = .ok (.iload 5, 2) := by decide +kernel
theorem dX7_explore_73 : decode cX7_explore 73 = .ok (.invokevirtual 96, 3) := by decide +kernel
theorem dX7_explore_76 : decode cX7_explore 76 = .ok (.goto 25, 3) := by decide +kernel
theorem dX7_explore_79 : decode cX7_explore 79 = .ok (.aload_n 0, 1) := by decide +kernel
theorem dX7_explore_80 : decode cX7_explore 80 = .ok (.iload_n 1, 1) := by decide +kernel
theorem dX7_explore_81 : decode cX7_explore 81 = .ok (.iload_n 2, 1) := by decide +kernel
theorem dX7_explore_82 : decode cX7_explore 82 = .ok (.lload_n 3, 1) := by decide +kernel
theorem dX7_explore_83 : decode cX7_explore 83 = .ok (.aload_n 0, 1) := by decide +kernel
theorem dX7_explore_84 : decode cX7_explore 84 = .ok (.getfield 50, 3) := by decide +kernel
theorem dX7_explore_87 : decode cX7_explore 87 = .ok (.iload_n 2, 1) := by decide +kernel
theorem dX7_explore_88 : decode cX7_explore 88 = .ok (.iconst (-1), 1) := by decide +kernel
theorem dX7_explore_89 : decode cX7_explore 89 = .ok (.ixor, 1) := by decide +kernel
theorem dX7_explore_90 : decode cX7_explore 90 = .ok (.iand, 1) := by decide +kernel
theorem dX7_explore_91 : decode cX7_explore 91 = .ok (.iload_n 2, 1) := by decide +kernel
theorem dX7_explore_92 : decode cX7_explore 92 = .ok (.bipush 9, 2) := by decide +kernel
theorem dX7_explore_94 : decode cX7_explore 94 = .ok (.ishl, 1) := by decide +kernel
theorem dX7_explore_95 : decode cX7_explore 95 = .ok (.ior, 1) := by decide +kernel
theorem dX7_explore_96 : decode cX7_explore 96 = .ok (.iload 5, 2) := by decide +kernel
theorem dX7_explore_98 : decode cX7_explore 98 = .ok (.invokevirtual 99, 3) := by decide +kernel
theorem dX7_explore_101 : decode cX7_explore 101 = .ok (.aload_n 0, 1) := by decide +kernel
theorem dX7_explore_102 : decode cX7_explore 102 = .ok (.getfield 90, 3) := by decide +kernel
theorem dX7_explore_105 : decode cX7_explore 105 = .ok (.iload 7, 2) := by decide +kernel
theorem dX7_explore_107 : decode cX7_explore 107 = .ok (.if_icmp .ne 28, 3) := by decide +kernel
theorem dX7_explore_110 : decode cX7_explore 110 = .ok (.aload_n 0, 1) := by decide +kernel
theorem dX7_explore_111 : decode cX7_explore 111 = .ok (.iconst 0, 1) := by decide +kernel
theorem dX7_explore_112 : decode cX7_explore 112 = .ok (.invokevirtual 103, 3) := by decide +kernel
theorem dX7_explore_115 : decode cX7_explore 115 = .ok (.ifCond .ne 20, 3) := by decide +kernel
theorem dX7_explore_118 : decode cX7_explore 118 = .ok (.aload_n 0, 1) := by decide +kernel
theorem dX7_explore_119 : decode cX7_explore 119 = .ok (.getfield 31, 3) := by decide +kernel
theorem dX7_explore_122 : decode cX7_explore 122 = .ok (.iload 6, 2) := by decide +kernel
theorem dX7_explore_124 : decode cX7_explore 124 = .ok (.bipush 6, 2) := by decide +kernel
theorem dX7_explore_126 : decode cX7_explore 126 = .ok (.iushr, 1) := by decide +kernel
theorem dX7_explore_127 : decode cX7_explore 127 = .ok (.dup2, 1) := by decide +kernel
theorem dX7_explore_128 : decode cX7_explore 128 = .ok (.laload, 1) := by decide +kernel
theorem dX7_explore_129 : decode cX7_explore 129 = .ok (.lconst 1, 1) := by decide +kernel
theorem dX7_explore_130 : decode cX7_explore 130 = .ok (.iload 6, 2) := by decide +kernel
theorem dX7_explore_132 : decode cX7_explore 132 = .ok (.lshl, 1) := by decide +kernel
theorem dX7_explore_133 : decode cX7_explore 133 = .ok (.lor, 1) := by decide +kernel
theorem dX7_explore_134 : decode cX7_explore 134 = .ok (.lastore, 1) := by decide +kernel
theorem dX7_explore_135 : decode cX7_explore 135 = .ok (.return_, 1) := by decide +kernel
theorem dX7_init_0 : decode cX7_init 0 = .ok (.aload_n 0, 1) := by decide +kernel
theorem dX7_init_1 : decode cX7_init 1 = .ok (.invokespecial 3, 3) := by decide +kernel
theorem dX7_init_4 : decode cX7_init 4 = .ok (.aload_n 0, 1) := by decide +kernel
theorem dX7_init_5 : decode cX7_init 5 = .ok (.new 9, 3) := by decide +kernel
theorem dX7_init_8 : decode cX7_init 8 = .ok (.dup, 1) := by decide +kernel
theorem dX7_init_9 : decode cX7_init 9 = .ok (.invokespecial 11, 3) := by decide +kernel
theorem dX7_init_12 : decode cX7_init 12 = .ok (.putfield 12, 3) := by decide +kernel
theorem dX7_init_15 : decode cX7_init 15 = .ok (.aload_n 0, 1) := by decide +kernel
theorem dX7_init_16 : decode cX7_init 16 = .ok (.bipush 9, 2) := by decide +kernel
theorem dX7_init_18 : decode cX7_init 18 = .ok (.newarray .int, 2) := by decide +kernel
theorem dX7_init_20 : decode cX7_init 20 = .ok (.putfield 18, 3) := by decide +kernel
theorem dX7_init_23 : decode cX7_init 23 = .ok (.aload_n 0, 1) := by decide +kernel
theorem dX7_init_24 : decode cX7_init 24 = .ok (.bipush 7, 2) := by decide +kernel
theorem dX7_init_26 : decode cX7_init 26 = .ok (.newarray .int, 2) := by decide +kernel
theorem dX7_init_28 : decode cX7_init 28 = .ok (.putfield 22, 3) := by decide +kernel
theorem dX7_init_31 : decode cX7_init 31 = .ok (.aload_n 0, 1) := by decide +kernel
theorem dX7_init_32 : decode cX7_init 32 = .ok (.bipush 108, 2) := by decide +kernel
theorem dX7_init_34 : decode cX7_init 34 = .ok (.newarray .int, 2) := by decide +kernel
theorem dX7_init_36 : decode cX7_init 36 = .ok (.putfield 25, 3) := by decide +kernel
theorem dX7_init_39 : decode cX7_init 39 = .ok (.aload_n 0, 1) := by decide +kernel
theorem dX7_init_40 : decode cX7_init 40 = .ok (.bipush 108, 2) := by decide +kernel
theorem dX7_init_42 : decode cX7_init 42 = .ok (.newarray .int, 2) := by decide +kernel
theorem dX7_init_44 : decode cX7_init 44 = .ok (.putfield 28, 3) := by decide +kernel
theorem dX7_init_47 : decode cX7_init 47 = .ok (.aload_n 0, 1) := by decide +kernel
theorem dX7_init_48 : decode cX7_init 48 = .ok (.bipush 48, 2) := by decide +kernel
theorem dX7_init_50 : decode cX7_init 50 = .ok (.newarray .long, 2) := by decide +kernel
theorem dX7_init_52 : decode cX7_init 52 = .ok (.putfield 31, 3) := by decide +kernel
theorem dX7_init_55 : decode cX7_init 55 = .ok (.return_, 1) := by decide +kernel
theorem dX7_isBroken_0 : decode cX7_isBroken 0 = .ok (.aload_n 0, 1) := by decide +kernel
theorem dX7_isBroken_1 : decode cX7_isBroken 1 = .ok (.iconst 1, 1) := by decide +kernel
theorem dX7_isBroken_2 : decode cX7_isBroken 2 = .ok (.putfield 75, 3) := by decide +kernel
theorem dX7_isBroken_5 : decode cX7_isBroken 5 = .ok (.aload_n 0, 1) := by decide +kernel
theorem dX7_isBroken_6 : decode cX7_isBroken 6 = .ok (.iconst (-1), 1) := by decide +kernel
theorem dX7_isBroken_7 : decode cX7_isBroken 7 = .ok (.putfield 79, 3) := by decide +kernel
theorem dX7_isBroken_10 : decode cX7_isBroken 10 = .ok (.aload_n 0, 1) := by decide +kernel
theorem dX7_isBroken_11 : decode cX7_isBroken 11 = .ok (.iconst 0, 1) := by decide +kernel
theorem dX7_isBroken_12 : decode cX7_isBroken 12 = .ok (.iload_n 1, 1) := by decide +kernel
theorem dX7_isBroken_13 : decode cX7_isBroken 13 = .ok (.aload_n 0, 1) := by decide +kernel
theorem dX7_isBroken_14 : decode cX7_isBroken 14 = .ok (.getfield 50, 3) := by decide +kernel
theorem dX7_isBroken_17 : decode cX7_isBroken 17 = .ok (.iand, 1) := by decide +kernel
theorem dX7_isBroken_18 : decode cX7_isBroken 18 = .ok (.lconst 0, 1) := by decide +kernel
theorem dX7_isBroken_19 : decode cX7_isBroken 19 = .ok (.iconst 0, 1) := by decide +kernel
theorem dX7_isBroken_20 : decode cX7_isBroken 20 = .ok (.invokevirtual 82, 3) := by decide +kernel
theorem dX7_isBroken_23 : decode cX7_isBroken 23 = .ok (.aload_n 0, 1) := by decide +kernel
theorem dX7_isBroken_24 : decode cX7_isBroken 24 = .ok (.getfield 79, 3) := by decide +kernel
theorem dX7_isBroken_27 : decode cX7_isBroken 27 = .ok (.iconst (-1), 1) := by decide +kernel
theorem dX7_isBroken_28 : decode cX7_isBroken 28 = .ok (.if_icmp .eq 7, 3) := by decide +kernel
theorem dX7_isBroken_31 : decode cX7_isBroken 31 = .ok (.iconst 1, 1) := by decide +kernel
theorem dX7_isBroken_32 : decode cX7_isBroken 32 = .ok (.goto 4, 3) := by decide +kernel
theorem dX7_isBroken_35 : decode cX7_isBroken 35 = .ok (.iconst 0, 1) := by decide +kernel
theorem dX7_isBroken_36 : decode cX7_isBroken 36 = .ok (.ireturn, 1) := by decide +kernel
theorem dX7_isEnough_0 : decode cX7_isEnough 0 = .ok (.aload_n 0, 1) := by decide +kernel
theorem dX7_isEnough_1 : decode cX7_isEnough 1 = .ok (.getfield 75, 3) := by decide +kernel
theorem dX7_isEnough_4 : decode cX7_isEnough 4 = .ok (.ifCond .eq 15, 3) := by decide +kernel
theorem dX7_isEnough_7 : decode cX7_isEnough 7 = .ok (.aload_n 0, 1) := by decide +kernel
theorem dX7_isEnough_8 : decode cX7_isEnough 8 = .ok (.getfield 79, 3) := by decide +kernel
theorem dX7_isEnough_11 : decode cX7_isEnough 11 = .ok (.iconst (-1), 1) := by decide +kernel
theorem dX7_isEnough_12 : decode cX7_isEnough 12 = .ok (.if_icmp .eq 7, 3) := by decide +kernel
theorem dX7_isEnough_15 : decode cX7_isEnough 15 = .ok (.iconst 1, 1) := by decide +kernel
theorem dX7_isEnough_16 : decode cX7_isEnough 16 = .ok (.goto 4, 3) := by decide +kernel
theorem dX7_isEnough_19 : decode cX7_isEnough 19 = .ok (.iconst 0, 1) := by decide +kernel
theorem dX7_isEnough_20 : decode cX7_isEnough 20 = .ok (.ireturn, 1) := by decide +kernel
theorem dX7_judge_0 : decode cX7_judge 0 = .ok (.iload_n 1, 1) := by decide +kernel
theorem dX7_judge_1 : decode cX7_judge 1 = .ok (.ifCond .eq 11, 3) := by decide +kernel
theorem dX7_judge_4 : decode cX7_judge 4 = .ok (.iload_n 1, 1) := by decide +kernel
theorem dX7_judge_5 : decode cX7_judge 5 = .ok (.aload_n 0, 1) := by decide +kernel
theorem dX7_judge_6 : decode cX7_judge 6 = .ok (.getfield 50, 3) := by decide +kernel
theorem dX7_judge_9 : decode cX7_judge 9 = .ok (.if_icmp .ne 4, 3) := by decide +kernel
theorem dX7_judge_12 : decode cX7_judge 12 = .ok (.return_, 1) := by decide +kernel
theorem dX7_judge_13 : decode cX7_judge 13 = .ok (.aload_n 0, 1) := by decide +kernel
theorem dX7_judge_14 : decode cX7_judge 14 = .ok (.dup, 1) := by decide +kernel
theorem dX7_judge_15 : decode cX7_judge 15 = .ok (.getfield 90, 3) := by decide +kernel
theorem dX7_judge_18 : decode cX7_judge 18 = .ok (.iconst 1, 1) := by decide +kernel
theorem dX7_judge_19 : decode cX7_judge 19 = .ok (.iadd, 1) := by decide +kernel
theorem dX7_judge_20 : decode cX7_judge 20 = .ok (.putfield 90, 3) := by decide +kernel
theorem dX7_judge_23 : decode cX7_judge 23 = .ok (.aload_n 0, 1) := by decide +kernel
theorem dX7_judge_24 : decode cX7_judge 24 = .ok (.getfield 79, 3) := by decide +kernel
theorem dX7_judge_27 : decode cX7_judge 27 = .ok (.iconst (-1), 1) := by decide +kernel
theorem dX7_judge_28 : decode cX7_judge 28 = .ok (.if_icmp .eq 11, 3) := by decide +kernel
theorem dX7_judge_31 : decode cX7_judge 31 = .ok (.iload_n 2, 1) := by decide +kernel
theorem dX7_judge_32 : decode cX7_judge 32 = .ok (.aload_n 0, 1) := by decide +kernel
theorem dX7_judge_33 : decode cX7_judge 33 = .ok (.getfield 79, 3) := by decide +kernel
theorem dX7_judge_36 : decode cX7_judge 36 = .ok (.if_icmp .ge 8, 3) := by decide +kernel
theorem dX7_judge_39 : decode cX7_judge 39 = .ok (.aload_n 0, 1) := by decide +kernel
theorem dX7_judge_40 : decode cX7_judge 40 = .ok (.iload_n 2, 1) := by decide +kernel
theorem dX7_judge_41 : decode cX7_judge 41 = .ok (.putfield 79, 3) := by decide +kernel
theorem dX7_judge_44 : decode cX7_judge 44 = .ok (.return_, 1) := by decide +kernel
theorem dX7_least_0 : decode cX7_least 0 = .ok (.aload_n 0, 1) := by decide +kernel
theorem dX7_least_1 : decode cX7_least 1 = .ok (.iconst 0, 1) := by decide +kernel
theorem dX7_least_2 : decode cX7_least 2 = .ok (.putfield 75, 3) := by decide +kernel
theorem dX7_least_5 : decode cX7_least 5 = .ok (.aload_n 0, 1) := by decide +kernel
theorem dX7_least_6 : decode cX7_least 6 = .ok (.iconst (-1), 1) := by decide +kernel
theorem dX7_least_7 : decode cX7_least 7 = .ok (.putfield 79, 3) := by decide +kernel
theorem dX7_least_10 : decode cX7_least 10 = .ok (.aload_n 0, 1) := by decide +kernel
theorem dX7_least_11 : decode cX7_least 11 = .ok (.iconst 0, 1) := by decide +kernel
theorem dX7_least_12 : decode cX7_least 12 = .ok (.iload_n 1, 1) := by decide +kernel
theorem dX7_least_13 : decode cX7_least 13 = .ok (.aload_n 0, 1) := by decide +kernel
theorem dX7_least_14 : decode cX7_least 14 = .ok (.getfield 50, 3) := by decide +kernel
theorem dX7_least_17 : decode cX7_least 17 = .ok (.iand, 1) := by decide +kernel
theorem dX7_least_18 : decode cX7_least 18 = .ok (.lconst 0, 1) := by decide +kernel
theorem dX7_least_19 : decode cX7_least 19 = .ok (.iconst 0, 1) := by decide +kernel
theorem dX7_least_20 : decode cX7_least 20 = .ok (.invokevirtual 82, 3) := by decide +kernel
theorem dX7_least_23 : decode cX7_least 23 = .ok (.aload_n 0, 1) := by decide +kernel
theorem dX7_least_24 : decode cX7_least 24 = .ok (.getfield 79, 3) := by decide +kernel
theorem dX7_least_27 : decode cX7_least 27 = .ok (.ireturn, 1) := by decide +kernel
theorem dX7_power_0 : decode cX7_power 0 = .ok (.iconst 1, 1) := by decide +kernel
theorem dX7_power_1 : decode cX7_power 1 = .ok (.istore_n 2, 1) := by decide +kernel
theorem dX7_power_2 : decode cX7_power 2 = .ok (.iconst 0, 1) := by decide +kernel
theorem dX7_power_3 : decode cX7_power 3 = .ok (.istore_n 3, 1) := by decide +kernel
theorem dX7_power_4 : decode cX7_power 4 = .ok (.iload_n 3, 1) := by decide +kernel
theorem dX7_power_5 : decode cX7_power 5 = .ok (.aload_n 0, 1) := by decide +kernel
theorem dX7_power_6 : decode cX7_power 6 = .ok (.getfield 62, 3) := by decide +kernel
theorem dX7_power_9 : decode cX7_power 9 = .ok (.if_icmp .ge 13, 3) := by decide +kernel
theorem dX7_power_12 : decode cX7_power 12 = .ok (.iload_n 2, 1) := by decide +kernel
theorem dX7_power_13 : decode cX7_power 13 = .ok (.iload_n 1, 1) := by decide +kernel
theorem dX7_power_14 : decode cX7_power 14 = .ok (.imul, 1) := by decide +kernel
theorem dX7_power_15 : decode cX7_power 15 = .ok (.istore_n 2, 1) := by decide +kernel
theorem dX7_power_16 : decode cX7_power 16 = .ok (.iinc 3 1, 3) := by decide +kernel
theorem dX7_power_19 : decode cX7_power 19 = .ok (.goto (-15), 3) := by decide +kernel
theorem dX7_power_22 : decode cX7_power 22 = .ok (.iload_n 2, 1) := by decide +kernel
theorem dX7_power_23 : decode cX7_power 23 = .ok (.ireturn, 1) := by decide +kernel
theorem dX7_prepare_0 : decode cX7_prepare 0 = .ok (.aload_n 0, 1) := by decide +kernel
theorem dX7_prepare_1 : decode cX7_prepare 1 = .ok (.getfield 12, 3) := by decide +kernel
theorem dX7_prepare_4 : decode cX7_prepare 4 = .ok (.aload_n 1, 1) := by decide +kernel
theorem dX7_prepare_5 : decode cX7_prepare 5 = .ok (.invokevirtual 35, 3) := by decide +kernel
theorem dX7_prepare_8 : decode cX7_prepare 8 = .ok (.aload_n 0, 1) := by decide +kernel
theorem dX7_prepare_9 : decode cX7_prepare 9 = .ok (.iload_n 3, 1) := by decide +kernel
theorem dX7_prepare_10 : decode cX7_prepare 10 = .ok (.putfield 39, 3) := by decide +kernel
theorem dX7_prepare_13 : decode cX7_prepare 13 = .ok (.aload_n 0, 1) := by decide +kernel
theorem dX7_prepare_14 : decode cX7_prepare 14 = .ok (.iload_n 2, 1) := by decide +kernel
theorem dX7_prepare_15 : decode cX7_prepare 15 = .ok (.putfield 43, 3) := by decide +kernel
theorem dX7_prepare_18 : decode cX7_prepare 18 = .ok (.aload_n 0, 1) := by decide +kernel
theorem dX7_prepare_19 : decode cX7_prepare 19 = .ok (.aload_n 0, 1) := by decide +kernel
theorem dX7_prepare_20 : decode cX7_prepare 20 = .ok (.getfield 12, 3) := by decide +kernel
theorem dX7_prepare_23 : decode cX7_prepare 23 = .ok (.invokevirtual 46, 3) := by decide +kernel
theorem dX7_prepare_26 : decode cX7_prepare 26 = .ok (.aload_n 0, 1) := by decide +kernel
theorem dX7_prepare_27 : decode cX7_prepare 27 = .ok (.getfield 43, 3) := by decide +kernel
theorem dX7_prepare_30 : decode cX7_prepare 30 = .ok (.iconst (-1), 1) := by decide +kernel
theorem dX7_prepare_31 : decode cX7_prepare 31 = .ok (.ixor, 1) := by decide +kernel
theorem dX7_prepare_32 : decode cX7_prepare 32 = .ok (.iand, 1) := by decide +kernel
theorem dX7_prepare_33 : decode cX7_prepare 33 = .ok (.putfield 50, 3) := by decide +kernel
theorem dX7_prepare_36 : decode cX7_prepare 36 = .ok (.aload_n 0, 1) := by decide +kernel
theorem dX7_prepare_37 : decode cX7_prepare 37 = .ok (.aload_n 0, 1) := by decide +kernel
theorem dX7_prepare_38 : decode cX7_prepare 38 = .ok (.getfield 43, 3) := by decide +kernel
theorem dX7_prepare_41 : decode cX7_prepare 41 = .ok (.invokestatic 53, 3) := by decide +kernel
theorem dX7_prepare_44 : decode cX7_prepare 44 = .ok (.putfield 59, 3) := by decide +kernel
theorem dX7_prepare_47 : decode cX7_prepare 47 = .ok (.aload_n 0, 1) := by decide +kernel
theorem dX7_prepare_48 : decode cX7_prepare 48 = .ok (.iconst 0, 1) := by decide +kernel
theorem dX7_prepare_49 : decode cX7_prepare 49 = .ok (.putfield 62, 3) := by decide +kernel
theorem dX7_prepare_52 : decode cX7_prepare 52 = .ok (.iconst 0, 1) := by decide +kernel
theorem dX7_prepare_53 : decode cX7_prepare 53 = .ok (.istore 4, 2) := by decide +kernel
theorem dX7_prepare_55 : decode cX7_prepare 55 = .ok (.iload 4, 2) := by decide +kernel
theorem dX7_prepare_57 : decode cX7_prepare 57 = .ok (.aload_n 0, 1) := by decide +kernel
theorem dX7_prepare_58 : decode cX7_prepare 58 = .ok (.getfield 12, 3) := by decide +kernel
theorem dX7_prepare_61 : decode cX7_prepare 61 = .ok (.getfield 65, 3) := by decide +kernel
theorem dX7_prepare_64 : decode cX7_prepare 64 = .ok (.if_icmp .ge 43, 3) := by decide +kernel
theorem dX7_prepare_67 : decode cX7_prepare 67 = .ok (.aload_n 0, 1) := by decide +kernel
theorem dX7_prepare_68 : decode cX7_prepare 68 = .ok (.getfield 50, 3) := by decide +kernel
theorem dX7_prepare_71 : decode cX7_prepare 71 = .ok (.iload 4, 2) := by decide +kernel
theorem dX7_prepare_73 : decode cX7_prepare 73 = .ok (.invokestatic 68, 3) := by decide +kernel
theorem dX7_prepare_76 : decode cX7_prepare 76 = .ok (.iconst 1, 1) := by decide +kernel
theorem dX7_prepare_77 : decode cX7_prepare 77 = .ok (.if_icmp .ne 24, 3) := by decide +kernel
theorem dX7_prepare_80 : decode cX7_prepare 80 = .ok (.aload_n 0, 1) := by decide +kernel
theorem dX7_prepare_81 : decode cX7_prepare 81 = .ok (.getfield 18, 3) := by decide +kernel
theorem dX7_prepare_84 : decode cX7_prepare 84 = .ok (.aload_n 0, 1) := by decide +kernel
theorem dX7_prepare_85 : decode cX7_prepare 85 = .ok (.getfield 62, 3) := by decide +kernel
theorem dX7_prepare_88 : decode cX7_prepare 88 = .ok (.iload 4, 2) := by decide +kernel
theorem dX7_prepare_90 : decode cX7_prepare 90 = .ok (.iastore, 1) := by decide +kernel
theorem dX7_prepare_91 : decode cX7_prepare 91 = .ok (.aload_n 0, 1) := by decide +kernel
theorem dX7_prepare_92 : decode cX7_prepare 92 = .ok (.dup, 1) := by decide +kernel
theorem dX7_prepare_93 : decode cX7_prepare 93 = .ok (.getfield 62, 3) := by decide +kernel
theorem dX7_prepare_96 : decode cX7_prepare 96 = .ok (.iconst 1, 1) := by decide +kernel
theorem dX7_prepare_97 : decode cX7_prepare 97 = .ok (.iadd, 1) := by decide +kernel
theorem dX7_prepare_98 : decode cX7_prepare 98 = .ok (.putfield 62, 3) := by decide +kernel
theorem dX7_prepare_101 : decode cX7_prepare 101 = .ok (.iinc 4 1, 3) := by decide +kernel
theorem dX7_prepare_104 : decode cX7_prepare 104 = .ok (.goto (-49), 3) := by decide +kernel
theorem dX7_prepare_107 : decode cX7_prepare 107 = .ok (.iconst 0, 1) := by decide +kernel
theorem dX7_prepare_108 : decode cX7_prepare 108 = .ok (.istore 4, 2) := by decide +kernel
theorem dX7_prepare_110 : decode cX7_prepare 110 = .ok (.iload 4, 2) := by decide +kernel
theorem dX7_prepare_112 : decode cX7_prepare 112 = .ok (.bipush 6, 2) := by decide +kernel
theorem dX7_prepare_114 : decode cX7_prepare 114 = .ok (.if_icmp .gt 29, 3) := by decide +kernel
theorem dX7_prepare_117 : decode cX7_prepare 117 = .ok (.aload_n 0, 1) := by decide +kernel
theorem dX7_prepare_118 : decode cX7_prepare 118 = .ok (.getfield 22, 3) := by decide +kernel
theorem dX7_prepare_121 : decode cX7_prepare 121 = .ok (.iload 4, 2) := by decide +kernel
theorem dX7_prepare_123 : decode cX7_prepare 123 = .ok (.aload_n 0, 1) := by decide +kernel
theorem dX7_prepare_124 : decode cX7_prepare 124 = .ok (.getfield 12, 3) := by decide +kernel
theorem dX7_prepare_127 : decode cX7_prepare 127 = .ok (.aload_n 0, 1) := by decide +kernel
theorem dX7_prepare_128 : decode cX7_prepare 128 = .ok (.getfield 43, 3) := by decide +kernel
theorem dX7_prepare_131 : decode cX7_prepare 131 = .ok (.iload 4, 2) := by decide +kernel
theorem dX7_prepare_133 : decode cX7_prepare 133 = .ok (.invokevirtual 72, 3) := by decide +kernel
theorem dX7_prepare_136 : decode cX7_prepare 136 = .ok (.iastore, 1) := by decide +kernel
theorem dX7_prepare_137 : decode cX7_prepare 137 = .ok (.iinc 4 1, 3) := by decide +kernel
theorem dX7_prepare_140 : decode cX7_prepare 140 = .ok (.goto (-30), 3) := by decide +kernel
theorem dX7_prepare_143 : decode cX7_prepare 143 = .ok (.iconst 0, 1) := by decide +kernel
theorem dX7_prepare_144 : decode cX7_prepare 144 = .ok (.istore 4, 2) := by decide +kernel
theorem dX7_prepare_146 : decode cX7_prepare 146 = .ok (.iload 4, 2) := by decide +kernel
theorem dX7_prepare_148 : decode cX7_prepare 148 = .ok (.aload_n 0, 1) := by decide +kernel
theorem dX7_prepare_149 : decode cX7_prepare 149 = .ok (.getfield 31, 3) := by decide +kernel
theorem dX7_prepare_152 : decode cX7_prepare 152 = .ok (.arraylength, 1) := by decide +kernel
theorem dX7_prepare_153 : decode cX7_prepare 153 = .ok (.if_icmp .ge 17, 3) := by decide +kernel
theorem dX7_prepare_156 : decode cX7_prepare 156 = .ok (.aload_n 0, 1) := by decide +kernel
theorem dX7_prepare_157 : decode cX7_prepare 157 = .ok (.getfield 31, 3) := by decide +kernel
theorem dX7_prepare_160 : decode cX7_prepare 160 = .ok (.iload 4, 2) := by decide +kernel
theorem dX7_prepare_162 : decode cX7_prepare 162 = .ok (.lconst 0, 1) := by decide +kernel
theorem dX7_prepare_163 : decode cX7_prepare 163 = .ok (.lastore, 1) := by decide +kernel
theorem dX7_prepare_164 : decode cX7_prepare 164 = .ok (.iinc 4 1, 3) := by decide +kernel
theorem dX7_prepare_167 : decode cX7_prepare 167 = .ok (.goto (-21), 3) := by decide +kernel
theorem dX7_prepare_170 : decode cX7_prepare 170 = .ok (.return_, 1) := by decide +kernel
theorem dX7_seen_0 : decode cX7_seen 0 = .ok (.iload_n 2, 1) := by decide +kernel
theorem dX7_seen_1 : decode cX7_seen 1 = .ok (.iconst 4, 1) := by decide +kernel
theorem dX7_seen_2 : decode cX7_seen 2 = .ok (.irem, 1) := by decide +kernel
theorem dX7_seen_3 : decode cX7_seen 3 = .ok (.istore_n 3, 1) := by decide +kernel
theorem dX7_seen_4 : decode cX7_seen 4 = .ok (.iload_n 3, 1) := by decide +kernel
theorem dX7_seen_5 : decode cX7_seen 5 = .ok (.iconst 2, 1) := by decide +kernel
theorem dX7_seen_6 : decode cX7_seen 6 = .ok (.if_icmp .ne 5, 3) := by decide +kernel
theorem dX7_seen_9 : decode cX7_seen 9 = .ok (.iload_n 0, 1) := by decide +kernel
theorem dX7_seen_10 : decode cX7_seen 10 = .ok (.ireturn, 1) := by decide +kernel
theorem dX7_seen_11 : decode cX7_seen 11 = .ok (.iload_n 3, 1) := by decide +kernel
theorem dX7_seen_12 : decode cX7_seen 12 = .ok (.iconst 1, 1) := by decide +kernel
theorem dX7_seen_13 : decode cX7_seen 13 = .ok (.if_icmp .ne 9, 3) := by decide +kernel
theorem dX7_seen_16 : decode cX7_seen 16 = .ok (.iload_n 0, 1) := by decide +kernel
theorem dX7_seen_17 : decode cX7_seen 17 = .ok (.iload_n 1, 1) := by decide +kernel
theorem dX7_seen_18 : decode cX7_seen 18 = .ok (.ior, 1) := by decide +kernel
theorem dX7_seen_19 : decode cX7_seen 19 = .ok (.goto 8, 3) := by decide +kernel
theorem dX7_seen_22 : decode cX7_seen 22 = .ok (.iload_n 0, 1) := by decide +kernel
theorem dX7_seen_23 : decode cX7_seen 23 = .ok (.iload_n 1, 1) := by decide +kernel
theorem dX7_seen_24 : decode cX7_seen 24 = .ok (.iconst (-1), 1) := by decide +kernel
theorem dX7_seen_25 : decode cX7_seen 25 = .ok (.ixor, 1) := by decide +kernel
theorem dX7_seen_26 : decode cX7_seen 26 = .ok (.iand, 1) := by decide +kernel
theorem dX7_seen_27 : decode cX7_seen 27 = .ok (.ireturn, 1) := by decide +kernel
theorem dX7_spread_0 : decode cX7_spread 0 = .ok (.iconst 0, 1) := by decide +kernel
theorem dX7_spread_1 : decode cX7_spread 1 = .ok (.istore_n 2, 1) := by decide +kernel
theorem dX7_spread_2 : decode cX7_spread 2 = .ok (.iconst 0, 1) := by decide +kernel
theorem dX7_spread_3 : decode cX7_spread 3 = .ok (.istore_n 3, 1) := by decide +kernel
theorem dX7_spread_4 : decode cX7_spread 4 = .ok (.iload_n 3, 1) := by decide +kernel
theorem dX7_spread_5 : decode cX7_spread 5 = .ok (.aload_n 0, 1) := by decide +kernel
theorem dX7_spread_6 : decode cX7_spread 6 = .ok (.getfield 62, 3) := by decide +kernel
theorem dX7_spread_9 : decode cX7_spread 9 = .ok (.if_icmp .ge 24, 3) := by decide +kernel
theorem dX7_spread_12 : decode cX7_spread 12 = .ok (.iload_n 2, 1) := by decide +kernel
theorem dX7_spread_13 : decode cX7_spread 13 = .ok (.iload_n 1, 1) := by decide +kernel
theorem dX7_spread_14 : decode cX7_spread 14 = .ok (.iload_n 3, 1) := by decide +kernel
theorem dX7_spread_15 : decode cX7_spread 15 = .ok (.iushr, 1) := by decide +kernel
theorem dX7_spread_16 : decode cX7_spread 16 = .ok (.iconst 1, 1) := by decide +kernel
theorem dX7_spread_17 : decode cX7_spread 17 = .ok (.iand, 1) := by decide +kernel
theorem dX7_spread_18 : decode cX7_spread 18 = .ok (.aload_n 0, 1) := by decide +kernel
theorem dX7_spread_19 : decode cX7_spread 19 = .ok (.getfield 18, 3) := by decide +kernel
theorem dX7_spread_22 : decode cX7_spread 22 = .ok (.iload_n 3, 1) := by decide +kernel
theorem dX7_spread_23 : decode cX7_spread 23 = .ok (.iaload, 1) := by decide +kernel
theorem dX7_spread_24 : decode cX7_spread 24 = .ok (.ishl, 1) := by decide +kernel
theorem dX7_spread_25 : decode cX7_spread 25 = .ok (.ior, 1) := by decide +kernel
theorem dX7_spread_26 : decode cX7_spread 26 = .ok (.istore_n 2, 1) := by decide +kernel
theorem dX7_spread_27 : decode cX7_spread 27 = .ok (.iinc 3 1, 3) := by decide +kernel
theorem dX7_spread_30 : decode cX7_spread 30 = .ok (.goto (-26), 3) := by decide +kernel
theorem dX7_spread_33 : decode cX7_spread 33 = .ok (.iload_n 2, 1) := by decide +kernel
theorem dX7_spread_34 : decode cX7_spread 34 = .ok (.ireturn, 1) := by decide +kernel
theorem dX7_tryOffers_0 : decode cX7_tryOffers 0 = .ok (.iload_n 1, 1) := by decide +kernel
theorem dX7_tryOffers_1 : decode cX7_tryOffers 1 = .ok (.iconst 2, 1) := by decide +kernel
theorem dX7_tryOffers_2 : decode cX7_tryOffers 2 = .ok (.imul, 1) := by decide +kernel
theorem dX7_tryOffers_3 : decode cX7_tryOffers 3 = .ok (.bipush 9, 2) := by decide +kernel
theorem dX7_tryOffers_5 : decode cX7_tryOffers 5 = .ok (.imul, 1) := by decide +kernel
theorem dX7_tryOffers_6 : decode cX7_tryOffers 6 = .ok (.istore 6, 2) := by decide +kernel
theorem dX7_tryOffers_8 : decode cX7_tryOffers 8 = .ok (.iload_n 2, 1) := by decide +kernel
theorem dX7_tryOffers_9 : decode cX7_tryOffers 9 = .ok (.invokestatic 53, 3) := by decide +kernel
theorem dX7_tryOffers_12 : decode cX7_tryOffers 12 = .ok (.istore 7, 2) := by decide +kernel
theorem dX7_tryOffers_14 : decode cX7_tryOffers 14 = .ok (.iconst 0, 1) := by decide +kernel
theorem dX7_tryOffers_15 : decode cX7_tryOffers 15 = .ok (.istore 8, 2) := by decide +kernel
theorem dX7_tryOffers_17 : decode cX7_tryOffers 17 = .ok (.iconst 0, 1) := by decide +kernel
theorem dX7_tryOffers_18 : decode cX7_tryOffers 18 = .ok (.istore 9, 2) := by decide +kernel
theorem dX7_tryOffers_20 : decode cX7_tryOffers 20 = .ok (.iload 9, 2) := by decide +kernel
theorem dX7_tryOffers_22 : decode cX7_tryOffers 22 = .ok (.aload_n 0, 1) := by decide +kernel
theorem dX7_tryOffers_23 : decode cX7_tryOffers 23 = .ok (.getfield 59, 3) := by decide +kernel
theorem dX7_tryOffers_26 : decode cX7_tryOffers 26 = .ok (.if_icmp .gt 50, 3) := by decide +kernel
theorem dX7_tryOffers_29 : decode cX7_tryOffers 29 = .ok (.aload_n 0, 1) := by decide +kernel
theorem dX7_tryOffers_30 : decode cX7_tryOffers 30 = .ok (.getfield 12, 3) := by decide +kernel
theorem dX7_tryOffers_33 : decode cX7_tryOffers 33 = .ok (.aload_n 0, 1) := by decide +kernel
theorem dX7_tryOffers_34 : decode cX7_tryOffers 34 = .ok (.getfield 12, 3) := by decide +kernel
theorem dX7_tryOffers_37 : decode cX7_tryOffers 37 = .ok (.getfield 65, 3) := by decide +kernel
theorem dX7_tryOffers_40 : decode cX7_tryOffers 40 = .ok (.iload 7, 2) := by decide +kernel
theorem dX7_tryOffers_42 : decode cX7_tryOffers 42 = .ok (.isub, 1) := by decide +kernel
theorem dX7_tryOffers_43 : decode cX7_tryOffers 43 = .ok (.iload 9, 2) := by decide +kernel
theorem dX7_tryOffers_45 : decode cX7_tryOffers 45 = .ok (.isub, 1) := by decide +kernel
theorem dX7_tryOffers_46 : decode cX7_tryOffers 46 = .ok (.iload 7, 2) := by decide +kernel
theorem dX7_tryOffers_48 : decode cX7_tryOffers 48 = .ok (.iload 9, 2) := by decide +kernel
theorem dX7_tryOffers_50 : decode cX7_tryOffers 50 = .ok (.iadd, 1) := by decide +kernel
theorem dX7_tryOffers_51 : decode cX7_tryOffers 51 = .ok (.invokevirtual 107, 3) := by decide +kernel
theorem dX7_tryOffers_54 : decode cX7_tryOffers 54 = .ok (.istore 10, 2) := by decide +kernel
theorem dX7_tryOffers_56 : decode cX7_tryOffers 56 = .ok (.aload_n 0, 1) := by decide +kernel
theorem dX7_tryOffers_57 : decode cX7_tryOffers 57 = .ok (.iload 6, 2) := by decide +kernel
theorem dX7_tryOffers_59 : decode cX7_tryOffers 59 = .ok (.iload 8, 2) := by decide +kernel
theorem dX7_tryOffers_61 : decode cX7_tryOffers 61 = .ok (.iload 10, 2) := by decide +kernel
theorem dX7_tryOffers_63 : decode cX7_tryOffers 63 = .ok (.iload 9, 2) := by decide +kernel
theorem dX7_tryOffers_65 : decode cX7_tryOffers 65 = .ok (.invokevirtual 110, 3) := by decide +kernel
theorem dX7_tryOffers_68 : decode cX7_tryOffers 68 = .ok (.istore 8, 2) := by decide +kernel
theorem dX7_tryOffers_70 : decode cX7_tryOffers 70 = .ok (.iinc 9 1, 3) := by decide +kernel
theorem dX7_tryOffers_73 : decode cX7_tryOffers 73 = .ok (.goto (-53), 3) := by decide +kernel
theorem dX7_tryOffers_76 : decode cX7_tryOffers 76 = .ok (.aload_n 0, 1) := by decide +kernel
theorem dX7_tryOffers_77 : decode cX7_tryOffers 77 = .ok (.iload 8, 2) := by decide +kernel
theorem dX7_tryOffers_79 : decode cX7_tryOffers 79 = .ok (.invokevirtual 114, 3) := by decide +kernel
theorem dX7_tryOffers_82 : decode cX7_tryOffers 82 = .ok (.istore 9, 2) := by decide +kernel
theorem dX7_tryOffers_84 : decode cX7_tryOffers 84 = .ok (.iconst 0, 1) := by decide +kernel
theorem dX7_tryOffers_85 : decode cX7_tryOffers 85 = .ok (.istore 10, 2) := by decide +kernel
theorem dX7_tryOffers_87 : decode cX7_tryOffers 87 = .ok (.iload 10, 2) := by decide +kernel
theorem dX7_tryOffers_89 : decode cX7_tryOffers 89 = .ok (.iload 9, 2) := by decide +kernel
theorem dX7_tryOffers_91 : decode cX7_tryOffers 91 = .ok (.if_icmp .ge 120, 3) := by decide +kernel
theorem dX7_tryOffers_94 : decode cX7_tryOffers 94 = .ok (.aload_n 0, 1) := by decide +kernel
theorem dX7_tryOffers_95 : decode cX7_tryOffers 95 = .ok (.invokevirtual 117, 3) := by decide +kernel
theorem dX7_tryOffers_98 : decode cX7_tryOffers 98 = .ok (.ifCond .ne 113, 3) := by decide +kernel
theorem dX7_tryOffers_101 : decode cX7_tryOffers 101 = .ok (.iconst 0, 1) := by decide +kernel
theorem dX7_tryOffers_102 : decode cX7_tryOffers 102 = .ok (.istore 11, 2) := by decide +kernel
theorem dX7_tryOffers_104 : decode cX7_tryOffers 104 = .ok (.iload 10, 2) := by decide +kernel
theorem dX7_tryOffers_106 : decode cX7_tryOffers 106 = .ok (.istore 12, 2) := by decide +kernel
theorem dX7_tryOffers_108 : decode cX7_tryOffers 108 = .ok (.iload 5, 2) := by decide +kernel
theorem dX7_tryOffers_110 : decode cX7_tryOffers 110 = .ok (.istore 13, 2) := by decide +kernel
theorem dX7_tryOffers_112 : decode cX7_tryOffers 112 = .ok (.iconst 0, 1) := by decide +kernel
theorem dX7_tryOffers_113 : decode cX7_tryOffers 113 = .ok (.istore 14, 2) := by decide +kernel
theorem dX7_tryOffers_115 : decode cX7_tryOffers 115 = .ok (.iload 14, 2) := by decide +kernel
theorem dX7_tryOffers_117 : decode cX7_tryOffers 117 = .ok (.aload_n 0, 1) := by decide +kernel
theorem dX7_tryOffers_118 : decode cX7_tryOffers 118 = .ok (.getfield 62, 3) := by decide +kernel
theorem dX7_tryOffers_121 : decode cX7_tryOffers 121 = .ok (.if_icmp .ge 73, 3) := by decide +kernel
theorem dX7_tryOffers_124 : decode cX7_tryOffers 124 = .ok (.iload 6, 2) := by decide +kernel
theorem dX7_tryOffers_126 : decode cX7_tryOffers 126 = .ok (.iload 12, 2) := by decide +kernel
theorem dX7_tryOffers_128 : decode cX7_tryOffers 128 = .ok (.iload 8, 2) := by decide +kernel
theorem dX7_tryOffers_130 : decode cX7_tryOffers 130 = .ok (.irem, 1) := by decide +kernel
theorem dX7_tryOffers_131 : decode cX7_tryOffers 131 = .ok (.iadd, 1) := by decide +kernel
theorem dX7_tryOffers_132 : decode cX7_tryOffers 132 = .ok (.istore 15, 2) := by decide +kernel
theorem dX7_tryOffers_134 : decode cX7_tryOffers 134 = .ok (.iload 12, 2) := by decide +kernel
theorem dX7_tryOffers_136 : decode cX7_tryOffers 136 = .ok (.iload 8, 2) := by decide +kernel
theorem dX7_tryOffers_138 : decode cX7_tryOffers 138 = .ok (.idiv, 1) := by decide +kernel
theorem dX7_tryOffers_139 : decode cX7_tryOffers 139 = .ok (.istore 12, 2) := by decide +kernel
theorem dX7_tryOffers_141 : decode cX7_tryOffers 141 = .ok (.iload 11, 2) := by decide +kernel
theorem dX7_tryOffers_143 : decode cX7_tryOffers 143 = .ok (.aload_n 0, 1) := by decide +kernel
theorem dX7_tryOffers_144 : decode cX7_tryOffers 144 = .ok (.getfield 25, 3) := by decide +kernel
theorem dX7_tryOffers_147 : decode cX7_tryOffers 147 = .ok (.iload 15, 2) := by decide +kernel
theorem dX7_tryOffers_149 : decode cX7_tryOffers 149 = .ok (.iaload, 1) := by decide +kernel
theorem dX7_tryOffers_150 : decode cX7_tryOffers 150 = .ok (.aload_n 0, 1) := by decide +kernel
theorem dX7_tryOffers_151 : decode cX7_tryOffers 151 = .ok (.getfield 18, 3) := by decide +kernel
theorem dX7_tryOffers_154 : decode cX7_tryOffers 154 = .ok (.iload 14, 2) := by decide +kernel
theorem dX7_tryOffers_156 : decode cX7_tryOffers 156 = .ok (.iaload, 1) := by decide +kernel
theorem dX7_tryOffers_157 : decode cX7_tryOffers 157 = .ok (.invokestatic 121, 3) := by decide +kernel
theorem dX7_tryOffers_160 : decode cX7_tryOffers 160 = .ok (.ior, 1) := by decide +kernel
theorem dX7_tryOffers_161 : decode cX7_tryOffers 161 = .ok (.istore 11, 2) := by decide +kernel
theorem dX7_tryOffers_163 : decode cX7_tryOffers 163 = .ok (.iload 13, 2) := by decide +kernel
theorem dX7_tryOffers_165 : decode cX7_tryOffers 165 = .ok (.aload_n 0, 1) := by decide +kernel
theorem dX7_tryOffers_166 : decode cX7_tryOffers 166 = .ok (.aload_n 0, 1) := by decide +kernel
theorem dX7_tryOffers_167 : decode cX7_tryOffers 167 = .ok (.getfield 28, 3) := by decide +kernel
theorem dX7_tryOffers_170 : decode cX7_tryOffers 170 = .ok (.iload 15, 2) := by decide +kernel
theorem dX7_tryOffers_172 : decode cX7_tryOffers 172 = .ok (.iaload, 1) := by decide +kernel
theorem dX7_tryOffers_173 : decode cX7_tryOffers 173 = .ok (.aload_n 0, 1) := by decide +kernel
theorem dX7_tryOffers_174 : decode cX7_tryOffers 174 = .ok (.getfield 22, 3) := by decide +kernel
theorem dX7_tryOffers_177 : decode cX7_tryOffers 177 = .ok (.iload_n 1, 1) := by decide +kernel
theorem dX7_tryOffers_178 : decode cX7_tryOffers 178 = .ok (.iaload, 1) := by decide +kernel
theorem dX7_tryOffers_179 : decode cX7_tryOffers 179 = .ok (.iload 14, 2) := by decide +kernel
theorem dX7_tryOffers_181 : decode cX7_tryOffers 181 = .ok (.iadd, 1) := by decide +kernel
theorem dX7_tryOffers_182 : decode cX7_tryOffers 182 = .ok (.invokevirtual 124, 3) := by decide +kernel
theorem dX7_tryOffers_185 : decode cX7_tryOffers 185 = .ok (.ior, 1) := by decide +kernel
theorem dX7_tryOffers_186 : decode cX7_tryOffers 186 = .ok (.istore 13, 2) := by decide +kernel
theorem dX7_tryOffers_188 : decode cX7_tryOffers 188 = .ok (.iinc 14 1, 3) := by decide +kernel
theorem dX7_tryOffers_191 : decode cX7_tryOffers 191 = .ok (.goto (-76), 3) := by decide +kernel
theorem dX7_tryOffers_194 : decode cX7_tryOffers 194 = .ok (.aload_n 0, 1) := by decide +kernel
theorem dX7_tryOffers_195 : decode cX7_tryOffers 195 = .ok (.iload_n 1, 1) := by decide +kernel
theorem dX7_tryOffers_196 : decode cX7_tryOffers 196 = .ok (.iload_n 2, 1) := by decide +kernel
theorem dX7_tryOffers_197 : decode cX7_tryOffers 197 = .ok (.lload_n 3, 1) := by decide +kernel
theorem dX7_tryOffers_198 : decode cX7_tryOffers 198 = .ok (.iload 11, 2) := by decide +kernel
theorem dX7_tryOffers_200 : decode cX7_tryOffers 200 = .ok (.iload 13, 2) := by decide +kernel
theorem dX7_tryOffers_202 : decode cX7_tryOffers 202 = .ok (.invokevirtual 99, 3) := by decide +kernel
theorem dX7_tryOffers_205 : decode cX7_tryOffers 205 = .ok (.iinc 10 1, 3) := by decide +kernel
theorem dX7_tryOffers_208 : decode cX7_tryOffers 208 = .ok (.goto (-121), 3) := by decide +kernel
theorem dX7_tryOffers_211 : decode cX7_tryOffers 211 = .ok (.return_, 1) := by decide +kernel
theorem dX7_tryRuler_0 : decode cX7_tryRuler 0 = .ok (.aload_n 0, 1) := by decide +kernel
theorem dX7_tryRuler_1 : decode cX7_tryRuler 1 = .ok (.getfield 12, 3) := by decide +kernel
theorem dX7_tryRuler_4 : decode cX7_tryRuler 4 = .ok (.iload_n 1, 1) := by decide +kernel
theorem dX7_tryRuler_5 : decode cX7_tryRuler 5 = .ok (.invokevirtual 138, 3) := by decide +kernel
theorem dX7_tryRuler_8 : decode cX7_tryRuler 8 = .ok (.istore 7, 2) := by decide +kernel
theorem dX7_tryRuler_10 : decode cX7_tryRuler 10 = .ok (.iload 7, 2) := by decide +kernel
theorem dX7_tryRuler_12 : decode cX7_tryRuler 12 = .ok (.bipush 9, 2) := by decide +kernel
theorem dX7_tryRuler_14 : decode cX7_tryRuler 14 = .ok (.imul, 1) := by decide +kernel
theorem dX7_tryRuler_15 : decode cX7_tryRuler 15 = .ok (.istore 8, 2) := by decide +kernel
theorem dX7_tryRuler_17 : decode cX7_tryRuler 17 = .ok (.aload_n 0, 1) := by decide +kernel
theorem dX7_tryRuler_18 : decode cX7_tryRuler 18 = .ok (.getfield 12, 3) := by decide +kernel
theorem dX7_tryRuler_21 : decode cX7_tryRuler 21 = .ok (.getfield 141, 3) := by decide +kernel
theorem dX7_tryRuler_24 : decode cX7_tryRuler 24 = .ok (.ifCond .eq 16, 3) := by decide +kernel
theorem dX7_tryRuler_27 : decode cX7_tryRuler 27 = .ok (.lload 4, 2) := by decide +kernel
theorem dX7_tryRuler_29 : decode cX7_tryRuler 29 = .ok (.iload 8, 2) := by decide +kernel
theorem dX7_tryRuler_31 : decode cX7_tryRuler 31 = .ok (.lushr, 1) := by decide +kernel
theorem dX7_tryRuler_32 : decode cX7_tryRuler 32 = .ok (.l2i, 1) := by decide +kernel
theorem dX7_tryRuler_33 : decode cX7_tryRuler 33 = .ok (.sipush 511, 3) := by decide +kernel
theorem dX7_tryRuler_36 : decode cX7_tryRuler 36 = .ok (.iand, 1) := by decide +kernel
theorem dX7_tryRuler_37 : decode cX7_tryRuler 37 = .ok (.goto 4, 3) := by decide +kernel
theorem dX7_tryRuler_40 : decode cX7_tryRuler 40 = .ok (.iconst 0, 1) := by decide +kernel
theorem dX7_tryRuler_41 : decode cX7_tryRuler 41 = .ok (.istore 9, 2) := by decide +kernel
theorem dX7_tryRuler_43 : decode cX7_tryRuler 43 = .ok (.aload_n 0, 1) := by decide +kernel
theorem dX7_tryRuler_44 : decode cX7_tryRuler 44 = .ok (.getfield 50, 3) := by decide +kernel
theorem dX7_tryRuler_47 : decode cX7_tryRuler 47 = .ok (.iload_n 3, 1) := by decide +kernel
theorem dX7_tryRuler_48 : decode cX7_tryRuler 48 = .ok (.iconst (-1), 1) := by decide +kernel
theorem dX7_tryRuler_49 : decode cX7_tryRuler 49 = .ok (.ixor, 1) := by decide +kernel
theorem dX7_tryRuler_50 : decode cX7_tryRuler 50 = .ok (.iand, 1) := by decide +kernel
theorem dX7_tryRuler_51 : decode cX7_tryRuler 51 = .ok (.iload 9, 2) := by decide +kernel
theorem dX7_tryRuler_53 : decode cX7_tryRuler 53 = .ok (.iconst (-1), 1) := by decide +kernel
theorem dX7_tryRuler_54 : decode cX7_tryRuler 54 = .ok (.ixor, 1) := by decide +kernel
theorem dX7_tryRuler_55 : decode cX7_tryRuler 55 = .ok (.iand, 1) := by decide +kernel
theorem dX7_tryRuler_56 : decode cX7_tryRuler 56 = .ok (.istore 10, 2) := by decide +kernel
theorem dX7_tryRuler_58 : decode cX7_tryRuler 58 = .ok (.iload 10, 2) := by decide +kernel
theorem dX7_tryRuler_60 : decode cX7_tryRuler 60 = .ok (.aload_n 0, 1) := by decide +kernel
theorem dX7_tryRuler_61 : decode cX7_tryRuler 61 = .ok (.iload_n 1, 1) := by decide +kernel
theorem dX7_tryRuler_62 : decode cX7_tryRuler 62 = .ok (.invokevirtual 103, 3) := by decide +kernel
theorem dX7_tryRuler_65 : decode cX7_tryRuler 65 = .ok (.ifCond .eq 7, 3) := by decide +kernel
theorem dX7_tryRuler_68 : decode cX7_tryRuler 68 = .ok (.iload_n 3, 1) := by decide +kernel
theorem dX7_tryRuler_69 : decode cX7_tryRuler 69 = .ok (.goto 4, 3) := by decide +kernel
theorem dX7_tryRuler_72 : decode cX7_tryRuler 72 = .ok (.iconst 0, 1) := by decide +kernel
theorem dX7_tryRuler_73 : decode cX7_tryRuler 73 = .ok (.ior, 1) := by decide +kernel
theorem dX7_tryRuler_74 : decode cX7_tryRuler 74 = .ok (.istore 11, 2) := by decide +kernel
theorem dX7_tryRuler_76 : decode cX7_tryRuler 76 = .ok (.iload_n 2, 1) := by decide +kernel
theorem dX7_tryRuler_77 : decode cX7_tryRuler 77 = .ok (.iload 7, 2) := by decide +kernel
theorem dX7_tryRuler_79 : decode cX7_tryRuler 79 = .ok (.invokestatic 68, 3) := by decide +kernel
theorem dX7_tryRuler_82 : decode cX7_tryRuler 82 = .ok (.iconst 1, 1) := by decide +kernel
theorem dX7_tryRuler_83 : decode cX7_tryRuler 83 = .ok (.if_icmp .ne 10, 3) := by decide +kernel
theorem dX7_tryRuler_86 : decode cX7_tryRuler 86 = .ok (.aload_n 0, 1) := by decide +kernel
theorem dX7_tryRuler_87 : decode cX7_tryRuler 87 = .ok (.getfield 50, 3) := by decide +kernel
theorem dX7_tryRuler_90 : decode cX7_tryRuler 90 = .ok (.goto 4, 3) := by decide +kernel
theorem dX7_tryRuler_93 : decode cX7_tryRuler 93 = .ok (.iconst 0, 1) := by decide +kernel
theorem dX7_tryRuler_94 : decode cX7_tryRuler 94 = .ok (.istore 12, 2) := by decide +kernel
theorem dX7_tryRuler_96 : decode cX7_tryRuler 96 = .ok (.aload_n 0, 1) := by decide +kernel
theorem dX7_tryRuler_97 : decode cX7_tryRuler 97 = .ok (.getfield 22, 3) := by decide +kernel
theorem dX7_tryRuler_100 : decode cX7_tryRuler 100 = .ok (.iload_n 1, 1) := by decide +kernel
theorem dX7_tryRuler_101 : decode cX7_tryRuler 101 = .ok (.iconst 1, 1) := by decide +kernel
theorem dX7_tryRuler_102 : decode cX7_tryRuler 102 = .ok (.iadd, 1) := by decide +kernel
theorem dX7_tryRuler_103 : decode cX7_tryRuler 103 = .ok (.iaload, 1) := by decide +kernel
theorem dX7_tryRuler_104 : decode cX7_tryRuler 104 = .ok (.aload_n 0, 1) := by decide +kernel
theorem dX7_tryRuler_105 : decode cX7_tryRuler 105 = .ok (.getfield 62, 3) := by decide +kernel
theorem dX7_tryRuler_108 : decode cX7_tryRuler 108 = .ok (.isub, 1) := by decide +kernel
theorem dX7_tryRuler_109 : decode cX7_tryRuler 109 = .ok (.istore 13, 2) := by decide +kernel
theorem dX7_tryRuler_111 : decode cX7_tryRuler 111 = .ok (.aload_n 0, 1) := by decide +kernel
theorem dX7_tryRuler_112 : decode cX7_tryRuler 112 = .ok (.getfield 43, 3) := by decide +kernel
theorem dX7_tryRuler_115 : decode cX7_tryRuler 115 = .ok (.iload 7, 2) := by decide +kernel
theorem dX7_tryRuler_117 : decode cX7_tryRuler 117 = .ok (.invokestatic 68, 3) := by decide +kernel
theorem dX7_tryRuler_120 : decode cX7_tryRuler 120 = .ok (.iconst 1, 1) := by decide +kernel
theorem dX7_tryRuler_121 : decode cX7_tryRuler 121 = .ok (.if_icmp .ne 12, 3) := by decide +kernel
theorem dX7_tryRuler_124 : decode cX7_tryRuler 124 = .ok (.iconst 1, 1) := by decide +kernel
theorem dX7_tryRuler_125 : decode cX7_tryRuler 125 = .ok (.aload_n 0, 1) := by decide +kernel
theorem dX7_tryRuler_126 : decode cX7_tryRuler 126 = .ok (.getfield 62, 3) := by decide +kernel
theorem dX7_tryRuler_129 : decode cX7_tryRuler 129 = .ok (.ishl, 1) := by decide +kernel
theorem dX7_tryRuler_130 : decode cX7_tryRuler 130 = .ok (.goto 4, 3) := by decide +kernel
theorem dX7_tryRuler_133 : decode cX7_tryRuler 133 = .ok (.iconst 1, 1) := by decide +kernel
theorem dX7_tryRuler_134 : decode cX7_tryRuler 134 = .ok (.istore 14, 2) := by decide +kernel
theorem dX7_tryRuler_136 : decode cX7_tryRuler 136 = .ok (.iconst 0, 1) := by decide +kernel
theorem dX7_tryRuler_137 : decode cX7_tryRuler 137 = .ok (.istore 15, 2) := by decide +kernel
theorem dX7_tryRuler_139 : decode cX7_tryRuler 139 = .ok (.iload 15, 2) := by decide +kernel
theorem dX7_tryRuler_141 : decode cX7_tryRuler 141 = .ok (.iload 14, 2) := by decide +kernel
theorem dX7_tryRuler_143 : decode cX7_tryRuler 143 = .ok (.if_icmp .ge 89, 3) := by decide +kernel
theorem dX7_tryRuler_146 : decode cX7_tryRuler 146 = .ok (.aload_n 0, 1) := by decide +kernel
theorem dX7_tryRuler_147 : decode cX7_tryRuler 147 = .ok (.invokevirtual 117, 3) := by decide +kernel
theorem dX7_tryRuler_150 : decode cX7_tryRuler 150 = .ok (.ifCond .ne 82, 3) := by decide +kernel
theorem dX7_tryRuler_153 : decode cX7_tryRuler 153 = .ok (.aload_n 0, 1) := by decide +kernel
theorem dX7_tryRuler_154 : decode cX7_tryRuler 154 = .ok (.iload 15, 2) := by decide +kernel
theorem dX7_tryRuler_156 : decode cX7_tryRuler 156 = .ok (.invokevirtual 144, 3) := by decide +kernel
theorem dX7_tryRuler_159 : decode cX7_tryRuler 159 = .ok (.istore 16, 2) := by decide +kernel
theorem dX7_tryRuler_161 : decode cX7_tryRuler 161 = .ok (.iload 16, 2) := by decide +kernel
theorem dX7_tryRuler_163 : decode cX7_tryRuler 163 = .ok (.iload 11, 2) := by decide +kernel
theorem dX7_tryRuler_165 : decode cX7_tryRuler 165 = .ok (.iconst (-1), 1) := by decide +kernel
theorem dX7_tryRuler_166 : decode cX7_tryRuler 166 = .ok (.ixor, 1) := by decide +kernel
