theorem dX10_heard_42 : decode cX10_heard 42 = .ok (.aload_n 0, 1) := by decide +kernel
theorem dX10_heard_43 : decode cX10_heard 43 = .ok (.getfield 23, 3) := by decide +kernel
theorem dX10_heard_46 : decode cX10_heard 46 = .ok (.iload_n 1, 1) := by decide +kernel
theorem dX10_heard_47 : decode cX10_heard 47 = .ok (.invokevirtual 225, 3) := by decide +kernel
theorem dX10_heard_50 : decode cX10_heard 50 = .ok (.if_icmp .eq 7, 3) := by decide +kernel
theorem dX10_heard_53 : decode cX10_heard 53 = .ok (.iconst 1, 1) := by decide +kernel
theorem dX10_heard_54 : decode cX10_heard 54 = .ok (.goto 4, 3) := by decide +kernel
theorem dX10_heard_57 : decode cX10_heard 57 = .ok (.iconst 0, 1) := by decide +kernel
theorem dX10_heard_58 : decode cX10_heard 58 = .ok (.istore 5, 2) := by decide +kernel
theorem dX10_heard_60 : decode cX10_heard 60 = .ok (.iload 5, 2) := by decide +kernel
theorem dX10_heard_62 : decode cX10_heard 62 = .ok (.ifCond .ne 12, 3) := by decide +kernel
theorem dX10_heard_65 : decode cX10_heard 65 = .ok (.aload_n 0, 1) := by decide +kernel
theorem dX10_heard_66 : decode cX10_heard 66 = .ok (.iload_n 1, 1) := by decide +kernel
theorem dX10_heard_67 : decode cX10_heard 67 = .ok (.iload_n 2, 1) := by decide +kernel
theorem dX10_heard_68 : decode cX10_heard 68 = .ok (.invokevirtual 228, 3) := by decide +kernel
theorem dX10_heard_71 : decode cX10_heard 71 = .ok (.ifCond .ne 7, 3) := by decide +kernel
theorem dX10_heard_74 : decode cX10_heard 74 = .ok (.iconst (-1), 1) := by decide +kernel
theorem dX10_heard_75 : decode cX10_heard 75 = .ok (.goto 15, 3) := by decide +kernel
theorem dX10_heard_78 : decode cX10_heard 78 = .ok (.aload_n 0, 1) := by decide +kernel
theorem dX10_heard_79 : decode cX10_heard 79 = .ok (.getfield 60, 3) := by decide +kernel
theorem dX10_heard_82 : decode cX10_heard 82 = .ok (.iload_n 1, 1) := by decide +kernel
theorem dX10_heard_83 : decode cX10_heard 83 = .ok (.iload_n 2, 1) := by decide +kernel
theorem dX10_heard_84 : decode cX10_heard 84 = .ok (.iload_n 3, 1) := by decide +kernel
theorem dX10_heard_85 : decode cX10_heard 85 = .ok (.iload 4, 2) := by decide +kernel
theorem dX10_heard_87 : decode cX10_heard 87 = .ok (.invokevirtual 231, 3) := by decide +kernel
theorem dX10_heard_90 : decode cX10_heard 90 = .ok (.ireturn, 1) := by decide +kernel
theorem dX10_held_0 : decode cX10_held 0 = .ok (.aload_n 0, 1) := by decide +kernel
theorem dX10_held_1 : decode cX10_held 1 = .ok (.aload_n 0, 1) := by decide +kernel
theorem dX10_held_2 : decode cX10_held 2 = .ok (.getfield 60, 3) := by decide +kernel
theorem dX10_held_5 : decode cX10_held 5 = .ok (.getfield 155, 3) := by decide +kernel
theorem dX10_held_8 : decode cX10_held 8 = .ok (.invokevirtual 309, 3) := by decide +kernel
theorem dX10_held_11 : decode cX10_held 11 = .ok (.ifCond .ne 6, 3) := by decide +kernel
theorem dX10_held_14 : decode cX10_held 14 = .ok (.bipush (-2), 2) := by decide +kernel
theorem dX10_held_16 : decode cX10_held 16 = .ok (.ireturn, 1) := by decide +kernel
theorem dX10_held_17 : decode cX10_held 17 = .ok (.aload_n 0, 1) := by decide +kernel
theorem dX10_held_18 : decode cX10_held 18 = .ok (.iload_n 2, 1) := by decide +kernel
theorem dX10_held_19 : decode cX10_held 19 = .ok (.invokevirtual 217, 3) := by decide +kernel
theorem dX10_held_22 : decode cX10_held 22 = .ok (.ifCond .eq 24, 3) := by decide +kernel
theorem dX10_held_25 : decode cX10_held 25 = .ok (.iload_n 1, 1) := by decide +kernel
theorem dX10_held_26 : decode cX10_held 26 = .ok (.ifCond .lt 20, 3) := by decide +kernel
theorem dX10_held_29 : decode cX10_held 29 = .ok (.iload_n 1, 1) := by decide +kernel
theorem dX10_held_30 : decode cX10_held 30 = .ok (.iconst 1, 1) := by decide +kernel
theorem dX10_held_31 : decode cX10_held 31 = .ok (.aload_n 0, 1) := by decide +kernel
theorem dX10_held_32 : decode cX10_held 32 = .ok (.aload_n 0, 1) := by decide +kernel
theorem dX10_held_33 : decode cX10_held 33 = .ok (.getfield 60, 3) := by decide +kernel
theorem dX10_held_36 : decode cX10_held 36 = .ok (.getfield 155, 3) := by decide +kernel
theorem dX10_held_39 : decode cX10_held 39 = .ok (.invokevirtual 306, 3) := by decide +kernel
theorem dX10_held_42 : decode cX10_held 42 = .ok (.ishl, 1) := by decide +kernel
theorem dX10_held_43 : decode cX10_held 43 = .ok (.if_icmp .lt 5, 3) := by decide +kernel
theorem dX10_held_46 : decode cX10_held 46 = .ok (.iconst (-1), 1) := by decide +kernel
theorem dX10_held_47 : decode cX10_held 47 = .ok (.ireturn, 1) := by decide +kernel
theorem dX10_held_48 : decode cX10_held 48 = .ok (.aload_n 0, 1) := by decide +kernel
theorem dX10_held_49 : decode cX10_held 49 = .ok (.getfield 53, 3) := by decide +kernel
theorem dX10_held_52 : decode cX10_held 52 = .ok (.iload_n 1, 1) := by decide +kernel
theorem dX10_held_53 : decode cX10_held 53 = .ok (.putfield 341, 3) := by decide +kernel
theorem dX10_held_56 : decode cX10_held 56 = .ok (.aload_n 0, 1) := by decide +kernel
theorem dX10_held_57 : decode cX10_held 57 = .ok (.getfield 53, 3) := by decide +kernel
theorem dX10_held_60 : decode cX10_held 60 = .ok (.iconst 0, 1) := by decide +kernel
theorem dX10_held_61 : decode cX10_held 61 = .ok (.putfield 344, 3) := by decide +kernel
theorem dX10_held_64 : decode cX10_held 64 = .ok (.aload_n 0, 1) := by decide +kernel
theorem dX10_held_65 : decode cX10_held 65 = .ok (.aload_n 0, 1) := by decide +kernel
theorem dX10_held_66 : decode cX10_held 66 = .ok (.getfield 23, 3) := by decide +kernel
theorem dX10_held_69 : decode cX10_held 69 = .ok (.aload_n 0, 1) := by decide +kernel
theorem dX10_held_70 : decode cX10_held 70 = .ok (.getfield 53, 3) := by decide +kernel
theorem dX10_held_73 : decode cX10_held 73 = .ok (.aload_n 0, 1) := by decide +kernel
theorem dX10_held_74 : decode cX10_held 74 = .ok (.getfield 115, 3) := by decide +kernel
theorem dX10_held_77 : decode cX10_held 77 = .ok (.invokevirtual 347, 3) := by decide +kernel
theorem dX10_held_80 : decode cX10_held 80 = .ok (.aload_n 0, 1) := by decide +kernel
theorem dX10_held_81 : decode cX10_held 81 = .ok (.getfield 67, 3) := by decide +kernel
theorem dX10_held_84 : decode cX10_held 84 = .ok (.getfield 211, 3) := by decide +kernel
theorem dX10_held_87 : decode cX10_held 87 = .ok (.iload_n 2, 1) := by decide +kernel
theorem dX10_held_88 : decode cX10_held 88 = .ok (.invokestatic 235, 3) := by decide +kernel
theorem dX10_held_91 : decode cX10_held 91 = .ok (.ireturn, 1) := by decide +kernel
theorem dX10_image_0 : decode cX10_image 0 = .ok (.aload_n 0, 1) := by decide +kernel
theorem dX10_image_1 : decode cX10_image 1 = .ok (.getfield 108, 3) := by decide +kernel
theorem dX10_image_4 : decode cX10_image 4 = .ok (.ifCond .ne 5, 3) := by decide +kernel
theorem dX10_image_7 : decode cX10_image 7 = .ok (.iconst (-1), 1) := by decide +kernel
theorem dX10_image_8 : decode cX10_image 8 = .ok (.ireturn, 1) := by decide +kernel
theorem dX10_image_9 : decode cX10_image 9 = .ok (.aload_n 0, 1) := by decide +kernel
theorem dX10_image_10 : decode cX10_image 10 = .ok (.getfield 64, 3) := by decide +kernel
theorem dX10_image_13 : decode cX10_image 13 = .ok (.aload_n 0, 1) := by decide +kernel
theorem dX10_image_14 : decode cX10_image 14 = .ok (.getfield 60, 3) := by decide +kernel
theorem dX10_image_17 : decode cX10_image 17 = .ok (.invokevirtual 384, 3) := by decide +kernel
theorem dX10_image_20 : decode cX10_image 20 = .ok (.aload_n 0, 1) := by decide +kernel
theorem dX10_image_21 : decode cX10_image 21 = .ok (.iconst 1, 1) := by decide +kernel
theorem dX10_image_22 : decode cX10_image 22 = .ok (.putfield 112, 3) := by decide +kernel
theorem dX10_image_25 : decode cX10_image 25 = .ok (.aload_n 0, 1) := by decide +kernel
theorem dX10_image_26 : decode cX10_image 26 = .ok (.getfield 60, 3) := by decide +kernel
theorem dX10_image_29 : decode cX10_image 29 = .ok (.getfield 159, 3) := by decide +kernel
theorem dX10_image_32 : decode cX10_image 32 = .ok (.ireturn, 1) := by decide +kernel
theorem dX10_init_0 : decode cX10_init 0 = .ok (.aload_n 0, 1) := by decide +kernel
theorem dX10_init_1 : decode cX10_init 1 = .ok (.invokespecial 1, 3) := by decide +kernel
theorem dX10_init_4 : decode cX10_init 4 = .ok (.aload_n 0, 1) := by decide +kernel
theorem dX10_init_5 : decode cX10_init 5 = .ok (.new 7, 3) := by decide +kernel
theorem dX10_init_8 : decode cX10_init 8 = .ok (.dup, 1) := by decide +kernel
theorem dX10_init_9 : decode cX10_init 9 = .ok (.invokespecial 9, 3) := by decide +kernel
theorem dX10_init_12 : decode cX10_init 12 = .ok (.putfield 10, 3) := by decide +kernel
theorem dX10_init_15 : decode cX10_init 15 = .ok (.aload_n 0, 1) := by decide +kernel
theorem dX10_init_16 : decode cX10_init 16 = .ok (.new 16, 3) := by decide +kernel
theorem dX10_init_19 : decode cX10_init 19 = .ok (.dup, 1) := by decide +kernel
theorem dX10_init_20 : decode cX10_init 20 = .ok (.invokespecial 18, 3) := by decide +kernel
theorem dX10_init_23 : decode cX10_init 23 = .ok (.putfield 19, 3) := by decide +kernel
theorem dX10_init_26 : decode cX10_init 26 = .ok (.aload_n 0, 1) := by decide +kernel
theorem dX10_init_27 : decode cX10_init 27 = .ok (.new 16, 3) := by decide +kernel
theorem dX10_init_30 : decode cX10_init 30 = .ok (.dup, 1) := by decide +kernel
theorem dX10_init_31 : decode cX10_init 31 = .ok (.invokespecial 18, 3) := by decide +kernel
theorem dX10_init_34 : decode cX10_init 34 = .ok (.putfield 23, 3) := by decide +kernel
theorem dX10_init_37 : decode cX10_init 37 = .ok (.aload_n 0, 1) := by decide +kernel
theorem dX10_init_38 : decode cX10_init 38 = .ok (.new 16, 3) := by decide +kernel
theorem dX10_init_41 : decode cX10_init 41 = .ok (.dup, 1) := by decide +kernel
theorem dX10_init_42 : decode cX10_init 42 = .ok (.invokespecial 18, 3) := by decide +kernel
theorem dX10_init_45 : decode cX10_init 45 = .ok (.putfield 26, 3) := by decide +kernel
theorem dX10_init_48 : decode cX10_init 48 = .ok (.aload_n 0, 1) := by decide +kernel
theorem dX10_init_49 : decode cX10_init 49 = .ok (.new 29, 3) := by decide +kernel
theorem dX10_init_52 : decode cX10_init 52 = .ok (.dup, 1) := by decide +kernel
theorem dX10_init_53 : decode cX10_init 53 = .ok (.invokespecial 31, 3) := by decide +kernel
theorem dX10_init_56 : decode cX10_init 56 = .ok (.putfield 32, 3) := by decide +kernel
theorem dX10_init_59 : decode cX10_init 59 = .ok (.aload_n 0, 1) := by decide +kernel
theorem dX10_init_60 : decode cX10_init 60 = .ok (.new 36, 3) := by decide +kernel
theorem dX10_init_63 : decode cX10_init 63 = .ok (.dup, 1) := by decide +kernel
theorem dX10_init_64 : decode cX10_init 64 = .ok (.invokespecial 38, 3) := by decide +kernel
theorem dX10_init_67 : decode cX10_init 67 = .ok (.putfield 39, 3) := by decide +kernel
theorem dX10_init_70 : decode cX10_init 70 = .ok (.aload_n 0, 1) := by decide +kernel
theorem dX10_init_71 : decode cX10_init 71 = .ok (.new 43, 3) := by decide +kernel
theorem dX10_init_74 : decode cX10_init 74 = .ok (.dup, 1) := by decide +kernel
theorem dX10_init_75 : decode cX10_init 75 = .ok (.invokespecial 45, 3) := by decide +kernel
theorem dX10_init_78 : decode cX10_init 78 = .ok (.putfield 46, 3) := by decide +kernel
theorem dX10_init_81 : decode cX10_init 81 = .ok (.aload_n 0, 1) := by decide +kernel
theorem dX10_init_82 : decode cX10_init 82 = .ok (.new 50, 3) := by decide +kernel
theorem dX10_init_85 : decode cX10_init 85 = .ok (.dup, 1) := by decide +kernel
theorem dX10_init_86 : decode cX10_init 86 = .ok (.invokespecial 52, 3) := by decide +kernel
theorem dX10_init_89 : decode cX10_init 89 = .ok (.putfield 53, 3) := by decide +kernel
theorem dX10_init_92 : decode cX10_init 92 = .ok (.aload_n 0, 1) := by decide +kernel
theorem dX10_init_93 : decode cX10_init 93 = .ok (.new 57, 3) := by decide +kernel
theorem dX10_init_96 : decode cX10_init 96 = .ok (.dup, 1) := by decide +kernel
theorem dX10_init_97 : decode cX10_init 97 = .ok (.invokespecial 59, 3) := by decide +kernel
theorem dX10_init_100 : decode cX10_init 100 = .ok (.putfield 60, 3) := by decide +kernel
theorem dX10_init_103 : decode cX10_init 103 = .ok (.aload_n 0, 1) := by decide +kernel
theorem dX10_init_104 : decode cX10_init 104 = .ok (.new 57, 3) := by decide +kernel
theorem dX10_init_107 : decode cX10_init 107 = .ok (.dup, 1) := by decide +kernel
theorem dX10_init_108 : decode cX10_init 108 = .ok (.invokespecial 59, 3) := by decide +kernel
theorem dX10_init_111 : decode cX10_init 111 = .ok (.putfield 64, 3) := by decide +kernel
theorem dX10_init_114 : decode cX10_init 114 = .ok (.aload_n 0, 1) := by decide +kernel
theorem dX10_init_115 : decode cX10_init 115 = .ok (.new 57, 3) := by decide +kernel
theorem dX10_init_118 : decode cX10_init 118 = .ok (.dup, 1) := by decide +kernel
theorem dX10_init_119 : decode cX10_init 119 = .ok (.invokespecial 59, 3) := by decide +kernel
theorem dX10_init_122 : decode cX10_init 122 = .ok (.putfield 67, 3) := by decide +kernel
theorem dX10_init_125 : decode cX10_init 125 = .ok (.aload_n 0, 1) := by decide +kernel
theorem dX10_init_126 : decode cX10_init 126 = .ok (.new 70, 3) := by decide +kernel
theorem dX10_init_129 : decode cX10_init 129 = .ok (.dup, 1) := by decide +kernel
theorem dX10_init_130 : decode cX10_init 130 = .ok (.invokespecial 72, 3) := by decide +kernel
theorem dX10_init_133 : decode cX10_init 133 = .ok (.putfield 73, 3) := by decide +kernel
theorem dX10_init_136 : decode cX10_init 136 = .ok (.aload_n 0, 1) := by decide +kernel
theorem dX10_init_137 : decode cX10_init 137 = .ok (.new 77, 3) := by decide +kernel
theorem dX10_init_140 : decode cX10_init 140 = .ok (.dup, 1) := by decide +kernel
theorem dX10_init_141 : decode cX10_init 141 = .ok (.invokespecial 79, 3) := by decide +kernel
theorem dX10_init_144 : decode cX10_init 144 = .ok (.putfield 80, 3) := by decide +kernel
theorem dX10_init_147 : decode cX10_init 147 = .ok (.aload_n 0, 1) := by decide +kernel
theorem dX10_init_148 : decode cX10_init 148 = .ok (.new 7, 3) := by decide +kernel
theorem dX10_init_151 : decode cX10_init 151 = .ok (.dup, 1) := by decide +kernel
theorem dX10_init_152 : decode cX10_init 152 = .ok (.invokespecial 9, 3) := by decide +kernel
theorem dX10_init_155 : decode cX10_init 155 = .ok (.putfield 84, 3) := by decide +kernel
theorem dX10_init_158 : decode cX10_init 158 = .ok (.aload_n 0, 1) := by decide +kernel
theorem dX10_init_159 : decode cX10_init 159 = .ok (.iconst 5, 1) := by decide +kernel
theorem dX10_init_160 : decode cX10_init 160 = .ok (.newarray .int, 2) := by decide +kernel
theorem dX10_init_162 : decode cX10_init 162 = .ok (.putfield 87, 3) := by decide +kernel
theorem dX10_init_165 : decode cX10_init 165 = .ok (.return_, 1) := by decide +kernel
theorem dX10_isAsked_0 : decode cX10_isAsked 0 = .ok (.aload_n 0, 1) := by decide +kernel
theorem dX10_isAsked_1 : decode cX10_isAsked 1 = .ok (.getfield 108, 3) := by decide +kernel
theorem dX10_isAsked_4 : decode cX10_isAsked 4 = .ok (.ifCond .eq 17, 3) := by decide +kernel
theorem dX10_isAsked_7 : decode cX10_isAsked 7 = .ok (.aload_n 0, 1) := by decide +kernel
theorem dX10_isAsked_8 : decode cX10_isAsked 8 = .ok (.iload_n 1, 1) := by decide +kernel
theorem dX10_isAsked_9 : decode cX10_isAsked 9 = .ok (.invokevirtual 306, 3) := by decide +kernel
theorem dX10_isAsked_12 : decode cX10_isAsked 12 = .ok (.bipush 12, 2) := by decide +kernel
theorem dX10_isAsked_14 : decode cX10_isAsked 14 = .ok (.if_icmp .gt 7, 3) := by decide +kernel
theorem dX10_isAsked_17 : decode cX10_isAsked 17 = .ok (.iconst 1, 1) := by decide +kernel
theorem dX10_isAsked_18 : decode cX10_isAsked 18 = .ok (.goto 4, 3) := by decide +kernel
theorem dX10_isAsked_21 : decode cX10_isAsked 21 = .ok (.iconst 0, 1) := by decide +kernel
theorem dX10_isAsked_22 : decode cX10_isAsked 22 = .ok (.ireturn, 1) := by decide +kernel
theorem dX10_isGone_0 : decode cX10_isGone 0 = .ok (.iload_n 1, 1) := by decide +kernel
theorem dX10_isGone_1 : decode cX10_isGone 1 = .ok (.aload_n 0, 1) := by decide +kernel
theorem dX10_isGone_2 : decode cX10_isGone 2 = .ok (.getfield 23, 3) := by decide +kernel
theorem dX10_isGone_5 : decode cX10_isGone 5 = .ok (.invokevirtual 169, 3) := by decide +kernel
theorem dX10_isGone_8 : decode cX10_isGone 8 = .ok (.imul, 1) := by decide +kernel
theorem dX10_isGone_9 : decode cX10_isGone 9 = .ok (.iload_n 2, 1) := by decide +kernel
theorem dX10_isGone_10 : decode cX10_isGone 10 = .ok (.iadd, 1) := by decide +kernel
theorem dX10_isGone_11 : decode cX10_isGone 11 = .ok (.aload_n 0, 1) := by decide +kernel
theorem dX10_isGone_12 : decode cX10_isGone 12 = .ok (.getfield 60, 3) := by decide +kernel
theorem dX10_isGone_15 : decode cX10_isGone 15 = .ok (.getfield 159, 3) := by decide +kernel
theorem dX10_isGone_18 : decode cX10_isGone 18 = .ok (.if_icmp .ge 7, 3) := by decide +kernel
theorem dX10_isGone_21 : decode cX10_isGone 21 = .ok (.iconst 1, 1) := by decide +kernel
theorem dX10_isGone_22 : decode cX10_isGone 22 = .ok (.goto 4, 3) := by decide +kernel
theorem dX10_isGone_25 : decode cX10_isGone 25 = .ok (.iconst 0, 1) := by decide +kernel
theorem dX10_isGone_26 : decode cX10_isGone 26 = .ok (.ireturn, 1) := by decide +kernel
theorem dX10_isOver_0 : decode cX10_isOver 0 = .ok (.iload_n 1, 1) := by decide +kernel
theorem dX10_isOver_1 : decode cX10_isOver 1 = .ok (.ifCond .lt 15, 3) := by decide +kernel
theorem dX10_isOver_4 : decode cX10_isOver 4 = .ok (.iload_n 1, 1) := by decide +kernel
theorem dX10_isOver_5 : decode cX10_isOver 5 = .ok (.aload_n 0, 1) := by decide +kernel
theorem dX10_isOver_6 : decode cX10_isOver 6 = .ok (.invokevirtual 273, 3) := by decide +kernel
theorem dX10_isOver_9 : decode cX10_isOver 9 = .ok (.if_icmp .ge 7, 3) := by decide +kernel
theorem dX10_isOver_12 : decode cX10_isOver 12 = .ok (.iconst 1, 1) := by decide +kernel
theorem dX10_isOver_13 : decode cX10_isOver 13 = .ok (.goto 4, 3) := by decide +kernel
theorem dX10_isOver_16 : decode cX10_isOver 16 = .ok (.iconst 0, 1) := by decide +kernel
theorem dX10_isOver_17 : decode cX10_isOver 17 = .ok (.ireturn, 1) := by decide +kernel
theorem dX10_isPeer_0 : decode cX10_isPeer 0 = .ok (.aload_n 0, 1) := by decide +kernel
theorem dX10_isPeer_1 : decode cX10_isPeer 1 = .ok (.getfield 108, 3) := by decide +kernel
theorem dX10_isPeer_4 : decode cX10_isPeer 4 = .ok (.ifCond .eq 22, 3) := by decide +kernel
theorem dX10_isPeer_7 : decode cX10_isPeer 7 = .ok (.iload_n 1, 1) := by decide +kernel
theorem dX10_isPeer_8 : decode cX10_isPeer 8 = .ok (.ifCond .lt 18, 3) := by decide +kernel
theorem dX10_isPeer_11 : decode cX10_isPeer 11 = .ok (.iload_n 1, 1) := by decide +kernel
theorem dX10_isPeer_12 : decode cX10_isPeer 12 = .ok (.aload_n 0, 1) := by decide +kernel
theorem dX10_isPeer_13 : decode cX10_isPeer 13 = .ok (.getfield 23, 3) := by decide +kernel
theorem dX10_isPeer_16 : decode cX10_isPeer 16 = .ok (.getfield 132, 3) := by decide +kernel
theorem dX10_isPeer_19 : decode cX10_isPeer 19 = .ok (.if_icmp .ge 7, 3) := by decide +kernel
theorem dX10_isPeer_22 : decode cX10_isPeer 22 = .ok (.iconst 1, 1) := by decide +kernel
theorem dX10_isPeer_23 : decode cX10_isPeer 23 = .ok (.goto 4, 3) := by decide +kernel
theorem dX10_isPeer_26 : decode cX10_isPeer 26 = .ok (.iconst 0, 1) := by decide +kernel
theorem dX10_isPeer_27 : decode cX10_isPeer 27 = .ok (.ireturn, 1) := by decide +kernel
theorem dX10_isRound_0 : decode cX10_isRound 0 = .ok (.aload_n 0, 1) := by decide +kernel
theorem dX10_isRound_1 : decode cX10_isRound 1 = .ok (.getfield 108, 3) := by decide +kernel
theorem dX10_isRound_4 : decode cX10_isRound 4 = .ok (.ifCond .eq 37, 3) := by decide +kernel
theorem dX10_isRound_7 : decode cX10_isRound 7 = .ok (.iload_n 1, 1) := by decide +kernel
theorem dX10_isRound_8 : decode cX10_isRound 8 = .ok (.ifCond .lt 33, 3) := by decide +kernel
theorem dX10_isRound_11 : decode cX10_isRound 11 = .ok (.iload_n 1, 1) := by decide +kernel
theorem dX10_isRound_12 : decode cX10_isRound 12 = .ok (.aload_n 0, 1) := by decide +kernel
theorem dX10_isRound_13 : decode cX10_isRound 13 = .ok (.getfield 23, 3) := by decide +kernel
theorem dX10_isRound_16 : decode cX10_isRound 16 = .ok (.getfield 151, 3) := by decide +kernel
theorem dX10_isRound_19 : decode cX10_isRound 19 = .ok (.if_icmp .ge 22, 3) := by decide +kernel
theorem dX10_isRound_22 : decode cX10_isRound 22 = .ok (.iload_n 2, 1) := by decide +kernel
theorem dX10_isRound_23 : decode cX10_isRound 23 = .ok (.ifCond .lt 18, 3) := by decide +kernel
theorem dX10_isRound_26 : decode cX10_isRound 26 = .ok (.iload_n 2, 1) := by decide +kernel
theorem dX10_isRound_27 : decode cX10_isRound 27 = .ok (.aload_n 0, 1) := by decide +kernel
theorem dX10_isRound_28 : decode cX10_isRound 28 = .ok (.getfield 23, 3) := by decide +kernel
theorem dX10_isRound_31 : decode cX10_isRound 31 = .ok (.invokevirtual 169, 3) := by decide +kernel
theorem dX10_isRound_34 : decode cX10_isRound 34 = .ok (.if_icmp .ge 7, 3) := by decide +kernel
theorem dX10_isRound_37 : decode cX10_isRound 37 = .ok (.iconst 1, 1) := by decide +kernel
theorem dX10_isRound_38 : decode cX10_isRound 38 = .ok (.goto 4, 3) := by decide +kernel
theorem dX10_isRound_41 : decode cX10_isRound 41 = .ok (.iconst 0, 1) := by decide +kernel
theorem dX10_isRound_42 : decode cX10_isRound 42 = .ok (.ireturn, 1) := by decide +kernel
theorem dX10_isSomeStart_0 : decode cX10_isSomeStart 0 = .ok (.aload_n 0, 1) := by decide +kernel
theorem dX10_isSomeStart_1 : decode cX10_isSomeStart 1 = .ok (.getfield 60, 3) := by decide +kernel
theorem dX10_isSomeStart_4 : decode cX10_isSomeStart 4 = .ok (.aload_n 0, 1) := by decide +kernel
theorem dX10_isSomeStart_5 : decode cX10_isSomeStart 5 = .ok (.getfield 23, 3) := by decide +kernel
theorem dX10_isSomeStart_8 : decode cX10_isSomeStart 8 = .ok (.invokevirtual 280, 3) := by decide +kernel
theorem dX10_isSomeStart_11 : decode cX10_isSomeStart 11 = .ok (.istore_n 2, 1) := by decide +kernel
theorem dX10_isSomeStart_12 : decode cX10_isSomeStart 12 = .ok (.iload_n 1, 1) := by decide +kernel
theorem dX10_isSomeStart_13 : decode cX10_isSomeStart 13 = .ok (.iload_n 2, 1) := by decide +kernel
theorem dX10_isSomeStart_14 : decode cX10_isSomeStart 14 = .ok (.iand, 1) := by decide +kernel
theorem dX10_isSomeStart_15 : decode cX10_isSomeStart 15 = .ok (.ifCond .eq 23, 3) := by decide +kernel
theorem dX10_isSomeStart_18 : decode cX10_isSomeStart 18 = .ok (.aload_n 0, 1) := by decide +kernel
theorem dX10_isSomeStart_19 : decode cX10_isSomeStart 19 = .ok (.getfield 60, 3) := by decide +kernel
theorem dX10_isSomeStart_22 : decode cX10_isSomeStart 22 = .ok (.getfield 154, 3) := by decide +kernel
theorem dX10_isSomeStart_25 : decode cX10_isSomeStart 25 = .ok (.iload_n 2, 1) := by decide +kernel
theorem dX10_isSomeStart_26 : decode cX10_isSomeStart 26 = .ok (.iand, 1) := by decide +kernel
theorem dX10_isSomeStart_27 : decode cX10_isSomeStart 27 = .ok (.ifCond .eq 7, 3) := by decide +kernel
theorem dX10_isSomeStart_30 : decode cX10_isSomeStart 30 = .ok (.iconst 1, 1) := by decide +kernel
theorem dX10_isSomeStart_31 : decode cX10_isSomeStart 31 = .ok (.goto 25, 3) := by decide +kernel
theorem dX10_isSomeStart_34 : decode cX10_isSomeStart 34 = .ok (.iconst 0, 1) := by decide +kernel
theorem dX10_isSomeStart_35 : decode cX10_isSomeStart 35 = .ok (.goto 21, 3) := by decide +kernel
theorem dX10_isSomeStart_38 : decode cX10_isSomeStart 38 = .ok (.aload_n 0, 1) := by decide +kernel
theorem dX10_isSomeStart_39 : decode cX10_isSomeStart 39 = .ok (.getfield 60, 3) := by decide +kernel
theorem dX10_isSomeStart_42 : decode cX10_isSomeStart 42 = .ok (.getfield 154, 3) := by decide +kernel
theorem dX10_isSomeStart_45 : decode cX10_isSomeStart 45 = .ok (.iload_n 2, 1) := by decide +kernel
theorem dX10_isSomeStart_46 : decode cX10_isSomeStart 46 = .ok (.iand, 1) := by decide +kernel
theorem dX10_isSomeStart_47 : decode cX10_isSomeStart 47 = .ok (.iload_n 2, 1) := by decide +kernel
theorem dX10_isSomeStart_48 : decode cX10_isSomeStart 48 = .ok (.if_icmp .eq 7, 3) := by decide +kernel
theorem dX10_isSomeStart_51 : decode cX10_isSomeStart 51 = .ok (.iconst 1, 1) := by decide +kernel
theorem dX10_isSomeStart_52 : decode cX10_isSomeStart 52 = .ok (.goto 4, 3) := by decide +kernel
theorem dX10_isSomeStart_55 : decode cX10_isSomeStart 55 = .ok (.iconst 0, 1) := by decide +kernel
theorem dX10_isSomeStart_56 : decode cX10_isSomeStart 56 = .ok (.ireturn, 1) := by decide +kernel
theorem dX10_leastBrokenStart_0 : decode cX10_leastBrokenStart 0 = .ok (.aload_n 0, 1) := by decide +kernel
theorem dX10_leastBrokenStart_1 : decode cX10_leastBrokenStart 1 = .ok (.getfield 80, 3) := by decide +kernel
theorem dX10_leastBrokenStart_4 : decode cX10_leastBrokenStart 4 = .ok (.aload_n 0, 1) := by decide +kernel
theorem dX10_leastBrokenStart_5 : decode cX10_leastBrokenStart 5 = .ok (.getfield 23, 3) := by decide +kernel
theorem dX10_leastBrokenStart_8 : decode cX10_leastBrokenStart 8 = .ok (.iload_n 1, 1) := by decide +kernel
theorem dX10_leastBrokenStart_9 : decode cX10_leastBrokenStart 9 = .ok (.aload_n 0, 1) := by decide +kernel
theorem dX10_leastBrokenStart_10 : decode cX10_leastBrokenStart 10 = .ok (.getfield 23, 3) := by decide +kernel
theorem dX10_leastBrokenStart_13 : decode cX10_leastBrokenStart 13 = .ok (.getfield 151, 3) := by decide +kernel
theorem dX10_leastBrokenStart_16 : decode cX10_leastBrokenStart 16 = .ok (.invokevirtual 312, 3) := by decide +kernel
theorem dX10_leastBrokenStart_19 : decode cX10_leastBrokenStart 19 = .ok (.iconst 0, 1) := by decide +kernel
theorem dX10_leastBrokenStart_20 : decode cX10_leastBrokenStart 20 = .ok (.istore_n 2, 1) := by decide +kernel
theorem dX10_leastBrokenStart_21 : decode cX10_leastBrokenStart 21 = .ok (.iload_n 2, 1) := by decide +kernel
theorem dX10_leastBrokenStart_22 : decode cX10_leastBrokenStart 22 = .ok (.aload_n 0, 1) := by decide +kernel
theorem dX10_leastBrokenStart_23 : decode cX10_leastBrokenStart 23 = .ok (.getfield 23, 3) := by decide +kernel
theorem dX10_leastBrokenStart_26 : decode cX10_leastBrokenStart 26 = .ok (.invokevirtual 205, 3) := by decide +kernel
theorem dX10_leastBrokenStart_29 : decode cX10_leastBrokenStart 29 = .ok (.if_icmp .gt 22, 3) := by decide +kernel
theorem dX10_leastBrokenStart_32 : decode cX10_leastBrokenStart 32 = .ok (.aload_n 0, 1) := by decide +kernel
theorem dX10_leastBrokenStart_33 : decode cX10_leastBrokenStart 33 = .ok (.getfield 80, 3) := by decide +kernel
theorem dX10_leastBrokenStart_36 : decode cX10_leastBrokenStart 36 = .ok (.iload_n 2, 1) := by decide +kernel
theorem dX10_leastBrokenStart_37 : decode cX10_leastBrokenStart 37 = .ok (.invokevirtual 335, 3) := by decide +kernel
theorem dX10_leastBrokenStart_40 : decode cX10_leastBrokenStart 40 = .ok (.ifCond .eq 5, 3) := by decide +kernel
theorem dX10_leastBrokenStart_43 : decode cX10_leastBrokenStart 43 = .ok (.iload_n 2, 1) := by decide +kernel
theorem dX10_leastBrokenStart_44 : decode cX10_leastBrokenStart 44 = .ok (.ireturn, 1) := by decide +kernel
theorem dX10_leastBrokenStart_45 : decode cX10_leastBrokenStart 45 = .ok (.iinc 2 1, 3) := by decide +kernel
theorem dX10_leastBrokenStart_48 : decode cX10_leastBrokenStart 48 = .ok (.goto (-27), 3) := by decide +kernel
theorem dX10_leastBrokenStart_51 : decode cX10_leastBrokenStart 51 = .ok (.iconst (-1), 1) := by decide +kernel
theorem dX10_leastBrokenStart_52 : decode cX10_leastBrokenStart 52 = .ok (.ireturn, 1) := by decide +kernel
theorem dX10_letters_0 : decode cX10_letters 0 = .ok (.aload_n 0, 1) := by decide +kernel
theorem dX10_letters_1 : decode cX10_letters 1 = .ok (.getfield 108, 3) := by decide +kernel
theorem dX10_letters_4 : decode cX10_letters 4 = .ok (.ifCond .ne 5, 3) := by decide +kernel
theorem dX10_letters_7 : decode cX10_letters 7 = .ok (.iconst (-1), 1) := by decide +kernel
theorem dX10_letters_8 : decode cX10_letters 8 = .ok (.ireturn, 1) := by decide +kernel
theorem dX10_letters_9 : decode cX10_letters 9 = .ok (.aload_n 0, 1) := by decide +kernel
theorem dX10_letters_10 : decode cX10_letters 10 = .ok (.invokevirtual 273, 3) := by decide +kernel
theorem dX10_letters_13 : decode cX10_letters 13 = .ok (.istore_n 2, 1) := by decide +kernel
theorem dX10_letters_14 : decode cX10_letters 14 = .ok (.iload_n 1, 1) := by decide +kernel
theorem dX10_letters_15 : decode cX10_letters 15 = .ok (.tableswitch 73 0 3 #[29, 37, 45, 53], 29) := by decide +kernel
theorem dX10_letters_44 : decode cX10_letters 44 = .ok (.aload_n 0, 1) := by decide +kernel
theorem dX10_letters_45 : decode cX10_letters 45 = .ok (.getfield 60, 3) := by decide +kernel
theorem dX10_letters_48 : decode cX10_letters 48 = .ok (.getfield 291, 3) := by decide +kernel
theorem dX10_letters_51 : decode cX10_letters 51 = .ok (.ireturn, 1) := by decide +kernel
theorem dX10_letters_52 : decode cX10_letters 52 = .ok (.aload_n 0, 1) := by decide +kernel
theorem dX10_letters_53 : decode cX10_letters 53 = .ok (.getfield 60, 3) := by decide +kernel
theorem dX10_letters_56 : decode cX10_letters 56 = .ok (.getfield 294, 3) := by decide +kernel
theorem dX10_letters_59 : decode cX10_letters 59 = .ok (.ireturn, 1) := by decide +kernel
theorem dX10_letters_60 : decode cX10_letters 60 = .ok (.aload_n 0, 1) := by decide +kernel
theorem dX10_letters_61 : decode cX10_letters 61 = .ok (.getfield 23, 3) := by decide +kernel
theorem dX10_letters_64 : decode cX10_letters 64 = .ok (.invokevirtual 297, 3) := by decide +kernel
theorem dX10_letters_67 : decode cX10_letters 67 = .ok (.ireturn, 1) := by decide +kernel
theorem dX10_letters_68 : decode cX10_letters 68 = .ok (.iload_n 2, 1) := by decide +kernel
theorem dX10_letters_69 : decode cX10_letters 69 = .ok (.ifCond .le 17, 3) := by decide +kernel
theorem dX10_letters_72 : decode cX10_letters 72 = .ok (.aload_n 0, 1) := by decide +kernel
theorem dX10_letters_73 : decode cX10_letters 73 = .ok (.getfield 60, 3) := by decide +kernel
theorem dX10_letters_76 : decode cX10_letters 76 = .ok (.getfield 300, 3) := by decide +kernel
theorem dX10_letters_79 : decode cX10_letters 79 = .ok (.iload_n 2, 1) := by decide +kernel
theorem dX10_letters_80 : decode cX10_letters 80 = .ok (.iconst 1, 1) := by decide +kernel
theorem dX10_letters_81 : decode cX10_letters 81 = .ok (.isub, 1) := by decide +kernel
theorem dX10_letters_82 : decode cX10_letters 82 = .ok (.iaload, 1) := by decide +kernel
theorem dX10_letters_83 : decode cX10_letters 83 = .ok (.goto 4, 3) := by decide +kernel
theorem dX10_letters_86 : decode cX10_letters 86 = .ok (.iconst 0, 1) := by decide +kernel
theorem dX10_letters_87 : decode cX10_letters 87 = .ok (.ireturn, 1) := by decide +kernel
theorem dX10_letters_88 : decode cX10_letters 88 = .ok (.iconst (-1), 1) := by decide +kernel
theorem dX10_letters_89 : decode cX10_letters 89 = .ok (.ireturn, 1) := by decide +kernel
theorem dX10_line_0 : decode cX10_line 0 = .ok (.iload_n 1, 1) := by decide +kernel
theorem dX10_line_1 : decode cX10_line 1 = .ok (.ifCond .lt 26, 3) := by decide +kernel
theorem dX10_line_4 : decode cX10_line 4 = .ok (.iload_n 1, 1) := by decide +kernel
theorem dX10_line_5 : decode cX10_line 5 = .ok (.aload_n 0, 1) := by decide +kernel
theorem dX10_line_6 : decode cX10_line 6 = .ok (.getfield 39, 3) := by decide +kernel
theorem dX10_line_9 : decode cX10_line 9 = .ok (.getfield 135, 3) := by decide +kernel
theorem dX10_line_12 : decode cX10_line 12 = .ok (.getfield 141, 3) := by decide +kernel
theorem dX10_line_15 : decode cX10_line 15 = .ok (.if_icmp .ge 12, 3) := by decide +kernel
theorem dX10_line_18 : decode cX10_line 18 = .ok (.iload_n 2, 1) := by decide +kernel
theorem dX10_line_19 : decode cX10_line 19 = .ok (.ifCond .lt 8, 3) := by decide +kernel
theorem dX10_line_22 : decode cX10_line 22 = .ok (.iload_n 2, 1) := by decide +kernel
theorem dX10_line_23 : decode cX10_line 23 = .ok (.iconst 5, 1) := by decide +kernel
theorem dX10_line_24 : decode cX10_line 24 = .ok (.if_icmp .lt 11, 3) := by decide +kernel
theorem dX10_line_27 : decode cX10_line 27 = .ok (.new 176, 3) := by decide +kernel
theorem dX10_line_30 : decode cX10_line 30 = .ok (.dup, 1) := by decide +kernel
theorem dX10_line_31 : decode cX10_line 31 = .ok (.invokespecial 178, 3) := by decide +kernel
theorem dX10_line_34 : decode cX10_line 34 = .ok (.athrow, 1) := by decide +kernel
theorem dX10_line_35 : decode cX10_line 35 = .ok (.aload_n 0, 1) := by decide +kernel
theorem dX10_line_36 : decode cX10_line 36 = .ok (.getfield 39, 3) := by decide +kernel
theorem dX10_line_39 : decode cX10_line 39 = .ok (.getfield 135, 3) := by decide +kernel
theorem dX10_line_42 : decode cX10_line 42 = .ok (.iload_n 1, 1) := by decide +kernel
theorem dX10_line_43 : decode cX10_line 43 = .ok (.iload_n 2, 1) := by decide +kernel
theorem dX10_line_44 : decode cX10_line 44 = .ok (.invokevirtual 179, 3) := by decide +kernel
theorem dX10_line_47 : decode cX10_line 47 = .ok (.ireturn, 1) := by decide +kernel
theorem dX10_most_0 : decode cX10_most 0 = .ok (.aload_n 0, 1) := by decide +kernel
theorem dX10_most_1 : decode cX10_most 1 = .ok (.getfield 108, 3) := by decide +kernel
theorem dX10_most_4 : decode cX10_most 4 = .ok (.ifCond .ne 5, 3) := by decide +kernel
theorem dX10_most_7 : decode cX10_most 7 = .ok (.iconst (-1), 1) := by decide +kernel
theorem dX10_most_8 : decode cX10_most 8 = .ok (.ireturn, 1) := by decide +kernel
theorem dX10_most_9 : decode cX10_most 9 = .ok (.iload_n 1, 1) := by decide +kernel
theorem dX10_most_10 : decode cX10_most 10 = .ok (.tableswitch 59 0 4 #[34, 39, 44, 49, 54], 34) := by decide +kernel
theorem dX10_most_44 : decode cX10_most 44 = .ok (.aload_n 0, 1) := by decide +kernel
theorem dX10_most_45 : decode cX10_most 45 = .ok (.invokevirtual 386, 3) := by decide +kernel
theorem dX10_most_48 : decode cX10_most 48 = .ok (.ireturn, 1) := by decide +kernel
theorem dX10_most_49 : decode cX10_most 49 = .ok (.aload_n 0, 1) := by decide +kernel
theorem dX10_most_50 : decode cX10_most 50 = .ok (.invokevirtual 389, 3) := by decide +kernel
theorem dX10_most_53 : decode cX10_most 53 = .ok (.ireturn, 1) := by decide +kernel
theorem dX10_most_54 : decode cX10_most 54 = .ok (.aload_n 0, 1) := by decide +kernel
theorem dX10_most_55 : decode cX10_most 55 = .ok (.invokevirtual 392, 3) := by decide +kernel
theorem dX10_most_58 : decode cX10_most 58 = .ok (.ireturn, 1) := by decide +kernel
theorem dX10_most_59 : decode cX10_most 59 = .ok (.aload_n 0, 1) := by decide +kernel
theorem dX10_most_60 : decode cX10_most 60 = .ok (.invokevirtual 395, 3) := by decide +kernel
theorem dX10_most_63 : decode cX10_most 63 = .ok (.ireturn, 1) := by decide +kernel
theorem dX10_most_64 : decode cX10_most 64 = .ok (.aload_n 0, 1) := by decide +kernel
theorem dX10_most_65 : decode cX10_most 65 = .ok (.invokevirtual 398, 3) := by decide +kernel
theorem dX10_most_68 : decode cX10_most 68 = .ok (.ireturn, 1) := by decide +kernel
theorem dX10_most_69 : decode cX10_most 69 = .ok (.iconst (-1), 1) := by decide +kernel
theorem dX10_most_70 : decode cX10_most 70 = .ok (.ireturn, 1) := by decide +kernel
theorem dX10_mostObedientPhase_0 : decode cX10_mostObedientPhase 0 = .ok (.iconst (-1), 1) := by decide +kernel
theorem dX10_mostObedientPhase_1 : decode cX10_mostObedientPhase 1 = .ok (.istore_n 1, 1) := by decide +kernel
theorem dX10_mostObedientPhase_2 : decode cX10_mostObedientPhase 2 = .ok (.iconst (-1), 1) := by decide +kernel
theorem dX10_mostObedientPhase_3 : decode cX10_mostObedientPhase 3 = .ok (.istore_n 2, 1) := by decide +kernel
theorem dX10_mostObedientPhase_4 : decode cX10_mostObedientPhase 4 = .ok (.iconst 0, 1) := by decide +kernel
theorem dX10_mostObedientPhase_5 : decode cX10_mostObedientPhase 5 = .ok (.istore_n 3, 1) := by decide +kernel
theorem dX10_mostObedientPhase_6 : decode cX10_mostObedientPhase 6 = .ok (.iload_n 3, 1) := by decide +kernel
theorem dX10_mostObedientPhase_7 : decode cX10_mostObedientPhase 7 = .ok (.aload_n 0, 1) := by decide +kernel
theorem dX10_mostObedientPhase_8 : decode cX10_mostObedientPhase 8 = .ok (.invokevirtual 273, 3) := by decide +kernel
theorem dX10_mostObedientPhase_11 : decode cX10_mostObedientPhase 11 = .ok (.if_icmp .ge 46, 3) := by decide +kernel
theorem dX10_mostObedientPhase_14 : decode cX10_mostObedientPhase 14 = .ok (.aload_n 0, 1) := by decide +kernel
theorem dX10_mostObedientPhase_15 : decode cX10_mostObedientPhase 15 = .ok (.getfield 60, 3) := by decide +kernel
theorem dX10_mostObedientPhase_18 : decode cX10_mostObedientPhase 18 = .ok (.getfield 266, 3) := by decide +kernel
theorem dX10_mostObedientPhase_21 : decode cX10_mostObedientPhase 21 = .ok (.iload_n 3, 1) := by decide +kernel
theorem dX10_mostObedientPhase_22 : decode cX10_mostObedientPhase 22 = .ok (.iaload, 1) := by decide +kernel
theorem dX10_mostObedientPhase_23 : decode cX10_mostObedientPhase 23 = .ok (.aload_n 0, 1) := by decide +kernel
theorem dX10_mostObedientPhase_24 : decode cX10_mostObedientPhase 24 = .ok (.getfield 60, 3) := by decide +kernel
theorem dX10_mostObedientPhase_27 : decode cX10_mostObedientPhase 27 = .ok (.aload_n 0, 1) := by decide +kernel
theorem dX10_mostObedientPhase_28 : decode cX10_mostObedientPhase 28 = .ok (.getfield 23, 3) := by decide +kernel
theorem dX10_mostObedientPhase_31 : decode cX10_mostObedientPhase 31 = .ok (.invokevirtual 280, 3) := by decide +kernel
theorem dX10_mostObedientPhase_34 : decode cX10_mostObedientPhase 34 = .ok (.iand, 1) := by decide +kernel
theorem dX10_mostObedientPhase_35 : decode cX10_mostObedientPhase 35 = .ok (.invokestatic 283, 3) := by decide +kernel
theorem dX10_mostObedientPhase_38 : decode cX10_mostObedientPhase 38 = .ok (.istore 4, 2) := by decide +kernel
theorem dX10_mostObedientPhase_40 : decode cX10_mostObedientPhase 40 = .ok (.iload 4, 2) := by decide +kernel
theorem dX10_mostObedientPhase_42 : decode cX10_mostObedientPhase 42 = .ok (.iload_n 2, 1) := by decide +kernel
theorem dX10_mostObedientPhase_43 : decode cX10_mostObedientPhase 43 = .ok (.if_icmp .le 8, 3) := by decide +kernel
theorem dX10_mostObedientPhase_46 : decode cX10_mostObedientPhase 46 = .ok (.iload 4, 2) := by decide +kernel
theorem dX10_mostObedientPhase_48 : decode cX10_mostObedientPhase 48 = .ok (.istore_n 2, 1) := by decide +kernel
theorem dX10_mostObedientPhase_49 : decode cX10_mostObedientPhase 49 = .ok (.iload_n 3, 1) := by decide +kernel
theorem dX10_mostObedientPhase_50 : decode cX10_mostObedientPhase 50 = .ok (.istore_n 1, 1) := by decide +kernel
theorem dX10_mostObedientPhase_51 : decode cX10_mostObedientPhase 51 = .ok (.iinc 3 1, 3) := by decide +kernel
theorem dX10_mostObedientPhase_54 : decode cX10_mostObedientPhase 54 = .ok (.goto (-48), 3) := by decide +kernel
theorem dX10_mostObedientPhase_57 : decode cX10_mostObedientPhase 57 = .ok (.iload_n 1, 1) := by decide +kernel
theorem dX10_mostObedientPhase_58 : decode cX10_mostObedientPhase 58 = .ok (.ireturn, 1) := by decide +kernel
theorem dX10_mostSuspected_0 : decode cX10_mostSuspected 0 = .ok (.iconst (-1), 1) := by decide +kernel
theorem dX10_mostSuspected_1 : decode cX10_mostSuspected 1 = .ok (.istore_n 1, 1) := by decide +kernel
theorem dX10_mostSuspected_2 : decode cX10_mostSuspected 2 = .ok (.iconst 0, 1) := by decide +kernel
theorem dX10_mostSuspected_3 : decode cX10_mostSuspected 3 = .ok (.istore_n 2, 1) := by decide +kernel
theorem dX10_mostSuspected_4 : decode cX10_mostSuspected 4 = .ok (.iconst 0, 1) := by decide +kernel
theorem dX10_mostSuspected_5 : decode cX10_mostSuspected 5 = .ok (.istore_n 3, 1) := by decide +kernel
theorem dX10_mostSuspected_6 : decode cX10_mostSuspected 6 = .ok (.iload_n 3, 1) := by decide +kernel
theorem dX10_mostSuspected_7 : decode cX10_mostSuspected 7 = .ok (.bipush 6, 2) := by decide +kernel
theorem dX10_mostSuspected_9 : decode cX10_mostSuspected 9 = .ok (.if_icmp .ge 33, 3) := by decide +kernel
theorem dX10_mostSuspected_12 : decode cX10_mostSuspected 12 = .ok (.aload_n 0, 1) := by decide +kernel
theorem dX10_mostSuspected_13 : decode cX10_mostSuspected 13 = .ok (.getfield 60, 3) := by decide +kernel
theorem dX10_mostSuspected_16 : decode cX10_mostSuspected 16 = .ok (.iload_n 3, 1) := by decide +kernel
theorem dX10_mostSuspected_17 : decode cX10_mostSuspected 17 = .ok (.invokevirtual 432, 3) := by decide +kernel
theorem dX10_mostSuspected_20 : decode cX10_mostSuspected 20 = .ok (.invokestatic 283, 3) := by decide +kernel
theorem dX10_mostSuspected_23 : decode cX10_mostSuspected 23 = .ok (.istore 4, 2) := by decide +kernel
theorem dX10_mostSuspected_25 : decode cX10_mostSuspected 25 = .ok (.iload 4, 2) := by decide +kernel
theorem dX10_mostSuspected_27 : decode cX10_mostSuspected 27 = .ok (.iload_n 2, 1) := by decide +kernel
theorem dX10_mostSuspected_28 : decode cX10_mostSuspected 28 = .ok (.if_icmp .le 8, 3) := by decide +kernel
theorem dX10_mostSuspected_31 : decode cX10_mostSuspected 31 = .ok (.iload 4, 2) := by decide +kernel
theorem dX10_mostSuspected_33 : decode cX10_mostSuspected 33 = .ok (.istore_n 2, 1) := by decide +kernel
theorem dX10_mostSuspected_34 : decode cX10_mostSuspected 34 = .ok (.iload_n 3, 1) := by decide +kernel
theorem dX10_mostSuspected_35 : decode cX10_mostSuspected 35 = .ok (.istore_n 1, 1) := by decide +kernel
theorem dX10_mostSuspected_36 : decode cX10_mostSuspected 36 = .ok (.iinc 3 1, 3) := by decide +kernel
theorem dX10_mostSuspected_39 : decode cX10_mostSuspected 39 = .ok (.goto (-33), 3) := by decide +kernel
theorem dX10_mostSuspected_42 : decode cX10_mostSuspected 42 = .ok (.iload_n 1, 1) := by decide +kernel
theorem dX10_mostSuspected_43 : decode cX10_mostSuspected 43 = .ok (.ireturn, 1) := by decide +kernel
theorem dX10_mostWary_0 : decode cX10_mostWary 0 = .ok (.iconst (-1), 1) := by decide +kernel
theorem dX10_mostWary_1 : decode cX10_mostWary 1 = .ok (.istore_n 1, 1) := by decide +kernel
theorem dX10_mostWary_2 : decode cX10_mostWary 2 = .ok (.iconst 0, 1) := by decide +kernel
theorem dX10_mostWary_3 : decode cX10_mostWary 3 = .ok (.istore_n 2, 1) := by decide +kernel
theorem dX10_mostWary_4 : decode cX10_mostWary 4 = .ok (.iconst 0, 1) := by decide +kernel
theorem dX10_mostWary_5 : decode cX10_mostWary 5 = .ok (.istore_n 3, 1) := by decide +kernel
theorem dX10_mostWary_6 : decode cX10_mostWary 6 = .ok (.iload_n 3, 1) := by decide +kernel
theorem dX10_mostWary_7 : decode cX10_mostWary 7 = .ok (.aload_n 0, 1) := by decide +kernel
theorem dX10_mostWary_8 : decode cX10_mostWary 8 = .ok (.getfield 23, 3) := by decide +kernel
theorem dX10_mostWary_11 : decode cX10_mostWary 11 = .ok (.getfield 132, 3) := by decide +kernel
theorem dX10_mostWary_14 : decode cX10_mostWary 14 = .ok (.if_icmp .ge 33, 3) := by decide +kernel
theorem dX10_mostWary_17 : decode cX10_mostWary 17 = .ok (.aload_n 0, 1) := by decide +kernel
theorem dX10_mostWary_18 : decode cX10_mostWary 18 = .ok (.getfield 60, 3) := by decide +kernel
theorem dX10_mostWary_21 : decode cX10_mostWary 21 = .ok (.iload_n 3, 1) := by decide +kernel
theorem dX10_mostWary_22 : decode cX10_mostWary 22 = .ok (.invokevirtual 238, 3) := by decide +kernel
theorem dX10_mostWary_25 : decode cX10_mostWary 25 = .ok (.invokestatic 283, 3) := by decide +kernel
theorem dX10_mostWary_28 : decode cX10_mostWary 28 = .ok (.istore 4, 2) := by decide +kernel
theorem dX10_mostWary_30 : decode cX10_mostWary 30 = .ok (.iload 4, 2) := by decide +kernel
theorem dX10_mostWary_32 : decode cX10_mostWary 32 = .ok (.iload_n 2, 1) := by decide +kernel
theorem dX10_mostWary_33 : decode cX10_mostWary 33 = .ok (.if_icmp .le 8, 3) := by decide +kernel
theorem dX10_mostWary_36 : decode cX10_mostWary 36 = .ok (.iload 4, 2) := by decide +kernel
theorem dX10_mostWary_38 : decode cX10_mostWary 38 = .ok (.istore_n 2, 1) := by decide +kernel
theorem dX10_mostWary_39 : decode cX10_mostWary 39 = .ok (.iload_n 3, 1) := by decide +kernel
theorem dX10_mostWary_40 : decode cX10_mostWary 40 = .ok (.istore_n 1, 1) := by decide +kernel
theorem dX10_mostWary_41 : decode cX10_mostWary 41 = .ok (.iinc 3 1, 3) := by decide +kernel
theorem dX10_mostWary_44 : decode cX10_mostWary 44 = .ok (.goto (-38), 3) := by decide +kernel
theorem dX10_mostWary_47 : decode cX10_mostWary 47 = .ok (.iload_n 1, 1) := by decide +kernel
theorem dX10_mostWary_48 : decode cX10_mostWary 48 = .ok (.ireturn, 1) := by decide +kernel
theorem dX10_needed_0 : decode cX10_needed 0 = .ok (.iconst 1, 1) := by decide +kernel
theorem dX10_needed_1 : decode cX10_needed 1 = .ok (.istore_n 1, 1) := by decide +kernel
theorem dX10_needed_2 : decode cX10_needed 2 = .ok (.aload_n 0, 1) := by decide +kernel
theorem dX10_needed_3 : decode cX10_needed 3 = .ok (.getfield 108, 3) := by decide +kernel
theorem dX10_needed_6 : decode cX10_needed 6 = .ok (.ifCond .eq 75, 3) := by decide +kernel
theorem dX10_needed_9 : decode cX10_needed 9 = .ok (.iload_n 1, 1) := by decide +kernel
theorem dX10_needed_10 : decode cX10_needed 10 = .ok (.bipush 6, 2) := by decide +kernel
theorem dX10_needed_12 : decode cX10_needed 12 = .ok (.if_icmp .gt 69, 3) := by decide +kernel
theorem dX10_needed_15 : decode cX10_needed 15 = .ok (.aload_n 0, 1) := by decide +kernel
theorem dX10_needed_16 : decode cX10_needed 16 = .ok (.getfield 23, 3) := by decide +kernel
theorem dX10_needed_19 : decode cX10_needed 19 = .ok (.aload_n 0, 1) := by decide +kernel
theorem dX10_needed_20 : decode cX10_needed 20 = .ok (.getfield 60, 3) := by decide +kernel
theorem dX10_needed_23 : decode cX10_needed 23 = .ok (.getfield 155, 3) := by decide +kernel
theorem dX10_needed_26 : decode cX10_needed 26 = .ok (.iload_n 1, 1) := by decide +kernel
theorem dX10_needed_27 : decode cX10_needed 27 = .ok (.invokevirtual 351, 3) := by decide +kernel
theorem dX10_needed_30 : decode cX10_needed 30 = .ok (.bipush 12, 2) := by decide +kernel
theorem dX10_needed_32 : decode cX10_needed 32 = .ok (.if_icmp .le 5, 3) := by decide +kernel
theorem dX10_needed_35 : decode cX10_needed 35 = .ok (.iconst (-1), 1) := by decide +kernel
theorem dX10_needed_36 : decode cX10_needed 36 = .ok (.ireturn, 1) := by decide +kernel
theorem dX10_needed_37 : decode cX10_needed 37 = .ok (.aload_n 0, 1) := by decide +kernel
theorem dX10_needed_38 : decode cX10_needed 38 = .ok (.getfield 80, 3) := by decide +kernel
theorem dX10_needed_41 : decode cX10_needed 41 = .ok (.aload_n 0, 1) := by decide +kernel
theorem dX10_needed_42 : decode cX10_needed 42 = .ok (.getfield 23, 3) := by decide +kernel
theorem dX10_needed_45 : decode cX10_needed 45 = .ok (.aload_n 0, 1) := by decide +kernel
theorem dX10_needed_46 : decode cX10_needed 46 = .ok (.getfield 60, 3) := by decide +kernel
theorem dX10_needed_49 : decode cX10_needed 49 = .ok (.getfield 155, 3) := by decide +kernel
theorem dX10_needed_52 : decode cX10_needed 52 = .ok (.iload_n 1, 1) := by decide +kernel
theorem dX10_needed_53 : decode cX10_needed 53 = .ok (.invokevirtual 312, 3) := by decide +kernel
theorem dX10_needed_56 : decode cX10_needed 56 = .ok (.aload_n 0, 1) := by decide +kernel
theorem dX10_needed_57 : decode cX10_needed 57 = .ok (.getfield 80, 3) := by decide +kernel
theorem dX10_needed_60 : decode cX10_needed 60 = .ok (.aload_n 0, 1) := by decide +kernel
theorem dX10_needed_61 : decode cX10_needed 61 = .ok (.getfield 60, 3) := by decide +kernel
theorem dX10_needed_64 : decode cX10_needed 64 = .ok (.getfield 154, 3) := by decide +kernel
theorem dX10_needed_67 : decode cX10_needed 67 = .ok (.invokevirtual 335, 3) := by decide +kernel
theorem dX10_needed_70 : decode cX10_needed 70 = .ok (.ifCond .ne 5, 3) := by decide +kernel
theorem dX10_needed_73 : decode cX10_needed 73 = .ok (.iload_n 1, 1) := by decide +kernel
theorem dX10_needed_74 : decode cX10_needed 74 = .ok (.ireturn, 1) := by decide +kernel
theorem dX10_needed_75 : decode cX10_needed 75 = .ok (.iinc 1 1, 3) := by decide +kernel
theorem dX10_needed_78 : decode cX10_needed 78 = .ok (.goto (-76), 3) := by decide +kernel
theorem dX10_needed_81 : decode cX10_needed 81 = .ok (.iconst (-1), 1) := by decide +kernel
theorem dX10_needed_82 : decode cX10_needed 82 = .ok (.ireturn, 1) := by decide +kernel
theorem dX10_nibble_0 : decode cX10_nibble 0 = .ok (.lload_n 0, 1) := by decide +kernel
theorem dX10_nibble_1 : decode cX10_nibble 1 = .ok (.iconst 4, 1) := by decide +kernel
theorem dX10_nibble_2 : decode cX10_nibble 2 = .ok (.iload_n 2, 1) := by decide +kernel
theorem dX10_nibble_3 : decode cX10_nibble 3 = .ok (.imul, 1) := by decide +kernel
theorem dX10_nibble_4 : decode cX10_nibble 4 = .ok (.lushr, 1) := by decide +kernel
theorem dX10_nibble_5 : decode cX10_nibble 5 = .ok (.l2i, 1) := by decide +kernel
theorem dX10_nibble_6 : decode cX10_nibble 6 = .ok (.bipush 15, 2) := by decide +kernel
theorem dX10_nibble_8 : decode cX10_nibble 8 = .ok (.iand, 1) := by decide +kernel
theorem dX10_nibble_9 : decode cX10_nibble 9 = .ok (.ireturn, 1) := by decide +kernel
theorem dX10_peer_0 : decode cX10_peer 0 = .ok (.aload_n 0, 1) := by decide +kernel
theorem dX10_peer_1 : decode cX10_peer 1 = .ok (.iload_n 1, 1) := by decide +kernel
theorem dX10_peer_2 : decode cX10_peer 2 = .ok (.invokevirtual 217, 3) := by decide +kernel
theorem dX10_peer_5 : decode cX10_peer 5 = .ok (.ifCond .ne 5, 3) := by decide +kernel
theorem dX10_peer_8 : decode cX10_peer 8 = .ok (.iconst (-1), 1) := by decide +kernel
theorem dX10_peer_9 : decode cX10_peer 9 = .ok (.ireturn, 1) := by decide +kernel
theorem dX10_peer_10 : decode cX10_peer 10 = .ok (.iload_n 2, 1) := by decide +kernel
theorem dX10_peer_11 : decode cX10_peer 11 = .ok (.tableswitch 74 0 3 #[29, 41, 50, 62], 29) := by decide +kernel
theorem dX10_peer_40 : decode cX10_peer 40 = .ok (.aload_n 0, 1) := by decide +kernel
theorem dX10_peer_41 : decode cX10_peer 41 = .ok (.getfield 60, 3) := by decide +kernel
theorem dX10_peer_44 : decode cX10_peer 44 = .ok (.getfield 211, 3) := by decide +kernel
theorem dX10_peer_47 : decode cX10_peer 47 = .ok (.iload_n 1, 1) := by decide +kernel
theorem dX10_peer_48 : decode cX10_peer 48 = .ok (.invokestatic 235, 3) := by decide +kernel
theorem dX10_peer_51 : decode cX10_peer 51 = .ok (.ireturn, 1) := by decide +kernel
theorem dX10_peer_52 : decode cX10_peer 52 = .ok (.aload_n 0, 1) := by decide +kernel
theorem dX10_peer_53 : decode cX10_peer 53 = .ok (.getfield 60, 3) := by decide +kernel
theorem dX10_peer_56 : decode cX10_peer 56 = .ok (.iload_n 1, 1) := by decide +kernel
theorem dX10_peer_57 : decode cX10_peer 57 = .ok (.invokevirtual 238, 3) := by decide +kernel
theorem dX10_peer_60 : decode cX10_peer 60 = .ok (.ireturn, 1) := by decide +kernel
theorem dX10_peer_61 : decode cX10_peer 61 = .ok (.aload_n 0, 1) := by decide +kernel
theorem dX10_peer_62 : decode cX10_peer 62 = .ok (.getfield 60, 3) := by decide +kernel
theorem dX10_peer_65 : decode cX10_peer 65 = .ok (.getfield 155, 3) := by decide +kernel
theorem dX10_peer_68 : decode cX10_peer 68 = .ok (.iload_n 1, 1) := by decide +kernel
theorem dX10_peer_69 : decode cX10_peer 69 = .ok (.invokestatic 235, 3) := by decide +kernel
theorem dX10_peer_72 : decode cX10_peer 72 = .ok (.ireturn, 1) := by decide +kernel
theorem dX10_peer_73 : decode cX10_peer 73 = .ok (.aload_n 0, 1) := by decide +kernel
theorem dX10_peer_74 : decode cX10_peer 74 = .ok (.getfield 60, 3) := by decide +kernel
theorem dX10_peer_77 : decode cX10_peer 77 = .ok (.getfield 154, 3) := by decide +kernel
theorem dX10_peer_80 : decode cX10_peer 80 = .ok (.iload_n 1, 1) := by decide +kernel
theorem dX10_peer_81 : decode cX10_peer 81 = .ok (.invokestatic 235, 3) := by decide +kernel
theorem dX10_peer_84 : decode cX10_peer 84 = .ok (.ireturn, 1) := by decide +kernel
theorem dX10_peer_85 : decode cX10_peer 85 = .ok (.iconst (-1), 1) := by decide +kernel
theorem dX10_peer_86 : decode cX10_peer 86 = .ok (.ireturn, 1) := by decide +kernel
theorem dX10_phasesInDoubt_0 : decode cX10_phasesInDoubt 0 = .ok (.iconst 0, 1) := by decide +kernel
theorem dX10_phasesInDoubt_1 : decode cX10_phasesInDoubt 1 = .ok (.istore_n 1, 1) := by decide +kernel
theorem dX10_phasesInDoubt_2 : decode cX10_phasesInDoubt 2 = .ok (.iconst 0, 1) := by decide +kernel
theorem dX10_phasesInDoubt_3 : decode cX10_phasesInDoubt 3 = .ok (.istore_n 2, 1) := by decide +kernel
theorem dX10_phasesInDoubt_4 : decode cX10_phasesInDoubt 4 = .ok (.iload_n 2, 1) := by decide +kernel
theorem dX10_phasesInDoubt_5 : decode cX10_phasesInDoubt 5 = .ok (.aload_n 0, 1) := by decide +kernel
theorem dX10_phasesInDoubt_6 : decode cX10_phasesInDoubt 6 = .ok (.invokevirtual 273, 3) := by decide +kernel
theorem dX10_phasesInDoubt_9 : decode cX10_phasesInDoubt 9 = .ok (.if_icmp .ge 43, 3) := by decide +kernel
theorem dX10_phasesInDoubt_12 : decode cX10_phasesInDoubt 12 = .ok (.iload_n 1, 1) := by decide +kernel
theorem dX10_phasesInDoubt_13 : decode cX10_phasesInDoubt 13 = .ok (.aload_n 0, 1) := by decide +kernel
theorem dX10_phasesInDoubt_14 : decode cX10_phasesInDoubt 14 = .ok (.getfield 60, 3) := by decide +kernel
theorem dX10_phasesInDoubt_17 : decode cX10_phasesInDoubt 17 = .ok (.aload_n 0, 1) := by decide +kernel
theorem dX10_phasesInDoubt_18 : decode cX10_phasesInDoubt 18 = .ok (.getfield 23, 3) := by decide +kernel
theorem dX10_phasesInDoubt_21 : decode cX10_phasesInDoubt 21 = .ok (.invokevirtual 280, 3) := by decide +kernel
theorem dX10_phasesInDoubt_24 : decode cX10_phasesInDoubt 24 = .ok (.aload_n 0, 1) := by decide +kernel
theorem dX10_phasesInDoubt_25 : decode cX10_phasesInDoubt 25 = .ok (.getfield 60, 3) := by decide +kernel
theorem dX10_phasesInDoubt_28 : decode cX10_phasesInDoubt 28 = .ok (.getfield 247, 3) := by decide +kernel
theorem dX10_phasesInDoubt_31 : decode cX10_phasesInDoubt 31 = .ok (.iload_n 2, 1) := by decide +kernel
theorem dX10_phasesInDoubt_32 : decode cX10_phasesInDoubt 32 = .ok (.iaload, 1) := by decide +kernel
theorem dX10_phasesInDoubt_33 : decode cX10_phasesInDoubt 33 = .ok (.iconst (-1), 1) := by decide +kernel
theorem dX10_phasesInDoubt_34 : decode cX10_phasesInDoubt 34 = .ok (.ixor, 1) := by decide +kernel
theorem dX10_phasesInDoubt_35 : decode cX10_phasesInDoubt 35 = .ok (.iand, 1) := by decide +kernel
theorem dX10_phasesInDoubt_36 : decode cX10_phasesInDoubt 36 = .ok (.ifCond .eq 7, 3) := by decide +kernel
theorem dX10_phasesInDoubt_39 : decode cX10_phasesInDoubt 39 = .ok (.iconst 1, 1) := by decide +kernel
theorem dX10_phasesInDoubt_40 : decode cX10_phasesInDoubt 40 = .ok (.goto 4, 3) := by decide +kernel
theorem dX10_phasesInDoubt_43 : decode cX10_phasesInDoubt 43 = .ok (.iconst 0, 1) := by decide +kernel
theorem dX10_phasesInDoubt_44 : decode cX10_phasesInDoubt 44 = .ok (.iadd, 1) := by decide +kernel
theorem dX10_phasesInDoubt_45 : decode cX10_phasesInDoubt 45 = .ok (.istore_n 1, 1) := by decide +kernel
theorem dX10_phasesInDoubt_46 : decode cX10_phasesInDoubt 46 = .ok (.iinc 2 1, 3) := by decide +kernel
theorem dX10_phasesInDoubt_49 : decode cX10_phasesInDoubt 49 = .ok (.goto (-45), 3) := by decide +kernel
theorem dX10_phasesInDoubt_52 : decode cX10_phasesInDoubt 52 = .ok (.iload_n 1, 1) := by decide +kernel
theorem dX10_phasesInDoubt_53 : decode cX10_phasesInDoubt 53 = .ok (.ireturn, 1) := by decide +kernel
theorem dX10_phasesOver_0 : decode cX10_phasesOver 0 = .ok (.aload_n 0, 1) := by decide +kernel
theorem dX10_phasesOver_1 : decode cX10_phasesOver 1 = .ok (.getfield 108, 3) := by decide +kernel
theorem dX10_phasesOver_4 : decode cX10_phasesOver 4 = .ok (.ifCond .eq 25, 3) := by decide +kernel
theorem dX10_phasesOver_7 : decode cX10_phasesOver 7 = .ok (.aload_n 0, 1) := by decide +kernel
theorem dX10_phasesOver_8 : decode cX10_phasesOver 8 = .ok (.getfield 23, 3) := by decide +kernel
theorem dX10_phasesOver_11 : decode cX10_phasesOver 11 = .ok (.aload_n 0, 1) := by decide +kernel
theorem dX10_phasesOver_12 : decode cX10_phasesOver 12 = .ok (.getfield 60, 3) := by decide +kernel
theorem dX10_phasesOver_15 : decode cX10_phasesOver 15 = .ok (.getfield 159, 3) := by decide +kernel
theorem dX10_phasesOver_18 : decode cX10_phasesOver 18 = .ok (.invokevirtual 162, 3) := by decide +kernel
theorem dX10_phasesOver_21 : decode cX10_phasesOver 21 = .ok (.bipush 6, 2) := by decide +kernel
theorem dX10_phasesOver_23 : decode cX10_phasesOver 23 = .ok (.invokestatic 401, 3) := by decide +kernel
theorem dX10_phasesOver_26 : decode cX10_phasesOver 26 = .ok (.goto 4, 3) := by decide +kernel
theorem dX10_phasesOver_29 : decode cX10_phasesOver 29 = .ok (.iconst 0, 1) := by decide +kernel
theorem dX10_phasesOver_30 : decode cX10_phasesOver 30 = .ok (.ireturn, 1) := by decide +kernel
theorem dX10_plan_0 : decode cX10_plan 0 = .ok (.aload_n 0, 1) := by decide +kernel
theorem dX10_plan_1 : decode cX10_plan 1 = .ok (.getfield 32, 3) := by decide +kernel
theorem dX10_plan_4 : decode cX10_plan 4 = .ok (.aload_n 0, 1) := by decide +kernel
theorem dX10_plan_5 : decode cX10_plan 5 = .ok (.getfield 10, 3) := by decide +kernel
theorem dX10_plan_8 : decode cX10_plan 8 = .ok (.invokevirtual 103, 3) := by decide +kernel
theorem dX10_plan_11 : decode cX10_plan 11 = .ok (.iconst (-1), 1) := by decide +kernel
theorem dX10_plan_12 : decode cX10_plan 12 = .ok (.if_icmp .eq 5, 3) := by decide +kernel
theorem dX10_plan_15 : decode cX10_plan 15 = .ok (.iconst (-1), 1) := by decide +kernel
theorem dX10_plan_16 : decode cX10_plan 16 = .ok (.ireturn, 1) := by decide +kernel
theorem dX10_plan_17 : decode cX10_plan 17 = .ok (.aload_n 0, 1) := by decide +kernel
theorem dX10_plan_18 : decode cX10_plan 18 = .ok (.getfield 10, 3) := by decide +kernel
theorem dX10_plan_21 : decode cX10_plan 21 = .ok (.iconst 0, 1) := by decide +kernel
theorem dX10_plan_22 : decode cX10_plan 22 = .ok (.putfield 91, 3) := by decide +kernel
theorem dX10_plan_25 : decode cX10_plan 25 = .ok (.aload_n 0, 1) := by decide +kernel
theorem dX10_plan_26 : decode cX10_plan 26 = .ok (.getfield 39, 3) := by decide +kernel
theorem dX10_plan_29 : decode cX10_plan 29 = .ok (.getfield 135, 3) := by decide +kernel
theorem dX10_plan_32 : decode cX10_plan 32 = .ok (.aload_n 0, 1) := by decide +kernel
theorem dX10_plan_33 : decode cX10_plan 33 = .ok (.getfield 32, 3) := by decide +kernel
theorem dX10_plan_36 : decode cX10_plan 36 = .ok (.invokevirtual 138, 3) := by decide +kernel
theorem dX10_plan_39 : decode cX10_plan 39 = .ok (.aload_n 0, 1) := by decide +kernel
theorem dX10_plan_40 : decode cX10_plan 40 = .ok (.getfield 39, 3) := by decide +kernel
theorem dX10_plan_43 : decode cX10_plan 43 = .ok (.getfield 135, 3) := by decide +kernel
theorem dX10_plan_46 : decode cX10_plan 46 = .ok (.getfield 141, 3) := by decide +kernel
theorem dX10_plan_49 : decode cX10_plan 49 = .ok (.ireturn, 1) := by decide +kernel
theorem dX10_playTrial_0 : decode cX10_playTrial 0 = .ok (.aload_n 0, 1) := by decide +kernel
theorem dX10_playTrial_1 : decode cX10_playTrial 1 = .ok (.getfield 67, 3) := by decide +kernel
theorem dX10_playTrial_4 : decode cX10_playTrial 4 = .ok (.aload_n 0, 1) := by decide +kernel
theorem dX10_playTrial_5 : decode cX10_playTrial 5 = .ok (.getfield 60, 3) := by decide +kernel
theorem dX10_playTrial_8 : decode cX10_playTrial 8 = .ok (.getfield 154, 3) := by decide +kernel
theorem dX10_playTrial_11 : decode cX10_playTrial 11 = .ok (.aload_n 0, 1) := by decide +kernel
theorem dX10_playTrial_12 : decode cX10_playTrial 12 = .ok (.getfield 60, 3) := by decide +kernel
theorem dX10_playTrial_15 : decode cX10_playTrial 15 = .ok (.getfield 155, 3) := by decide +kernel
theorem dX10_playTrial_18 : decode cX10_playTrial 18 = .ok (.lload_n 3, 1) := by decide +kernel
theorem dX10_playTrial_19 : decode cX10_playTrial 19 = .ok (.invokevirtual 128, 3) := by decide +kernel
theorem dX10_playTrial_22 : decode cX10_playTrial 22 = .ok (.iconst 0, 1) := by decide +kernel
theorem dX10_playTrial_23 : decode cX10_playTrial 23 = .ok (.istore 5, 2) := by decide +kernel
theorem dX10_playTrial_25 : decode cX10_playTrial 25 = .ok (.iload 5, 2) := by decide +kernel
theorem dX10_playTrial_27 : decode cX10_playTrial 27 = .ok (.aload_n 1, 1) := by decide +kernel
theorem dX10_playTrial_28 : decode cX10_playTrial 28 = .ok (.invokevirtual 406, 3) := by decide +kernel
theorem dX10_playTrial_31 : decode cX10_playTrial 31 = .ok (.if_icmp .ge 18, 3) := by decide +kernel
theorem dX10_playTrial_34 : decode cX10_playTrial 34 = .ok (.aload_n 0, 1) := by decide +kernel
theorem dX10_playTrial_35 : decode cX10_playTrial 35 = .ok (.getfield 67, 3) := by decide +kernel
theorem dX10_playTrial_38 : decode cX10_playTrial 38 = .ok (.aload_n 1, 1) := by decide +kernel
theorem dX10_playTrial_39 : decode cX10_playTrial 39 = .ok (.aload_n 2, 1) := by decide +kernel
theorem dX10_playTrial_40 : decode cX10_playTrial 40 = .ok (.invokevirtual 190, 3) := by decide +kernel
theorem dX10_playTrial_43 : decode cX10_playTrial 43 = .ok (.iinc 5 1, 3) := by decide +kernel
theorem dX10_playTrial_46 : decode cX10_playTrial 46 = .ok (.goto (-21), 3) := by decide +kernel
theorem dX10_playTrial_49 : decode cX10_playTrial 49 = .ok (.return_, 1) := by decide +kernel
theorem dX10_reachedByRuler_0 : decode cX10_reachedByRuler 0 = .ok (.iconst 0, 1) := by decide +kernel
theorem dX10_reachedByRuler_1 : decode cX10_reachedByRuler 1 = .ok (.istore_n 3, 1) := by decide +kernel
theorem dX10_reachedByRuler_2 : decode cX10_reachedByRuler 2 = .ok (.iconst 0, 1) := by decide +kernel
theorem dX10_reachedByRuler_3 : decode cX10_reachedByRuler 3 = .ok (.istore 4, 2) := by decide +kernel
theorem dX10_reachedByRuler_5 : decode cX10_reachedByRuler 5 = .ok (.iload 4, 2) := by decide +kernel
theorem dX10_reachedByRuler_7 : decode cX10_reachedByRuler 7 = .ok (.aload_n 0, 1) := by decide +kernel
theorem dX10_reachedByRuler_8 : decode cX10_reachedByRuler 8 = .ok (.getfield 23, 3) := by decide +kernel
theorem dX10_reachedByRuler_11 : decode cX10_reachedByRuler 11 = .ok (.getfield 132, 3) := by decide +kernel
theorem dX10_reachedByRuler_14 : decode cX10_reachedByRuler 14 = .ok (.if_icmp .ge 59, 3) := by decide +kernel
theorem dX10_reachedByRuler_17 : decode cX10_reachedByRuler 17 = .ok (.iload 4, 2) := by decide +kernel
theorem dX10_reachedByRuler_19 : decode cX10_reachedByRuler 19 = .ok (.iload_n 2, 1) := by decide +kernel
theorem dX10_reachedByRuler_20 : decode cX10_reachedByRuler 20 = .ok (.if_icmp .eq 31, 3) := by decide +kernel
theorem dX10_reachedByRuler_23 : decode cX10_reachedByRuler 23 = .ok (.aload_n 0, 1) := by decide +kernel
theorem dX10_reachedByRuler_24 : decode cX10_reachedByRuler 24 = .ok (.getfield 60, 3) := by decide +kernel
theorem dX10_reachedByRuler_27 : decode cX10_reachedByRuler 27 = .ok (.iload_n 1, 1) := by decide +kernel
theorem dX10_reachedByRuler_28 : decode cX10_reachedByRuler 28 = .ok (.aload_n 0, 1) := by decide +kernel
theorem dX10_reachedByRuler_29 : decode cX10_reachedByRuler 29 = .ok (.getfield 23, 3) := by decide +kernel
theorem dX10_reachedByRuler_32 : decode cX10_reachedByRuler 32 = .ok (.invokevirtual 169, 3) := by decide +kernel
theorem dX10_reachedByRuler_35 : decode cX10_reachedByRuler 35 = .ok (.iconst 1, 1) := by decide +kernel
theorem dX10_reachedByRuler_36 : decode cX10_reachedByRuler 36 = .ok (.isub, 1) := by decide +kernel
theorem dX10_reachedByRuler_37 : decode cX10_reachedByRuler 37 = .ok (.iload_n 2, 1) := by decide +kernel
theorem dX10_reachedByRuler_38 : decode cX10_reachedByRuler 38 = .ok (.iload 4, 2) := by decide +kernel
theorem dX10_reachedByRuler_40 : decode cX10_reachedByRuler 40 = .ok (.invokevirtual 231, 3) := by decide +kernel
theorem dX10_reachedByRuler_43 : decode cX10_reachedByRuler 43 = .ok (.iconst 2, 1) := by decide +kernel
theorem dX10_reachedByRuler_44 : decode cX10_reachedByRuler 44 = .ok (.if_icmp .eq 7, 3) := by decide +kernel
theorem dX10_reachedByRuler_47 : decode cX10_reachedByRuler 47 = .ok (.iconst 1, 1) := by decide +kernel
theorem dX10_reachedByRuler_48 : decode cX10_reachedByRuler 48 = .ok (.goto 4, 3) := by decide +kernel
theorem dX10_reachedByRuler_51 : decode cX10_reachedByRuler 51 = .ok (.iconst 0, 1) := by decide +kernel
theorem dX10_reachedByRuler_52 : decode cX10_reachedByRuler 52 = .ok (.istore 5, 2) := by decide +kernel
theorem dX10_reachedByRuler_54 : decode cX10_reachedByRuler 54 = .ok (.iload_n 3, 1) := by decide +kernel
theorem dX10_reachedByRuler_55 : decode cX10_reachedByRuler 55 = .ok (.iload 5, 2) := by decide +kernel
theorem dX10_reachedByRuler_57 : decode cX10_reachedByRuler 57 = .ok (.ifCond .eq 7, 3) := by decide +kernel
theorem dX10_reachedByRuler_60 : decode cX10_reachedByRuler 60 = .ok (.iconst 1, 1) := by decide +kernel
theorem dX10_reachedByRuler_61 : decode cX10_reachedByRuler 61 = .ok (.goto 4, 3) := by decide +kernel
theorem dX10_reachedByRuler_64 : decode cX10_reachedByRuler 64 = .ok (.iconst 0, 1) := by decide +kernel
theorem dX10_reachedByRuler_65 : decode cX10_reachedByRuler 65 = .ok (.iadd, 1) := by decide +kernel
theorem dX10_reachedByRuler_66 : decode cX10_reachedByRuler 66 = .ok (.istore_n 3, 1) := by decide +kernel
theorem dX10_reachedByRuler_67 : decode cX10_reachedByRuler 67 = .ok (.iinc 4 1, 3) := by decide +kernel
theorem dX10_reachedByRuler_70 : decode cX10_reachedByRuler 70 = .ok (.goto (-65), 3) := by decide +kernel
theorem dX10_reachedByRuler_73 : decode cX10_reachedByRuler 73 = .ok (.iload_n 3, 1) := by decide +kernel
theorem dX10_reachedByRuler_74 : decode cX10_reachedByRuler 74 = .ok (.ireturn, 1) := by decide +kernel
theorem dX10_refuse_0 : decode cX10_refuse 0 = .ok (.aload_n 0, 1) := by decide +kernel
theorem dX10_refuse_1 : decode cX10_refuse 1 = .ok (.getfield 87, 3) := by decide +kernel
theorem dX10_refuse_4 : decode cX10_refuse 4 = .ok (.iload_n 1, 1) := by decide +kernel
theorem dX10_refuse_5 : decode cX10_refuse 5 = .ok (.dup2, 1) := by decide +kernel
theorem dX10_refuse_6 : decode cX10_refuse 6 = .ok (.iaload, 1) := by decide +kernel
theorem dX10_refuse_7 : decode cX10_refuse 7 = .ok (.iconst 1, 1) := by decide +kernel
theorem dX10_refuse_8 : decode cX10_refuse 8 = .ok (.iadd, 1) := by decide +kernel
theorem dX10_refuse_9 : decode cX10_refuse 9 = .ok (.iastore, 1) := by decide +kernel
theorem dX10_refuse_10 : decode cX10_refuse 10 = .ok (.iconst (-1), 1) := by decide +kernel
theorem dX10_refuse_11 : decode cX10_refuse 11 = .ok (.ireturn, 1) := by decide +kernel
theorem dX10_round_0 : decode cX10_round 0 = .ok (.aload_n 0, 1) := by decide +kernel
theorem dX10_round_1 : decode cX10_round 1 = .ok (.invokevirtual 183, 3) := by decide +kernel
theorem dX10_round_4 : decode cX10_round 4 = .ok (.iconst 1, 1) := by decide +kernel
theorem dX10_round_5 : decode cX10_round 5 = .ok (.if_icmp .ge 5, 3) := by decide +kernel
theorem dX10_round_8 : decode cX10_round 8 = .ok (.iconst (-1), 1) := by decide +kernel
theorem dX10_round_9 : decode cX10_round 9 = .ok (.ireturn, 1) := by decide +kernel
theorem dX10_round_10 : decode cX10_round 10 = .ok (.aload_n 0, 1) := by decide +kernel
theorem dX10_round_11 : decode cX10_round 11 = .ok (.getfield 73, 3) := by decide +kernel
theorem dX10_round_14 : decode cX10_round 14 = .ok (.aload_n 0, 1) := by decide +kernel
theorem dX10_round_15 : decode cX10_round 15 = .ok (.getfield 60, 3) := by decide +kernel
theorem dX10_round_18 : decode cX10_round 18 = .ok (.invokevirtual 186, 3) := by decide +kernel
theorem dX10_round_21 : decode cX10_round 21 = .ok (.aload_n 0, 1) := by decide +kernel
theorem dX10_round_22 : decode cX10_round 22 = .ok (.getfield 60, 3) := by decide +kernel
theorem dX10_round_25 : decode cX10_round 25 = .ok (.aload_n 0, 1) := by decide +kernel
theorem dX10_round_26 : decode cX10_round 26 = .ok (.getfield 23, 3) := by decide +kernel
theorem dX10_round_29 : decode cX10_round 29 = .ok (.aload_n 0, 1) := by decide +kernel
theorem dX10_round_30 : decode cX10_round 30 = .ok (.getfield 39, 3) := by decide +kernel
theorem dX10_round_33 : decode cX10_round 33 = .ok (.invokevirtual 190, 3) := by decide +kernel
theorem dX10_round_36 : decode cX10_round 36 = .ok (.aload_n 0, 1) := by decide +kernel
theorem dX10_round_37 : decode cX10_round 37 = .ok (.getfield 60, 3) := by decide +kernel
theorem dX10_round_40 : decode cX10_round 40 = .ok (.getfield 159, 3) := by decide +kernel
theorem dX10_round_43 : decode cX10_round 43 = .ok (.ireturn, 1) := by decide +kernel
theorem dX10_roundsLeft_0 : decode cX10_roundsLeft 0 = .ok (.aload_n 0, 1) := by decide +kernel
theorem dX10_roundsLeft_1 : decode cX10_roundsLeft 1 = .ok (.getfield 108, 3) := by decide +kernel
theorem dX10_roundsLeft_4 : decode cX10_roundsLeft 4 = .ok (.ifCond .eq 21, 3) := by decide +kernel
theorem dX10_roundsLeft_7 : decode cX10_roundsLeft 7 = .ok (.aload_n 0, 1) := by decide +kernel
theorem dX10_roundsLeft_8 : decode cX10_roundsLeft 8 = .ok (.getfield 23, 3) := by decide +kernel
theorem dX10_roundsLeft_11 : decode cX10_roundsLeft 11 = .ok (.invokevirtual 406, 3) := by decide +kernel
theorem dX10_roundsLeft_14 : decode cX10_roundsLeft 14 = .ok (.aload_n 0, 1) := by decide +kernel
theorem dX10_roundsLeft_15 : decode cX10_roundsLeft 15 = .ok (.getfield 60, 3) := by decide +kernel
theorem dX10_roundsLeft_18 : decode cX10_roundsLeft 18 = .ok (.getfield 159, 3) := by decide +kernel
theorem dX10_roundsLeft_21 : decode cX10_roundsLeft 21 = .ok (.isub, 1) := by decide +kernel
theorem dX10_roundsLeft_22 : decode cX10_roundsLeft 22 = .ok (.goto 4, 3) := by decide +kernel
theorem dX10_roundsLeft_25 : decode cX10_roundsLeft 25 = .ok (.iconst 0, 1) := by decide +kernel
theorem dX10_roundsLeft_26 : decode cX10_roundsLeft 26 = .ok (.ireturn, 1) := by decide +kernel
theorem dX10_rule_0 : decode cX10_rule 0 = .ok (.iload_n 1, 1) := by decide +kernel
theorem dX10_rule_1 : decode cX10_rule 1 = .ok (.bipush 10, 2) := by decide +kernel
theorem dX10_rule_3 : decode cX10_rule 3 = .ok (.if_icmp .ne 14, 3) := by decide +kernel
theorem dX10_rule_6 : decode cX10_rule 6 = .ok (.aload_n 0, 1) := by decide +kernel
theorem dX10_rule_7 : decode cX10_rule 7 = .ok (.getfield 39, 3) := by decide +kernel
theorem dX10_rule_10 : decode cX10_rule 10 = .ok (.getfield 135, 3) := by decide +kernel
theorem dX10_rule_13 : decode cX10_rule 13 = .ok (.getfield 141, 3) := by decide +kernel
theorem dX10_rule_16 : decode cX10_rule 16 = .ok (.ireturn, 1) := by decide +kernel
theorem dX10_rule_17 : decode cX10_rule 17 = .ok (.aload_n 0, 1) := by decide +kernel
theorem dX10_rule_18 : decode cX10_rule 18 = .ok (.getfield 108, 3) := by decide +kernel
theorem dX10_rule_21 : decode cX10_rule 21 = .ok (.ifCond .ne 6, 3) := by decide +kernel
theorem dX10_rule_24 : decode cX10_rule 24 = .ok (.ldc 144, 2) := by decide +kernel
theorem dX10_rule_26 : decode cX10_rule 26 = .ok (.ireturn, 1) := by decide +kernel
theorem dX10_rule_27 : decode cX10_rule 27 = .ok (.iload_n 1, 1) := by decide +kernel
theorem dX10_rule_28 : decode cX10_rule 28 = .ok (.tableswitch 174 0 11 #[64, 72, 80, 88, 96, 104, 112, 128, 143, 158, 174, 166], 64) := by decide +kernel
theorem dX10_rule_92 : decode cX10_rule 92 = .ok (.aload_n 0, 1) := by decide +kernel
theorem dX10_rule_93 : decode cX10_rule 93 = .ok (.getfield 23, 3) := by decide +kernel
theorem dX10_rule_96 : decode cX10_rule 96 = .ok (.getfield 145, 3) := by decide +kernel
theorem dX10_rule_99 : decode cX10_rule 99 = .ok (.ireturn, 1) := by decide +kernel
theorem dX10_rule_100 : decode cX10_rule 100 = .ok (.aload_n 0, 1) := by decide +kernel
theorem dX10_rule_101 : decode cX10_rule 101 = .ok (.getfield 23, 3) := by decide +kernel
theorem dX10_rule_104 : decode cX10_rule 104 = .ok (.getfield 132, 3) := by decide +kernel
theorem dX10_rule_107 : decode cX10_rule 107 = .ok (.ireturn, 1) := by decide +kernel
theorem dX10_rule_108 : decode cX10_rule 108 = .ok (.aload_n 0, 1) := by decide +kernel
theorem dX10_rule_109 : decode cX10_rule 109 = .ok (.getfield 23, 3) := by decide +kernel
theorem dX10_rule_112 : decode cX10_rule 112 = .ok (.getfield 148, 3) := by decide +kernel
theorem dX10_rule_115 : decode cX10_rule 115 = .ok (.ireturn, 1) := by decide +kernel
theorem dX10_rule_116 : decode cX10_rule 116 = .ok (.aload_n 0, 1) := by decide +kernel
theorem dX10_rule_117 : decode cX10_rule 117 = .ok (.getfield 23, 3) := by decide +kernel
theorem dX10_rule_120 : decode cX10_rule 120 = .ok (.getfield 151, 3) := by decide +kernel
theorem dX10_rule_123 : decode cX10_rule 123 = .ok (.ireturn, 1) := by decide +kernel
theorem dX10_rule_124 : decode cX10_rule 124 = .ok (.aload_n 0, 1) := by decide +kernel
theorem dX10_rule_125 : decode cX10_rule 125 = .ok (.getfield 60, 3) := by decide +kernel
theorem dX10_rule_128 : decode cX10_rule 128 = .ok (.getfield 154, 3) := by decide +kernel
theorem dX10_rule_131 : decode cX10_rule 131 = .ok (.ireturn, 1) := by decide +kernel
theorem dX10_rule_132 : decode cX10_rule 132 = .ok (.aload_n 0, 1) := by decide +kernel
theorem dX10_rule_133 : decode cX10_rule 133 = .ok (.getfield 60, 3) := by decide +kernel
theorem dX10_rule_136 : decode cX10_rule 136 = .ok (.getfield 155, 3) := by decide +kernel
theorem dX10_rule_139 : decode cX10_rule 139 = .ok (.ireturn, 1) := by decide +kernel
theorem dX10_rule_140 : decode cX10_rule 140 = .ok (.aload_n 0, 1) := by decide +kernel
theorem dX10_rule_141 : decode cX10_rule 141 = .ok (.getfield 23, 3) := by decide +kernel
theorem dX10_rule_144 : decode cX10_rule 144 = .ok (.getfield 156, 3) := by decide +kernel
theorem dX10_rule_147 : decode cX10_rule 147 = .ok (.ifCond .eq 7, 3) := by decide +kernel
theorem dX10_rule_150 : decode cX10_rule 150 = .ok (.iconst 1, 1) := by decide +kernel
theorem dX10_rule_151 : decode cX10_rule 151 = .ok (.goto 4, 3) := by decide +kernel
theorem dX10_rule_154 : decode cX10_rule 154 = .ok (.iconst 0, 1) := by decide +kernel
theorem dX10_rule_155 : decode cX10_rule 155 = .ok (.ireturn, 1) := by decide +kernel
theorem dX10_rule_156 : decode cX10_rule 156 = .ok (.aload_n 0, 1) := by decide +kernel
theorem dX10_rule_157 : decode cX10_rule 157 = .ok (.getfield 23, 3) := by decide +kernel
theorem dX10_rule_160 : decode cX10_rule 160 = .ok (.aload_n 0, 1) := by decide +kernel
theorem dX10_rule_161 : decode cX10_rule 161 = .ok (.getfield 60, 3) := by decide +kernel
theorem dX10_rule_164 : decode cX10_rule 164 = .ok (.getfield 159, 3) := by decide +kernel
theorem dX10_rule_167 : decode cX10_rule 167 = .ok (.invokevirtual 162, 3) := by decide +kernel
theorem dX10_rule_170 : decode cX10_rule 170 = .ok (.ireturn, 1) := by decide +kernel
theorem dX10_rule_171 : decode cX10_rule 171 = .ok (.aload_n 0, 1) := by decide +kernel
theorem dX10_rule_172 : decode cX10_rule 172 = .ok (.getfield 23, 3) := by decide +kernel
theorem dX10_rule_175 : decode cX10_rule 175 = .ok (.aload_n 0, 1) := by decide +kernel
theorem dX10_rule_176 : decode cX10_rule 176 = .ok (.getfield 60, 3) := by decide +kernel
theorem dX10_rule_179 : decode cX10_rule 179 = .ok (.getfield 159, 3) := by decide +kernel
theorem dX10_rule_182 : decode cX10_rule 182 = .ok (.invokevirtual 166, 3) := by decide +kernel
theorem dX10_rule_185 : decode cX10_rule 185 = .ok (.ireturn, 1) := by decide +kernel
theorem dX10_rule_186 : decode cX10_rule 186 = .ok (.aload_n 0, 1) := by decide +kernel
theorem dX10_rule_187 : decode cX10_rule 187 = .ok (.getfield 23, 3) := by decide +kernel
theorem dX10_rule_190 : decode cX10_rule 190 = .ok (.invokevirtual 169, 3) := by decide +kernel
theorem dX10_rule_193 : decode cX10_rule 193 = .ok (.ireturn, 1) := by decide +kernel
theorem dX10_rule_194 : decode cX10_rule 194 = .ok (.aload_n 0, 1) := by decide +kernel
theorem dX10_rule_195 : decode cX10_rule 195 = .ok (.getfield 60, 3) := by decide +kernel
theorem dX10_rule_198 : decode cX10_rule 198 = .ok (.getfield 173, 3) := by decide +kernel
theorem dX10_rule_201 : decode cX10_rule 201 = .ok (.ireturn, 1) := by decide +kernel
theorem dX10_rule_202 : decode cX10_rule 202 = .ok (.ldc 144, 2) := by decide +kernel
theorem dX10_rule_204 : decode cX10_rule 204 = .ok (.ireturn, 1) := by decide +kernel
theorem dX10_ruled_0 : decode cX10_ruled 0 = .ok (.aload_n 0, 1) := by decide +kernel
theorem dX10_ruled_1 : decode cX10_ruled 1 = .ok (.iload_n 1, 1) := by decide +kernel
theorem dX10_ruled_2 : decode cX10_ruled 2 = .ok (.invokevirtual 217, 3) := by decide +kernel
theorem dX10_ruled_5 : decode cX10_ruled 5 = .ok (.ifCond .eq 12, 3) := by decide +kernel
theorem dX10_ruled_8 : decode cX10_ruled 8 = .ok (.iload_n 2, 1) := by decide +kernel
theorem dX10_ruled_9 : decode cX10_ruled 9 = .ok (.ifCond .lt 8, 3) := by decide +kernel
theorem dX10_ruled_12 : decode cX10_ruled 12 = .ok (.iload_n 2, 1) := by decide +kernel
theorem dX10_ruled_13 : decode cX10_ruled 13 = .ok (.iconst 3, 1) := by decide +kernel
theorem dX10_ruled_14 : decode cX10_ruled 14 = .ok (.if_icmp .le 5, 3) := by decide +kernel
theorem dX10_ruled_17 : decode cX10_ruled 17 = .ok (.iconst (-1), 1) := by decide +kernel
theorem dX10_ruled_18 : decode cX10_ruled 18 = .ok (.ireturn, 1) := by decide +kernel
theorem dX10_ruled_19 : decode cX10_ruled 19 = .ok (.iconst 0, 1) := by decide +kernel
theorem dX10_ruled_20 : decode cX10_ruled 20 = .ok (.istore_n 3, 1) := by decide +kernel
theorem dX10_ruled_21 : decode cX10_ruled 21 = .ok (.iconst 0, 1) := by decide +kernel
theorem dX10_ruled_22 : decode cX10_ruled 22 = .ok (.istore 4, 2) := by decide +kernel
theorem dX10_ruled_24 : decode cX10_ruled 24 = .ok (.iload 4, 2) := by decide +kernel
theorem dX10_ruled_26 : decode cX10_ruled 26 = .ok (.aload_n 0, 1) := by decide +kernel
theorem dX10_ruled_27 : decode cX10_ruled 27 = .ok (.invokevirtual 273, 3) := by decide +kernel
theorem dX10_ruled_30 : decode cX10_ruled 30 = .ok (.if_icmp .ge 33, 3) := by decide +kernel
theorem dX10_ruled_33 : decode cX10_ruled 33 = .ok (.aload_n 0, 1) := by decide +kernel
theorem dX10_ruled_34 : decode cX10_ruled 34 = .ok (.getfield 23, 3) := by decide +kernel
theorem dX10_ruled_37 : decode cX10_ruled 37 = .ok (.iload 4, 2) := by decide +kernel
theorem dX10_ruled_39 : decode cX10_ruled 39 = .ok (.invokevirtual 225, 3) := by decide +kernel
theorem dX10_ruled_42 : decode cX10_ruled 42 = .ok (.iload_n 1, 1) := by decide +kernel
theorem dX10_ruled_43 : decode cX10_ruled 43 = .ok (.if_icmp .ne 14, 3) := by decide +kernel
theorem dX10_ruled_46 : decode cX10_ruled 46 = .ok (.iload_n 3, 1) := by decide +kernel
theorem dX10_ruled_47 : decode cX10_ruled 47 = .ok (.aload_n 0, 1) := by decide +kernel
theorem dX10_ruled_48 : decode cX10_ruled 48 = .ok (.iload 4, 2) := by decide +kernel
theorem dX10_ruled_50 : decode cX10_ruled 50 = .ok (.iload_n 1, 1) := by decide +kernel
theorem dX10_ruled_51 : decode cX10_ruled 51 = .ok (.iload_n 2, 1) := by decide +kernel
theorem dX10_ruled_52 : decode cX10_ruled 52 = .ok (.invokevirtual 338, 3) := by decide +kernel
theorem dX10_ruled_55 : decode cX10_ruled 55 = .ok (.iadd, 1) := by decide +kernel
theorem dX10_ruled_56 : decode cX10_ruled 56 = .ok (.istore_n 3, 1) := by decide +kernel
theorem dX10_ruled_57 : decode cX10_ruled 57 = .ok (.iinc 4 1, 3) := by decide +kernel
theorem dX10_ruled_60 : decode cX10_ruled 60 = .ok (.goto (-36), 3) := by decide +kernel
theorem dX10_ruled_63 : decode cX10_ruled 63 = .ok (.iload_n 3, 1) := by decide +kernel
theorem dX10_ruled_64 : decode cX10_ruled 64 = .ok (.ireturn, 1) := by decide +kernel
theorem dX10_ruledIn_0 : decode cX10_ruledIn 0 = .ok (.iload_n 3, 1) := by decide +kernel
theorem dX10_ruledIn_1 : decode cX10_ruledIn 1 = .ok (.tableswitch 67 0 2 #[27, 29, 54], 27) := by decide +kernel
theorem dX10_ruledIn_28 : decode cX10_ruledIn 28 = .ok (.iconst 1, 1) := by decide +kernel
theorem dX10_ruledIn_29 : decode cX10_ruledIn 29 = .ok (.ireturn, 1) := by decide +kernel
theorem dX10_ruledIn_30 : decode cX10_ruledIn 30 = .ok (.aload_n 0, 1) := by decide +kernel
theorem dX10_ruledIn_31 : decode cX10_ruledIn 31 = .ok (.getfield 60, 3) := by decide +kernel
theorem dX10_ruledIn_34 : decode cX10_ruledIn 34 = .ok (.getfield 266, 3) := by decide +kernel
theorem dX10_ruledIn_37 : decode cX10_ruledIn 37 = .ok (.iload_n 1, 1) := by decide +kernel
theorem dX10_ruledIn_38 : decode cX10_ruledIn 38 = .ok (.iaload, 1) := by decide +kernel
theorem dX10_ruledIn_39 : decode cX10_ruledIn 39 = .ok (.aload_n 0, 1) := by decide +kernel
theorem dX10_ruledIn_40 : decode cX10_ruledIn 40 = .ok (.getfield 60, 3) := by decide +kernel
theorem dX10_ruledIn_43 : decode cX10_ruledIn 43 = .ok (.aload_n 0, 1) := by decide +kernel
theorem dX10_ruledIn_44 : decode cX10_ruledIn 44 = .ok (.getfield 23, 3) := by decide +kernel
theorem dX10_ruledIn_47 : decode cX10_ruledIn 47 = .ok (.invokevirtual 280, 3) := by decide +kernel
theorem dX10_ruledIn_50 : decode cX10_ruledIn 50 = .ok (.iand, 1) := by decide +kernel
theorem dX10_ruledIn_51 : decode cX10_ruledIn 51 = .ok (.invokestatic 283, 3) := by decide +kernel
theorem dX10_ruledIn_54 : decode cX10_ruledIn 54 = .ok (.ireturn, 1) := by decide +kernel
theorem dX10_ruledIn_55 : decode cX10_ruledIn 55 = .ok (.aload_n 0, 1) := by decide +kernel
theorem dX10_ruledIn_56 : decode cX10_ruledIn 56 = .ok (.getfield 60, 3) := by decide +kernel
theorem dX10_ruledIn_59 : decode cX10_ruledIn 59 = .ok (.aload_n 0, 1) := by decide +kernel
theorem dX10_ruledIn_60 : decode cX10_ruledIn 60 = .ok (.getfield 23, 3) := by decide +kernel
theorem dX10_ruledIn_63 : decode cX10_ruledIn 63 = .ok (.iload_n 1, 1) := by decide +kernel
theorem dX10_ruledIn_64 : decode cX10_ruledIn 64 = .ok (.invokevirtual 425, 3) := by decide +kernel
theorem dX10_ruledIn_67 : decode cX10_ruledIn 67 = .ok (.ireturn, 1) := by decide +kernel
theorem dX10_ruledIn_68 : decode cX10_ruledIn 68 = .ok (.aload_n 0, 1) := by decide +kernel
theorem dX10_ruledIn_69 : decode cX10_ruledIn 69 = .ok (.iload_n 1, 1) := by decide +kernel
theorem dX10_ruledIn_70 : decode cX10_ruledIn 70 = .ok (.iload_n 2, 1) := by decide +kernel
theorem dX10_ruledIn_71 : decode cX10_ruledIn 71 = .ok (.invokevirtual 429, 3) := by decide +kernel
theorem dX10_ruledIn_74 : decode cX10_ruledIn 74 = .ok (.ireturn, 1) := by decide +kernel
theorem dX10_run_0 : decode cX10_run 0 = .ok (.aload_n 0, 1) := by decide +kernel
theorem dX10_run_1 : decode cX10_run 1 = .ok (.invokevirtual 183, 3) := by decide +kernel
theorem dX10_run_4 : decode cX10_run 4 = .ok (.istore_n 1, 1) := by decide +kernel
theorem dX10_run_5 : decode cX10_run 5 = .ok (.iload_n 1, 1) := by decide +kernel
theorem dX10_run_6 : decode cX10_run 6 = .ok (.iconst 1, 1) := by decide +kernel
theorem dX10_run_7 : decode cX10_run 7 = .ok (.if_icmp .ge 5, 3) := by decide +kernel
theorem dX10_run_10 : decode cX10_run 10 = .ok (.iconst (-1), 1) := by decide +kernel
theorem dX10_run_11 : decode cX10_run 11 = .ok (.ireturn, 1) := by decide +kernel
theorem dX10_run_12 : decode cX10_run 12 = .ok (.iconst 0, 1) := by decide +kernel
theorem dX10_run_13 : decode cX10_run 13 = .ok (.istore_n 2, 1) := by decide +kernel
theorem dX10_run_14 : decode cX10_run 14 = .ok (.iload_n 2, 1) := by decide +kernel
theorem dX10_run_15 : decode cX10_run 15 = .ok (.iload_n 1, 1) := by decide +kernel
theorem dX10_run_16 : decode cX10_run 16 = .ok (.if_icmp .ge 35, 3) := by decide +kernel
theorem dX10_run_19 : decode cX10_run 19 = .ok (.aload_n 0, 1) := by decide +kernel
theorem dX10_run_20 : decode cX10_run 20 = .ok (.getfield 73, 3) := by decide +kernel
theorem dX10_run_23 : decode cX10_run 23 = .ok (.aload_n 0, 1) := by decide +kernel
theorem dX10_run_24 : decode cX10_run 24 = .ok (.getfield 60, 3) := by decide +kernel
theorem dX10_run_27 : decode cX10_run 27 = .ok (.invokevirtual 186, 3) := by decide +kernel
theorem dX10_run_30 : decode cX10_run 30 = .ok (.aload_n 0, 1) := by decide +kernel
theorem dX10_run_31 : decode cX10_run 31 = .ok (.getfield 60, 3) := by decide +kernel
theorem dX10_run_34 : decode cX10_run 34 = .ok (.aload_n 0, 1) := by decide +kernel
theorem dX10_run_35 : decode cX10_run 35 = .ok (.getfield 23, 3) := by decide +kernel
theorem dX10_run_38 : decode cX10_run 38 = .ok (.aload_n 0, 1) := by decide +kernel
theorem dX10_run_39 : decode cX10_run 39 = .ok (.getfield 39, 3) := by decide +kernel
theorem dX10_run_42 : decode cX10_run 42 = .ok (.invokevirtual 190, 3) := by decide +kernel
theorem dX10_run_45 : decode cX10_run 45 = .ok (.iinc 2 1, 3) := by decide +kernel
theorem dX10_run_48 : decode cX10_run 48 = .ok (.goto (-34), 3) := by decide +kernel
theorem dX10_run_51 : decode cX10_run 51 = .ok (.iload_n 1, 1) := by decide +kernel
theorem dX10_run_52 : decode cX10_run 52 = .ok (.ireturn, 1) := by decide +kernel
theorem dX10_say_0 : decode cX10_say 0 = .ok (.aload_n 0, 1) := by decide +kernel
theorem dX10_say_1 : decode cX10_say 1 = .ok (.iload_n 1, 1) := by decide +kernel
theorem dX10_say_2 : decode cX10_say 2 = .ok (.iload_n 2, 1) := by decide +kernel
theorem dX10_say_3 : decode cX10_say 3 = .ok (.iload_n 3, 1) := by decide +kernel
theorem dX10_say_4 : decode cX10_say 4 = .ok (.iload 4, 2) := by decide +kernel
theorem dX10_say_6 : decode cX10_say 6 = .ok (.iload 5, 2) := by decide +kernel
theorem dX10_say_8 : decode cX10_say 8 = .ok (.invokevirtual 194, 3) := by decide +kernel
theorem dX10_say_11 : decode cX10_say 11 = .ok (.istore 6, 2) := by decide +kernel
theorem dX10_say_13 : decode cX10_say 13 = .ok (.iload 6, 2) := by decide +kernel
theorem dX10_say_15 : decode cX10_say 15 = .ok (.iconst (-1), 1) := by decide +kernel
theorem dX10_say_16 : decode cX10_say 16 = .ok (.if_icmp .eq 10, 3) := by decide +kernel
theorem dX10_say_19 : decode cX10_say 19 = .ok (.aload_n 0, 1) := by decide +kernel
theorem dX10_say_20 : decode cX10_say 20 = .ok (.iload 6, 2) := by decide +kernel
theorem dX10_say_22 : decode cX10_say 22 = .ok (.invokevirtual 198, 3) := by decide +kernel
theorem dX10_say_25 : decode cX10_say 25 = .ok (.ireturn, 1) := by decide +kernel
theorem dX10_say_26 : decode cX10_say 26 = .ok (.aload_n 0, 1) := by decide +kernel
theorem dX10_say_27 : decode cX10_say 27 = .ok (.getfield 73, 3) := by decide +kernel
theorem dX10_say_30 : decode cX10_say 30 = .ok (.aload_n 0, 1) := by decide +kernel
theorem dX10_say_31 : decode cX10_say 31 = .ok (.getfield 60, 3) := by decide +kernel
theorem dX10_say_34 : decode cX10_say 34 = .ok (.invokevirtual 186, 3) := by decide +kernel
theorem dX10_say_37 : decode cX10_say 37 = .ok (.aload_n 0, 1) := by decide +kernel
theorem dX10_say_38 : decode cX10_say 38 = .ok (.getfield 60, 3) := by decide +kernel
theorem dX10_say_41 : decode cX10_say 41 = .ok (.iload_n 1, 1) := by decide +kernel
theorem dX10_say_42 : decode cX10_say 42 = .ok (.iload_n 2, 1) := by decide +kernel
theorem dX10_say_43 : decode cX10_say 43 = .ok (.iload_n 3, 1) := by decide +kernel
theorem dX10_say_44 : decode cX10_say 44 = .ok (.iload 4, 2) := by decide +kernel
theorem dX10_say_46 : decode cX10_say 46 = .ok (.iload 5, 2) := by decide +kernel
theorem dX10_say_48 : decode cX10_say 48 = .ok (.invokevirtual 201, 3) := by decide +kernel
theorem dX10_say_51 : decode cX10_say 51 = .ok (.aload_n 0, 1) := by decide +kernel
theorem dX10_say_52 : decode cX10_say 52 = .ok (.getfield 60, 3) := by decide +kernel
theorem dX10_say_55 : decode cX10_say 55 = .ok (.getfield 173, 3) := by decide +kernel
theorem dX10_say_58 : decode cX10_say 58 = .ok (.ireturn, 1) := by decide +kernel
theorem dX10_shown_0 : decode cX10_shown 0 = .ok (.aload_n 0, 1) := by decide +kernel
theorem dX10_shown_1 : decode cX10_shown 1 = .ok (.iload_n 1, 1) := by decide +kernel
theorem dX10_shown_2 : decode cX10_shown 2 = .ok (.invokevirtual 241, 3) := by decide +kernel
theorem dX10_shown_5 : decode cX10_shown 5 = .ok (.ifCond .ne 5, 3) := by decide +kernel
theorem dX10_shown_8 : decode cX10_shown 8 = .ok (.iconst (-1), 1) := by decide +kernel
theorem dX10_shown_9 : decode cX10_shown 9 = .ok (.ireturn, 1) := by decide +kernel
theorem dX10_shown_10 : decode cX10_shown 10 = .ok (.aload_n 0, 1) := by decide +kernel
theorem dX10_shown_11 : decode cX10_shown 11 = .ok (.getfield 23, 3) := by decide +kernel
theorem dX10_shown_14 : decode cX10_shown 14 = .ok (.iload_n 1, 1) := by decide +kernel
theorem dX10_shown_15 : decode cX10_shown 15 = .ok (.invokevirtual 225, 3) := by decide +kernel
theorem dX10_shown_18 : decode cX10_shown 18 = .ok (.istore_n 3, 1) := by decide +kernel
theorem dX10_shown_19 : decode cX10_shown 19 = .ok (.aload_n 0, 1) := by decide +kernel
theorem dX10_shown_20 : decode cX10_shown 20 = .ok (.getfield 84, 3) := by decide +kernel
theorem dX10_shown_23 : decode cX10_shown 23 = .ok (.iconst 0, 1) := by decide +kernel
theorem dX10_shown_24 : decode cX10_shown 24 = .ok (.putfield 91, 3) := by decide +kernel
theorem dX10_shown_27 : decode cX10_shown 27 = .ok (.aload_n 0, 1) := by decide +kernel
theorem dX10_shown_28 : decode cX10_shown 28 = .ok (.getfield 84, 3) := by decide +kernel
theorem dX10_shown_31 : decode cX10_shown 31 = .ok (.ldc_w 354, 3) := by decide +kernel
theorem dX10_shown_34 : decode cX10_shown 34 = .ok (.iload_n 1, 1) := by decide +kernel
theorem dX10_shown_35 : decode cX10_shown 35 = .ok (.invokevirtual 356, 3) := by decide +kernel
theorem dX10_shown_38 : decode cX10_shown 38 = .ok (.aload_n 0, 1) := by decide +kernel
theorem dX10_shown_39 : decode cX10_shown 39 = .ok (.getfield 84, 3) := by decide +kernel
theorem dX10_shown_42 : decode cX10_shown 42 = .ok (.ldc_w 360, 3) := by decide +kernel
theorem dX10_shown_45 : decode cX10_shown 45 = .ok (.iload_n 3, 1) := by decide +kernel
theorem dX10_shown_46 : decode cX10_shown 46 = .ok (.invokevirtual 356, 3) := by decide +kernel
theorem dX10_shown_49 : decode cX10_shown 49 = .ok (.iconst 0, 1) := by decide +kernel
theorem dX10_shown_50 : decode cX10_shown 50 = .ok (.istore 4, 2) := by decide +kernel
theorem dX10_shown_52 : decode cX10_shown 52 = .ok (.iload 4, 2) := by decide +kernel
theorem dX10_shown_54 : decode cX10_shown 54 = .ok (.aload_n 0, 1) := by decide +kernel
theorem dX10_shown_55 : decode cX10_shown 55 = .ok (.getfield 23, 3) := by decide +kernel
theorem dX10_shown_58 : decode cX10_shown 58 = .ok (.getfield 132, 3) := by decide +kernel
theorem dX10_shown_61 : decode cX10_shown 61 = .ok (.if_icmp .ge 168, 3) := by decide +kernel
theorem dX10_shown_64 : decode cX10_shown 64 = .ok (.aload_n 0, 1) := by decide +kernel
theorem dX10_shown_65 : decode cX10_shown 65 = .ok (.getfield 84, 3) := by decide +kernel
theorem dX10_shown_68 : decode cX10_shown 68 = .ok (.aload_n 0, 1) := by decide +kernel
theorem dX10_shown_69 : decode cX10_shown 69 = .ok (.getfield 60, 3) := by decide +kernel
theorem dX10_shown_72 : decode cX10_shown 72 = .ok (.getfield 155, 3) := by decide +kernel
theorem dX10_shown_75 : decode cX10_shown 75 = .ok (.iload 4, 2) := by decide +kernel
theorem dX10_shown_77 : decode cX10_shown 77 = .ok (.invokestatic 235, 3) := by decide +kernel
theorem dX10_shown_80 : decode cX10_shown 80 = .ok (.iconst 1, 1) := by decide +kernel
theorem dX10_shown_81 : decode cX10_shown 81 = .ok (.if_icmp .ne 9, 3) := by decide +kernel
theorem dX10_shown_84 : decode cX10_shown 84 = .ok (.ldc_w 362, 3) := by decide +kernel
theorem dX10_shown_87 : decode cX10_shown 87 = .ok (.goto 6, 3) := by decide +kernel
theorem dX10_shown_90 : decode cX10_shown 90 = .ok (.ldc_w 364, 3) := by decide +kernel
theorem dX10_shown_93 : decode cX10_shown 93 = .ok (.iload 4, 2) := by decide +kernel
theorem dX10_shown_95 : decode cX10_shown 95 = .ok (.invokevirtual 356, 3) := by decide +kernel
theorem dX10_shown_98 : decode cX10_shown 98 = .ok (.aload_n 0, 1) := by decide +kernel
theorem dX10_shown_99 : decode cX10_shown 99 = .ok (.getfield 84, 3) := by decide +kernel
theorem dX10_shown_102 : decode cX10_shown 102 = .ok (.ldc_w 366, 3) := by decide +kernel
theorem dX10_shown_105 : decode cX10_shown 105 = .ok (.aload_n 0, 1) := by decide +kernel
theorem dX10_shown_106 : decode cX10_shown 106 = .ok (.getfield 60, 3) := by decide +kernel
theorem dX10_shown_109 : decode cX10_shown 109 = .ok (.getfield 244, 3) := by decide +kernel
theorem dX10_shown_112 : decode cX10_shown 112 = .ok (.iload_n 1, 1) := by decide +kernel
theorem dX10_shown_113 : decode cX10_shown 113 = .ok (.iaload, 1) := by decide +kernel
theorem dX10_shown_114 : decode cX10_shown 114 = .ok (.iload 4, 2) := by decide +kernel
theorem dX10_shown_116 : decode cX10_shown 116 = .ok (.invokestatic 235, 3) := by decide +kernel
theorem dX10_shown_119 : decode cX10_shown 119 = .ok (.invokevirtual 356, 3) := by decide +kernel
theorem dX10_shown_122 : decode cX10_shown 122 = .ok (.aload_n 0, 1) := by decide +kernel
theorem dX10_shown_123 : decode cX10_shown 123 = .ok (.getfield 84, 3) := by decide +kernel
theorem dX10_shown_126 : decode cX10_shown 126 = .ok (.aload_n 0, 1) := by decide +kernel
theorem dX10_shown_127 : decode cX10_shown 127 = .ok (.getfield 60, 3) := by decide +kernel
theorem dX10_shown_130 : decode cX10_shown 130 = .ok (.getfield 247, 3) := by decide +kernel
theorem dX10_shown_133 : decode cX10_shown 133 = .ok (.iload_n 1, 1) := by decide +kernel
theorem dX10_shown_134 : decode cX10_shown 134 = .ok (.iaload, 1) := by decide +kernel
theorem dX10_shown_135 : decode cX10_shown 135 = .ok (.iload 4, 2) := by decide +kernel
theorem dX10_shown_137 : decode cX10_shown 137 = .ok (.invokestatic 235, 3) := by decide +kernel
theorem dX10_shown_140 : decode cX10_shown 140 = .ok (.iconst 1, 1) := by decide +kernel
theorem dX10_shown_141 : decode cX10_shown 141 = .ok (.if_icmp .ne 9, 3) := by decide +kernel
theorem dX10_shown_144 : decode cX10_shown 144 = .ok (.ldc_w 368, 3) := by decide +kernel
theorem dX10_shown_147 : decode cX10_shown 147 = .ok (.goto 6, 3) := by decide +kernel
theorem dX10_shown_150 : decode cX10_shown 150 = .ok (.ldc_w 370, 3) := by decide +kernel
theorem dX10_shown_153 : decode cX10_shown 153 = .ok (.invokevirtual 372, 3) := by decide +kernel
theorem dX10_shown_156 : decode cX10_shown 156 = .ok (.aload_n 0, 1) := by decide +kernel
theorem dX10_shown_157 : decode cX10_shown 157 = .ok (.getfield 84, 3) := by decide +kernel
theorem dX10_shown_160 : decode cX10_shown 160 = .ok (.aload_n 0, 1) := by decide +kernel
theorem dX10_shown_161 : decode cX10_shown 161 = .ok (.getfield 60, 3) := by decide +kernel
theorem dX10_shown_164 : decode cX10_shown 164 = .ok (.getfield 266, 3) := by decide +kernel
theorem dX10_shown_167 : decode cX10_shown 167 = .ok (.iload_n 1, 1) := by decide +kernel
theorem dX10_shown_168 : decode cX10_shown 168 = .ok (.iaload, 1) := by decide +kernel
theorem dX10_shown_169 : decode cX10_shown 169 = .ok (.iload 4, 2) := by decide +kernel
theorem dX10_shown_171 : decode cX10_shown 171 = .ok (.invokestatic 235, 3) := by decide +kernel
theorem dX10_shown_174 : decode cX10_shown 174 = .ok (.iconst 1, 1) := by decide +kernel
theorem dX10_shown_175 : decode cX10_shown 175 = .ok (.if_icmp .ne 9, 3) := by decide +kernel
theorem dX10_shown_178 : decode cX10_shown 178 = .ok (.ldc_w 376, 3) := by decide +kernel
theorem dX10_shown_181 : decode cX10_shown 181 = .ok (.goto 6, 3) := by decide +kernel
theorem dX10_shown_184 : decode cX10_shown 184 = .ok (.ldc_w 370, 3) := by decide +kernel
theorem dX10_shown_187 : decode cX10_shown 187 = .ok (.invokevirtual 372, 3) := by decide +kernel
theorem dX10_shown_190 : decode cX10_shown 190 = .ok (.aload_n 0, 1) := by decide +kernel
theorem dX10_shown_191 : decode cX10_shown 191 = .ok (.getfield 84, 3) := by decide +kernel
theorem dX10_shown_194 : decode cX10_shown 194 = .ok (.aload_n 0, 1) := by decide +kernel
theorem dX10_shown_195 : decode cX10_shown 195 = .ok (.getfield 60, 3) := by decide +kernel
theorem dX10_shown_198 : decode cX10_shown 198 = .ok (.iload 4, 2) := by decide +kernel
theorem dX10_shown_200 : decode cX10_shown 200 = .ok (.invokevirtual 238, 3) := by decide +kernel
theorem dX10_shown_203 : decode cX10_shown 203 = .ok (.iload_n 3, 1) := by decide +kernel
theorem dX10_shown_204 : decode cX10_shown 204 = .ok (.invokestatic 235, 3) := by decide +kernel
theorem dX10_shown_207 : decode cX10_shown 207 = .ok (.iconst 1, 1) := by decide +kernel
theorem dX10_shown_208 : decode cX10_shown 208 = .ok (.if_icmp .ne 9, 3) := by decide +kernel
theorem dX10_shown_211 : decode cX10_shown 211 = .ok (.ldc_w 378, 3) := by decide +kernel
theorem dX10_shown_214 : decode cX10_shown 214 = .ok (.goto 6, 3) := by decide +kernel
theorem dX10_shown_217 : decode cX10_shown 217 = .ok (.ldc_w 370, 3) := by decide +kernel
theorem dX10_shown_220 : decode cX10_shown 220 = .ok (.invokevirtual 372, 3) := by decide +kernel
theorem dX10_shown_223 : decode cX10_shown 223 = .ok (.iinc 4 1, 3) := by decide +kernel
theorem dX10_shown_226 : decode cX10_shown 226 = .ok (.goto (-174), 3) := by decide +kernel
theorem dX10_shown_229 : decode cX10_shown 229 = .ok (.aload_n 0, 1) := by decide +kernel
theorem dX10_shown_230 : decode cX10_shown 230 = .ok (.iload_n 2, 1) := by decide +kernel
theorem dX10_shown_231 : decode cX10_shown 231 = .ok (.invokevirtual 332, 3) := by decide +kernel
theorem dX10_shown_234 : decode cX10_shown 234 = .ok (.ireturn, 1) := by decide +kernel
theorem dX10_starts_0 : decode cX10_starts 0 = .ok (.aload_n 0, 1) := by decide +kernel
theorem dX10_starts_1 : decode cX10_starts 1 = .ok (.iload_n 1, 1) := by decide +kernel
theorem dX10_starts_2 : decode cX10_starts 2 = .ok (.aload_n 0, 1) := by decide +kernel
theorem dX10_starts_3 : decode cX10_starts 3 = .ok (.getfield 23, 3) := by decide +kernel
theorem dX10_starts_6 : decode cX10_starts 6 = .ok (.invokevirtual 205, 3) := by decide +kernel
theorem dX10_starts_9 : decode cX10_starts 9 = .ok (.invokevirtual 208, 3) := by decide +kernel
theorem dX10_starts_12 : decode cX10_starts 12 = .ok (.istore_n 2, 1) := by decide +kernel
theorem dX10_starts_13 : decode cX10_starts 13 = .ok (.iload_n 2, 1) := by decide +kernel
theorem dX10_starts_14 : decode cX10_starts 14 = .ok (.iconst (-1), 1) := by decide +kernel
theorem dX10_starts_15 : decode cX10_starts 15 = .ok (.if_icmp .eq 9, 3) := by decide +kernel
theorem dX10_starts_18 : decode cX10_starts 18 = .ok (.aload_n 0, 1) := by decide +kernel
theorem dX10_starts_19 : decode cX10_starts 19 = .ok (.iload_n 2, 1) := by decide +kernel
theorem dX10_starts_20 : decode cX10_starts 20 = .ok (.invokevirtual 198, 3) := by decide +kernel
theorem dX10_starts_23 : decode cX10_starts 23 = .ok (.ireturn, 1) := by decide +kernel
theorem dX10_starts_24 : decode cX10_starts 24 = .ok (.aload_n 0, 1) := by decide +kernel
theorem dX10_starts_25 : decode cX10_starts 25 = .ok (.getfield 60, 3) := by decide +kernel
theorem dX10_starts_28 : decode cX10_starts 28 = .ok (.getfield 154, 3) := by decide +kernel
theorem dX10_starts_31 : decode cX10_starts 31 = .ok (.istore_n 3, 1) := by decide +kernel
theorem dX10_starts_32 : decode cX10_starts 32 = .ok (.aload_n 0, 1) := by decide +kernel
theorem dX10_starts_33 : decode cX10_starts 33 = .ok (.getfield 73, 3) := by decide +kernel
theorem dX10_starts_36 : decode cX10_starts 36 = .ok (.aload_n 0, 1) := by decide +kernel
theorem dX10_starts_37 : decode cX10_starts 37 = .ok (.getfield 60, 3) := by decide +kernel
theorem dX10_starts_40 : decode cX10_starts 40 = .ok (.invokevirtual 186, 3) := by decide +kernel
theorem dX10_starts_43 : decode cX10_starts 43 = .ok (.aload_n 0, 1) := by decide +kernel
theorem dX10_starts_44 : decode cX10_starts 44 = .ok (.getfield 60, 3) := by decide +kernel
theorem dX10_starts_47 : decode cX10_starts 47 = .ok (.iload_n 1, 1) := by decide +kernel
theorem dX10_starts_48 : decode cX10_starts 48 = .ok (.putfield 154, 3) := by decide +kernel
theorem dX10_starts_51 : decode cX10_starts 51 = .ok (.aload_n 0, 1) := by decide +kernel
theorem dX10_starts_52 : decode cX10_starts 52 = .ok (.getfield 60, 3) := by decide +kernel
theorem dX10_starts_55 : decode cX10_starts 55 = .ok (.iload_n 1, 1) := by decide +kernel
theorem dX10_starts_56 : decode cX10_starts 56 = .ok (.putfield 211, 3) := by decide +kernel
theorem dX10_starts_59 : decode cX10_starts 59 = .ok (.iload_n 3, 1) := by decide +kernel
theorem dX10_starts_60 : decode cX10_starts 60 = .ok (.ireturn, 1) := by decide +kernel
theorem dX10_state_0 : decode cX10_state 0 = .ok (.aload_n 0, 1) := by decide +kernel
theorem dX10_state_1 : decode cX10_state 1 = .ok (.getfield 108, 3) := by decide +kernel
theorem dX10_state_4 : decode cX10_state 4 = .ok (.ifCond .ne 5, 3) := by decide +kernel
theorem dX10_state_7 : decode cX10_state 7 = .ok (.iconst (-1), 1) := by decide +kernel
theorem dX10_state_8 : decode cX10_state 8 = .ok (.ireturn, 1) := by decide +kernel
theorem dX10_state_9 : decode cX10_state 9 = .ok (.aload_n 0, 1) := by decide +kernel
theorem dX10_state_10 : decode cX10_state 10 = .ok (.invokevirtual 273, 3) := by decide +kernel
theorem dX10_state_13 : decode cX10_state 13 = .ok (.istore_n 2, 1) := by decide +kernel
theorem dX10_state_14 : decode cX10_state 14 = .ok (.iload_n 2, 1) := by decide +kernel
theorem dX10_state_15 : decode cX10_state 15 = .ok (.ifCond .le 17, 3) := by decide +kernel
theorem dX10_state_18 : decode cX10_state 18 = .ok (.aload_n 0, 1) := by decide +kernel
theorem dX10_state_19 : decode cX10_state 19 = .ok (.getfield 60, 3) := by decide +kernel
theorem dX10_state_22 : decode cX10_state 22 = .ok (.getfield 244, 3) := by decide +kernel
theorem dX10_state_25 : decode cX10_state 25 = .ok (.iload_n 2, 1) := by decide +kernel
theorem dX10_state_26 : decode cX10_state 26 = .ok (.iconst 1, 1) := by decide +kernel
theorem dX10_state_27 : decode cX10_state 27 = .ok (.isub, 1) := by decide +kernel
theorem dX10_state_28 : decode cX10_state 28 = .ok (.iaload, 1) := by decide +kernel
theorem dX10_state_29 : decode cX10_state 29 = .ok (.goto 10, 3) := by decide +kernel
theorem dX10_state_32 : decode cX10_state 32 = .ok (.aload_n 0, 1) := by decide +kernel
theorem dX10_state_33 : decode cX10_state 33 = .ok (.getfield 60, 3) := by decide +kernel
theorem dX10_state_36 : decode cX10_state 36 = .ok (.getfield 154, 3) := by decide +kernel
theorem dX10_state_39 : decode cX10_state 39 = .ok (.istore_n 3, 1) := by decide +kernel
theorem dX10_state_40 : decode cX10_state 40 = .ok (.iload_n 1, 1) := by decide +kernel
theorem dX10_state_41 : decode cX10_state 41 = .ok (.tableswitch 125 0 3 #[31, 52, 69, 98], 31) := by decide +kernel
theorem dX10_state_72 : decode cX10_state 72 = .ok (.aload_n 0, 1) := by decide +kernel
theorem dX10_state_73 : decode cX10_state 73 = .ok (.getfield 60, 3) := by decide +kernel
theorem dX10_state_76 : decode cX10_state 76 = .ok (.aload_n 0, 1) := by decide +kernel
theorem dX10_state_77 : decode cX10_state 77 = .ok (.getfield 23, 3) := by decide +kernel
theorem dX10_state_80 : decode cX10_state 80 = .ok (.iload_n 3, 1) := by decide +kernel
theorem dX10_state_81 : decode cX10_state 81 = .ok (.invokevirtual 276, 3) := by decide +kernel
theorem dX10_state_84 : decode cX10_state 84 = .ok (.ifCond .eq 7, 3) := by decide +kernel
theorem dX10_state_87 : decode cX10_state 87 = .ok (.iconst 1, 1) := by decide +kernel
theorem dX10_state_88 : decode cX10_state 88 = .ok (.goto 4, 3) := by decide +kernel
theorem dX10_state_91 : decode cX10_state 91 = .ok (.iconst 0, 1) := by decide +kernel
theorem dX10_state_92 : decode cX10_state 92 = .ok (.ireturn, 1) := by decide +kernel
theorem dX10_state_93 : decode cX10_state 93 = .ok (.iload_n 3, 1) := by decide +kernel
theorem dX10_state_94 : decode cX10_state 94 = .ok (.aload_n 0, 1) := by decide +kernel
theorem dX10_state_95 : decode cX10_state 95 = .ok (.getfield 60, 3) := by decide +kernel
theorem dX10_state_98 : decode cX10_state 98 = .ok (.aload_n 0, 1) := by decide +kernel
theorem dX10_state_99 : decode cX10_state 99 = .ok (.getfield 23, 3) := by decide +kernel
theorem dX10_state_102 : decode cX10_state 102 = .ok (.invokevirtual 280, 3) := by decide +kernel
theorem dX10_state_105 : decode cX10_state 105 = .ok (.iand, 1) := by decide +kernel
theorem dX10_state_106 : decode cX10_state 106 = .ok (.invokestatic 283, 3) := by decide +kernel
theorem dX10_state_109 : decode cX10_state 109 = .ok (.ireturn, 1) := by decide +kernel
theorem dX10_state_110 : decode cX10_state 110 = .ok (.aload_n 0, 1) := by decide +kernel
theorem dX10_state_111 : decode cX10_state 111 = .ok (.getfield 60, 3) := by decide +kernel
theorem dX10_state_114 : decode cX10_state 114 = .ok (.aload_n 0, 1) := by decide +kernel
theorem dX10_state_115 : decode cX10_state 115 = .ok (.getfield 23, 3) := by decide +kernel
theorem dX10_state_118 : decode cX10_state 118 = .ok (.iload_n 3, 1) := by decide +kernel
theorem dX10_state_119 : decode cX10_state 119 = .ok (.invokevirtual 276, 3) := by decide +kernel
theorem dX10_state_122 : decode cX10_state 122 = .ok (.ifCond .eq 15, 3) := by decide +kernel
theorem dX10_state_125 : decode cX10_state 125 = .ok (.aload_n 0, 1) := by decide +kernel
theorem dX10_state_126 : decode cX10_state 126 = .ok (.iload_n 3, 1) := by decide +kernel
theorem dX10_state_127 : decode cX10_state 127 = .ok (.invokevirtual 288, 3) := by decide +kernel
theorem dX10_state_130 : decode cX10_state 130 = .ok (.ifCond .eq 7, 3) := by decide +kernel
theorem dX10_state_133 : decode cX10_state 133 = .ok (.iconst 1, 1) := by decide +kernel
theorem dX10_state_134 : decode cX10_state 134 = .ok (.goto 4, 3) := by decide +kernel
theorem dX10_state_137 : decode cX10_state 137 = .ok (.iconst 0, 1) := by decide +kernel
theorem dX10_state_138 : decode cX10_state 138 = .ok (.ireturn, 1) := by decide +kernel
theorem dX10_state_139 : decode cX10_state 139 = .ok (.aload_n 0, 1) := by decide +kernel
theorem dX10_state_140 : decode cX10_state 140 = .ok (.getfield 60, 3) := by decide +kernel
theorem dX10_state_143 : decode cX10_state 143 = .ok (.aload_n 0, 1) := by decide +kernel
theorem dX10_state_144 : decode cX10_state 144 = .ok (.getfield 23, 3) := by decide +kernel
theorem dX10_state_147 : decode cX10_state 147 = .ok (.aload_n 0, 1) := by decide +kernel
theorem dX10_state_148 : decode cX10_state 148 = .ok (.getfield 60, 3) := by decide +kernel
theorem dX10_state_151 : decode cX10_state 151 = .ok (.getfield 154, 3) := by decide +kernel
theorem dX10_state_154 : decode cX10_state 154 = .ok (.invokevirtual 276, 3) := by decide +kernel
theorem dX10_state_157 : decode cX10_state 157 = .ok (.ifCond .eq 7, 3) := by decide +kernel
theorem dX10_state_160 : decode cX10_state 160 = .ok (.iconst 1, 1) := by decide +kernel
theorem dX10_state_161 : decode cX10_state 161 = .ok (.goto 4, 3) := by decide +kernel
theorem dX10_state_164 : decode cX10_state 164 = .ok (.iconst 0, 1) := by decide +kernel
theorem dX10_state_165 : decode cX10_state 165 = .ok (.ireturn, 1) := by decide +kernel
theorem dX10_state_166 : decode cX10_state 166 = .ok (.iconst (-1), 1) := by decide +kernel
theorem dX10_state_167 : decode cX10_state 167 = .ok (.ireturn, 1) := by decide +kernel
theorem dX10_status_0 : decode cX10_status 0 = .ok (.iload_n 1, 1) := by decide +kernel
theorem dX10_status_1 : decode cX10_status 1 = .ok (.ifCond .lt 12, 3) := by decide +kernel
theorem dX10_status_4 : decode cX10_status 4 = .ok (.iload_n 1, 1) := by decide +kernel
theorem dX10_status_5 : decode cX10_status 5 = .ok (.aload_n 0, 1) := by decide +kernel
theorem dX10_status_6 : decode cX10_status 6 = .ok (.getfield 87, 3) := by decide +kernel
theorem dX10_status_9 : decode cX10_status 9 = .ok (.arraylength, 1) := by decide +kernel
theorem dX10_status_10 : decode cX10_status 10 = .ok (.if_icmp .lt 7, 3) := by decide +kernel
theorem dX10_status_13 : decode cX10_status 13 = .ok (.iconst (-1), 1) := by decide +kernel
theorem dX10_status_14 : decode cX10_status 14 = .ok (.goto 9, 3) := by decide +kernel
theorem dX10_status_17 : decode cX10_status 17 = .ok (.aload_n 0, 1) := by decide +kernel
theorem dX10_status_18 : decode cX10_status 18 = .ok (.getfield 87, 3) := by decide +kernel
theorem dX10_status_21 : decode cX10_status 21 = .ok (.iload_n 1, 1) := by decide +kernel
theorem dX10_status_22 : decode cX10_status 22 = .ok (.iaload, 1) := by decide +kernel
theorem dX10_status_23 : decode cX10_status 23 = .ok (.ireturn, 1) := by decide +kernel
theorem dX10_told_0 : decode cX10_told 0 = .ok (.aload_n 0, 1) := by decide +kernel
theorem dX10_told_1 : decode cX10_told 1 = .ok (.iload_n 1, 1) := by decide +kernel
theorem dX10_told_2 : decode cX10_told 2 = .ok (.invokevirtual 217, 3) := by decide +kernel
theorem dX10_told_5 : decode cX10_told 5 = .ok (.ifCond .eq 11, 3) := by decide +kernel
theorem dX10_told_8 : decode cX10_told 8 = .ok (.aload_n 0, 1) := by decide +kernel
theorem dX10_told_9 : decode cX10_told 9 = .ok (.iload_n 2, 1) := by decide +kernel
theorem dX10_told_10 : decode cX10_told 10 = .ok (.invokevirtual 241, 3) := by decide +kernel
theorem dX10_told_13 : decode cX10_told 13 = .ok (.ifCond .ne 5, 3) := by decide +kernel
theorem dX10_told_16 : decode cX10_told 16 = .ok (.iconst (-1), 1) := by decide +kernel
theorem dX10_told_17 : decode cX10_told 17 = .ok (.ireturn, 1) := by decide +kernel
theorem dX10_told_18 : decode cX10_told 18 = .ok (.aload_n 0, 1) := by decide +kernel
theorem dX10_told_19 : decode cX10_told 19 = .ok (.getfield 23, 3) := by decide +kernel
theorem dX10_told_22 : decode cX10_told 22 = .ok (.getfield 145, 3) := by decide +kernel
theorem dX10_told_25 : decode cX10_told 25 = .ok (.iconst 1, 1) := by decide +kernel
theorem dX10_told_26 : decode cX10_told 26 = .ok (.if_icmp .ne 7, 3) := by decide +kernel
theorem dX10_told_29 : decode cX10_told 29 = .ok (.iconst 1, 1) := by decide +kernel
theorem dX10_told_30 : decode cX10_told 30 = .ok (.goto 4, 3) := by decide +kernel
theorem dX10_told_33 : decode cX10_told 33 = .ok (.iconst 0, 1) := by decide +kernel
theorem dX10_told_34 : decode cX10_told 34 = .ok (.istore 4, 2) := by decide +kernel
theorem dX10_told_36 : decode cX10_told 36 = .ok (.iload_n 3, 1) := by decide +kernel
theorem dX10_told_37 : decode cX10_told 37 = .ok (.tableswitch 173 0 7 #[47, 61, 75, 90, 101, 115, 139, 159], 47) := by decide +kernel
theorem dX10_told_84 : decode cX10_told 84 = .ok (.aload_n 0, 1) := by decide +kernel
theorem dX10_told_85 : decode cX10_told 85 = .ok (.getfield 60, 3) := by decide +kernel
theorem dX10_told_88 : decode cX10_told 88 = .ok (.getfield 244, 3) := by decide +kernel
theorem dX10_told_91 : decode cX10_told 91 = .ok (.iload_n 2, 1) := by decide +kernel
theorem dX10_told_92 : decode cX10_told 92 = .ok (.iaload, 1) := by decide +kernel
theorem dX10_told_93 : decode cX10_told 93 = .ok (.iload_n 1, 1) := by decide +kernel
theorem dX10_told_94 : decode cX10_told 94 = .ok (.invokestatic 235, 3) := by decide +kernel
theorem dX10_told_97 : decode cX10_told 97 = .ok (.ireturn, 1) := by decide +kernel
theorem dX10_told_98 : decode cX10_told 98 = .ok (.aload_n 0, 1) := by decide +kernel
theorem dX10_told_99 : decode cX10_told 99 = .ok (.getfield 60, 3) := by decide +kernel
theorem dX10_told_102 : decode cX10_told 102 = .ok (.getfield 247, 3) := by decide +kernel
theorem dX10_told_105 : decode cX10_told 105 = .ok (.iload_n 2, 1) := by decide +kernel
theorem dX10_told_106 : decode cX10_told 106 = .ok (.iaload, 1) := by decide +kernel
theorem dX10_told_107 : decode cX10_told 107 = .ok (.iload_n 1, 1) := by decide +kernel
theorem dX10_told_108 : decode cX10_told 108 = .ok (.invokestatic 235, 3) := by decide +kernel
theorem dX10_told_111 : decode cX10_told 111 = .ok (.ireturn, 1) := by decide +kernel
theorem dX10_told_112 : decode cX10_told 112 = .ok (.aload_n 0, 1) := by decide +kernel
theorem dX10_told_113 : decode cX10_told 113 = .ok (.getfield 60, 3) := by decide +kernel
theorem dX10_told_116 : decode cX10_told 116 = .ok (.aload_n 0, 1) := by decide +kernel
theorem dX10_told_117 : decode cX10_told 117 = .ok (.getfield 23, 3) := by decide +kernel
theorem dX10_told_120 : decode cX10_told 120 = .ok (.iload_n 2, 1) := by decide +kernel
theorem dX10_told_121 : decode cX10_told 121 = .ok (.iconst 0, 1) := by decide +kernel
theorem dX10_told_122 : decode cX10_told 122 = .ok (.iload_n 1, 1) := by decide +kernel
theorem dX10_told_123 : decode cX10_told 123 = .ok (.invokevirtual 250, 3) := by decide +kernel
theorem dX10_told_126 : decode cX10_told 126 = .ok (.ireturn, 1) := by decide +kernel
theorem dX10_told_127 : decode cX10_told 127 = .ok (.aload_n 0, 1) := by decide +kernel
theorem dX10_told_128 : decode cX10_told 128 = .ok (.getfield 60, 3) := by decide +kernel
theorem dX10_told_131 : decode cX10_told 131 = .ok (.iload_n 2, 1) := by decide +kernel
theorem dX10_told_132 : decode cX10_told 132 = .ok (.iconst 0, 1) := by decide +kernel
theorem dX10_told_133 : decode cX10_told 133 = .ok (.iload_n 1, 1) := by decide +kernel
theorem dX10_told_134 : decode cX10_told 134 = .ok (.invokevirtual 254, 3) := by decide +kernel
theorem dX10_told_137 : decode cX10_told 137 = .ok (.ireturn, 1) := by decide +kernel
theorem dX10_told_138 : decode cX10_told 138 = .ok (.aload_n 0, 1) := by decide +kernel
theorem dX10_told_139 : decode cX10_told 139 = .ok (.getfield 60, 3) := by decide +kernel
theorem dX10_told_142 : decode cX10_told 142 = .ok (.getfield 258, 3) := by decide +kernel
theorem dX10_told_145 : decode cX10_told 145 = .ok (.iload_n 2, 1) := by decide +kernel
theorem dX10_told_146 : decode cX10_told 146 = .ok (.laload, 1) := by decide +kernel
theorem dX10_told_147 : decode cX10_told 147 = .ok (.iload_n 1, 1) := by decide +kernel
theorem dX10_told_148 : decode cX10_told 148 = .ok (.invokestatic 262, 3) := by decide +kernel
theorem dX10_told_151 : decode cX10_told 151 = .ok (.ireturn, 1) := by decide +kernel
theorem dX10_told_152 : decode cX10_told 152 = .ok (.iload 4, 2) := by decide +kernel
theorem dX10_told_154 : decode cX10_told 154 = .ok (.ifCond .eq 7, 3) := by decide +kernel
theorem dX10_told_157 : decode cX10_told 157 = .ok (.iconst (-1), 1) := by decide +kernel
theorem dX10_told_158 : decode cX10_told 158 = .ok (.goto 17, 3) := by decide +kernel
theorem dX10_told_161 : decode cX10_told 161 = .ok (.aload_n 0, 1) := by decide +kernel
theorem dX10_told_162 : decode cX10_told 162 = .ok (.getfield 60, 3) := by decide +kernel
theorem dX10_told_165 : decode cX10_told 165 = .ok (.aload_n 0, 1) := by decide +kernel
theorem dX10_told_166 : decode cX10_told 166 = .ok (.getfield 23, 3) := by decide +kernel
theorem dX10_told_169 : decode cX10_told 169 = .ok (.iload_n 2, 1) := by decide +kernel
theorem dX10_told_170 : decode cX10_told 170 = .ok (.iconst 1, 1) := by decide +kernel
theorem dX10_told_171 : decode cX10_told 171 = .ok (.iload_n 1, 1) := by decide +kernel
theorem dX10_told_172 : decode cX10_told 172 = .ok (.invokevirtual 250, 3) := by decide +kernel
theorem dX10_told_175 : decode cX10_told 175 = .ok (.ireturn, 1) := by decide +kernel
theorem dX10_told_176 : decode cX10_told 176 = .ok (.iload 4, 2) := by decide +kernel
theorem dX10_told_178 : decode cX10_told 178 = .ok (.ifCond .eq 7, 3) := by decide +kernel
theorem dX10_told_181 : decode cX10_told 181 = .ok (.iconst (-1), 1) := by decide +kernel
theorem dX10_told_182 : decode cX10_told 182 = .ok (.goto 13, 3) := by decide +kernel
theorem dX10_told_185 : decode cX10_told 185 = .ok (.aload_n 0, 1) := by decide +kernel
theorem dX10_told_186 : decode cX10_told 186 = .ok (.getfield 60, 3) := by decide +kernel
theorem dX10_told_189 : decode cX10_told 189 = .ok (.iload_n 2, 1) := by decide +kernel
theorem dX10_told_190 : decode cX10_told 190 = .ok (.iconst 1, 1) := by decide +kernel
theorem dX10_told_191 : decode cX10_told 191 = .ok (.iload_n 1, 1) := by decide +kernel
theorem dX10_told_192 : decode cX10_told 192 = .ok (.invokevirtual 254, 3) := by decide +kernel
theorem dX10_told_195 : decode cX10_told 195 = .ok (.ireturn, 1) := by decide +kernel
theorem dX10_told_196 : decode cX10_told 196 = .ok (.aload_n 0, 1) := by decide +kernel
theorem dX10_told_197 : decode cX10_told 197 = .ok (.getfield 60, 3) := by decide +kernel
theorem dX10_told_200 : decode cX10_told 200 = .ok (.getfield 266, 3) := by decide +kernel
theorem dX10_told_203 : decode cX10_told 203 = .ok (.iload_n 2, 1) := by decide +kernel
theorem dX10_told_204 : decode cX10_told 204 = .ok (.iaload, 1) := by decide +kernel
theorem dX10_told_205 : decode cX10_told 205 = .ok (.iload_n 1, 1) := by decide +kernel
theorem dX10_told_206 : decode cX10_told 206 = .ok (.invokestatic 235, 3) := by decide +kernel
theorem dX10_told_209 : decode cX10_told 209 = .ok (.ireturn, 1) := by decide +kernel
theorem dX10_told_210 : decode cX10_told 210 = .ok (.iconst (-1), 1) := by decide +kernel
theorem dX10_told_211 : decode cX10_told 211 = .ok (.ireturn, 1) := by decide +kernel
theorem dX10_trueRuler_0 : decode cX10_trueRuler 0 = .ok (.iconst 0, 1) := by decide +kernel
theorem dX10_trueRuler_1 : decode cX10_trueRuler 1 = .ok (.istore_n 1, 1) := by decide +kernel
theorem dX10_trueRuler_2 : decode cX10_trueRuler 2 = .ok (.aload_n 0, 1) := by decide +kernel
theorem dX10_trueRuler_3 : decode cX10_trueRuler 3 = .ok (.getfield 108, 3) := by decide +kernel
theorem dX10_trueRuler_6 : decode cX10_trueRuler 6 = .ok (.ifCond .eq 43, 3) := by decide +kernel
theorem dX10_trueRuler_9 : decode cX10_trueRuler 9 = .ok (.iload_n 1, 1) := by decide +kernel
theorem dX10_trueRuler_10 : decode cX10_trueRuler 10 = .ok (.aload_n 0, 1) := by decide +kernel
theorem dX10_trueRuler_11 : decode cX10_trueRuler 11 = .ok (.getfield 23, 3) := by decide +kernel
theorem dX10_trueRuler_14 : decode cX10_trueRuler 14 = .ok (.getfield 151, 3) := by decide +kernel
theorem dX10_trueRuler_17 : decode cX10_trueRuler 17 = .ok (.if_icmp .ge 32, 3) := by decide +kernel
theorem dX10_trueRuler_20 : decode cX10_trueRuler 20 = .ok (.aload_n 0, 1) := by decide +kernel
theorem dX10_trueRuler_21 : decode cX10_trueRuler 21 = .ok (.getfield 60, 3) := by decide +kernel
theorem dX10_trueRuler_24 : decode cX10_trueRuler 24 = .ok (.getfield 155, 3) := by decide +kernel
theorem dX10_trueRuler_27 : decode cX10_trueRuler 27 = .ok (.aload_n 0, 1) := by decide +kernel
theorem dX10_trueRuler_28 : decode cX10_trueRuler 28 = .ok (.getfield 23, 3) := by decide +kernel
theorem dX10_trueRuler_31 : decode cX10_trueRuler 31 = .ok (.iload_n 1, 1) := by decide +kernel
theorem dX10_trueRuler_32 : decode cX10_trueRuler 32 = .ok (.invokevirtual 225, 3) := by decide +kernel
theorem dX10_trueRuler_35 : decode cX10_trueRuler 35 = .ok (.invokestatic 235, 3) := by decide +kernel
theorem dX10_trueRuler_38 : decode cX10_trueRuler 38 = .ok (.ifCond .ne 5, 3) := by decide +kernel
theorem dX10_trueRuler_41 : decode cX10_trueRuler 41 = .ok (.iload_n 1, 1) := by decide +kernel
theorem dX10_trueRuler_42 : decode cX10_trueRuler 42 = .ok (.ireturn, 1) := by decide +kernel
theorem dX10_trueRuler_43 : decode cX10_trueRuler 43 = .ok (.iinc 1 1, 3) := by decide +kernel
theorem dX10_trueRuler_46 : decode cX10_trueRuler 46 = .ok (.goto (-44), 3) := by decide +kernel
theorem dX10_trueRuler_49 : decode cX10_trueRuler 49 = .ok (.iconst (-1), 1) := by decide +kernel
theorem dX10_trueRuler_50 : decode cX10_trueRuler 50 = .ok (.ireturn, 1) := by decide +kernel
theorem dX10_undo_0 : decode cX10_undo 0 = .ok (.aload_n 0, 1) := by decide +kernel
theorem dX10_undo_1 : decode cX10_undo 1 = .ok (.getfield 73, 3) := by decide +kernel
theorem dX10_undo_4 : decode cX10_undo 4 = .ok (.aload_n 0, 1) := by decide +kernel
theorem dX10_undo_5 : decode cX10_undo 5 = .ok (.getfield 60, 3) := by decide +kernel
theorem dX10_undo_8 : decode cX10_undo 8 = .ok (.invokevirtual 380, 3) := by decide +kernel
theorem dX10_undo_11 : decode cX10_undo 11 = .ok (.ifCond .eq 13, 3) := by decide +kernel
theorem dX10_undo_14 : decode cX10_undo 14 = .ok (.aload_n 0, 1) := by decide +kernel
theorem dX10_undo_15 : decode cX10_undo 15 = .ok (.getfield 73, 3) := by decide +kernel
theorem dX10_undo_18 : decode cX10_undo 18 = .ok (.getfield 119, 3) := by decide +kernel
theorem dX10_undo_21 : decode cX10_undo 21 = .ok (.goto 4, 3) := by decide +kernel
theorem dX10_undo_24 : decode cX10_undo 24 = .ok (.iconst (-1), 1) := by decide +kernel
theorem dX10_undo_25 : decode cX10_undo 25 = .ok (.ireturn, 1) := by decide +kernel
theorem dX10_weakest_0 : decode cX10_weakest 0 = .ok (.aload_n 0, 1) := by decide +kernel
theorem dX10_weakest_1 : decode cX10_weakest 1 = .ok (.getfield 108, 3) := by decide +kernel
theorem dX10_weakest_4 : decode cX10_weakest 4 = .ok (.ifCond .ne 6, 3) := by decide +kernel
theorem dX10_weakest_7 : decode cX10_weakest 7 = .ok (.bipush (-2), 2) := by decide +kernel
theorem dX10_weakest_9 : decode cX10_weakest 9 = .ok (.ireturn, 1) := by decide +kernel
theorem dX10_weakest_10 : decode cX10_weakest 10 = .ok (.iconst (-1), 1) := by decide +kernel
theorem dX10_weakest_11 : decode cX10_weakest 11 = .ok (.istore_n 1, 1) := by decide +kernel
theorem dX10_weakest_12 : decode cX10_weakest 12 = .ok (.aload_n 0, 1) := by decide +kernel
theorem dX10_weakest_13 : decode cX10_weakest 13 = .ok (.getfield 23, 3) := by decide +kernel
theorem dX10_weakest_16 : decode cX10_weakest 16 = .ok (.getfield 132, 3) := by decide +kernel
theorem dX10_weakest_19 : decode cX10_weakest 19 = .ok (.iconst 1, 1) := by decide +kernel
theorem dX10_weakest_20 : decode cX10_weakest 20 = .ok (.isub, 1) := by decide +kernel
theorem dX10_weakest_21 : decode cX10_weakest 21 = .ok (.istore_n 2, 1) := by decide +kernel
theorem dX10_weakest_22 : decode cX10_weakest 22 = .ok (.iload_n 2, 1) := by decide +kernel
theorem dX10_weakest_23 : decode cX10_weakest 23 = .ok (.ifCond .lt 99, 3) := by decide +kernel
theorem dX10_weakest_26 : decode cX10_weakest 26 = .ok (.aload_n 0, 1) := by decide +kernel
theorem dX10_weakest_27 : decode cX10_weakest 27 = .ok (.getfield 60, 3) := by decide +kernel
theorem dX10_weakest_30 : decode cX10_weakest 30 = .ok (.getfield 155, 3) := by decide +kernel
theorem dX10_weakest_33 : decode cX10_weakest 33 = .ok (.iconst 1, 1) := by decide +kernel
theorem dX10_weakest_34 : decode cX10_weakest 34 = .ok (.iload_n 2, 1) := by decide +kernel
theorem dX10_weakest_35 : decode cX10_weakest 35 = .ok (.ishl, 1) := by decide +kernel
theorem dX10_weakest_36 : decode cX10_weakest 36 = .ok (.ior, 1) := by decide +kernel
theorem dX10_weakest_37 : decode cX10_weakest 37 = .ok (.istore_n 3, 1) := by decide +kernel
theorem dX10_weakest_38 : decode cX10_weakest 38 = .ok (.iload_n 3, 1) := by decide +kernel
theorem dX10_weakest_39 : decode cX10_weakest 39 = .ok (.aload_n 0, 1) := by decide +kernel
theorem dX10_weakest_40 : decode cX10_weakest 40 = .ok (.getfield 60, 3) := by decide +kernel
theorem dX10_weakest_43 : decode cX10_weakest 43 = .ok (.getfield 155, 3) := by decide +kernel
theorem dX10_weakest_46 : decode cX10_weakest 46 = .ok (.if_icmp .eq 70, 3) := by decide +kernel
theorem dX10_weakest_49 : decode cX10_weakest 49 = .ok (.iload_n 3, 1) := by decide +kernel
theorem dX10_weakest_50 : decode cX10_weakest 50 = .ok (.aload_n 0, 1) := by decide +kernel
theorem dX10_weakest_51 : decode cX10_weakest 51 = .ok (.getfield 23, 3) := by decide +kernel
theorem dX10_weakest_54 : decode cX10_weakest 54 = .ok (.invokevirtual 205, 3) := by decide +kernel
theorem dX10_weakest_57 : decode cX10_weakest 57 = .ok (.if_icmp .ne 6, 3) := by decide +kernel
theorem dX10_weakest_60 : decode cX10_weakest 60 = .ok (.goto 56, 3) := by decide +kernel
theorem dX10_weakest_63 : decode cX10_weakest 63 = .ok (.aload_n 0, 1) := by decide +kernel
theorem dX10_weakest_64 : decode cX10_weakest 64 = .ok (.iload_n 3, 1) := by decide +kernel
theorem dX10_weakest_65 : decode cX10_weakest 65 = .ok (.invokevirtual 309, 3) := by decide +kernel
theorem dX10_weakest_68 : decode cX10_weakest 68 = .ok (.ifCond .ne 6, 3) := by decide +kernel
theorem dX10_weakest_71 : decode cX10_weakest 71 = .ok (.bipush (-2), 2) := by decide +kernel
theorem dX10_weakest_73 : decode cX10_weakest 73 = .ok (.ireturn, 1) := by decide +kernel
theorem dX10_weakest_74 : decode cX10_weakest 74 = .ok (.aload_n 0, 1) := by decide +kernel
theorem dX10_weakest_75 : decode cX10_weakest 75 = .ok (.getfield 80, 3) := by decide +kernel
theorem dX10_weakest_78 : decode cX10_weakest 78 = .ok (.aload_n 0, 1) := by decide +kernel
theorem dX10_weakest_79 : decode cX10_weakest 79 = .ok (.getfield 23, 3) := by decide +kernel
theorem dX10_weakest_82 : decode cX10_weakest 82 = .ok (.iload_n 3, 1) := by decide +kernel
theorem dX10_weakest_83 : decode cX10_weakest 83 = .ok (.aload_n 0, 1) := by decide +kernel
theorem dX10_weakest_84 : decode cX10_weakest 84 = .ok (.getfield 23, 3) := by decide +kernel
theorem dX10_weakest_87 : decode cX10_weakest 87 = .ok (.getfield 151, 3) := by decide +kernel
theorem dX10_weakest_90 : decode cX10_weakest 90 = .ok (.invokevirtual 312, 3) := by decide +kernel
theorem dX10_weakest_93 : decode cX10_weakest 93 = .ok (.aload_n 0, 1) := by decide +kernel
theorem dX10_weakest_94 : decode cX10_weakest 94 = .ok (.getfield 80, 3) := by decide +kernel
theorem dX10_weakest_97 : decode cX10_weakest 97 = .ok (.aload_n 0, 1) := by decide +kernel
theorem dX10_weakest_98 : decode cX10_weakest 98 = .ok (.getfield 60, 3) := by decide +kernel
theorem dX10_weakest_101 : decode cX10_weakest 101 = .ok (.getfield 154, 3) := by decide +kernel
theorem dX10_weakest_104 : decode cX10_weakest 104 = .ok (.invokevirtual 335, 3) := by decide +kernel
theorem dX10_weakest_107 : decode cX10_weakest 107 = .ok (.ifCond .eq 7, 3) := by decide +kernel
theorem dX10_weakest_110 : decode cX10_weakest 110 = .ok (.iload_n 2, 1) := by decide +kernel
theorem dX10_weakest_111 : decode cX10_weakest 111 = .ok (.goto 4, 3) := by decide +kernel
theorem dX10_weakest_114 : decode cX10_weakest 114 = .ok (.iload_n 1, 1) := by decide +kernel
theorem dX10_weakest_115 : decode cX10_weakest 115 = .ok (.istore_n 1, 1) := by decide +kernel
theorem dX10_weakest_116 : decode cX10_weakest 116 = .ok (.iinc 2 (-1), 3) := by decide +kernel
theorem dX10_weakest_119 : decode cX10_weakest 119 = .ok (.goto (-97), 3) := by decide +kernel
theorem dX10_weakest_122 : decode cX10_weakest 122 = .ok (.iload_n 1, 1) := by decide +kernel
theorem dX10_weakest_123 : decode cX10_weakest 123 = .ok (.ireturn, 1) := by decide +kernel
theorem dX10_whyNotSaid_0 : decode cX10_whyNotSaid 0 = .ok (.aload_n 0, 1) := by decide +kernel
theorem dX10_whyNotSaid_1 : decode cX10_whyNotSaid 1 = .ok (.getfield 108, 3) := by decide +kernel
theorem dX10_whyNotSaid_4 : decode cX10_whyNotSaid 4 = .ok (.ifCond .ne 5, 3) := by decide +kernel
theorem dX10_whyNotSaid_7 : decode cX10_whyNotSaid 7 = .ok (.iconst 0, 1) := by decide +kernel
theorem dX10_whyNotSaid_8 : decode cX10_whyNotSaid 8 = .ok (.ireturn, 1) := by decide +kernel
theorem dX10_whyNotSaid_9 : decode cX10_whyNotSaid 9 = .ok (.aload_n 0, 1) := by decide +kernel
theorem dX10_whyNotSaid_10 : decode cX10_whyNotSaid 10 = .ok (.iload_n 1, 1) := by decide +kernel
theorem dX10_whyNotSaid_11 : decode cX10_whyNotSaid 11 = .ok (.iload_n 2, 1) := by decide +kernel
theorem dX10_whyNotSaid_12 : decode cX10_whyNotSaid 12 = .ok (.invokevirtual 221, 3) := by decide +kernel
theorem dX10_whyNotSaid_15 : decode cX10_whyNotSaid 15 = .ok (.ifCond .eq 31, 3) := by decide +kernel
theorem dX10_whyNotSaid_18 : decode cX10_whyNotSaid 18 = .ok (.aload_n 0, 1) := by decide +kernel
theorem dX10_whyNotSaid_19 : decode cX10_whyNotSaid 19 = .ok (.iload_n 3, 1) := by decide +kernel
theorem dX10_whyNotSaid_20 : decode cX10_whyNotSaid 20 = .ok (.invokevirtual 217, 3) := by decide +kernel
theorem dX10_whyNotSaid_23 : decode cX10_whyNotSaid 23 = .ok (.ifCond .eq 23, 3) := by decide +kernel
theorem dX10_whyNotSaid_26 : decode cX10_whyNotSaid 26 = .ok (.aload_n 0, 1) := by decide +kernel
theorem dX10_whyNotSaid_27 : decode cX10_whyNotSaid 27 = .ok (.iload 4, 2) := by decide +kernel
theorem dX10_whyNotSaid_29 : decode cX10_whyNotSaid 29 = .ok (.invokevirtual 217, 3) := by decide +kernel
theorem dX10_whyNotSaid_32 : decode cX10_whyNotSaid 32 = .ok (.ifCond .eq 14, 3) := by decide +kernel
theorem dX10_whyNotSaid_35 : decode cX10_whyNotSaid 35 = .ok (.iload 5, 2) := by decide +kernel
theorem dX10_whyNotSaid_37 : decode cX10_whyNotSaid 37 = .ok (.ifCond .lt 9, 3) := by decide +kernel
theorem dX10_whyNotSaid_40 : decode cX10_whyNotSaid 40 = .ok (.iload 5, 2) := by decide +kernel
theorem dX10_whyNotSaid_42 : decode cX10_whyNotSaid 42 = .ok (.iconst 2, 1) := by decide +kernel
theorem dX10_whyNotSaid_43 : decode cX10_whyNotSaid 43 = .ok (.if_icmp .le 5, 3) := by decide +kernel
theorem dX10_whyNotSaid_46 : decode cX10_whyNotSaid 46 = .ok (.iconst 1, 1) := by decide +kernel
theorem dX10_whyNotSaid_47 : decode cX10_whyNotSaid 47 = .ok (.ireturn, 1) := by decide +kernel
theorem dX10_whyNotSaid_48 : decode cX10_whyNotSaid 48 = .ok (.aload_n 0, 1) := by decide +kernel
theorem dX10_whyNotSaid_49 : decode cX10_whyNotSaid 49 = .ok (.getfield 60, 3) := by decide +kernel
theorem dX10_whyNotSaid_52 : decode cX10_whyNotSaid 52 = .ok (.getfield 155, 3) := by decide +kernel
theorem dX10_whyNotSaid_55 : decode cX10_whyNotSaid 55 = .ok (.iload_n 3, 1) := by decide +kernel
theorem dX10_whyNotSaid_56 : decode cX10_whyNotSaid 56 = .ok (.invokestatic 235, 3) := by decide +kernel
theorem dX10_whyNotSaid_59 : decode cX10_whyNotSaid 59 = .ok (.ifCond .ne 5, 3) := by decide +kernel
theorem dX10_whyNotSaid_62 : decode cX10_whyNotSaid 62 = .ok (.iconst 2, 1) := by decide +kernel
theorem dX10_whyNotSaid_63 : decode cX10_whyNotSaid 63 = .ok (.ireturn, 1) := by decide +kernel
theorem dX10_whyNotSaid_64 : decode cX10_whyNotSaid 64 = .ok (.aload_n 0, 1) := by decide +kernel
theorem dX10_whyNotSaid_65 : decode cX10_whyNotSaid 65 = .ok (.iload_n 1, 1) := by decide +kernel
theorem dX10_whyNotSaid_66 : decode cX10_whyNotSaid 66 = .ok (.iload_n 2, 1) := by decide +kernel
theorem dX10_whyNotSaid_67 : decode cX10_whyNotSaid 67 = .ok (.invokevirtual 228, 3) := by decide +kernel
theorem dX10_whyNotSaid_70 : decode cX10_whyNotSaid 70 = .ok (.ifCond .eq 5, 3) := by decide +kernel
theorem dX10_whyNotSaid_73 : decode cX10_whyNotSaid 73 = .ok (.iconst 3, 1) := by decide +kernel
theorem dX10_whyNotSaid_74 : decode cX10_whyNotSaid 74 = .ok (.ireturn, 1) := by decide +kernel
theorem dX10_whyNotSaid_75 : decode cX10_whyNotSaid 75 = .ok (.aload_n 0, 1) := by decide +kernel
theorem dX10_whyNotSaid_76 : decode cX10_whyNotSaid 76 = .ok (.getfield 60, 3) := by decide +kernel
theorem dX10_whyNotSaid_79 : decode cX10_whyNotSaid 79 = .ok (.getfield 173, 3) := by decide +kernel
theorem dX10_whyNotSaid_82 : decode cX10_whyNotSaid 82 = .ok (.bipush 30, 2) := by decide +kernel
theorem dX10_whyNotSaid_84 : decode cX10_whyNotSaid 84 = .ok (.if_icmp .lt 7, 3) := by decide +kernel
theorem dX10_whyNotSaid_87 : decode cX10_whyNotSaid 87 = .ok (.iconst 4, 1) := by decide +kernel
theorem dX10_whyNotSaid_88 : decode cX10_whyNotSaid 88 = .ok (.goto 4, 3) := by decide +kernel
theorem dX10_whyNotSaid_91 : decode cX10_whyNotSaid 91 = .ok (.iconst (-1), 1) := by decide +kernel
theorem dX10_whyNotSaid_92 : decode cX10_whyNotSaid 92 = .ok (.ireturn, 1) := by decide +kernel
theorem dX10_whyNotTold_0 : decode cX10_whyNotTold 0 = .ok (.aload_n 0, 1) := by decide +kernel
theorem dX10_whyNotTold_1 : decode cX10_whyNotTold 1 = .ok (.getfield 108, 3) := by decide +kernel
theorem dX10_whyNotTold_4 : decode cX10_whyNotTold 4 = .ok (.ifCond .ne 5, 3) := by decide +kernel
theorem dX10_whyNotTold_7 : decode cX10_whyNotTold 7 = .ok (.iconst 0, 1) := by decide +kernel
theorem dX10_whyNotTold_8 : decode cX10_whyNotTold 8 = .ok (.ireturn, 1) := by decide +kernel
theorem dX10_whyNotTold_9 : decode cX10_whyNotTold 9 = .ok (.iload_n 1, 1) := by decide +kernel
theorem dX10_whyNotTold_10 : decode cX10_whyNotTold 10 = .ok (.ifCond .lt 8, 3) := by decide +kernel
theorem dX10_whyNotTold_13 : decode cX10_whyNotTold 13 = .ok (.iload_n 1, 1) := by decide +kernel
theorem dX10_whyNotTold_14 : decode cX10_whyNotTold 14 = .ok (.iload_n 2, 1) := by decide +kernel
theorem dX10_whyNotTold_15 : decode cX10_whyNotTold 15 = .ok (.if_icmp .le 5, 3) := by decide +kernel
theorem dX10_whyNotTold_18 : decode cX10_whyNotTold 18 = .ok (.iconst 1, 1) := by decide +kernel
theorem dX10_whyNotTold_19 : decode cX10_whyNotTold 19 = .ok (.ireturn, 1) := by decide +kernel
theorem dX10_whyNotTold_20 : decode cX10_whyNotTold 20 = .ok (.aload_n 0, 1) := by decide +kernel
theorem dX10_whyNotTold_21 : decode cX10_whyNotTold 21 = .ok (.getfield 60, 3) := by decide +kernel
theorem dX10_whyNotTold_24 : decode cX10_whyNotTold 24 = .ok (.getfield 159, 3) := by decide +kernel
theorem dX10_whyNotTold_27 : decode cX10_whyNotTold 27 = .ok (.ifCond .le 7, 3) := by decide +kernel
theorem dX10_whyNotTold_30 : decode cX10_whyNotTold 30 = .ok (.iconst 3, 1) := by decide +kernel
theorem dX10_whyNotTold_31 : decode cX10_whyNotTold 31 = .ok (.goto 4, 3) := by decide +kernel
theorem dX10_whyNotTold_34 : decode cX10_whyNotTold 34 = .ok (.iconst (-1), 1) := by decide +kernel
theorem dX10_whyNotTold_35 : decode cX10_whyNotTold 35 = .ok (.ireturn, 1) := by decide +kernel
theorem dX10_writeBrokenRound_0 : decode cX10_writeBrokenRound 0 = .ok (.aload_n 0, 1) := by decide +kernel
theorem dX10_writeBrokenRound_1 : decode cX10_writeBrokenRound 1 = .ok (.iload_n 1, 1) := by decide +kernel
theorem dX10_writeBrokenRound_2 : decode cX10_writeBrokenRound 2 = .ok (.iload_n 2, 1) := by decide +kernel
theorem dX10_writeBrokenRound_3 : decode cX10_writeBrokenRound 3 = .ok (.invokevirtual 409, 3) := by decide +kernel
theorem dX10_writeBrokenRound_6 : decode cX10_writeBrokenRound 6 = .ok (.istore 4, 2) := by decide +kernel
theorem dX10_writeBrokenRound_8 : decode cX10_writeBrokenRound 8 = .ok (.iconst 0, 1) := by decide +kernel
theorem dX10_writeBrokenRound_9 : decode cX10_writeBrokenRound 9 = .ok (.istore 5, 2) := by decide +kernel
theorem dX10_writeBrokenRound_11 : decode cX10_writeBrokenRound 11 = .ok (.iload 5, 2) := by decide +kernel
theorem dX10_writeBrokenRound_13 : decode cX10_writeBrokenRound 13 = .ok (.aload_n 0, 1) := by decide +kernel
theorem dX10_writeBrokenRound_14 : decode cX10_writeBrokenRound 14 = .ok (.getfield 23, 3) := by decide +kernel
theorem dX10_writeBrokenRound_17 : decode cX10_writeBrokenRound 17 = .ok (.getfield 132, 3) := by decide +kernel
theorem dX10_writeBrokenRound_20 : decode cX10_writeBrokenRound 20 = .ok (.if_icmp .ge 177, 3) := by decide +kernel
theorem dX10_writeBrokenRound_23 : decode cX10_writeBrokenRound 23 = .ok (.iload_n 2, 1) := by decide +kernel
theorem dX10_writeBrokenRound_24 : decode cX10_writeBrokenRound 24 = .ok (.aload_n 0, 1) := by decide +kernel
theorem dX10_writeBrokenRound_25 : decode cX10_writeBrokenRound 25 = .ok (.getfield 23, 3) := by decide +kernel
theorem dX10_writeBrokenRound_28 : decode cX10_writeBrokenRound 28 = .ok (.invokevirtual 169, 3) := by decide +kernel
theorem dX10_writeBrokenRound_31 : decode cX10_writeBrokenRound 31 = .ok (.iconst 1, 1) := by decide +kernel
theorem dX10_writeBrokenRound_32 : decode cX10_writeBrokenRound 32 = .ok (.isub, 1) := by decide +kernel
theorem dX10_writeBrokenRound_33 : decode cX10_writeBrokenRound 33 = .ok (.if_icmp .ne 20, 3) := by decide +kernel
theorem dX10_writeBrokenRound_36 : decode cX10_writeBrokenRound 36 = .ok (.iload 5, 2) := by decide +kernel
theorem dX10_writeBrokenRound_38 : decode cX10_writeBrokenRound 38 = .ok (.aload_n 0, 1) := by decide +kernel
theorem dX10_writeBrokenRound_39 : decode cX10_writeBrokenRound 39 = .ok (.getfield 23, 3) := by decide +kernel
theorem dX10_writeBrokenRound_42 : decode cX10_writeBrokenRound 42 = .ok (.iload_n 1, 1) := by decide +kernel
theorem dX10_writeBrokenRound_43 : decode cX10_writeBrokenRound 43 = .ok (.invokevirtual 225, 3) := by decide +kernel
theorem dX10_writeBrokenRound_46 : decode cX10_writeBrokenRound 46 = .ok (.if_icmp .eq 7, 3) := by decide +kernel
theorem dX10_writeBrokenRound_49 : decode cX10_writeBrokenRound 49 = .ok (.iconst 1, 1) := by decide +kernel
theorem dX10_writeBrokenRound_50 : decode cX10_writeBrokenRound 50 = .ok (.goto 4, 3) := by decide +kernel
theorem dX10_writeBrokenRound_53 : decode cX10_writeBrokenRound 53 = .ok (.iconst 0, 1) := by decide +kernel
theorem dX10_writeBrokenRound_54 : decode cX10_writeBrokenRound 54 = .ok (.istore 6, 2) := by decide +kernel
theorem dX10_writeBrokenRound_56 : decode cX10_writeBrokenRound 56 = .ok (.iload 6, 2) := by decide +kernel
theorem dX10_writeBrokenRound_58 : decode cX10_writeBrokenRound 58 = .ok (.ifCond .ne 133, 3) := by decide +kernel
theorem dX10_writeBrokenRound_61 : decode cX10_writeBrokenRound 61 = .ok (.aload_n 0, 1) := by decide +kernel
theorem dX10_writeBrokenRound_62 : decode cX10_writeBrokenRound 62 = .ok (.getfield 60, 3) := by decide +kernel
theorem dX10_writeBrokenRound_65 : decode cX10_writeBrokenRound 65 = .ok (.getfield 155, 3) := by decide +kernel
theorem dX10_writeBrokenRound_68 : decode cX10_writeBrokenRound 68 = .ok (.iload 5, 2) := by decide +kernel
theorem dX10_writeBrokenRound_70 : decode cX10_writeBrokenRound 70 = .ok (.invokestatic 235, 3) := by decide +kernel
theorem dX10_writeBrokenRound_73 : decode cX10_writeBrokenRound 73 = .ok (.ifCond .ne 6, 3) := by decide +kernel
theorem dX10_writeBrokenRound_76 : decode cX10_writeBrokenRound 76 = .ok (.goto 115, 3) := by decide +kernel
theorem dX10_writeBrokenRound_79 : decode cX10_writeBrokenRound 79 = .ok (.iconst 0, 1) := by decide +kernel
theorem dX10_writeBrokenRound_80 : decode cX10_writeBrokenRound 80 = .ok (.istore 7, 2) := by decide +kernel
theorem dX10_writeBrokenRound_82 : decode cX10_writeBrokenRound 82 = .ok (.iload 7, 2) := by decide +kernel
theorem dX10_writeBrokenRound_84 : decode cX10_writeBrokenRound 84 = .ok (.aload_n 0, 1) := by decide +kernel
theorem dX10_writeBrokenRound_85 : decode cX10_writeBrokenRound 85 = .ok (.getfield 23, 3) := by decide +kernel
theorem dX10_writeBrokenRound_88 : decode cX10_writeBrokenRound 88 = .ok (.getfield 132, 3) := by decide +kernel
theorem dX10_writeBrokenRound_91 : decode cX10_writeBrokenRound 91 = .ok (.if_icmp .ge 100, 3) := by decide +kernel
theorem dX10_writeBrokenRound_94 : decode cX10_writeBrokenRound 94 = .ok (.aload_n 0, 1) := by decide +kernel
theorem dX10_writeBrokenRound_95 : decode cX10_writeBrokenRound 95 = .ok (.getfield 60, 3) := by decide +kernel
theorem dX10_writeBrokenRound_98 : decode cX10_writeBrokenRound 98 = .ok (.getfield 155, 3) := by decide +kernel
theorem dX10_writeBrokenRound_101 : decode cX10_writeBrokenRound 101 = .ok (.iload 7, 2) := by decide +kernel
theorem dX10_writeBrokenRound_103 : decode cX10_writeBrokenRound 103 = .ok (.invokestatic 235, 3) := by decide +kernel
theorem dX10_writeBrokenRound_106 : decode cX10_writeBrokenRound 106 = .ok (.ifCond .ne 79, 3) := by decide +kernel
theorem dX10_writeBrokenRound_109 : decode cX10_writeBrokenRound 109 = .ok (.aload_n 0, 1) := by decide +kernel
theorem dX10_writeBrokenRound_110 : decode cX10_writeBrokenRound 110 = .ok (.getfield 84, 3) := by decide +kernel
theorem dX10_writeBrokenRound_113 : decode cX10_writeBrokenRound 113 = .ok (.iload 4, 2) := by decide +kernel
theorem dX10_writeBrokenRound_115 : decode cX10_writeBrokenRound 115 = .ok (.ifCond .ne 9, 3) := by decide +kernel
theorem dX10_writeBrokenRound_118 : decode cX10_writeBrokenRound 118 = .ok (.ldc_w 354, 3) := by decide +kernel
theorem dX10_writeBrokenRound_121 : decode cX10_writeBrokenRound 121 = .ok (.goto 6, 3) := by decide +kernel
theorem dX10_writeBrokenRound_124 : decode cX10_writeBrokenRound 124 = .ok (.ldc_w 412, 3) := by decide +kernel
theorem dX10_writeBrokenRound_127 : decode cX10_writeBrokenRound 127 = .ok (.iload_n 1, 1) := by decide +kernel
theorem dX10_writeBrokenRound_128 : decode cX10_writeBrokenRound 128 = .ok (.invokevirtual 356, 3) := by decide +kernel
theorem dX10_writeBrokenRound_131 : decode cX10_writeBrokenRound 131 = .ok (.aload_n 0, 1) := by decide +kernel
theorem dX10_writeBrokenRound_132 : decode cX10_writeBrokenRound 132 = .ok (.getfield 84, 3) := by decide +kernel
theorem dX10_writeBrokenRound_135 : decode cX10_writeBrokenRound 135 = .ok (.ldc_w 414, 3) := by decide +kernel
theorem dX10_writeBrokenRound_138 : decode cX10_writeBrokenRound 138 = .ok (.iload_n 2, 1) := by decide +kernel
theorem dX10_writeBrokenRound_139 : decode cX10_writeBrokenRound 139 = .ok (.invokevirtual 356, 3) := by decide +kernel
theorem dX10_writeBrokenRound_142 : decode cX10_writeBrokenRound 142 = .ok (.aload_n 0, 1) := by decide +kernel
theorem dX10_writeBrokenRound_143 : decode cX10_writeBrokenRound 143 = .ok (.getfield 84, 3) := by decide +kernel
theorem dX10_writeBrokenRound_146 : decode cX10_writeBrokenRound 146 = .ok (.ldc_w 416, 3) := by decide +kernel
theorem dX10_writeBrokenRound_149 : decode cX10_writeBrokenRound 149 = .ok (.iload 5, 2) := by decide +kernel
theorem dX10_writeBrokenRound_151 : decode cX10_writeBrokenRound 151 = .ok (.invokevirtual 356, 3) := by decide +kernel
theorem dX10_writeBrokenRound_154 : decode cX10_writeBrokenRound 154 = .ok (.aload_n 0, 1) := by decide +kernel
theorem dX10_writeBrokenRound_155 : decode cX10_writeBrokenRound 155 = .ok (.getfield 84, 3) := by decide +kernel
theorem dX10_writeBrokenRound_158 : decode cX10_writeBrokenRound 158 = .ok (.ldc_w 418, 3) := by decide +kernel
theorem dX10_writeBrokenRound_161 : decode cX10_writeBrokenRound 161 = .ok (.iload 7, 2) := by decide +kernel
theorem dX10_writeBrokenRound_163 : decode cX10_writeBrokenRound 163 = .ok (.invokevirtual 356, 3) := by decide +kernel
theorem dX10_writeBrokenRound_166 : decode cX10_writeBrokenRound 166 = .ok (.aload_n 0, 1) := by decide +kernel
theorem dX10_writeBrokenRound_167 : decode cX10_writeBrokenRound 167 = .ok (.getfield 84, 3) := by decide +kernel
theorem dX10_writeBrokenRound_170 : decode cX10_writeBrokenRound 170 = .ok (.ldc_w 420, 3) := by decide +kernel
theorem dX10_writeBrokenRound_173 : decode cX10_writeBrokenRound 173 = .ok (.iload_n 3, 1) := by decide +kernel
theorem dX10_writeBrokenRound_174 : decode cX10_writeBrokenRound 174 = .ok (.iload 4, 2) := by decide +kernel
theorem dX10_writeBrokenRound_176 : decode cX10_writeBrokenRound 176 = .ok (.invokestatic 235, 3) := by decide +kernel
theorem dX10_writeBrokenRound_179 : decode cX10_writeBrokenRound 179 = .ok (.invokevirtual 356, 3) := by decide +kernel
theorem dX10_writeBrokenRound_182 : decode cX10_writeBrokenRound 182 = .ok (.iinc 4 1, 3) := by decide +kernel
theorem dX10_writeBrokenRound_185 : decode cX10_writeBrokenRound 185 = .ok (.iinc 7 1, 3) := by decide +kernel
theorem dX10_writeBrokenRound_188 : decode cX10_writeBrokenRound 188 = .ok (.goto (-106), 3) := by decide +kernel
theorem dX10_writeBrokenRound_191 : decode cX10_writeBrokenRound 191 = .ok (.iinc 5 1, 3) := by decide +kernel
theorem dX10_writeBrokenRound_194 : decode cX10_writeBrokenRound 194 = .ok (.goto (-183), 3) := by decide +kernel
theorem dX10_writeBrokenRound_197 : decode cX10_writeBrokenRound 197 = .ok (.return_, 1) := by decide +kernel
theorem dX11_agreed_0 : decode cX11_agreed 0 = .ok (.aload_n 0, 1) := by decide +kernel
theorem dX11_agreed_1 : decode cX11_agreed 1 = .ok (.iconst 0, 1) := by decide +kernel
theorem dX11_agreed_2 : decode cX11_agreed 2 = .ok (.putfield 80, 3) := by decide +kernel
theorem dX11_agreed_5 : decode cX11_agreed 5 = .ok (.aload_n 0, 1) := by decide +kernel
theorem dX11_agreed_6 : decode cX11_agreed 6 = .ok (.invokevirtual 358, 3) := by decide +kernel
theorem dX11_agreed_9 : decode cX11_agreed 9 = .ok (.istore_n 1, 1) := by decide +kernel
theorem dX11_agreed_10 : decode cX11_agreed 10 = .ok (.iload_n 1, 1) := by decide +kernel
theorem dX11_agreed_11 : decode cX11_agreed 11 = .ok (.ifCond .le 19, 3) := by decide +kernel
theorem dX11_agreed_14 : decode cX11_agreed 14 = .ok (.aload_n 0, 1) := by decide +kernel
theorem dX11_agreed_15 : decode cX11_agreed 15 = .ok (.iload_n 1, 1) := by decide +kernel
theorem dX11_agreed_16 : decode cX11_agreed 16 = .ok (.iconst 1, 1) := by decide +kernel
theorem dX11_agreed_17 : decode cX11_agreed 17 = .ok (.isub, 1) := by decide +kernel
theorem dX11_agreed_18 : decode cX11_agreed 18 = .ok (.invokevirtual 369, 3) := by decide +kernel
theorem dX11_agreed_21 : decode cX11_agreed 21 = .ok (.ifCond .eq 9, 3) := by decide +kernel
theorem dX11_agreed_24 : decode cX11_agreed 24 = .ok (.iinc 1 (-1), 3) := by decide +kernel
theorem dX11_agreed_27 : decode cX11_agreed 27 = .ok (.goto (-17), 3) := by decide +kernel
theorem dX11_agreed_30 : decode cX11_agreed 30 = .ok (.iload_n 1, 1) := by decide +kernel
theorem dX11_agreed_31 : decode cX11_agreed 31 = .ok (.aload_n 0, 1) := by decide +kernel
theorem dX11_agreed_32 : decode cX11_agreed 32 = .ok (.invokevirtual 358, 3) := by decide +kernel
theorem dX11_agreed_35 : decode cX11_agreed 35 = .ok (.if_icmp .ge 7, 3) := by decide +kernel
theorem dX11_agreed_38 : decode cX11_agreed 38 = .ok (.iload_n 1, 1) := by decide +kernel
theorem dX11_agreed_39 : decode cX11_agreed 39 = .ok (.goto 4, 3) := by decide +kernel
theorem dX11_agreed_42 : decode cX11_agreed 42 = .ok (.iconst (-1), 1) := by decide +kernel
theorem dX11_agreed_43 : decode cX11_agreed 43 = .ok (.ireturn, 1) := by decide +kernel
theorem dX11_agrees_0 : decode cX11_agrees 0 = .ok (.iload_n 0, 1) := by decide +kernel
theorem dX11_agrees_1 : decode cX11_agrees 1 = .ok (.iconst (-1), 1) := by decide +kernel
theorem dX11_agrees_2 : decode cX11_agrees 2 = .ok (.if_icmp .eq 8, 3) := by decide +kernel
theorem dX11_agrees_5 : decode cX11_agrees 5 = .ok (.iload_n 0, 1) := by decide +kernel
theorem dX11_agrees_6 : decode cX11_agrees 6 = .ok (.iload_n 1, 1) := by decide +kernel
theorem dX11_agrees_7 : decode cX11_agrees 7 = .ok (.if_icmp .ne 7, 3) := by decide +kernel
theorem dX11_agrees_10 : decode cX11_agrees 10 = .ok (.iconst 1, 1) := by decide +kernel
theorem dX11_agrees_11 : decode cX11_agrees 11 = .ok (.goto 4, 3) := by decide +kernel
theorem dX11_agrees_14 : decode cX11_agrees 14 = .ok (.iconst 0, 1) := by decide +kernel
theorem dX11_agrees_15 : decode cX11_agrees 15 = .ok (.ireturn, 1) := by decide +kernel
theorem dX11_areAgreed_0 : decode cX11_areAgreed 0 = .ok (.iconst 0, 1) := by decide +kernel
theorem dX11_areAgreed_1 : decode cX11_areAgreed 1 = .ok (.istore_n 1, 1) := by decide +kernel
theorem dX11_areAgreed_2 : decode cX11_areAgreed 2 = .ok (.aload_n 0, 1) := by decide +kernel
theorem dX11_areAgreed_3 : decode cX11_areAgreed 3 = .ok (.iload_n 1, 1) := by decide +kernel
theorem dX11_areAgreed_4 : decode cX11_areAgreed 4 = .ok (.invokevirtual 274, 3) := by decide +kernel
theorem dX11_areAgreed_7 : decode cX11_areAgreed 7 = .ok (.ifCond .eq 9, 3) := by decide +kernel
theorem dX11_areAgreed_10 : decode cX11_areAgreed 10 = .ok (.iinc 1 1, 3) := by decide +kernel
theorem dX11_areAgreed_13 : decode cX11_areAgreed 13 = .ok (.goto (-11), 3) := by decide +kernel
theorem dX11_areAgreed_16 : decode cX11_areAgreed 16 = .ok (.iload_n 1, 1) := by decide +kernel
theorem dX11_areAgreed_17 : decode cX11_areAgreed 17 = .ok (.istore_n 2, 1) := by decide +kernel
theorem dX11_areAgreed_18 : decode cX11_areAgreed 18 = .ok (.iload_n 2, 1) := by decide +kernel
theorem dX11_areAgreed_19 : decode cX11_areAgreed 19 = .ok (.aload_n 0, 1) := by decide +kernel
theorem dX11_areAgreed_20 : decode cX11_areAgreed 20 = .ok (.getfield 215, 3) := by decide +kernel
theorem dX11_areAgreed_23 : decode cX11_areAgreed 23 = .ok (.if_icmp .ge 34, 3) := by decide +kernel
theorem dX11_areAgreed_26 : decode cX11_areAgreed 26 = .ok (.aload_n 0, 1) := by decide +kernel
theorem dX11_areAgreed_27 : decode cX11_areAgreed 27 = .ok (.iload_n 2, 1) := by decide +kernel
theorem dX11_areAgreed_28 : decode cX11_areAgreed 28 = .ok (.invokevirtual 274, 3) := by decide +kernel
theorem dX11_areAgreed_31 : decode cX11_areAgreed 31 = .ok (.ifCond .ne 20, 3) := by decide +kernel
theorem dX11_areAgreed_34 : decode cX11_areAgreed 34 = .ok (.aload_n 0, 1) := by decide +kernel
theorem dX11_areAgreed_35 : decode cX11_areAgreed 35 = .ok (.getfield 26, 3) := by decide +kernel
theorem dX11_areAgreed_38 : decode cX11_areAgreed 38 = .ok (.iload_n 2, 1) := by decide +kernel
theorem dX11_areAgreed_39 : decode cX11_areAgreed 39 = .ok (.iaload, 1) := by decide +kernel
theorem dX11_areAgreed_40 : decode cX11_areAgreed 40 = .ok (.aload_n 0, 1) := by decide +kernel
theorem dX11_areAgreed_41 : decode cX11_areAgreed 41 = .ok (.getfield 26, 3) := by decide +kernel
theorem dX11_areAgreed_44 : decode cX11_areAgreed 44 = .ok (.iload_n 1, 1) := by decide +kernel
theorem dX11_areAgreed_45 : decode cX11_areAgreed 45 = .ok (.iaload, 1) := by decide +kernel
theorem dX11_areAgreed_46 : decode cX11_areAgreed 46 = .ok (.if_icmp .eq 5, 3) := by decide +kernel
theorem dX11_areAgreed_49 : decode cX11_areAgreed 49 = .ok (.iconst 0, 1) := by decide +kernel
theorem dX11_areAgreed_50 : decode cX11_areAgreed 50 = .ok (.ireturn, 1) := by decide +kernel
theorem dX11_areAgreed_51 : decode cX11_areAgreed 51 = .ok (.iinc 2 1, 3) := by decide +kernel
theorem dX11_areAgreed_54 : decode cX11_areAgreed 54 = .ok (.goto (-36), 3) := by decide +kernel
theorem dX11_areAgreed_57 : decode cX11_areAgreed 57 = .ok (.iconst 1, 1) := by decide +kernel
theorem dX11_areAgreed_58 : decode cX11_areAgreed 58 = .ok (.ireturn, 1) := by decide +kernel
theorem dX11_areAgreedBehind_0 : decode cX11_areAgreedBehind 0 = .ok (.iconst (-1), 1) := by decide +kernel
theorem dX11_areAgreedBehind_1 : decode cX11_areAgreedBehind 1 = .ok (.istore_n 2, 1) := by decide +kernel
theorem dX11_areAgreedBehind_2 : decode cX11_areAgreedBehind 2 = .ok (.iconst 0, 1) := by decide +kernel
theorem dX11_areAgreedBehind_3 : decode cX11_areAgreedBehind 3 = .ok (.istore_n 3, 1) := by decide +kernel
theorem dX11_areAgreedBehind_4 : decode cX11_areAgreedBehind 4 = .ok (.iload_n 3, 1) := by decide +kernel
theorem dX11_areAgreedBehind_5 : decode cX11_areAgreedBehind 5 = .ok (.aload_n 0, 1) := by decide +kernel
theorem dX11_areAgreedBehind_6 : decode cX11_areAgreedBehind 6 = .ok (.getfield 215, 3) := by decide +kernel
theorem dX11_areAgreedBehind_9 : decode cX11_areAgreedBehind 9 = .ok (.if_icmp .ge 44, 3) := by decide +kernel
theorem dX11_areAgreedBehind_12 : decode cX11_areAgreedBehind 12 = .ok (.aload_n 0, 1) := by decide +kernel
theorem dX11_areAgreedBehind_13 : decode cX11_areAgreedBehind 13 = .ok (.iload_n 3, 1) := by decide +kernel
theorem dX11_areAgreedBehind_14 : decode cX11_areAgreedBehind 14 = .ok (.invokevirtual 363, 3) := by decide +kernel
theorem dX11_areAgreedBehind_17 : decode cX11_areAgreedBehind 17 = .ok (.ifCond .ne 6, 3) := by decide +kernel
theorem dX11_areAgreedBehind_20 : decode cX11_areAgreedBehind 20 = .ok (.goto 27, 3) := by decide +kernel
theorem dX11_areAgreedBehind_23 : decode cX11_areAgreedBehind 23 = .ok (.iload_n 2, 1) := by decide +kernel
theorem dX11_areAgreedBehind_24 : decode cX11_areAgreedBehind 24 = .ok (.iconst (-1), 1) := by decide +kernel
theorem dX11_areAgreedBehind_25 : decode cX11_areAgreedBehind 25 = .ok (.if_icmp .eq 15, 3) := by decide +kernel
theorem dX11_areAgreedBehind_28 : decode cX11_areAgreedBehind 28 = .ok (.aload_n 0, 1) := by decide +kernel
theorem dX11_areAgreedBehind_29 : decode cX11_areAgreedBehind 29 = .ok (.iload_n 1, 1) := by decide +kernel
theorem dX11_areAgreedBehind_30 : decode cX11_areAgreedBehind 30 = .ok (.iload_n 3, 1) := by decide +kernel
theorem dX11_areAgreedBehind_31 : decode cX11_areAgreedBehind 31 = .ok (.invokevirtual 366, 3) := by decide +kernel
theorem dX11_areAgreedBehind_34 : decode cX11_areAgreedBehind 34 = .ok (.iload_n 2, 1) := by decide +kernel
theorem dX11_areAgreedBehind_35 : decode cX11_areAgreedBehind 35 = .ok (.if_icmp .eq 5, 3) := by decide +kernel
theorem dX11_areAgreedBehind_38 : decode cX11_areAgreedBehind 38 = .ok (.iconst 0, 1) := by decide +kernel
theorem dX11_areAgreedBehind_39 : decode cX11_areAgreedBehind 39 = .ok (.ireturn, 1) := by decide +kernel
theorem dX11_areAgreedBehind_40 : decode cX11_areAgreedBehind 40 = .ok (.aload_n 0, 1) := by decide +kernel
theorem dX11_areAgreedBehind_41 : decode cX11_areAgreedBehind 41 = .ok (.iload_n 1, 1) := by decide +kernel
theorem dX11_areAgreedBehind_42 : decode cX11_areAgreedBehind 42 = .ok (.iload_n 3, 1) := by decide +kernel
theorem dX11_areAgreedBehind_43 : decode cX11_areAgreedBehind 43 = .ok (.invokevirtual 366, 3) := by decide +kernel
theorem dX11_areAgreedBehind_46 : decode cX11_areAgreedBehind 46 = .ok (.istore_n 2, 1) := by decide +kernel
theorem dX11_areAgreedBehind_47 : decode cX11_areAgreedBehind 47 = .ok (.iinc 3 1, 3) := by decide +kernel
theorem dX11_areAgreedBehind_50 : decode cX11_areAgreedBehind 50 = .ok (.goto (-46), 3) := by decide +kernel
theorem dX11_areAgreedBehind_53 : decode cX11_areAgreedBehind 53 = .ok (.iconst 1, 1) := by decide +kernel
theorem dX11_areAgreedBehind_54 : decode cX11_areAgreedBehind 54 = .ok (.ireturn, 1) := by decide +kernel
theorem dX11_asOthers_0 : decode cX11_asOthers 0 = .ok (.aload_n 0, 1) := by decide +kernel
theorem dX11_asOthers_1 : decode cX11_asOthers 1 = .ok (.iconst 0, 1) := by decide +kernel
theorem dX11_asOthers_2 : decode cX11_asOthers 2 = .ok (.putfield 80, 3) := by decide +kernel
theorem dX11_asOthers_5 : decode cX11_asOthers 5 = .ok (.aload_n 0, 1) := by decide +kernel
theorem dX11_asOthers_6 : decode cX11_asOthers 6 = .ok (.getfield 232, 3) := by decide +kernel
theorem dX11_asOthers_9 : decode cX11_asOthers 9 = .ok (.ifCond .eq 15, 3) := by decide +kernel
theorem dX11_asOthers_12 : decode cX11_asOthers 12 = .ok (.iload_n 1, 1) := by decide +kernel
theorem dX11_asOthers_13 : decode cX11_asOthers 13 = .ok (.i2l, 1) := by decide +kernel
theorem dX11_asOthers_14 : decode cX11_asOthers 14 = .ok (.lconst 0, 1) := by decide +kernel
theorem dX11_asOthers_15 : decode cX11_asOthers 15 = .ok (.ldc2_w 267, 3) := by decide +kernel
theorem dX11_asOthers_18 : decode cX11_asOthers 18 = .ok (.invokestatic 132, 3) := by decide +kernel
theorem dX11_asOthers_21 : decode cX11_asOthers 21 = .ok (.ifCond .ne 6, 3) := by decide +kernel
theorem dX11_asOthers_24 : decode cX11_asOthers 24 = .ok (.bipush (-2), 2) := by decide +kernel
theorem dX11_asOthers_26 : decode cX11_asOthers 26 = .ok (.ireturn, 1) := by decide +kernel
theorem dX11_asOthers_27 : decode cX11_asOthers 27 = .ok (.aload_n 0, 1) := by decide +kernel
theorem dX11_asOthers_28 : decode cX11_asOthers 28 = .ok (.invokevirtual 329, 3) := by decide +kernel
theorem dX11_asOthers_31 : decode cX11_asOthers 31 = .ok (.aload_n 0, 1) := by decide +kernel
theorem dX11_asOthers_32 : decode cX11_asOthers 32 = .ok (.getfield 212, 3) := by decide +kernel
theorem dX11_asOthers_35 : decode cX11_asOthers 35 = .ok (.istore_n 2, 1) := by decide +kernel
theorem dX11_asOthers_36 : decode cX11_asOthers 36 = .ok (.aload_n 0, 1) := by decide +kernel
theorem dX11_asOthers_37 : decode cX11_asOthers 37 = .ok (.iconst 1, 1) := by decide +kernel
theorem dX11_asOthers_38 : decode cX11_asOthers 38 = .ok (.aload_n 0, 1) := by decide +kernel
theorem dX11_asOthers_39 : decode cX11_asOthers 39 = .ok (.getfield 212, 3) := by decide +kernel
theorem dX11_asOthers_42 : decode cX11_asOthers 42 = .ok (.isub, 1) := by decide +kernel
theorem dX11_asOthers_43 : decode cX11_asOthers 43 = .ok (.putfield 212, 3) := by decide +kernel
theorem dX11_asOthers_46 : decode cX11_asOthers 46 = .ok (.aload_n 0, 1) := by decide +kernel
theorem dX11_asOthers_47 : decode cX11_asOthers 47 = .ok (.iconst 0, 1) := by decide +kernel
theorem dX11_asOthers_48 : decode cX11_asOthers 48 = .ok (.putfield 236, 3) := by decide +kernel
theorem dX11_asOthers_51 : decode cX11_asOthers 51 = .ok (.aload_n 0, 1) := by decide +kernel
theorem dX11_asOthers_52 : decode cX11_asOthers 52 = .ok (.iconst 0, 1) := by decide +kernel
theorem dX11_asOthers_53 : decode cX11_asOthers 53 = .ok (.putfield 277, 3) := by decide +kernel
theorem dX11_asOthers_56 : decode cX11_asOthers 56 = .ok (.aload_n 0, 1) := by decide +kernel
theorem dX11_asOthers_57 : decode cX11_asOthers 57 = .ok (.invokevirtual 314, 3) := by decide +kernel
theorem dX11_asOthers_60 : decode cX11_asOthers 60 = .ok (.iconst (-1), 1) := by decide +kernel
theorem dX11_asOthers_61 : decode cX11_asOthers 61 = .ok (.istore_n 3, 1) := by decide +kernel
theorem dX11_asOthers_62 : decode cX11_asOthers 62 = .ok (.iconst 0, 1) := by decide +kernel
theorem dX11_asOthers_63 : decode cX11_asOthers 63 = .ok (.istore 4, 2) := by decide +kernel
theorem dX11_asOthers_65 : decode cX11_asOthers 65 = .ok (.iload 4, 2) := by decide +kernel
theorem dX11_asOthers_67 : decode cX11_asOthers 67 = .ok (.aload_n 0, 1) := by decide +kernel
theorem dX11_asOthers_68 : decode cX11_asOthers 68 = .ok (.getfield 220, 3) := by decide +kernel
theorem dX11_asOthers_71 : decode cX11_asOthers 71 = .ok (.if_icmp .ge 54, 3) := by decide +kernel
theorem dX11_asOthers_74 : decode cX11_asOthers 74 = .ok (.iconst 0, 1) := by decide +kernel
theorem dX11_asOthers_75 : decode cX11_asOthers 75 = .ok (.istore 5, 2) := by decide +kernel
theorem dX11_asOthers_77 : decode cX11_asOthers 77 = .ok (.iload 5, 2) := by decide +kernel
theorem dX11_asOthers_79 : decode cX11_asOthers 79 = .ok (.aload_n 0, 1) := by decide +kernel
theorem dX11_asOthers_80 : decode cX11_asOthers 80 = .ok (.invokevirtual 287, 3) := by decide +kernel
theorem dX11_asOthers_83 : decode cX11_asOthers 83 = .ok (.if_icmp .ge 13, 3) := by decide +kernel
theorem dX11_asOthers_86 : decode cX11_asOthers 86 = .ok (.aload_n 0, 1) := by decide +kernel
theorem dX11_asOthers_87 : decode cX11_asOthers 87 = .ok (.invokevirtual 317, 3) := by decide +kernel
theorem dX11_asOthers_90 : decode cX11_asOthers 90 = .ok (.iinc 5 1, 3) := by decide +kernel
theorem dX11_asOthers_93 : decode cX11_asOthers 93 = .ok (.goto (-16), 3) := by decide +kernel
theorem dX11_asOthers_96 : decode cX11_asOthers 96 = .ok (.aload_n 0, 1) := by decide +kernel
theorem dX11_asOthers_97 : decode cX11_asOthers 97 = .ok (.invokevirtual 392, 3) := by decide +kernel
theorem dX11_asOthers_100 : decode cX11_asOthers 100 = .ok (.ifCond .ne 7, 3) := by decide +kernel
theorem dX11_asOthers_103 : decode cX11_asOthers 103 = .ok (.iconst (-1), 1) := by decide +kernel
theorem dX11_asOthers_104 : decode cX11_asOthers 104 = .ok (.goto 14, 3) := by decide +kernel
theorem dX11_asOthers_107 : decode cX11_asOthers 107 = .ok (.iload_n 3, 1) := by decide +kernel
theorem dX11_asOthers_108 : decode cX11_asOthers 108 = .ok (.iconst (-1), 1) := by decide +kernel
theorem dX11_asOthers_109 : decode cX11_asOthers 109 = .ok (.if_icmp .ne 8, 3) := by decide +kernel
theorem dX11_asOthers_112 : decode cX11_asOthers 112 = .ok (.iload 4, 2) := by decide +kernel
theorem dX11_asOthers_114 : decode cX11_asOthers 114 = .ok (.goto 4, 3) := by decide +kernel
theorem dX11_asOthers_117 : decode cX11_asOthers 117 = .ok (.iload_n 3, 1) := by decide +kernel
theorem dX11_asOthers_118 : decode cX11_asOthers 118 = .ok (.istore_n 3, 1) := by decide +kernel
theorem dX11_asOthers_119 : decode cX11_asOthers 119 = .ok (.iinc 4 1, 3) := by decide +kernel
theorem dX11_asOthers_122 : decode cX11_asOthers 122 = .ok (.goto (-57), 3) := by decide +kernel
theorem dX11_asOthers_125 : decode cX11_asOthers 125 = .ok (.aload_n 0, 1) := by decide +kernel
theorem dX11_asOthers_126 : decode cX11_asOthers 126 = .ok (.aload_n 0, 1) := by decide +kernel
theorem dX11_asOthers_127 : decode cX11_asOthers 127 = .ok (.getfield 212, 3) := by decide +kernel
theorem dX11_asOthers_130 : decode cX11_asOthers 130 = .ok (.invokevirtual 378, 3) := by decide +kernel
theorem dX11_asOthers_133 : decode cX11_asOthers 133 = .ok (.istore 4, 2) := by decide +kernel
theorem dX11_asOthers_135 : decode cX11_asOthers 135 = .ok (.aload_n 0, 1) := by decide +kernel
theorem dX11_asOthers_136 : decode cX11_asOthers 136 = .ok (.iload_n 2, 1) := by decide +kernel
theorem dX11_asOthers_137 : decode cX11_asOthers 137 = .ok (.putfield 212, 3) := by decide +kernel
theorem dX11_asOthers_140 : decode cX11_asOthers 140 = .ok (.iload_n 1, 1) := by decide +kernel
theorem dX11_asOthers_141 : decode cX11_asOthers 141 = .ok (.ifCond .ne 7, 3) := by decide +kernel
theorem dX11_asOthers_144 : decode cX11_asOthers 144 = .ok (.iload_n 3, 1) := by decide +kernel
theorem dX11_asOthers_145 : decode cX11_asOthers 145 = .ok (.goto 29, 3) := by decide +kernel
theorem dX11_asOthers_148 : decode cX11_asOthers 148 = .ok (.iload_n 1, 1) := by decide +kernel
theorem dX11_asOthers_149 : decode cX11_asOthers 149 = .ok (.iconst 1, 1) := by decide +kernel
theorem dX11_asOthers_150 : decode cX11_asOthers 150 = .ok (.if_icmp .ne 10, 3) := by decide +kernel
theorem dX11_asOthers_153 : decode cX11_asOthers 153 = .ok (.aload_n 0, 1) := by decide +kernel
theorem dX11_asOthers_154 : decode cX11_asOthers 154 = .ok (.getfield 254, 3) := by decide +kernel
theorem dX11_asOthers_157 : decode cX11_asOthers 157 = .ok (.goto 17, 3) := by decide +kernel
theorem dX11_asOthers_160 : decode cX11_asOthers 160 = .ok (.iload_n 1, 1) := by decide +kernel
theorem dX11_asOthers_161 : decode cX11_asOthers 161 = .ok (.iconst 2, 1) := by decide +kernel
theorem dX11_asOthers_162 : decode cX11_asOthers 162 = .ok (.if_icmp .ne 10, 3) := by decide +kernel
theorem dX11_asOthers_165 : decode cX11_asOthers 165 = .ok (.aload_n 0, 1) := by decide +kernel
theorem dX11_asOthers_166 : decode cX11_asOthers 166 = .ok (.invokevirtual 443, 3) := by decide +kernel
theorem dX11_asOthers_169 : decode cX11_asOthers 169 = .ok (.goto 5, 3) := by decide +kernel
theorem dX11_asOthers_172 : decode cX11_asOthers 172 = .ok (.iload 4, 2) := by decide +kernel
theorem dX11_asOthers_174 : decode cX11_asOthers 174 = .ok (.ireturn, 1) := by decide +kernel
theorem dX11_back_0 : decode cX11_back 0 = .ok (.aload_n 0, 1) := by decide +kernel
theorem dX11_back_1 : decode cX11_back 1 = .ok (.iconst 0, 1) := by decide +kernel
theorem dX11_back_2 : decode cX11_back 2 = .ok (.putfield 80, 3) := by decide +kernel
theorem dX11_back_5 : decode cX11_back 5 = .ok (.aload_n 0, 1) := by decide +kernel
theorem dX11_back_6 : decode cX11_back 6 = .ok (.getfield 242, 3) := by decide +kernel
theorem dX11_back_9 : decode cX11_back 9 = .ok (.ifCond .ne 5, 3) := by decide +kernel
theorem dX11_back_12 : decode cX11_back 12 = .ok (.iconst (-1), 1) := by decide +kernel
theorem dX11_back_13 : decode cX11_back 13 = .ok (.ireturn, 1) := by decide +kernel
theorem dX11_back_14 : decode cX11_back 14 = .ok (.iconst 0, 1) := by decide +kernel
theorem dX11_back_15 : decode cX11_back 15 = .ok (.istore_n 1, 1) := by decide +kernel
theorem dX11_back_16 : decode cX11_back 16 = .ok (.iload_n 1, 1) := by decide +kernel
theorem dX11_back_17 : decode cX11_back 17 = .ok (.sipush 2126, 3) := by decide +kernel
theorem dX11_back_20 : decode cX11_back 20 = .ok (.if_icmp .ge 21, 3) := by decide +kernel
theorem dX11_back_23 : decode cX11_back 23 = .ok (.aload_n 0, 1) := by decide +kernel
theorem dX11_back_24 : decode cX11_back 24 = .ok (.getfield 57, 3) := by decide +kernel
theorem dX11_back_27 : decode cX11_back 27 = .ok (.iload_n 1, 1) := by decide +kernel
theorem dX11_back_28 : decode cX11_back 28 = .ok (.aload_n 0, 1) := by decide +kernel
theorem dX11_back_29 : decode cX11_back 29 = .ok (.getfield 60, 3) := by decide +kernel
theorem dX11_back_32 : decode cX11_back 32 = .ok (.iload_n 1, 1) := by decide +kernel
theorem dX11_back_33 : decode cX11_back 33 = .ok (.iaload, 1) := by decide +kernel
theorem dX11_back_34 : decode cX11_back 34 = .ok (.iastore, 1) := by decide +kernel
theorem dX11_back_35 : decode cX11_back 35 = .ok (.iinc 1 1, 3) := by decide +kernel
theorem dX11_back_38 : decode cX11_back 38 = .ok (.goto (-22), 3) := by decide +kernel
theorem dX11_back_41 : decode cX11_back 41 = .ok (.aload_n 0, 1) := by decide +kernel
theorem dX11_back_42 : decode cX11_back 42 = .ok (.aload_n 0, 1) := by decide +kernel
theorem dX11_back_43 : decode cX11_back 43 = .ok (.getfield 352, 3) := by decide +kernel
theorem dX11_back_46 : decode cX11_back 46 = .ok (.putfield 320, 3) := by decide +kernel
theorem dX11_back_49 : decode cX11_back 49 = .ok (.aload_n 0, 1) := by decide +kernel
theorem dX11_back_50 : decode cX11_back 50 = .ok (.iconst 0, 1) := by decide +kernel
theorem dX11_back_51 : decode cX11_back 51 = .ok (.putfield 239, 3) := by decide +kernel
theorem dX11_back_54 : decode cX11_back 54 = .ok (.aload_n 0, 1) := by decide +kernel
theorem dX11_back_55 : decode cX11_back 55 = .ok (.getfield 57, 3) := by decide +kernel
theorem dX11_back_58 : decode cX11_back 58 = .ok (.bipush 72, 2) := by decide +kernel
theorem dX11_back_60 : decode cX11_back 60 = .ok (.iaload, 1) := by decide +kernel
theorem dX11_back_61 : decode cX11_back 61 = .ok (.ireturn, 1) := by decide +kernel
theorem dX11_begins_0 : decode cX11_begins 0 = .ok (.aload_n 0, 1) := by decide +kernel
theorem dX11_begins_1 : decode cX11_begins 1 = .ok (.invokevirtual 314, 3) := by decide +kernel
theorem dX11_begins_4 : decode cX11_begins 4 = .ok (.iconst 0, 1) := by decide +kernel
theorem dX11_begins_5 : decode cX11_begins 5 = .ok (.istore_n 1, 1) := by decide +kernel
theorem dX11_begins_6 : decode cX11_begins 6 = .ok (.iload_n 1, 1) := by decide +kernel
theorem dX11_begins_7 : decode cX11_begins 7 = .ok (.sipush 2126, 3) := by decide +kernel
theorem dX11_begins_10 : decode cX11_begins 10 = .ok (.if_icmp .ge 16, 3) := by decide +kernel
theorem dX11_begins_13 : decode cX11_begins 13 = .ok (.aload_n 0, 1) := by decide +kernel
theorem dX11_begins_14 : decode cX11_begins 14 = .ok (.getfield 57, 3) := by decide +kernel
theorem dX11_begins_17 : decode cX11_begins 17 = .ok (.iload_n 1, 1) := by decide +kernel
theorem dX11_begins_18 : decode cX11_begins 18 = .ok (.iconst (-1), 1) := by decide +kernel
theorem dX11_begins_19 : decode cX11_begins 19 = .ok (.iastore, 1) := by decide +kernel
theorem dX11_begins_20 : decode cX11_begins 20 = .ok (.iinc 1 1, 3) := by decide +kernel
theorem dX11_begins_23 : decode cX11_begins 23 = .ok (.goto (-17), 3) := by decide +kernel
theorem dX11_begins_26 : decode cX11_begins 26 = .ok (.aload_n 0, 1) := by decide +kernel
theorem dX11_begins_27 : decode cX11_begins 27 = .ok (.invokevirtual 323, 3) := by decide +kernel
theorem dX11_begins_30 : decode cX11_begins 30 = .ok (.return_, 1) := by decide +kernel
theorem dX11_bitsIn_0 : decode cX11_bitsIn 0 = .ok (.iconst 0, 1) := by decide +kernel
theorem dX11_bitsIn_1 : decode cX11_bitsIn 1 = .ok (.istore_n 1, 1) := by decide +kernel
theorem dX11_bitsIn_2 : decode cX11_bitsIn 2 = .ok (.iconst 0, 1) := by decide +kernel
theorem dX11_bitsIn_3 : decode cX11_bitsIn 3 = .ok (.istore_n 2, 1) := by decide +kernel
theorem dX11_bitsIn_4 : decode cX11_bitsIn 4 = .ok (.iload_n 2, 1) := by decide +kernel
theorem dX11_bitsIn_5 : decode cX11_bitsIn 5 = .ok (.bipush 9, 2) := by decide +kernel
theorem dX11_bitsIn_7 : decode cX11_bitsIn 7 = .ok (.if_icmp .ge 17, 3) := by decide +kernel
theorem dX11_bitsIn_10 : decode cX11_bitsIn 10 = .ok (.iload_n 1, 1) := by decide +kernel
theorem dX11_bitsIn_11 : decode cX11_bitsIn 11 = .ok (.iload_n 0, 1) := by decide +kernel
theorem dX11_bitsIn_12 : decode cX11_bitsIn 12 = .ok (.iload_n 2, 1) := by decide +kernel
theorem dX11_bitsIn_13 : decode cX11_bitsIn 13 = .ok (.ishr, 1) := by decide +kernel
theorem dX11_bitsIn_14 : decode cX11_bitsIn 14 = .ok (.iconst 1, 1) := by decide +kernel
theorem dX11_bitsIn_15 : decode cX11_bitsIn 15 = .ok (.iand, 1) := by decide +kernel
theorem dX11_bitsIn_16 : decode cX11_bitsIn 16 = .ok (.iadd, 1) := by decide +kernel
theorem dX11_bitsIn_17 : decode cX11_bitsIn 17 = .ok (.istore_n 1, 1) := by decide +kernel
theorem dX11_bitsIn_18 : decode cX11_bitsIn 18 = .ok (.iinc 2 1, 3) := by decide +kernel
theorem dX11_bitsIn_21 : decode cX11_bitsIn 21 = .ok (.goto (-17), 3) := by decide +kernel
theorem dX11_bitsIn_24 : decode cX11_bitsIn 24 = .ok (.iload_n 1, 1) := by decide +kernel
theorem dX11_bitsIn_25 : decode cX11_bitsIn 25 = .ok (.ireturn, 1) := by decide +kernel
theorem dX11_breaksSome_0 : decode cX11_breaksSome 0 = .ok (.iconst 0, 1) := by decide +kernel
theorem dX11_breaksSome_1 : decode cX11_breaksSome 1 = .ok (.istore_n 1, 1) := by decide +kernel
theorem dX11_breaksSome_2 : decode cX11_breaksSome 2 = .ok (.iload_n 1, 1) := by decide +kernel
theorem dX11_breaksSome_3 : decode cX11_breaksSome 3 = .ok (.iconst 1, 1) := by decide +kernel
theorem dX11_breaksSome_4 : decode cX11_breaksSome 4 = .ok (.aload_n 0, 1) := by decide +kernel
theorem dX11_breaksSome_5 : decode cX11_breaksSome 5 = .ok (.getfield 215, 3) := by decide +kernel
theorem dX11_breaksSome_8 : decode cX11_breaksSome 8 = .ok (.ishl, 1) := by decide +kernel
theorem dX11_breaksSome_9 : decode cX11_breaksSome 9 = .ok (.if_icmp .ge 24, 3) := by decide +kernel
theorem dX11_breaksSome_12 : decode cX11_breaksSome 12 = .ok (.aload_n 0, 1) := by decide +kernel
theorem dX11_breaksSome_13 : decode cX11_breaksSome 13 = .ok (.iload_n 1, 1) := by decide +kernel
theorem dX11_breaksSome_14 : decode cX11_breaksSome 14 = .ok (.putfield 224, 3) := by decide +kernel
theorem dX11_breaksSome_17 : decode cX11_breaksSome 17 = .ok (.aload_n 0, 1) := by decide +kernel
theorem dX11_breaksSome_18 : decode cX11_breaksSome 18 = .ok (.invokevirtual 399, 3) := by decide +kernel
theorem dX11_breaksSome_21 : decode cX11_breaksSome 21 = .ok (.iconst (-1), 1) := by decide +kernel
theorem dX11_breaksSome_22 : decode cX11_breaksSome 22 = .ok (.if_icmp .eq 5, 3) := by decide +kernel
theorem dX11_breaksSome_25 : decode cX11_breaksSome 25 = .ok (.iconst 1, 1) := by decide +kernel
theorem dX11_breaksSome_26 : decode cX11_breaksSome 26 = .ok (.ireturn, 1) := by decide +kernel
theorem dX11_breaksSome_27 : decode cX11_breaksSome 27 = .ok (.iinc 1 1, 3) := by decide +kernel
theorem dX11_breaksSome_30 : decode cX11_breaksSome 30 = .ok (.goto (-28), 3) := by decide +kernel
theorem dX11_breaksSome_33 : decode cX11_breaksSome 33 = .ok (.iconst 0, 1) := by decide +kernel
theorem dX11_breaksSome_34 : decode cX11_breaksSome 34 = .ok (.ireturn, 1) := by decide +kernel
theorem dX11_brings_0 : decode cX11_brings 0 = .ok (.bipush 24, 2) := by decide +kernel
theorem dX11_brings_2 : decode cX11_brings 2 = .ok (.istore_n 2, 1) := by decide +kernel
theorem dX11_brings_3 : decode cX11_brings 3 = .ok (.iload_n 2, 1) := by decide +kernel
theorem dX11_brings_4 : decode cX11_brings 4 = .ok (.ifCond .lt 45, 3) := by decide +kernel
theorem dX11_brings_7 : decode cX11_brings 7 = .ok (.iload_n 1, 1) := by decide +kernel
theorem dX11_brings_8 : decode cX11_brings 8 = .ok (.iload_n 2, 1) := by decide +kernel
